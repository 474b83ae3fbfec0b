/-! TEXT of the class -/
theorem pOkAt_cg {s : Nat} {at_ : Int32} {G G' : Nat → Int32} (e : G' s = G s) : pOkAt s at_ G' ↔ pOkAt s at_ G := by unfold pOkAt; rw [e]
theorem pNr_cg {s : Nat} {at_ : Int32} {G G' : Nat → Int32} (e : G' s = G s) : pNr s at_ G' = pNr s at_ G := by unfold pNr; rw [e]
theorem pNr_bd {s : Nat} {at_ : Int32} {G : Nat → Int32} (h : pOkAt s at_ G) (hb : 0 ≤ (G s).toInt ∧ (G s).toInt ≤ 2) : 0 ≤ (pNr s at_ G).toInt ∧ (pNr s at_ G).toInt ≤ 1 := by
  by_cases c : at_.toInt = -1
  · rw [pNr_y c]; have := (pOkAt_y c).mp h; omega
  · rw [pNr_n c]; have := (pOkAt_n c).mp h; omega
theorem pCnt_ge {s : Nat} {at_ : Int32} {G : Nat → Int32} (hs : s < 3) : ∀ j, 3 ≤ j → pCnt s at_ G j = G j := by
  intro j hj
  unfold pCnt
  split
  · exact z_ne (by omega)
  · rfl
theorem zCnt {s kk : Nat} {at_ K : Int32} {fk fk2 G : Nat → Int32} (hf : ∀ j, j < 3 → fk j = G j) (hs : s < 3) (hb : 0 ≤ (G s).toInt ∧ (G s).toInt ≤ 2) (hok : pOkAt s at_ G) (hr : (pNr s at_ G).toInt = (kk : Int)) (hK : K.toInt = (kk : Int) + 1) (h2 : fk2 = upd fk s (if fk s < K then K else fk s)) : ∀ j, j < 3 → fk2 j = pCnt s at_ G j := by
  intro j hj
  rw [h2]
  have es := hf s hs
  by_cases c : at_.toInt = -1
  · rw [pNr_y c] at hr
    rw [pCnt_y c, if_pos ((fa_lt _ _).mpr (by rw [es]; omega))]
    by_cases e : j = s
    · rw [z_eq e, z_eq e]
      exact Int32.toInt_inj.mp (by rw [z_p1 (by omega) (by omega)]; omega)
    · rw [z_ne e, z_ne e]; exact hf j hj
  · rw [pNr_n c] at hr
    have ho := (pOkAt_n c).mp hok
    rw [pCnt_n c, if_neg (fun z => by have z2 := (fa_lt _ _).mp z; rw [es] at z2; omega)]
    by_cases e : j = s
    · rw [z_eq e, e]; exact es
    · rw [z_ne e]; exact hf j hj
theorem pHd_lo {G : Nat → Int32} {x y : Int32} {j : Nat} (h : j < 3) : pHd G x y j = G j := by unfold pHd; rw [z_ne (by omega), z_ne (by omega), z_ne (by omega)]
set_option maxHeartbeats 4000000 in
set_option maxRecDepth 100000 in
/-- c_f_text0 -/
theorem c_f_text0 (l : Launch) (T : zTy) (xo : Nat) (t : Nat) (im : Nat) (mk : Nat) (rd : Nat) (po : Nat) (co : Nat) (tr : Nat) (wa : Nat) (wb_ : Nat) (fi : Nat) (cd : Nat) (l0 : Nat) (l1 : Nat) (d0 : Nat) (d1 : Nat) (g0 : Nat) (g1 : Nat) (ln : Int32) (fl : Int32) (pl : Int32) (ft : Nat → Int32) (fk : Nat → Int32) (wt : va_W) (cr0_ : Int32) (inn0_ : Int32) (k10_ : Nat → Int32) (k20_ : Nat → Int32) (k30_ : Nat → Int32) (k40_ : Nat → Int32) (z0_ : va_W) (cr1_ : Int32) (inn1_ : Int32) (k11_ : Nat → Int32) (k21_ : Nat → Int32) (k31_ : Nat → Int32) (k41_ : Nat → Int32) (z1_ : va_W) (dd0_ : Int32) (p10_ : Nat → Int32) (p20_ : Nat → Int32) (p30_ : Nat → Int32) (wd0_ : va_W) (dd1_ : Int32) (p11_ : Nat → Int32) (p21_ : Nat → Int32) (p31_ : Nat → Int32) (wd1_ : va_W) (gg0_ : Int32) (q10_ : Nat → Int32) (q20_ : Nat → Int32) (wg0_ : va_W) (gg1_ : Int32) (q11_ : Nat → Int32) (q21_ : Nat → Int32) (wg1_ : va_W) (rl : Nat) (rdd : Nat) (rg : Nat) (r0 : Int32) (r1 : Int32) (r2 : Int32) (r3 : Int32) (r4 : Int32) (r5 : Int32) (r6 : Int32) (r7 : Int32) (r8 : Int32) (tq : Nat) (cr : Int32) (inn : Int32) (k1 : Nat → Int32) (k2 : Nat → Int32) (k3 : Nat → Int32) (k4 : Nat → Int32) (z : va_W) (dd : Int32) (v1 : Nat → Int32) (v2 : Nat → Int32) (v3 : Nat → Int32) (wd : va_W) (gg : Int32) (e1 : Nat → Int32) (e2 : Nat → Int32) (wg : va_W) (laA : Nat) (mdA : Int32) (wyA : Int32) (pc_A : Int32) (f1A : Nat → Int32) (f2A : Nat → Int32) (f3A : Nat → Int32) (f4A : Nat → Int32) (f5A : Nat → Int32) (f6A : Nat → Int32) (n4A : Nat) (wwA : va_W) (laB : Nat) (mdB : Int32) (wyB : Int32) (pc_B : Int32) (f1B : Nat → Int32) (f2B : Nat → Int32) (f3B : Nat → Int32) (f4B : Nat → Int32) (f5B : Nat → Int32) (f6B : Nat → Int32) (n4B : Nat) (wwB : va_W) (e0f : Int32) (e1f : Int32) (e2f : Int32) (e3f : Int32) (e4f : Int32) (e5f : Int32) (r1f : Nat → Int32) (m1f : Nat) (r2f : Nat → Int32) (wff : va_W) (k : pT) (N : Nat) (Gr : Nat → Int32) (at_ : Int32) (ht : bTold T t l0 l1 d0 d1 g0 g1 ln fl pl ft fk wt) (hK : zKT fk) (hz0_ : bLand T l0 cr0_ inn0_ k10_ k20_ k30_ k40_ z0_) (hI0_ : zLI cr0_ k10_ k30_) (hz1_ : bLand T l1 cr1_ inn1_ k11_ k21_ k31_ k41_ z1_) (hI1_ : zLI cr1_ k11_ k31_) (hd0_ : bDay T d0 dd0_ p10_ p20_ p30_ wd0_) (hd1_ : bDay T d1 dd1_ p11_ p21_ p31_ wd1_) (hg0_ : bLog T g0 gg0_ q10_ q20_ wg0_) (hg1_ : bLog T g1 gg1_ q11_ q21_ wg1_) (hz : bLand T rl cr inn k1 k2 k3 k4 z) (hd : bDay T rdd dd v1 v2 v3 wd) (hg : bLog T rg gg e1 e2 wg) (hwwA : bWays T wa laA mdA wyA pc_A f1A f2A f3A f4A f5A f6A n4A wwA) (hwwB : bWays T wb_ laB mdB wyB pc_B f1B f2B f3B f4B f5B f6B n4B wwB) (hwff : bFit T fi e0f e1f e2f e3f e4f e5f r1f m1f r2f wff) (hT : zTR ln fl pl ft fk cr0_ inn0_ k10_ k20_ k30_ k40_ cr1_ inn1_ k11_ k21_ k31_ k41_ dd0_ p10_ p20_ p30_ dd1_ p11_ p21_ p31_ gg0_ q10_ q20_ gg1_ q11_ q21_ Gr) (hN : ln = nI N) (hN6 : N ≤ 600) (hk : k = tkT ft N) : zMi l T yX11_text cX11_text 5 (some .int) 9 0 0 [.ref xo, .int 0, .int at_] [[zO10 xo t im mk rd po co tr wa wb_ fi cd], wt, z0_, z1_, wd0_, wd1_, wg0_, wg1_, [zO7 rd rl rdd rg r0 r1 tq r2 r3 r4 r5 r6 r7 r8], z, wd, wg, wwA, wwB, wff] (fun (r : Int32) bs => ∃ (ln_2 : Int32) (fl_2 : Int32) (pl_2 : Int32) (ft_2 : Nat → Int32) (fk_2 : Nat → Int32) (wt_2 : va_W) (cr0__2 : Int32) (inn0__2 : Int32) (k10__2 : Nat → Int32) (k20__2 : Nat → Int32) (k30__2 : Nat → Int32) (k40__2 : Nat → Int32) (z0__2 : va_W) (cr1__2 : Int32) (inn1__2 : Int32) (k11__2 : Nat → Int32) (k21__2 : Nat → Int32) (k31__2 : Nat → Int32) (k41__2 : Nat → Int32) (z1__2 : va_W) (dd0__2 : Int32) (p10__2 : Nat → Int32) (p20__2 : Nat → Int32) (p30__2 : Nat → Int32) (wd0__2 : va_W) (dd1__2 : Int32) (p11__2 : Nat → Int32) (p21__2 : Nat → Int32) (p31__2 : Nat → Int32) (wd1__2 : va_W) (gg0__2 : Int32) (q10__2 : Nat → Int32) (q20__2 : Nat → Int32) (wg0__2 : va_W) (gg1__2 : Int32) (q11__2 : Nat → Int32) (q21__2 : Nat → Int32) (wg1__2 : va_W) (s0 : Int32) (s1 : Int32) (s2 : Int32) (s3 : Int32) (s4 : Int32) (s5 : Int32) (s6 : Int32) (s7 : Int32) (s8 : Int32) (tq_2 : Nat) (z2 : va_W) (c2 : Int32) (i2_ : Int32) (j1 : Nat → Int32) (j2 : Nat → Int32) (j3 : Nat → Int32) (j4 : Nat → Int32) (wd2 : va_W) (dd2 : Int32) (b1 : Nat → Int32) (b2 : Nat → Int32) (b3 : Nat → Int32) (wg2 : va_W) (gg2 : Int32) (b4 : Nat → Int32) (b5 : Nat → Int32) (wwA_2 : va_W) (wwB_2 : va_W) (wff_2 : va_W) (mdA_2 : Int32) (mdB_2 : Int32) (e0f_2 : Int32), bs = [[zO10 xo t im mk rd po co tr wa wb_ fi cd], wt_2, z0__2, z1__2, wd0__2, wd1__2, wg0__2, wg1__2, [zO7 rd rl rdd rg s0 s1 tq_2 s2 s3 s4 s5 s6 s7 s8], z2, wd2, wg2, wwA_2, wwB_2, wff_2] ∧ bTold T t l0 l1 d0 d1 g0 g1 ln_2 fl_2 pl_2 ft_2 fk_2 wt_2 ∧ zKT fk_2 ∧ bLand T l0 cr0__2 inn0__2 k10__2 k20__2 k30__2 k40__2 z0__2 ∧ zLI cr0__2 k10__2 k30__2 ∧ bLand T l1 cr1__2 inn1__2 k11__2 k21__2 k31__2 k41__2 z1__2 ∧ zLI cr1__2 k11__2 k31__2 ∧ bDay T d0 dd0__2 p10__2 p20__2 p30__2 wd0__2 ∧ bDay T d1 dd1__2 p11__2 p21__2 p31__2 wd1__2 ∧ bLog T g0 gg0__2 q10__2 q20__2 wg0__2 ∧ bLog T g1 gg1__2 q11__2 q21__2 wg1__2 ∧ bLand T rl c2 i2_ j1 j2 j3 j4 z2 ∧ bDay T rdd dd2 b1 b2 b3 wd2 ∧ bLog T rg gg2 b4 b5 wg2 ∧ bWays T wa laA mdA_2 wyA pc_A f1A f2A f3A f4A f5A f6A n4A wwA_2 ∧ bWays T wb_ laB mdB_2 wyB pc_B f1B f2B f3B f4B f5B f6B n4B wwB_2 ∧ bFit T fi e0f_2 e1f e2f e3f e4f e5f r1f m1f r2f wff_2 ∧ ln_2 = 0 ∧ (mdA_2 = 0 ∧ mdB_2 = 0 ∧ e0f_2 = 0 ∨ mdA_2 = mdA ∧ mdB_2 = mdB ∧ e0f_2 = 0 ∨ mdA_2 = mdA ∧ mdB_2 = mdB ∧ e0f_2 = e0f) ∧ (∃ G2, zText (pRead k N 0) 0 at_ Gr G2 r ∧ zTR ln_2 fl_2 pl_2 ft_2 fk_2 cr0__2 inn0__2 k10__2 k20__2 k30__2 k40__2 cr1__2 inn1__2 k11__2 k21__2 k31__2 k41__2 dd0__2 p10__2 p20__2 p30__2 dd1__2 p11__2 p21__2 p31__2 gg0__2 q10__2 q20__2 gg1__2 q11__2 q21__2 G2)) := by
  refine zMi_of (own := RX11) (by decide) rfl (Nat.le_of_ble_eq_true rfl) ?_
  intro p e s m args below meth c A ls C hr hlocks hnm hAe G hl
  refine zHide (fun Q9 hQ9 => ?_)
  have hx := C.1
  have hb := C.2.1
  have hl : lv_has ls 5 [(0, .ref xo), (1, .int 0), (2, .int at_)] := hl
  refine lv_aload_n hx hb dX11_text_0 rfl (lv_at hl 0 rfl) ?_
  refine z_get C G clX11 0 rfl 0 (by decide) m_fl_RX11_10 rfl dX11_text_1 ?_
  refine lv_iload_n hx hb dX11_text_4 rfl (lv_at hl 1 rfl) ?_
  refine lv_iload_n hx hb dX11_text_5 rfl (lv_at hl 2 rfl) ?_
  refine z_Vi (bc := [wt]) (br := [[zO10 xo t im mk rd po co tr wa wb_ fi cd], z0_, z1_, wd0_, wd1_, wg0_, wg1_, [zO7 rd rl rdd rg r0 r1 tq r2 r3 r4 r5 r6 r7 r8], z, wd, wg, wwA, wwB, wff]) (As := [.int 0, .int at_]) (rest := []) C G (c_f_placeFor0 l T t l0 l1 d0 d1 g0 g1 ln fl pl ft fk wt at_ ht) (kV_RX11_81 C.2.2.2.2 (Nat.le_of_ble_eq_true rfl) (Nat.le_of_ble_eq_true rfl)) [1] [1] rfl rfl (ci := 8) (qc := (RX9, TX9, 8)) rfl rfl (List.mem_flatten.mpr ⟨_, List.mem_of_getElem? (i := 0) rfl, (bTold_mem ht).choose_spec⟩) rfl rfl hl.1 dX11_text_6 (Nat.le_of_ble_eq_true rfl) (Nat.le_of_ble_eq_true rfl) (fun r_2 b1 H locs hw G => ?_)
  refine zAn2 hw ?_
  intro hbs9 h_1
  clear hw
  subst hbs9
  have G : zS T A s.heap s [[zO10 xo t im mk rd po co tr wa wb_ fi cd], z0_, z1_, wd0_, wd1_, wg0_, wg1_, [zO7 rd rl rdd rg r0 r1 tq r2 r3 r4 r5 r6 r7 r8], z, wd, wg, wwA, wwB, wff, wt] _ _ := G
  have hTd := hT.1
  have hGs : Gr 0 = fk 0 := (hTd.2.2.2.1 0 (by decide)).symm
  refine lv_istore_n (lv' := [(3, .int r_2), (0, .ref xo), (1, .int 0), (2, .int at_)]) hx hb dX11_text_9 rfl hl (by decide) rfl (fun ls hl => ?_)
  refine lv_aload_n hx hb dX11_text_10 rfl (lv_at hl 1 rfl) ?_
  refine z_get C G clX11 0 rfl 0 (by decide) m_fl_RX11_10 rfl dX11_text_11 ?_
  refine zEx8 ht ?_
  intro a1_3 a2_4 a3_5 a4_6 a5_7 q1_8 q2_9 q3_10
  refine zCu7 ?_
  intro hbs9 h_11 h_12 h_13 h_14 h_15 h_16
  clear ht
  subst hbs9
  have G : zS T A s.heap s [[zO10 xo t im mk rd po co tr wa wb_ fi cd], z0_, z1_, wd0_, wd1_, wg0_, wg1_, [zO7 rd rl rdd rg r0 r1 tq r2 r3 r4 r5 r6 r7 r8], z, wd, wg, wwA, wwB, wff, [zO8 t a1_3 ln fl pl a2_4 a3_5 a4_6 a5_7], [zAr T 1 a1_3 600 ft], [zAr T 0 a2_4 3 fk], [zArq T 3 a3_5 2 q1_8], [zArq T 4 a4_6 2 q2_9], [zArq T 5 a5_7 2 q3_10]] _ _ := G.re rfl
  refine z_get C G clX9 14 rfl 1 (by decide) m_fl_RX11_73 rfl dX11_text_14 ?_
  refine lv_istore (lv' := [(4, .int ln), (3, .int r_2), (0, .ref xo), (1, .int 0), (2, .int at_)]) hx hb dX11_text_17 hl (by decide) rfl (fun ls hl => ?_)
  refine lv_aload_n hx hb dX11_text_19 rfl (lv_at hl 2 rfl) ?_
  refine z_get C G clX11 0 rfl 0 (by decide) m_fl_RX11_10 rfl dX11_text_20 ?_
  refine lv_iconst (v := 0) hx hb dX11_text_23 (by decide) ?_
  refine z_put C G clX9 14 rfl 1 (by decide) m_fl_RX11_73 rfl rfl rfl (Nat.le_of_ble_eq_true rfl) dX11_text_24 (fun H locs G => ?_)
  have G : zS T A s.heap s [[zO10 xo t im mk rd po co tr wa wb_ fi cd], z0_, z1_, wd0_, wd1_, wg0_, wg1_, [zO7 rd rl rdd rg r0 r1 tq r2 r3 r4 r5 r6 r7 r8], z, wd, wg, wwA, wwB, wff, [zO8 t a1_3 0 fl pl a2_4 a3_5 a4_6 a5_7], [zAr T 1 a1_3 600 ft], [zAr T 0 a2_4 3 fk], [zArq T 3 a3_5 2 q1_8], [zArq T 4 a4_6 2 q2_9], [zArq T 5 a5_7 2 q3_10]] _ _ := G
  refine lv_aload_n hx hb dX11_text_27 rfl (lv_at hl 2 rfl) ?_
  refine z_get C G clX11 0 rfl 0 (by decide) m_fl_RX11_10 rfl dX11_text_28 ?_
  refine lv_iconst (v := 0) hx hb dX11_text_31 (by decide) ?_
  refine z_put C G clX9 14 rfl 2 (by decide) m_fl_RX11_85 rfl rfl rfl (Nat.le_of_ble_eq_true rfl) dX11_text_32 (fun H locs G => ?_)
  have G : zS T A s.heap s [[zO10 xo t im mk rd po co tr wa wb_ fi cd], z0_, z1_, wd0_, wd1_, wg0_, wg1_, [zO7 rd rl rdd rg r0 r1 tq r2 r3 r4 r5 r6 r7 r8], z, wd, wg, wwA, wwB, wff, [zO8 t a1_3 0 0 pl a2_4 a3_5 a4_6 a5_7], [zAr T 1 a1_3 600 ft], [zAr T 0 a2_4 3 fk], [zArq T 3 a3_5 2 q1_8], [zArq T 4 a4_6 2 q2_9], [zArq T 5 a5_7 2 q3_10]] _ _ := G
  refine lv_aload_n hx hb dX11_text_35 rfl (lv_at hl 2 rfl) ?_
  refine z_get C G clX11 0 rfl 0 (by decide) m_fl_RX11_10 rfl dX11_text_36 ?_
  refine lv_iconst (v := (-1)) hx hb dX11_text_39 (by decide) ?_
  refine z_put C G clX9 14 rfl 3 (by decide) m_fl_RX11_88 rfl rfl rfl (Nat.le_of_ble_eq_true rfl) dX11_text_40 (fun H locs G => ?_)
  have G : zS T A s.heap s [[zO10 xo t im mk rd po co tr wa wb_ fi cd], z0_, z1_, wd0_, wd1_, wg0_, wg1_, [zO7 rd rl rdd rg r0 r1 tq r2 r3 r4 r5 r6 r7 r8], z, wd, wg, wwA, wwB, wff, [zO8 t a1_3 0 0 (-1) a2_4 a3_5 a4_6 a5_7], [zAr T 1 a1_3 600 ft], [zAr T 0 a2_4 3 fk], [zArq T 3 a3_5 2 q1_8], [zArq T 4 a4_6 2 q2_9], [zArq T 5 a5_7 2 q3_10]] _ _ := G
  rcases h_1 with ⟨hno, hm2⟩ | ⟨hok, hnr⟩
  · have hnoG : ¬ pOkAt 0 at_ Gr := fun z9 => hno ((pOkAt_cg (at_ := at_) hGs).mp z9)
    refine lv_iload_n hx hb dX11_text_43 rfl (lv_at hl 1 rfl) ?_
    refine lv_bipush (v := (-2)) hx hb dX11_text_44 (by decide) ?_
    refine lv_icmp_ne (tgt := 52) hx hb dX11_text_46 (by decide) (fun q => absurd ((fa_eq r_2 ((-2) : Int32)).mpr (by show r_2.toInt = (-2 : Int); omega)) q) (fun _ => ?_)
    refine lv_bipush (v := (-2)) hx hb dX11_text_49 (by decide) ?_
    have hw_17 : bTold T t l0 l1 d0 d1 g0 g1 0 0 (-1) ft fk [zO8 t a1_3 0 0 (-1) a2_4 a3_5 a4_6 a5_7, zAr T 1 a1_3 600 ft, zAr T 0 a2_4 3 fk, zArq T 3 a3_5 2 q1_8, zArq T 4 a4_6 2 q2_9, zArq T 5 a5_7 2 q3_10] := ⟨a1_3, a2_4, a3_5, a4_6, a5_7, q1_8, q2_9, q3_10, rfl, h_11, h_12, h_13, h_14, h_15, h_16⟩
    have G : zS T A s.heap s [[zO10 xo t im mk rd po co tr wa wb_ fi cd], z0_, z1_, wd0_, wd1_, wg0_, wg1_, [zO7 rd rl rdd rg r0 r1 tq r2 r3 r4 r5 r6 r7 r8], z, wd, wg, wwA, wwB, wff, [zO8 t a1_3 0 0 (-1) a2_4 a3_5 a4_6 a5_7, zAr T 1 a1_3 600 ft, zAr T 0 a2_4 3 fk, zArq T 3 a3_5 2 q1_8, zArq T 4 a4_6 2 q2_9, zArq T 5 a5_7 2 q3_10]] _ _ := G.re rfl
    have G := G.sub (bs' := [[zO10 xo t im mk rd po co tr wa wb_ fi cd], [zO8 t a1_3 0 0 (-1) a2_4 a3_5 a4_6 a5_7, zAr T 1 a1_3 600 ft, zAr T 0 a2_4 3 fk, zArq T 3 a3_5 2 q1_8, zArq T 4 a4_6 2 q2_9, zArq T 5 a5_7 2 q3_10], z0_, z1_, wd0_, wd1_, wg0_, wg1_, [zO7 rd rl rdd rg r0 r1 tq r2 r3 r4 r5 r6 r7 r8], z, wd, wg, wwA, wwB, wff]) [0, 14, 1, 2, 3, 4, 5, 6, 7, 8, 9, 10, 11, 12, 13] rfl
    exact z_back hQ9 (z_iret C hr hlocks G (Nat.le_of_ble_eq_true rfl) (Nat.le_of_ble_eq_true rfl) dX11_text_51 ⟨0, 0, (-1), ft, fk, ([zO8 t a1_3 0 0 (-1) a2_4 a3_5 a4_6 a5_7, zAr T 1 a1_3 600 ft, zAr T 0 a2_4 3 fk, zArq T 3 a3_5 2 q1_8, zArq T 4 a4_6 2 q2_9, zArq T 5 a5_7 2 q3_10]), cr0_, inn0_, k10_, k20_, k30_, k40_, z0_, cr1_, inn1_, k11_, k21_, k31_, k41_, z1_, dd0_, p10_, p20_, p30_, wd0_, dd1_, p11_, p21_, p31_, wd1_, gg0_, q10_, q20_, wg0_, gg1_, q11_, q21_, wg1_, r0, r1, r2, r3, r4, r5, r6, r7, r8, tq, z, cr, inn, k1, k2, k3, k4, wd, dd, v1, v2, v3, wg, gg, e1, e2, wwA, wwB, wff, mdA, mdB, e0f, rfl, hw_17, (by first | with_reducible assumption | omega | trivial | assumption), hz0_, (by first | with_reducible assumption | omega | trivial | assumption), hz1_, (by first | with_reducible assumption | omega | trivial | assumption), hd0_, hd1_, hg0_, hg1_, hz, hd, hg, hwwA, hwwB, hwff, rfl, (by first | exact Or.inl ⟨rfl, rfl, rfl⟩ | exact Or.inr (Or.inl ⟨rfl, rfl, rfl⟩) | exact Or.inr (Or.inr ⟨rfl, rfl, rfl⟩)), ⟨pHd Gr 0 (-1), Or.inl ⟨hnoG, rfl, fun _ _ => rfl⟩, zTR_hd hT⟩⟩)
  · have hokG := (pOkAt_cg (at_ := at_) hGs).mpr hok
    have hrb : 0 ≤ r_2.toInt ∧ r_2.toInt ≤ 1 := by rw [hnr]; exact pNr_bd hok (hK 0 (by decide))
    have hnG : pNr 0 at_ Gr = r_2 := (pNr_cg hGs).trans hnr.symm
    refine lv_iload_n hx hb dX11_text_43 rfl (lv_at hl 1 rfl) ?_
    refine lv_bipush (v := (-2)) hx hb dX11_text_44 (by decide) ?_
    refine lv_icmp_ne (tgt := 52) hx hb dX11_text_46 (by decide) (fun _ => ?_) (fun q => absurd q (fun q2 => absurd (show r_2.toInt = (-2 : Int) from (fa_eq r_2 ((-2) : Int32)).mp q2) (by omega)))
    refine lv_aload_n hx hb dX11_text_52 rfl (lv_at hl 2 rfl) ?_
    refine z_get C G clX11 0 rfl 3 (by decide) m_fl_RX11_27 rfl dX11_text_53 ?_
    refine lv_aload_n hx hb dX11_text_56 rfl (lv_at hl 2 rfl) ?_
    refine z_get C G clX11 0 rfl 0 (by decide) m_fl_RX11_10 rfl dX11_text_57 ?_
    refine z_get C G clX9 14 rfl 0 (by decide) m_fl_RX11_91 rfl dX11_text_60 ?_
    refine lv_iload hx hb dX11_text_63 (lv_at hl 0 rfl) ?_
    refine lv_iload_n hx hb dX11_text_65 rfl (lv_at hl 3 rfl) ?_
    refine z_Vv (bc := [[zO7 rd rl rdd rg r0 r1 tq r2 r3 r4 r5 r6 r7 r8], [zAr T 1 a1_3 600 ft], z, wd, wg]) (br := [[zO10 xo t im mk rd po co tr wa wb_ fi cd], z0_, z1_, wd0_, wd1_, wg0_, wg1_, wwA, wwB, wff, [zO8 t a1_3 0 0 (-1) a2_4 a3_5 a4_6 a5_7], [zAr T 0 a2_4 3 fk], [zArq T 3 a3_5 2 q1_8], [zArq T 4 a4_6 2 q2_9], [zArq T 5 a5_7 2 q3_10]]) (As := [.ref a1_3, .int ln, .int 0]) (rest := []) C G (c_f_read0 l T rd rl rdd rg a1_3 r0 r1 r2 r3 r4 r5 r6 r7 r8 tq ft cr inn k1 k2 k3 k4 z dd v1 v2 v3 wd gg e1 e2 wg ln k N hz hd hg hN hN6 hk) (kV_RX11_95 C.2.2.2.2 (Nat.le_of_ble_eq_true rfl) (Nat.le_of_ble_eq_true rfl)) [7, 15, 8, 9, 10] [7, 0, 0, 0, 4] rfl rfl (ci := 7) (qc := (RX7, TX7, 13)) rfl rfl (List.mem_flatten.mpr ⟨_, List.mem_of_getElem? (i := 0) rfl, List.mem_cons_self⟩) rfl rfl hl.1 dX11_text_66 (Nat.le_of_ble_eq_true rfl) (Nat.le_of_ble_eq_true rfl) (fun b1 H locs hw G => ?_)
    refine zEx18 hw ?_
    intro u2_18 u0_19 u1_20 u3_21 u4_22 u5_23 u6_24 u7_25 u8_26 z2_27 c2_28 i2_29 j1_30 j2_31 j3_32 j4_33 wd2_34 wg2_35
    refine zCu8 ?_
    intro hbs9 h_36 h_37 h_38 h_39 h_40 h_41 h_42
    clear hw
    subst hbs9
    have G : zS T A s.heap s [[zO10 xo t im mk rd po co tr wa wb_ fi cd], z0_, z1_, wd0_, wd1_, wg0_, wg1_, wwA, wwB, wff, [zO8 t a1_3 0 0 (-1) a2_4 a3_5 a4_6 a5_7], [zAr T 0 a2_4 3 fk], [zArq T 3 a3_5 2 q1_8], [zArq T 4 a4_6 2 q2_9], [zArq T 5 a5_7 2 q3_10], [zO7 rd rl rdd rg u0_19 u1_20 a1_3 u2_18 u3_21 u4_22 u5_23 u6_24 u7_25 u8_26], [zAr T 1 a1_3 600 ft], z2_27, wd2_34, wg2_35] _ _ := G
    have hu0i := congrArg Int32.toInt h_40
    refine lv_aload_n hx hb dX11_text_69 rfl (lv_at hl 2 rfl) ?_
    refine z_get C G clX11 0 rfl 0 (by decide) m_fl_RX11_10 rfl dX11_text_70 ?_
    refine lv_aload_n hx hb dX11_text_73 rfl (lv_at hl 2 rfl) ?_
    refine z_get C G clX11 0 rfl 3 (by decide) m_fl_RX11_27 rfl dX11_text_74 ?_
    refine z_get C G clX7 15 rfl 3 (by decide) m_fl_RX11_99 rfl dX11_text_77 ?_
    refine z_put C G clX9 10 rfl 2 (by decide) m_fl_RX11_85 rfl rfl rfl (Nat.le_of_ble_eq_true rfl) dX11_text_80 (fun H locs G => ?_)
    have G : zS T A s.heap s [[zO10 xo t im mk rd po co tr wa wb_ fi cd], z0_, z1_, wd0_, wd1_, wg0_, wg1_, wwA, wwB, wff, [zO8 t a1_3 0 u0_19 (-1) a2_4 a3_5 a4_6 a5_7], [zAr T 0 a2_4 3 fk], [zArq T 3 a3_5 2 q1_8], [zArq T 4 a4_6 2 q2_9], [zArq T 5 a5_7 2 q3_10], [zO7 rd rl rdd rg u0_19 u1_20 a1_3 u2_18 u3_21 u4_22 u5_23 u6_24 u7_25 u8_26], [zAr T 1 a1_3 600 ft], z2_27, wd2_34, wg2_35] _ _ := G
    refine lv_aload_n hx hb dX11_text_83 rfl (lv_at hl 2 rfl) ?_
    refine z_get C G clX11 0 rfl 0 (by decide) m_fl_RX11_10 rfl dX11_text_84 ?_
    refine lv_aload_n hx hb dX11_text_87 rfl (lv_at hl 2 rfl) ?_
    refine z_get C G clX11 0 rfl 3 (by decide) m_fl_RX11_27 rfl dX11_text_88 ?_
    refine z_get C G clX7 15 rfl 4 (by decide) m_fl_RX11_100 rfl dX11_text_91 ?_
    refine z_put C G clX9 10 rfl 3 (by decide) m_fl_RX11_88 rfl rfl rfl (Nat.le_of_ble_eq_true rfl) dX11_text_94 (fun H locs G => ?_)
    have G : zS T A s.heap s [[zO10 xo t im mk rd po co tr wa wb_ fi cd], z0_, z1_, wd0_, wd1_, wg0_, wg1_, wwA, wwB, wff, [zO8 t a1_3 0 u0_19 u1_20 a2_4 a3_5 a4_6 a5_7], [zAr T 0 a2_4 3 fk], [zArq T 3 a3_5 2 q1_8], [zArq T 4 a4_6 2 q2_9], [zArq T 5 a5_7 2 q3_10], [zO7 rd rl rdd rg u0_19 u1_20 a1_3 u2_18 u3_21 u4_22 u5_23 u6_24 u7_25 u8_26], [zAr T 1 a1_3 600 ft], z2_27, wd2_34, wg2_35] _ _ := G
    refine lv_aload_n hx hb dX11_text_97 rfl (lv_at hl 2 rfl) ?_
    refine z_get C G clX11 0 rfl 3 (by decide) m_fl_RX11_27 rfl dX11_text_98 ?_
    refine z_get C G clX7 15 rfl 3 (by decide) m_fl_RX11_99 rfl dX11_text_101 ?_
    refine lv_if_eq (tgt := 109) hx hb dX11_text_104 (by decide) (fun c_44 => ?_) (fun c_44 => ?_)
    · have c_44n : u0_19.toInt = (0 : Int) := (fa_eq _ _).mp c_44
      refine lv_aload_n hx hb dX11_text_109 rfl (lv_at hl 2 rfl) ?_
      refine z_get C G clX11 0 rfl 0 (by decide) m_fl_RX11_10 rfl dX11_text_110 ?_
      refine lv_iload_n hx hb dX11_text_113 rfl (lv_at hl 3 rfl) ?_
      refine lv_iload_n hx hb dX11_text_114 rfl (lv_at hl 1 rfl) ?_
      refine lv_aload_n hx hb dX11_text_115 rfl (lv_at hl 2 rfl) ?_
      refine z_get C G clX11 0 rfl 3 (by decide) m_fl_RX11_27 rfl dX11_text_116 ?_
      rcases (show r_2.toInt = 0 ∨ r_2.toInt = 1 from by omega) with hkk | hkk
      · obtain rfl : r_2 = 0 := Int32.toInt_inj.mp hkk
        have G := G.sub (bs' := [[zO10 xo t im mk rd po co tr wa wb_ fi cd], z0_, z1_, wd0_, wd1_, wg0_, wg1_, wwA, wwB, wff, [zO8 t a1_3 0 u0_19 u1_20 a2_4 a3_5 a4_6 a5_7], [zAr T 1 a1_3 600 ft], [zAr T 0 a2_4 3 fk], [zArq T 3 a3_5 2 q1_8], [zArq T 4 a4_6 2 q2_9], [zArq T 5 a5_7 2 q3_10], [zO7 rd rl rdd rg u0_19 u1_20 a1_3 u2_18 u3_21 u4_22 u5_23 u6_24 u7_25 u8_26], z2_27, wd2_34, wg2_35]) [0, 1, 2, 3, 4, 5, 6, 7, 8, 9, 10, 16, 11, 12, 13, 14, 15, 17, 18, 19] rfl
        have hw_45 : bTold T t l0 l1 d0 d1 g0 g1 0 u0_19 u1_20 ft fk [zO8 t a1_3 0 u0_19 u1_20 a2_4 a3_5 a4_6 a5_7, zAr T 1 a1_3 600 ft, zAr T 0 a2_4 3 fk, zArq T 3 a3_5 2 q1_8, zArq T 4 a4_6 2 q2_9, zArq T 5 a5_7 2 q3_10] := ⟨a1_3, a2_4, a3_5, a4_6, a5_7, q1_8, q2_9, q3_10, rfl, h_11, h_12, h_13, h_14, h_15, h_16⟩
        have G : zS T A s.heap s [[zO10 xo t im mk rd po co tr wa wb_ fi cd], z0_, z1_, wd0_, wd1_, wg0_, wg1_, wwA, wwB, wff, [zO8 t a1_3 0 u0_19 u1_20 a2_4 a3_5 a4_6 a5_7, zAr T 1 a1_3 600 ft, zAr T 0 a2_4 3 fk, zArq T 3 a3_5 2 q1_8, zArq T 4 a4_6 2 q2_9, zArq T 5 a5_7 2 q3_10], [zO7 rd rl rdd rg u0_19 u1_20 a1_3 u2_18 u3_21 u4_22 u5_23 u6_24 u7_25 u8_26], z2_27, wd2_34, wg2_35] _ _ := G.re rfl
        refine z_Vv (bc := [[zO8 t a1_3 0 u0_19 u1_20 a2_4 a3_5 a4_6 a5_7, zAr T 1 a1_3 600 ft, zAr T 0 a2_4 3 fk, zArq T 3 a3_5 2 q1_8, zArq T 4 a4_6 2 q2_9, zArq T 5 a5_7 2 q3_10], z0_, [zO7 rd rl rdd rg u0_19 u1_20 a1_3 u2_18 u3_21 u4_22 u5_23 u6_24 u7_25 u8_26], z2_27]) (br := [[zO10 xo t im mk rd po co tr wa wb_ fi cd], z1_, wd0_, wd1_, wg0_, wg1_, wwA, wwB, wff, wd2_34, wg2_35]) (As := [.int 0, .int 0, .ref rd]) (rest := []) C G (c_f_keep_00 l T t l0 l1 d0 d1 g0 g1 0 u0_19 u1_20 ft fk ([zO8 t a1_3 0 u0_19 u1_20 a2_4 a3_5 a4_6 a5_7, zAr T 1 a1_3 600 ft, zAr T 0 a2_4 3 fk, zArq T 3 a3_5 2 q1_8, zArq T 4 a4_6 2 q2_9, zArq T 5 a5_7 2 q3_10]) cr0_ inn0_ k10_ k20_ k30_ k40_ z0_ rd rl rdd rg a1_3 u0_19 u1_20 u2_18 u3_21 u4_22 u5_23 u6_24 u7_25 u8_26 c2_28 i2_29 j1_30 j2_31 j3_32 j4_33 z2_27 hw_45 (by first | with_reducible assumption | with_reducible rfl | omega | assumption | rfl) hz0_ (by first | with_reducible assumption | with_reducible rfl | omega | assumption | rfl) h_36 (by first | with_reducible assumption | with_reducible rfl | omega | assumption | rfl)) (kV_RX11_101 C.2.2.2.2 (Nat.le_of_ble_eq_true rfl) (Nat.le_of_ble_eq_true rfl)) [10, 1, 11, 12] [1, 8, 0, 0] rfl rfl (ci := 8) (qc := (RX9, TX9, 8)) rfl rfl (List.mem_flatten.mpr ⟨_, List.mem_of_getElem? (i := 0) rfl, (bTold_mem hw_45).choose_spec⟩) rfl rfl hl.1 dX11_text_119 (Nat.le_of_ble_eq_true rfl) (Nat.le_of_ble_eq_true rfl) (fun b1 H locs hw G => ?_)
        refine zEx7 hw ?_
        intro wt2_46 fk2_47 w2__48 s1__49 s2__50 s3__51 s4__52
        refine zCu10 ?_
        intro hbs9 h_53 h_54 h_55 h_56 h_57 h_58 h_59 h_60 h_61
        clear hw
        subst hbs9
        have G : zS T A s.heap s [[zO10 xo t im mk rd po co tr wa wb_ fi cd], z1_, wd0_, wd1_, wg0_, wg1_, wwA, wwB, wff, wd2_34, wg2_35, wt2_46, w2__48, [zO7 rd rl rdd rg u0_19 u1_20 a1_3 u2_18 u3_21 u4_22 u5_23 u6_24 u7_25 u8_26], z2_27] _ _ := G
        refine lv_aload_n hx hb dX11_text_122 rfl (lv_at hl 2 rfl) ?_
        refine lv_iload_n hx hb dX11_text_123 rfl (lv_at hl 3 rfl) ?_
        refine lv_if_ne (tgt := 131) hx hb dX11_text_124 (by decide) (fun q => absurd (by decide) q) (fun _ => ?_)
        refine lv_iconst (v := 1) hx hb dX11_text_127 (by decide) ?_
        refine lv_goto (tgt := 132) hx hb dX11_text_128 (by decide) ?_
        refine z_Vv (bc := [[zO10 xo t im mk rd po co tr wa wb_ fi cd], wwA, wwB, wff]) (br := [z1_, wd0_, wd1_, wg0_, wg1_, wd2_34, wg2_35, wt2_46, w2__48, [zO7 rd rl rdd rg u0_19 u1_20 a1_3 u2_18 u3_21 u4_22 u5_23 u6_24 u7_25 u8_26], z2_27]) (As := [.int 1]) (rest := []) C G (c_forget1 l T xo t im mk rd po co tr wa wb_ fi cd laA mdA wyA pc_A f1A f2A f3A f4A f5A f6A n4A wwA laB mdB wyB pc_B f1B f2B f3B f4B f5B f6B n4B wwB e0f e1f e2f e3f e4f e5f r1f m1f r2f wff hwwA hwwB hwff) (kV_RX11_105 C.2.2.2.2 (Nat.le_of_ble_eq_true rfl) (Nat.le_of_ble_eq_true rfl)) [0, 6, 7, 8] [0, 5, 0, 0] rfl rfl (ci := 10) (qc := (RX11, TX11, 11)) rfl rfl (List.mem_flatten.mpr ⟨_, List.mem_of_getElem? (i := 0) rfl, List.mem_cons_self⟩) rfl rfl hl.1 dX11_text_132 (Nat.le_of_ble_eq_true rfl) (Nat.le_of_ble_eq_true rfl) (fun b1 H locs hw G => ?_)
        refine zEx3 hw ?_
        intro wwA_63 wwB_64 wff_65
        refine zCu4 ?_
        intro hbs9 h_66 h_67 h_68
        clear hw
        subst hbs9
        have G : zS T A s.heap s [z1_, wd0_, wd1_, wg0_, wg1_, wd2_34, wg2_35, wt2_46, w2__48, [zO7 rd rl rdd rg u0_19 u1_20 a1_3 u2_18 u3_21 u4_22 u5_23 u6_24 u7_25 u8_26], z2_27, [zO10 xo t im mk rd po co tr wa wb_ fi cd], wwA_63, wwB_64, wff_65] _ _ := G
        refine lv_iload_n hx hb dX11_text_135 rfl (lv_at hl 1 rfl) ?_
        have G := G.sub (bs' := [[zO10 xo t im mk rd po co tr wa wb_ fi cd], wt2_46, w2__48, z1_, wd0_, wd1_, wg0_, wg1_, [zO7 rd rl rdd rg u0_19 u1_20 a1_3 u2_18 u3_21 u4_22 u5_23 u6_24 u7_25 u8_26], z2_27, wd2_34, wg2_35, wwA_63, wwB_64, wff_65]) [11, 7, 8, 0, 1, 2, 3, 4, 9, 10, 5, 6, 12, 13, 14] rfl
        exact z_back hQ9 (z_iret C hr hlocks G (Nat.le_of_ble_eq_true rfl) (Nat.le_of_ble_eq_true rfl) dX11_text_136 ⟨0, u0_19, u1_20, ft, fk2_47, wt2_46, c2_28, i2_29, s1__49, s2__50, s3__51, s4__52, w2__48, cr1_, inn1_, k11_, k21_, k31_, k41_, z1_, dd0_, p10_, p20_, p30_, wd0_, dd1_, p11_, p21_, p31_, wd1_, gg0_, q10_, q20_, wg0_, gg1_, q11_, q21_, wg1_, u0_19, u1_20, u2_18, u3_21, u4_22, u5_23, u6_24, u7_25, u8_26, a1_3, z2_27, c2_28, i2_29, j1_30, j2_31, j3_32, j4_33, wd2_34, 0, v1, v2, v3, wg2_35, 0, e1, e2, wwA_63, wwB_64, wff_65, 0, 0, 0, rfl, h_53, (by first | with_reducible assumption | omega | trivial | assumption), h_54, (by first | with_reducible assumption | omega | trivial | assumption), hz1_, (by first | with_reducible assumption | omega | trivial | assumption), hd0_, hd1_, hg0_, hg1_, h_36, h_38, h_39, h_66, h_67, h_68, rfl, (by first | exact Or.inl ⟨rfl, rfl, rfl⟩ | exact Or.inr (Or.inl ⟨rfl, rfl, rfl⟩) | exact Or.inr (Or.inr ⟨rfl, rfl, rfl⟩)), ⟨pPut 0 (pNr 0 at_ Gr).toInt.toNat (pRead k N 0).2 (pCnt 0 at_ (pHd Gr (pRead k N 0).1.2.2.1 (pRead k N 0).1.2.2.2.1)), Or.inr (Or.inr ⟨hokG, by omega, hnG.symm, fun _ _ => rfl⟩), by rw [show (pNr 0 at_ Gr).toInt.toNat = 0 by rw [hnG]; rfl, h_40, h_41]; exact zTR_p00 (zTR_hd hT) (zCnt (kk := 0) (K := 1) (fun j hj => (hTd.2.2.2.1 j hj).trans (pHd_lo hj).symm) (by decide) (by rw [pHd_lo (by decide), hGs]; exact hK 0 (by decide)) ((pOkAt_cg (pHd_lo (by decide))).mpr hokG) (by rw [pNr_cg (pHd_lo (by decide)), hnG]; rfl) rfl h_61) (pCnt_ge (by decide)) (zLnd_eq (zLnd_c h_42 (by omega)) (fun j hj => (h_37.2.1 j hj).2) h_57 h_58 h_59 h_60)⟩⟩)
      · obtain rfl : r_2 = 1 := Int32.toInt_inj.mp hkk
        have G := G.sub (bs' := [[zO10 xo t im mk rd po co tr wa wb_ fi cd], z0_, z1_, wd0_, wd1_, wg0_, wg1_, wwA, wwB, wff, [zO8 t a1_3 0 u0_19 u1_20 a2_4 a3_5 a4_6 a5_7], [zAr T 1 a1_3 600 ft], [zAr T 0 a2_4 3 fk], [zArq T 3 a3_5 2 q1_8], [zArq T 4 a4_6 2 q2_9], [zArq T 5 a5_7 2 q3_10], [zO7 rd rl rdd rg u0_19 u1_20 a1_3 u2_18 u3_21 u4_22 u5_23 u6_24 u7_25 u8_26], z2_27, wd2_34, wg2_35]) [0, 1, 2, 3, 4, 5, 6, 7, 8, 9, 10, 16, 11, 12, 13, 14, 15, 17, 18, 19] rfl
        have hw_70 : bTold T t l0 l1 d0 d1 g0 g1 0 u0_19 u1_20 ft fk [zO8 t a1_3 0 u0_19 u1_20 a2_4 a3_5 a4_6 a5_7, zAr T 1 a1_3 600 ft, zAr T 0 a2_4 3 fk, zArq T 3 a3_5 2 q1_8, zArq T 4 a4_6 2 q2_9, zArq T 5 a5_7 2 q3_10] := ⟨a1_3, a2_4, a3_5, a4_6, a5_7, q1_8, q2_9, q3_10, rfl, h_11, h_12, h_13, h_14, h_15, h_16⟩
        have G : zS T A s.heap s [[zO10 xo t im mk rd po co tr wa wb_ fi cd], z0_, z1_, wd0_, wd1_, wg0_, wg1_, wwA, wwB, wff, [zO8 t a1_3 0 u0_19 u1_20 a2_4 a3_5 a4_6 a5_7, zAr T 1 a1_3 600 ft, zAr T 0 a2_4 3 fk, zArq T 3 a3_5 2 q1_8, zArq T 4 a4_6 2 q2_9, zArq T 5 a5_7 2 q3_10], [zO7 rd rl rdd rg u0_19 u1_20 a1_3 u2_18 u3_21 u4_22 u5_23 u6_24 u7_25 u8_26], z2_27, wd2_34, wg2_35] _ _ := G.re rfl
        refine z_Vv (bc := [[zO8 t a1_3 0 u0_19 u1_20 a2_4 a3_5 a4_6 a5_7, zAr T 1 a1_3 600 ft, zAr T 0 a2_4 3 fk, zArq T 3 a3_5 2 q1_8, zArq T 4 a4_6 2 q2_9, zArq T 5 a5_7 2 q3_10], z1_, [zO7 rd rl rdd rg u0_19 u1_20 a1_3 u2_18 u3_21 u4_22 u5_23 u6_24 u7_25 u8_26], z2_27]) (br := [[zO10 xo t im mk rd po co tr wa wb_ fi cd], z0_, wd0_, wd1_, wg0_, wg1_, wwA, wwB, wff, wd2_34, wg2_35]) (As := [.int 0, .int 1, .ref rd]) (rest := []) C G (c_f_keep_01 l T t l0 l1 d0 d1 g0 g1 0 u0_19 u1_20 ft fk ([zO8 t a1_3 0 u0_19 u1_20 a2_4 a3_5 a4_6 a5_7, zAr T 1 a1_3 600 ft, zAr T 0 a2_4 3 fk, zArq T 3 a3_5 2 q1_8, zArq T 4 a4_6 2 q2_9, zArq T 5 a5_7 2 q3_10]) cr1_ inn1_ k11_ k21_ k31_ k41_ z1_ rd rl rdd rg a1_3 u0_19 u1_20 u2_18 u3_21 u4_22 u5_23 u6_24 u7_25 u8_26 c2_28 i2_29 j1_30 j2_31 j3_32 j4_33 z2_27 hw_70 (by first | with_reducible assumption | with_reducible rfl | omega | assumption | rfl) hz1_ (by first | with_reducible assumption | with_reducible rfl | omega | assumption | rfl) h_36 (by first | with_reducible assumption | with_reducible rfl | omega | assumption | rfl)) (kV_RX11_101 C.2.2.2.2 (Nat.le_of_ble_eq_true rfl) (Nat.le_of_ble_eq_true rfl)) [10, 2, 11, 12] [2, 7, 0, 0] rfl rfl (ci := 8) (qc := (RX9, TX9, 8)) rfl rfl (List.mem_flatten.mpr ⟨_, List.mem_of_getElem? (i := 0) rfl, (bTold_mem hw_70).choose_spec⟩) rfl rfl hl.1 dX11_text_119 (Nat.le_of_ble_eq_true rfl) (Nat.le_of_ble_eq_true rfl) (fun b1 H locs hw G => ?_)
        refine zEx7 hw ?_
        intro wt2_71 fk2_72 w2__73 s1__74 s2__75 s3__76 s4__77
        refine zCu10 ?_
        intro hbs9 h_78 h_79 h_80 h_81 h_82 h_83 h_84 h_85 h_86
        clear hw
        subst hbs9
        have G : zS T A s.heap s [[zO10 xo t im mk rd po co tr wa wb_ fi cd], z0_, wd0_, wd1_, wg0_, wg1_, wwA, wwB, wff, wd2_34, wg2_35, wt2_71, w2__73, [zO7 rd rl rdd rg u0_19 u1_20 a1_3 u2_18 u3_21 u4_22 u5_23 u6_24 u7_25 u8_26], z2_27] _ _ := G
        refine lv_aload_n hx hb dX11_text_122 rfl (lv_at hl 2 rfl) ?_
        refine lv_iload_n hx hb dX11_text_123 rfl (lv_at hl 3 rfl) ?_
        refine lv_if_ne (tgt := 131) hx hb dX11_text_124 (by decide) (fun q => absurd (by decide) q) (fun _ => ?_)
        refine lv_iconst (v := 1) hx hb dX11_text_127 (by decide) ?_
        refine lv_goto (tgt := 132) hx hb dX11_text_128 (by decide) ?_
        refine z_Vv (bc := [[zO10 xo t im mk rd po co tr wa wb_ fi cd], wwA, wwB, wff]) (br := [z0_, wd0_, wd1_, wg0_, wg1_, wd2_34, wg2_35, wt2_71, w2__73, [zO7 rd rl rdd rg u0_19 u1_20 a1_3 u2_18 u3_21 u4_22 u5_23 u6_24 u7_25 u8_26], z2_27]) (As := [.int 1]) (rest := []) C G (c_forget1 l T xo t im mk rd po co tr wa wb_ fi cd laA mdA wyA pc_A f1A f2A f3A f4A f5A f6A n4A wwA laB mdB wyB pc_B f1B f2B f3B f4B f5B f6B n4B wwB e0f e1f e2f e3f e4f e5f r1f m1f r2f wff hwwA hwwB hwff) (kV_RX11_105 C.2.2.2.2 (Nat.le_of_ble_eq_true rfl) (Nat.le_of_ble_eq_true rfl)) [0, 6, 7, 8] [0, 5, 0, 0] rfl rfl (ci := 10) (qc := (RX11, TX11, 11)) rfl rfl (List.mem_flatten.mpr ⟨_, List.mem_of_getElem? (i := 0) rfl, List.mem_cons_self⟩) rfl rfl hl.1 dX11_text_132 (Nat.le_of_ble_eq_true rfl) (Nat.le_of_ble_eq_true rfl) (fun b1 H locs hw G => ?_)
        refine zEx3 hw ?_
        intro wwA_88 wwB_89 wff_90
        refine zCu4 ?_
        intro hbs9 h_91 h_92 h_93
        clear hw
        subst hbs9
        have G : zS T A s.heap s [z0_, wd0_, wd1_, wg0_, wg1_, wd2_34, wg2_35, wt2_71, w2__73, [zO7 rd rl rdd rg u0_19 u1_20 a1_3 u2_18 u3_21 u4_22 u5_23 u6_24 u7_25 u8_26], z2_27, [zO10 xo t im mk rd po co tr wa wb_ fi cd], wwA_88, wwB_89, wff_90] _ _ := G
        refine lv_iload_n hx hb dX11_text_135 rfl (lv_at hl 1 rfl) ?_
        have G := G.sub (bs' := [[zO10 xo t im mk rd po co tr wa wb_ fi cd], wt2_71, z0_, w2__73, wd0_, wd1_, wg0_, wg1_, [zO7 rd rl rdd rg u0_19 u1_20 a1_3 u2_18 u3_21 u4_22 u5_23 u6_24 u7_25 u8_26], z2_27, wd2_34, wg2_35, wwA_88, wwB_89, wff_90]) [11, 7, 0, 8, 1, 2, 3, 4, 9, 10, 5, 6, 12, 13, 14] rfl
        exact z_back hQ9 (z_iret C hr hlocks G (Nat.le_of_ble_eq_true rfl) (Nat.le_of_ble_eq_true rfl) dX11_text_136 ⟨0, u0_19, u1_20, ft, fk2_72, wt2_71, cr0_, inn0_, k10_, k20_, k30_, k40_, z0_, c2_28, i2_29, s1__74, s2__75, s3__76, s4__77, w2__73, dd0_, p10_, p20_, p30_, wd0_, dd1_, p11_, p21_, p31_, wd1_, gg0_, q10_, q20_, wg0_, gg1_, q11_, q21_, wg1_, u0_19, u1_20, u2_18, u3_21, u4_22, u5_23, u6_24, u7_25, u8_26, a1_3, z2_27, c2_28, i2_29, j1_30, j2_31, j3_32, j4_33, wd2_34, 0, v1, v2, v3, wg2_35, 0, e1, e2, wwA_88, wwB_89, wff_90, 0, 0, 0, rfl, h_78, (by first | with_reducible assumption | omega | trivial | assumption), hz0_, (by first | with_reducible assumption | omega | trivial | assumption), h_79, (by first | with_reducible assumption | omega | trivial | assumption), hd0_, hd1_, hg0_, hg1_, h_36, h_38, h_39, h_91, h_92, h_93, rfl, (by first | exact Or.inl ⟨rfl, rfl, rfl⟩ | exact Or.inr (Or.inl ⟨rfl, rfl, rfl⟩) | exact Or.inr (Or.inr ⟨rfl, rfl, rfl⟩)), ⟨pPut 0 (pNr 0 at_ Gr).toInt.toNat (pRead k N 0).2 (pCnt 0 at_ (pHd Gr (pRead k N 0).1.2.2.1 (pRead k N 0).1.2.2.2.1)), Or.inr (Or.inr ⟨hokG, by omega, hnG.symm, fun _ _ => rfl⟩), by rw [show (pNr 0 at_ Gr).toInt.toNat = 1 by rw [hnG]; rfl, h_40, h_41]; exact zTR_p01 (zTR_hd hT) (zCnt (kk := 1) (K := 2) (fun j hj => (hTd.2.2.2.1 j hj).trans (pHd_lo hj).symm) (by decide) (by rw [pHd_lo (by decide), hGs]; exact hK 0 (by decide)) ((pOkAt_cg (pHd_lo (by decide))).mpr hokG) (by rw [pNr_cg (pHd_lo (by decide)), hnG]; rfl) rfl h_86) (pCnt_ge (by decide)) (zLnd_eq (zLnd_c h_42 (by omega)) (fun j hj => (h_37.2.1 j hj).2) h_82 h_83 h_84 h_85)⟩⟩)
    · have c_44n : ¬ u0_19.toInt = (0 : Int) := fun q => c_44 ((fa_eq _ _).mpr q)
      refine lv_iconst (v := (-1)) hx hb dX11_text_107 (by decide) ?_
      have G := G.sub (bs' := [[zO10 xo t im mk rd po co tr wa wb_ fi cd], z0_, z1_, wd0_, wd1_, wg0_, wg1_, wwA, wwB, wff, [zO8 t a1_3 0 u0_19 u1_20 a2_4 a3_5 a4_6 a5_7], [zAr T 1 a1_3 600 ft], [zAr T 0 a2_4 3 fk], [zArq T 3 a3_5 2 q1_8], [zArq T 4 a4_6 2 q2_9], [zArq T 5 a5_7 2 q3_10], [zO7 rd rl rdd rg u0_19 u1_20 a1_3 u2_18 u3_21 u4_22 u5_23 u6_24 u7_25 u8_26], z2_27, wd2_34, wg2_35]) [0, 1, 2, 3, 4, 5, 6, 7, 8, 9, 10, 16, 11, 12, 13, 14, 15, 17, 18, 19] rfl
      have hw_95 : bTold T t l0 l1 d0 d1 g0 g1 0 u0_19 u1_20 ft fk [zO8 t a1_3 0 u0_19 u1_20 a2_4 a3_5 a4_6 a5_7, zAr T 1 a1_3 600 ft, zAr T 0 a2_4 3 fk, zArq T 3 a3_5 2 q1_8, zArq T 4 a4_6 2 q2_9, zArq T 5 a5_7 2 q3_10] := ⟨a1_3, a2_4, a3_5, a4_6, a5_7, q1_8, q2_9, q3_10, rfl, h_11, h_12, h_13, h_14, h_15, h_16⟩
      have G : zS T A s.heap s [[zO10 xo t im mk rd po co tr wa wb_ fi cd], z0_, z1_, wd0_, wd1_, wg0_, wg1_, wwA, wwB, wff, [zO8 t a1_3 0 u0_19 u1_20 a2_4 a3_5 a4_6 a5_7, zAr T 1 a1_3 600 ft, zAr T 0 a2_4 3 fk, zArq T 3 a3_5 2 q1_8, zArq T 4 a4_6 2 q2_9, zArq T 5 a5_7 2 q3_10], [zO7 rd rl rdd rg u0_19 u1_20 a1_3 u2_18 u3_21 u4_22 u5_23 u6_24 u7_25 u8_26], z2_27, wd2_34, wg2_35] _ _ := G.re rfl
      have G := G.sub (bs' := [[zO10 xo t im mk rd po co tr wa wb_ fi cd], [zO8 t a1_3 0 u0_19 u1_20 a2_4 a3_5 a4_6 a5_7, zAr T 1 a1_3 600 ft, zAr T 0 a2_4 3 fk, zArq T 3 a3_5 2 q1_8, zArq T 4 a4_6 2 q2_9, zArq T 5 a5_7 2 q3_10], z0_, z1_, wd0_, wd1_, wg0_, wg1_, [zO7 rd rl rdd rg u0_19 u1_20 a1_3 u2_18 u3_21 u4_22 u5_23 u6_24 u7_25 u8_26], z2_27, wd2_34, wg2_35, wwA, wwB, wff]) [0, 10, 1, 2, 3, 4, 5, 6, 11, 12, 13, 14, 7, 8, 9] rfl
      exact z_back hQ9 (z_iret C hr hlocks G (Nat.le_of_ble_eq_true rfl) (Nat.le_of_ble_eq_true rfl) dX11_text_108 ⟨0, u0_19, u1_20, ft, fk, ([zO8 t a1_3 0 u0_19 u1_20 a2_4 a3_5 a4_6 a5_7, zAr T 1 a1_3 600 ft, zAr T 0 a2_4 3 fk, zArq T 3 a3_5 2 q1_8, zArq T 4 a4_6 2 q2_9, zArq T 5 a5_7 2 q3_10]), cr0_, inn0_, k10_, k20_, k30_, k40_, z0_, cr1_, inn1_, k11_, k21_, k31_, k41_, z1_, dd0_, p10_, p20_, p30_, wd0_, dd1_, p11_, p21_, p31_, wd1_, gg0_, q10_, q20_, wg0_, gg1_, q11_, q21_, wg1_, u0_19, u1_20, u2_18, u3_21, u4_22, u5_23, u6_24, u7_25, u8_26, a1_3, z2_27, c2_28, i2_29, j1_30, j2_31, j3_32, j4_33, wd2_34, 0, v1, v2, v3, wg2_35, 0, e1, e2, wwA, wwB, wff, mdA, mdB, e0f, rfl, hw_95, (by first | with_reducible assumption | omega | trivial | assumption), hz0_, (by first | with_reducible assumption | omega | trivial | assumption), hz1_, (by first | with_reducible assumption | omega | trivial | assumption), hd0_, hd1_, hg0_, hg1_, h_36, h_38, h_39, hwwA, hwwB, hwff, rfl, (by first | exact Or.inl ⟨rfl, rfl, rfl⟩ | exact Or.inr (Or.inl ⟨rfl, rfl, rfl⟩) | exact Or.inr (Or.inr ⟨rfl, rfl, rfl⟩)), ⟨pHd Gr (pRead k N 0).1.2.2.1 (pRead k N 0).1.2.2.2.1, Or.inr (Or.inl ⟨hokG, by omega, rfl, fun _ _ => rfl⟩), by rw [h_40, h_41]; exact zTR_hd hT⟩⟩)
set_option maxHeartbeats 4000000 in
set_option maxRecDepth 100000 in
/-- c_f_text1 -/
theorem c_f_text1 (l : Launch) (T : zTy) (xo : Nat) (t : Nat) (im : Nat) (mk : Nat) (rd : Nat) (po : Nat) (co : Nat) (tr : Nat) (wa : Nat) (wb_ : Nat) (fi : Nat) (cd : Nat) (l0 : Nat) (l1 : Nat) (d0 : Nat) (d1 : Nat) (g0 : Nat) (g1 : Nat) (ln : Int32) (fl : Int32) (pl : Int32) (ft : Nat → Int32) (fk : Nat → Int32) (wt : va_W) (cr0_ : Int32) (inn0_ : Int32) (k10_ : Nat → Int32) (k20_ : Nat → Int32) (k30_ : Nat → Int32) (k40_ : Nat → Int32) (z0_ : va_W) (cr1_ : Int32) (inn1_ : Int32) (k11_ : Nat → Int32) (k21_ : Nat → Int32) (k31_ : Nat → Int32) (k41_ : Nat → Int32) (z1_ : va_W) (dd0_ : Int32) (p10_ : Nat → Int32) (p20_ : Nat → Int32) (p30_ : Nat → Int32) (wd0_ : va_W) (dd1_ : Int32) (p11_ : Nat → Int32) (p21_ : Nat → Int32) (p31_ : Nat → Int32) (wd1_ : va_W) (gg0_ : Int32) (q10_ : Nat → Int32) (q20_ : Nat → Int32) (wg0_ : va_W) (gg1_ : Int32) (q11_ : Nat → Int32) (q21_ : Nat → Int32) (wg1_ : va_W) (rl : Nat) (rdd : Nat) (rg : Nat) (r0 : Int32) (r1 : Int32) (r2 : Int32) (r3 : Int32) (r4 : Int32) (r5 : Int32) (r6 : Int32) (r7 : Int32) (r8 : Int32) (tq : Nat) (cr : Int32) (inn : Int32) (k1 : Nat → Int32) (k2 : Nat → Int32) (k3 : Nat → Int32) (k4 : Nat → Int32) (z : va_W) (dd : Int32) (v1 : Nat → Int32) (v2 : Nat → Int32) (v3 : Nat → Int32) (wd : va_W) (gg : Int32) (e1 : Nat → Int32) (e2 : Nat → Int32) (wg : va_W) (laA : Nat) (mdA : Int32) (wyA : Int32) (pc_A : Int32) (f1A : Nat → Int32) (f2A : Nat → Int32) (f3A : Nat → Int32) (f4A : Nat → Int32) (f5A : Nat → Int32) (f6A : Nat → Int32) (n4A : Nat) (wwA : va_W) (laB : Nat) (mdB : Int32) (wyB : Int32) (pc_B : Int32) (f1B : Nat → Int32) (f2B : Nat → Int32) (f3B : Nat → Int32) (f4B : Nat → Int32) (f5B : Nat → Int32) (f6B : Nat → Int32) (n4B : Nat) (wwB : va_W) (e0f : Int32) (e1f : Int32) (e2f : Int32) (e3f : Int32) (e4f : Int32) (e5f : Int32) (r1f : Nat → Int32) (m1f : Nat) (r2f : Nat → Int32) (wff : va_W) (k : pT) (N : Nat) (Gr : Nat → Int32) (at_ : Int32) (ht : bTold T t l0 l1 d0 d1 g0 g1 ln fl pl ft fk wt) (hK : zKT fk) (hz0_ : bLand T l0 cr0_ inn0_ k10_ k20_ k30_ k40_ z0_) (hI0_ : zLI cr0_ k10_ k30_) (hz1_ : bLand T l1 cr1_ inn1_ k11_ k21_ k31_ k41_ z1_) (hI1_ : zLI cr1_ k11_ k31_) (hd0_ : bDay T d0 dd0_ p10_ p20_ p30_ wd0_) (hd1_ : bDay T d1 dd1_ p11_ p21_ p31_ wd1_) (hg0_ : bLog T g0 gg0_ q10_ q20_ wg0_) (hg1_ : bLog T g1 gg1_ q11_ q21_ wg1_) (hz : bLand T rl cr inn k1 k2 k3 k4 z) (hd : bDay T rdd dd v1 v2 v3 wd) (hg : bLog T rg gg e1 e2 wg) (hwwA : bWays T wa laA mdA wyA pc_A f1A f2A f3A f4A f5A f6A n4A wwA) (hwwB : bWays T wb_ laB mdB wyB pc_B f1B f2B f3B f4B f5B f6B n4B wwB) (hwff : bFit T fi e0f e1f e2f e3f e4f e5f r1f m1f r2f wff) (hT : zTR ln fl pl ft fk cr0_ inn0_ k10_ k20_ k30_ k40_ cr1_ inn1_ k11_ k21_ k31_ k41_ dd0_ p10_ p20_ p30_ dd1_ p11_ p21_ p31_ gg0_ q10_ q20_ gg1_ q11_ q21_ Gr) (hN : ln = nI N) (hN6 : N ≤ 600) (hk : k = tkT ft N) : zMi l T yX11_text cX11_text 5 (some .int) 9 0 0 [.ref xo, .int 1, .int at_] [[zO10 xo t im mk rd po co tr wa wb_ fi cd], wt, z0_, z1_, wd0_, wd1_, wg0_, wg1_, [zO7 rd rl rdd rg r0 r1 tq r2 r3 r4 r5 r6 r7 r8], z, wd, wg, wwA, wwB, wff] (fun (r : Int32) bs => ∃ (ln_2 : Int32) (fl_2 : Int32) (pl_2 : Int32) (ft_2 : Nat → Int32) (fk_2 : Nat → Int32) (wt_2 : va_W) (cr0__2 : Int32) (inn0__2 : Int32) (k10__2 : Nat → Int32) (k20__2 : Nat → Int32) (k30__2 : Nat → Int32) (k40__2 : Nat → Int32) (z0__2 : va_W) (cr1__2 : Int32) (inn1__2 : Int32) (k11__2 : Nat → Int32) (k21__2 : Nat → Int32) (k31__2 : Nat → Int32) (k41__2 : Nat → Int32) (z1__2 : va_W) (dd0__2 : Int32) (p10__2 : Nat → Int32) (p20__2 : Nat → Int32) (p30__2 : Nat → Int32) (wd0__2 : va_W) (dd1__2 : Int32) (p11__2 : Nat → Int32) (p21__2 : Nat → Int32) (p31__2 : Nat → Int32) (wd1__2 : va_W) (gg0__2 : Int32) (q10__2 : Nat → Int32) (q20__2 : Nat → Int32) (wg0__2 : va_W) (gg1__2 : Int32) (q11__2 : Nat → Int32) (q21__2 : Nat → Int32) (wg1__2 : va_W) (s0 : Int32) (s1 : Int32) (s2 : Int32) (s3 : Int32) (s4 : Int32) (s5 : Int32) (s6 : Int32) (s7 : Int32) (s8 : Int32) (tq_2 : Nat) (z2 : va_W) (c2 : Int32) (i2_ : Int32) (j1 : Nat → Int32) (j2 : Nat → Int32) (j3 : Nat → Int32) (j4 : Nat → Int32) (wd2 : va_W) (dd2 : Int32) (b1 : Nat → Int32) (b2 : Nat → Int32) (b3 : Nat → Int32) (wg2 : va_W) (gg2 : Int32) (b4 : Nat → Int32) (b5 : Nat → Int32) (wwA_2 : va_W) (wwB_2 : va_W) (wff_2 : va_W) (mdA_2 : Int32) (mdB_2 : Int32) (e0f_2 : Int32), bs = [[zO10 xo t im mk rd po co tr wa wb_ fi cd], wt_2, z0__2, z1__2, wd0__2, wd1__2, wg0__2, wg1__2, [zO7 rd rl rdd rg s0 s1 tq_2 s2 s3 s4 s5 s6 s7 s8], z2, wd2, wg2, wwA_2, wwB_2, wff_2] ∧ bTold T t l0 l1 d0 d1 g0 g1 ln_2 fl_2 pl_2 ft_2 fk_2 wt_2 ∧ zKT fk_2 ∧ bLand T l0 cr0__2 inn0__2 k10__2 k20__2 k30__2 k40__2 z0__2 ∧ zLI cr0__2 k10__2 k30__2 ∧ bLand T l1 cr1__2 inn1__2 k11__2 k21__2 k31__2 k41__2 z1__2 ∧ zLI cr1__2 k11__2 k31__2 ∧ bDay T d0 dd0__2 p10__2 p20__2 p30__2 wd0__2 ∧ bDay T d1 dd1__2 p11__2 p21__2 p31__2 wd1__2 ∧ bLog T g0 gg0__2 q10__2 q20__2 wg0__2 ∧ bLog T g1 gg1__2 q11__2 q21__2 wg1__2 ∧ bLand T rl c2 i2_ j1 j2 j3 j4 z2 ∧ bDay T rdd dd2 b1 b2 b3 wd2 ∧ bLog T rg gg2 b4 b5 wg2 ∧ bWays T wa laA mdA_2 wyA pc_A f1A f2A f3A f4A f5A f6A n4A wwA_2 ∧ bWays T wb_ laB mdB_2 wyB pc_B f1B f2B f3B f4B f5B f6B n4B wwB_2 ∧ bFit T fi e0f_2 e1f e2f e3f e4f e5f r1f m1f r2f wff_2 ∧ ln_2 = 0 ∧ (mdA_2 = 0 ∧ mdB_2 = 0 ∧ e0f_2 = 0 ∨ mdA_2 = mdA ∧ mdB_2 = mdB ∧ e0f_2 = 0 ∨ mdA_2 = mdA ∧ mdB_2 = mdB ∧ e0f_2 = e0f) ∧ (∃ G2, zText (pRead k N 1) 1 at_ Gr G2 r ∧ zTR ln_2 fl_2 pl_2 ft_2 fk_2 cr0__2 inn0__2 k10__2 k20__2 k30__2 k40__2 cr1__2 inn1__2 k11__2 k21__2 k31__2 k41__2 dd0__2 p10__2 p20__2 p30__2 dd1__2 p11__2 p21__2 p31__2 gg0__2 q10__2 q20__2 gg1__2 q11__2 q21__2 G2)) := by
  refine zMi_of (own := RX11) (by decide) rfl (Nat.le_of_ble_eq_true rfl) ?_
  intro p e s m args below meth c A ls C hr hlocks hnm hAe G hl
  refine zHide (fun Q9 hQ9 => ?_)
  have hx := C.1
  have hb := C.2.1
  have hl : lv_has ls 5 [(0, .ref xo), (1, .int 1), (2, .int at_)] := hl
  refine lv_aload_n hx hb dX11_text_0 rfl (lv_at hl 0 rfl) ?_
  refine z_get C G clX11 0 rfl 0 (by decide) m_fl_RX11_10 rfl dX11_text_1 ?_
  refine lv_iload_n hx hb dX11_text_4 rfl (lv_at hl 1 rfl) ?_
  refine lv_iload_n hx hb dX11_text_5 rfl (lv_at hl 2 rfl) ?_
  refine z_Vi (bc := [wt]) (br := [[zO10 xo t im mk rd po co tr wa wb_ fi cd], z0_, z1_, wd0_, wd1_, wg0_, wg1_, [zO7 rd rl rdd rg r0 r1 tq r2 r3 r4 r5 r6 r7 r8], z, wd, wg, wwA, wwB, wff]) (As := [.int 1, .int at_]) (rest := []) C G (c_f_placeFor1 l T t l0 l1 d0 d1 g0 g1 ln fl pl ft fk wt at_ ht) (kV_RX11_81 C.2.2.2.2 (Nat.le_of_ble_eq_true rfl) (Nat.le_of_ble_eq_true rfl)) [1] [1] rfl rfl (ci := 8) (qc := (RX9, TX9, 8)) rfl rfl (List.mem_flatten.mpr ⟨_, List.mem_of_getElem? (i := 0) rfl, (bTold_mem ht).choose_spec⟩) rfl rfl hl.1 dX11_text_6 (Nat.le_of_ble_eq_true rfl) (Nat.le_of_ble_eq_true rfl) (fun r_2 b1 H locs hw G => ?_)
  refine zAn2 hw ?_
  intro hbs9 h_1
  clear hw
  subst hbs9
  have G : zS T A s.heap s [[zO10 xo t im mk rd po co tr wa wb_ fi cd], z0_, z1_, wd0_, wd1_, wg0_, wg1_, [zO7 rd rl rdd rg r0 r1 tq r2 r3 r4 r5 r6 r7 r8], z, wd, wg, wwA, wwB, wff, wt] _ _ := G
  have hTd := hT.1
  have hGs : Gr 1 = fk 1 := (hTd.2.2.2.1 1 (by decide)).symm
  refine lv_istore_n (lv' := [(3, .int r_2), (0, .ref xo), (1, .int 1), (2, .int at_)]) hx hb dX11_text_9 rfl hl (by decide) rfl (fun ls hl => ?_)
  refine lv_aload_n hx hb dX11_text_10 rfl (lv_at hl 1 rfl) ?_
  refine z_get C G clX11 0 rfl 0 (by decide) m_fl_RX11_10 rfl dX11_text_11 ?_
  refine zEx8 ht ?_
  intro a1_3 a2_4 a3_5 a4_6 a5_7 q1_8 q2_9 q3_10
  refine zCu7 ?_
  intro hbs9 h_11 h_12 h_13 h_14 h_15 h_16
  clear ht
  subst hbs9
  have G : zS T A s.heap s [[zO10 xo t im mk rd po co tr wa wb_ fi cd], z0_, z1_, wd0_, wd1_, wg0_, wg1_, [zO7 rd rl rdd rg r0 r1 tq r2 r3 r4 r5 r6 r7 r8], z, wd, wg, wwA, wwB, wff, [zO8 t a1_3 ln fl pl a2_4 a3_5 a4_6 a5_7], [zAr T 1 a1_3 600 ft], [zAr T 0 a2_4 3 fk], [zArq T 3 a3_5 2 q1_8], [zArq T 4 a4_6 2 q2_9], [zArq T 5 a5_7 2 q3_10]] _ _ := G.re rfl
  refine z_get C G clX9 14 rfl 1 (by decide) m_fl_RX11_73 rfl dX11_text_14 ?_
  refine lv_istore (lv' := [(4, .int ln), (3, .int r_2), (0, .ref xo), (1, .int 1), (2, .int at_)]) hx hb dX11_text_17 hl (by decide) rfl (fun ls hl => ?_)
  refine lv_aload_n hx hb dX11_text_19 rfl (lv_at hl 2 rfl) ?_
  refine z_get C G clX11 0 rfl 0 (by decide) m_fl_RX11_10 rfl dX11_text_20 ?_
  refine lv_iconst (v := 0) hx hb dX11_text_23 (by decide) ?_
  refine z_put C G clX9 14 rfl 1 (by decide) m_fl_RX11_73 rfl rfl rfl (Nat.le_of_ble_eq_true rfl) dX11_text_24 (fun H locs G => ?_)
  have G : zS T A s.heap s [[zO10 xo t im mk rd po co tr wa wb_ fi cd], z0_, z1_, wd0_, wd1_, wg0_, wg1_, [zO7 rd rl rdd rg r0 r1 tq r2 r3 r4 r5 r6 r7 r8], z, wd, wg, wwA, wwB, wff, [zO8 t a1_3 0 fl pl a2_4 a3_5 a4_6 a5_7], [zAr T 1 a1_3 600 ft], [zAr T 0 a2_4 3 fk], [zArq T 3 a3_5 2 q1_8], [zArq T 4 a4_6 2 q2_9], [zArq T 5 a5_7 2 q3_10]] _ _ := G
  refine lv_aload_n hx hb dX11_text_27 rfl (lv_at hl 2 rfl) ?_
  refine z_get C G clX11 0 rfl 0 (by decide) m_fl_RX11_10 rfl dX11_text_28 ?_
  refine lv_iconst (v := 0) hx hb dX11_text_31 (by decide) ?_
  refine z_put C G clX9 14 rfl 2 (by decide) m_fl_RX11_85 rfl rfl rfl (Nat.le_of_ble_eq_true rfl) dX11_text_32 (fun H locs G => ?_)
  have G : zS T A s.heap s [[zO10 xo t im mk rd po co tr wa wb_ fi cd], z0_, z1_, wd0_, wd1_, wg0_, wg1_, [zO7 rd rl rdd rg r0 r1 tq r2 r3 r4 r5 r6 r7 r8], z, wd, wg, wwA, wwB, wff, [zO8 t a1_3 0 0 pl a2_4 a3_5 a4_6 a5_7], [zAr T 1 a1_3 600 ft], [zAr T 0 a2_4 3 fk], [zArq T 3 a3_5 2 q1_8], [zArq T 4 a4_6 2 q2_9], [zArq T 5 a5_7 2 q3_10]] _ _ := G
  refine lv_aload_n hx hb dX11_text_35 rfl (lv_at hl 2 rfl) ?_
  refine z_get C G clX11 0 rfl 0 (by decide) m_fl_RX11_10 rfl dX11_text_36 ?_
  refine lv_iconst (v := (-1)) hx hb dX11_text_39 (by decide) ?_
  refine z_put C G clX9 14 rfl 3 (by decide) m_fl_RX11_88 rfl rfl rfl (Nat.le_of_ble_eq_true rfl) dX11_text_40 (fun H locs G => ?_)
  have G : zS T A s.heap s [[zO10 xo t im mk rd po co tr wa wb_ fi cd], z0_, z1_, wd0_, wd1_, wg0_, wg1_, [zO7 rd rl rdd rg r0 r1 tq r2 r3 r4 r5 r6 r7 r8], z, wd, wg, wwA, wwB, wff, [zO8 t a1_3 0 0 (-1) a2_4 a3_5 a4_6 a5_7], [zAr T 1 a1_3 600 ft], [zAr T 0 a2_4 3 fk], [zArq T 3 a3_5 2 q1_8], [zArq T 4 a4_6 2 q2_9], [zArq T 5 a5_7 2 q3_10]] _ _ := G
  rcases h_1 with ⟨hno, hm2⟩ | ⟨hok, hnr⟩
  · have hnoG : ¬ pOkAt 1 at_ Gr := fun z9 => hno ((pOkAt_cg (at_ := at_) hGs).mp z9)
    refine lv_iload_n hx hb dX11_text_43 rfl (lv_at hl 1 rfl) ?_
    refine lv_bipush (v := (-2)) hx hb dX11_text_44 (by decide) ?_
    refine lv_icmp_ne (tgt := 52) hx hb dX11_text_46 (by decide) (fun q => absurd ((fa_eq r_2 ((-2) : Int32)).mpr (by show r_2.toInt = (-2 : Int); omega)) q) (fun _ => ?_)
    refine lv_bipush (v := (-2)) hx hb dX11_text_49 (by decide) ?_
    have hw_17 : bTold T t l0 l1 d0 d1 g0 g1 0 0 (-1) ft fk [zO8 t a1_3 0 0 (-1) a2_4 a3_5 a4_6 a5_7, zAr T 1 a1_3 600 ft, zAr T 0 a2_4 3 fk, zArq T 3 a3_5 2 q1_8, zArq T 4 a4_6 2 q2_9, zArq T 5 a5_7 2 q3_10] := ⟨a1_3, a2_4, a3_5, a4_6, a5_7, q1_8, q2_9, q3_10, rfl, h_11, h_12, h_13, h_14, h_15, h_16⟩
    have G : zS T A s.heap s [[zO10 xo t im mk rd po co tr wa wb_ fi cd], z0_, z1_, wd0_, wd1_, wg0_, wg1_, [zO7 rd rl rdd rg r0 r1 tq r2 r3 r4 r5 r6 r7 r8], z, wd, wg, wwA, wwB, wff, [zO8 t a1_3 0 0 (-1) a2_4 a3_5 a4_6 a5_7, zAr T 1 a1_3 600 ft, zAr T 0 a2_4 3 fk, zArq T 3 a3_5 2 q1_8, zArq T 4 a4_6 2 q2_9, zArq T 5 a5_7 2 q3_10]] _ _ := G.re rfl
    have G := G.sub (bs' := [[zO10 xo t im mk rd po co tr wa wb_ fi cd], [zO8 t a1_3 0 0 (-1) a2_4 a3_5 a4_6 a5_7, zAr T 1 a1_3 600 ft, zAr T 0 a2_4 3 fk, zArq T 3 a3_5 2 q1_8, zArq T 4 a4_6 2 q2_9, zArq T 5 a5_7 2 q3_10], z0_, z1_, wd0_, wd1_, wg0_, wg1_, [zO7 rd rl rdd rg r0 r1 tq r2 r3 r4 r5 r6 r7 r8], z, wd, wg, wwA, wwB, wff]) [0, 14, 1, 2, 3, 4, 5, 6, 7, 8, 9, 10, 11, 12, 13] rfl
    exact z_back hQ9 (z_iret C hr hlocks G (Nat.le_of_ble_eq_true rfl) (Nat.le_of_ble_eq_true rfl) dX11_text_51 ⟨0, 0, (-1), ft, fk, ([zO8 t a1_3 0 0 (-1) a2_4 a3_5 a4_6 a5_7, zAr T 1 a1_3 600 ft, zAr T 0 a2_4 3 fk, zArq T 3 a3_5 2 q1_8, zArq T 4 a4_6 2 q2_9, zArq T 5 a5_7 2 q3_10]), cr0_, inn0_, k10_, k20_, k30_, k40_, z0_, cr1_, inn1_, k11_, k21_, k31_, k41_, z1_, dd0_, p10_, p20_, p30_, wd0_, dd1_, p11_, p21_, p31_, wd1_, gg0_, q10_, q20_, wg0_, gg1_, q11_, q21_, wg1_, r0, r1, r2, r3, r4, r5, r6, r7, r8, tq, z, cr, inn, k1, k2, k3, k4, wd, dd, v1, v2, v3, wg, gg, e1, e2, wwA, wwB, wff, mdA, mdB, e0f, rfl, hw_17, (by first | with_reducible assumption | omega | trivial | assumption), hz0_, (by first | with_reducible assumption | omega | trivial | assumption), hz1_, (by first | with_reducible assumption | omega | trivial | assumption), hd0_, hd1_, hg0_, hg1_, hz, hd, hg, hwwA, hwwB, hwff, rfl, (by first | exact Or.inl ⟨rfl, rfl, rfl⟩ | exact Or.inr (Or.inl ⟨rfl, rfl, rfl⟩) | exact Or.inr (Or.inr ⟨rfl, rfl, rfl⟩)), ⟨pHd Gr 0 (-1), Or.inl ⟨hnoG, rfl, fun _ _ => rfl⟩, zTR_hd hT⟩⟩)
  · have hokG := (pOkAt_cg (at_ := at_) hGs).mpr hok
    have hrb : 0 ≤ r_2.toInt ∧ r_2.toInt ≤ 1 := by rw [hnr]; exact pNr_bd hok (hK 1 (by decide))
    have hnG : pNr 1 at_ Gr = r_2 := (pNr_cg hGs).trans hnr.symm
    refine lv_iload_n hx hb dX11_text_43 rfl (lv_at hl 1 rfl) ?_
    refine lv_bipush (v := (-2)) hx hb dX11_text_44 (by decide) ?_
    refine lv_icmp_ne (tgt := 52) hx hb dX11_text_46 (by decide) (fun _ => ?_) (fun q => absurd q (fun q2 => absurd (show r_2.toInt = (-2 : Int) from (fa_eq r_2 ((-2) : Int32)).mp q2) (by omega)))
    refine lv_aload_n hx hb dX11_text_52 rfl (lv_at hl 2 rfl) ?_
    refine z_get C G clX11 0 rfl 3 (by decide) m_fl_RX11_27 rfl dX11_text_53 ?_
    refine lv_aload_n hx hb dX11_text_56 rfl (lv_at hl 2 rfl) ?_
    refine z_get C G clX11 0 rfl 0 (by decide) m_fl_RX11_10 rfl dX11_text_57 ?_
    refine z_get C G clX9 14 rfl 0 (by decide) m_fl_RX11_91 rfl dX11_text_60 ?_
    refine lv_iload hx hb dX11_text_63 (lv_at hl 0 rfl) ?_
    refine lv_iload_n hx hb dX11_text_65 rfl (lv_at hl 3 rfl) ?_
    refine z_Vv (bc := [[zO7 rd rl rdd rg r0 r1 tq r2 r3 r4 r5 r6 r7 r8], [zAr T 1 a1_3 600 ft], z, wd, wg]) (br := [[zO10 xo t im mk rd po co tr wa wb_ fi cd], z0_, z1_, wd0_, wd1_, wg0_, wg1_, wwA, wwB, wff, [zO8 t a1_3 0 0 (-1) a2_4 a3_5 a4_6 a5_7], [zAr T 0 a2_4 3 fk], [zArq T 3 a3_5 2 q1_8], [zArq T 4 a4_6 2 q2_9], [zArq T 5 a5_7 2 q3_10]]) (As := [.ref a1_3, .int ln, .int 1]) (rest := []) C G (c_f_read1 l T rd rl rdd rg a1_3 r0 r1 r2 r3 r4 r5 r6 r7 r8 tq ft cr inn k1 k2 k3 k4 z dd v1 v2 v3 wd gg e1 e2 wg ln k N hz hd hg hN hN6 hk) (kV_RX11_95 C.2.2.2.2 (Nat.le_of_ble_eq_true rfl) (Nat.le_of_ble_eq_true rfl)) [7, 15, 8, 9, 10] [7, 0, 0, 0, 4] rfl rfl (ci := 7) (qc := (RX7, TX7, 13)) rfl rfl (List.mem_flatten.mpr ⟨_, List.mem_of_getElem? (i := 0) rfl, List.mem_cons_self⟩) rfl rfl hl.1 dX11_text_66 (Nat.le_of_ble_eq_true rfl) (Nat.le_of_ble_eq_true rfl) (fun b1 H locs hw G => ?_)
    refine zEx20 hw ?_
    intro u2_18 u0_19 u1_20 u3_21 u4_22 u5_23 u6_24 u7_25 u8_26 z2_27 j1_28 j2_29 j3_30 j4_31 wd2_32 dd2_33 b1_34 b2_35 b3_36 wg2_37
    refine zCu8 ?_
    intro hbs9 h_38 h_39 h_40 h_41 h_42 h_43 h_44
    clear hw
    subst hbs9
    have G : zS T A s.heap s [[zO10 xo t im mk rd po co tr wa wb_ fi cd], z0_, z1_, wd0_, wd1_, wg0_, wg1_, wwA, wwB, wff, [zO8 t a1_3 0 0 (-1) a2_4 a3_5 a4_6 a5_7], [zAr T 0 a2_4 3 fk], [zArq T 3 a3_5 2 q1_8], [zArq T 4 a4_6 2 q2_9], [zArq T 5 a5_7 2 q3_10], [zO7 rd rl rdd rg u0_19 u1_20 a1_3 u2_18 u3_21 u4_22 u5_23 u6_24 u7_25 u8_26], [zAr T 1 a1_3 600 ft], z2_27, wd2_32, wg2_37] _ _ := G
    have hu0i := congrArg Int32.toInt h_42
    refine lv_aload_n hx hb dX11_text_69 rfl (lv_at hl 2 rfl) ?_
    refine z_get C G clX11 0 rfl 0 (by decide) m_fl_RX11_10 rfl dX11_text_70 ?_
    refine lv_aload_n hx hb dX11_text_73 rfl (lv_at hl 2 rfl) ?_
    refine z_get C G clX11 0 rfl 3 (by decide) m_fl_RX11_27 rfl dX11_text_74 ?_
    refine z_get C G clX7 15 rfl 3 (by decide) m_fl_RX11_99 rfl dX11_text_77 ?_
    refine z_put C G clX9 10 rfl 2 (by decide) m_fl_RX11_85 rfl rfl rfl (Nat.le_of_ble_eq_true rfl) dX11_text_80 (fun H locs G => ?_)
    have G : zS T A s.heap s [[zO10 xo t im mk rd po co tr wa wb_ fi cd], z0_, z1_, wd0_, wd1_, wg0_, wg1_, wwA, wwB, wff, [zO8 t a1_3 0 u0_19 (-1) a2_4 a3_5 a4_6 a5_7], [zAr T 0 a2_4 3 fk], [zArq T 3 a3_5 2 q1_8], [zArq T 4 a4_6 2 q2_9], [zArq T 5 a5_7 2 q3_10], [zO7 rd rl rdd rg u0_19 u1_20 a1_3 u2_18 u3_21 u4_22 u5_23 u6_24 u7_25 u8_26], [zAr T 1 a1_3 600 ft], z2_27, wd2_32, wg2_37] _ _ := G
    refine lv_aload_n hx hb dX11_text_83 rfl (lv_at hl 2 rfl) ?_
    refine z_get C G clX11 0 rfl 0 (by decide) m_fl_RX11_10 rfl dX11_text_84 ?_
    refine lv_aload_n hx hb dX11_text_87 rfl (lv_at hl 2 rfl) ?_
    refine z_get C G clX11 0 rfl 3 (by decide) m_fl_RX11_27 rfl dX11_text_88 ?_
    refine z_get C G clX7 15 rfl 4 (by decide) m_fl_RX11_100 rfl dX11_text_91 ?_
    refine z_put C G clX9 10 rfl 3 (by decide) m_fl_RX11_88 rfl rfl rfl (Nat.le_of_ble_eq_true rfl) dX11_text_94 (fun H locs G => ?_)
    have G : zS T A s.heap s [[zO10 xo t im mk rd po co tr wa wb_ fi cd], z0_, z1_, wd0_, wd1_, wg0_, wg1_, wwA, wwB, wff, [zO8 t a1_3 0 u0_19 u1_20 a2_4 a3_5 a4_6 a5_7], [zAr T 0 a2_4 3 fk], [zArq T 3 a3_5 2 q1_8], [zArq T 4 a4_6 2 q2_9], [zArq T 5 a5_7 2 q3_10], [zO7 rd rl rdd rg u0_19 u1_20 a1_3 u2_18 u3_21 u4_22 u5_23 u6_24 u7_25 u8_26], [zAr T 1 a1_3 600 ft], z2_27, wd2_32, wg2_37] _ _ := G
    refine lv_aload_n hx hb dX11_text_97 rfl (lv_at hl 2 rfl) ?_
    refine z_get C G clX11 0 rfl 3 (by decide) m_fl_RX11_27 rfl dX11_text_98 ?_
    refine z_get C G clX7 15 rfl 3 (by decide) m_fl_RX11_99 rfl dX11_text_101 ?_
    refine lv_if_eq (tgt := 109) hx hb dX11_text_104 (by decide) (fun c_46 => ?_) (fun c_46 => ?_)
    · have c_46n : u0_19.toInt = (0 : Int) := (fa_eq _ _).mp c_46
      refine lv_aload_n hx hb dX11_text_109 rfl (lv_at hl 2 rfl) ?_
      refine z_get C G clX11 0 rfl 0 (by decide) m_fl_RX11_10 rfl dX11_text_110 ?_
      refine lv_iload_n hx hb dX11_text_113 rfl (lv_at hl 3 rfl) ?_
      refine lv_iload_n hx hb dX11_text_114 rfl (lv_at hl 1 rfl) ?_
      refine lv_aload_n hx hb dX11_text_115 rfl (lv_at hl 2 rfl) ?_
      refine z_get C G clX11 0 rfl 3 (by decide) m_fl_RX11_27 rfl dX11_text_116 ?_
      rcases (show r_2.toInt = 0 ∨ r_2.toInt = 1 from by omega) with hkk | hkk
      · obtain rfl : r_2 = 0 := Int32.toInt_inj.mp hkk
        have G := G.sub (bs' := [[zO10 xo t im mk rd po co tr wa wb_ fi cd], z0_, z1_, wd0_, wd1_, wg0_, wg1_, wwA, wwB, wff, [zO8 t a1_3 0 u0_19 u1_20 a2_4 a3_5 a4_6 a5_7], [zAr T 1 a1_3 600 ft], [zAr T 0 a2_4 3 fk], [zArq T 3 a3_5 2 q1_8], [zArq T 4 a4_6 2 q2_9], [zArq T 5 a5_7 2 q3_10], [zO7 rd rl rdd rg u0_19 u1_20 a1_3 u2_18 u3_21 u4_22 u5_23 u6_24 u7_25 u8_26], z2_27, wd2_32, wg2_37]) [0, 1, 2, 3, 4, 5, 6, 7, 8, 9, 10, 16, 11, 12, 13, 14, 15, 17, 18, 19] rfl
        have hw_47 : bTold T t l0 l1 d0 d1 g0 g1 0 u0_19 u1_20 ft fk [zO8 t a1_3 0 u0_19 u1_20 a2_4 a3_5 a4_6 a5_7, zAr T 1 a1_3 600 ft, zAr T 0 a2_4 3 fk, zArq T 3 a3_5 2 q1_8, zArq T 4 a4_6 2 q2_9, zArq T 5 a5_7 2 q3_10] := ⟨a1_3, a2_4, a3_5, a4_6, a5_7, q1_8, q2_9, q3_10, rfl, h_11, h_12, h_13, h_14, h_15, h_16⟩
        have G : zS T A s.heap s [[zO10 xo t im mk rd po co tr wa wb_ fi cd], z0_, z1_, wd0_, wd1_, wg0_, wg1_, wwA, wwB, wff, [zO8 t a1_3 0 u0_19 u1_20 a2_4 a3_5 a4_6 a5_7, zAr T 1 a1_3 600 ft, zAr T 0 a2_4 3 fk, zArq T 3 a3_5 2 q1_8, zArq T 4 a4_6 2 q2_9, zArq T 5 a5_7 2 q3_10], [zO7 rd rl rdd rg u0_19 u1_20 a1_3 u2_18 u3_21 u4_22 u5_23 u6_24 u7_25 u8_26], z2_27, wd2_32, wg2_37] _ _ := G.re rfl
        refine z_Vv (bc := [[zO8 t a1_3 0 u0_19 u1_20 a2_4 a3_5 a4_6 a5_7, zAr T 1 a1_3 600 ft, zAr T 0 a2_4 3 fk, zArq T 3 a3_5 2 q1_8, zArq T 4 a4_6 2 q2_9, zArq T 5 a5_7 2 q3_10], wd0_, [zO7 rd rl rdd rg u0_19 u1_20 a1_3 u2_18 u3_21 u4_22 u5_23 u6_24 u7_25 u8_26], wd2_32]) (br := [[zO10 xo t im mk rd po co tr wa wb_ fi cd], z0_, z1_, wd1_, wg0_, wg1_, wwA, wwB, wff, z2_27, wg2_37]) (As := [.int 1, .int 0, .ref rd]) (rest := []) C G (c_f_keep_10 l T t l0 l1 d0 d1 g0 g1 0 u0_19 u1_20 ft fk ([zO8 t a1_3 0 u0_19 u1_20 a2_4 a3_5 a4_6 a5_7, zAr T 1 a1_3 600 ft, zAr T 0 a2_4 3 fk, zArq T 3 a3_5 2 q1_8, zArq T 4 a4_6 2 q2_9, zArq T 5 a5_7 2 q3_10]) dd0_ p10_ p20_ p30_ wd0_ rd rl rdd rg a1_3 u0_19 u1_20 u2_18 u3_21 u4_22 u5_23 u6_24 u7_25 u8_26 dd2_33 b1_34 b2_35 b3_36 wd2_32 hw_47 (by first | with_reducible assumption | with_reducible rfl | omega | assumption | rfl) hd0_ h_40) (kV_RX11_101 C.2.2.2.2 (Nat.le_of_ble_eq_true rfl) (Nat.le_of_ble_eq_true rfl)) [10, 3, 11, 13] [3, 6, 0, 1] rfl rfl (ci := 8) (qc := (RX9, TX9, 8)) rfl rfl (List.mem_flatten.mpr ⟨_, List.mem_of_getElem? (i := 0) rfl, (bTold_mem hw_47).choose_spec⟩) rfl rfl hl.1 dX11_text_119 (Nat.le_of_ble_eq_true rfl) (Nat.le_of_ble_eq_true rfl) (fun b1 H locs hw G => ?_)
        refine zEx6 hw ?_
        intro wt2_48 fk2_49 w2__50 s1__51 s2__52 s3__53
        refine zCu8 ?_
        intro hbs9 h_54 h_55 h_56 h_57 h_58 h_59 h_60
        clear hw
        subst hbs9
        have G : zS T A s.heap s [[zO10 xo t im mk rd po co tr wa wb_ fi cd], z0_, z1_, wd1_, wg0_, wg1_, wwA, wwB, wff, z2_27, wg2_37, wt2_48, w2__50, [zO7 rd rl rdd rg u0_19 u1_20 a1_3 u2_18 u3_21 u4_22 u5_23 u6_24 u7_25 u8_26], wd2_32] _ _ := G
        refine lv_aload_n hx hb dX11_text_122 rfl (lv_at hl 2 rfl) ?_
        refine lv_iload_n hx hb dX11_text_123 rfl (lv_at hl 3 rfl) ?_
        refine lv_if_ne (tgt := 131) hx hb dX11_text_124 (by decide) (fun _ => ?_) (fun q => absurd q (by decide))
        refine lv_iconst (v := 0) hx hb dX11_text_131 (by decide) ?_
        refine z_Vv (bc := [[zO10 xo t im mk rd po co tr wa wb_ fi cd], wwA, wwB, wff]) (br := [z0_, z1_, wd1_, wg0_, wg1_, z2_27, wg2_37, wt2_48, w2__50, [zO7 rd rl rdd rg u0_19 u1_20 a1_3 u2_18 u3_21 u4_22 u5_23 u6_24 u7_25 u8_26], wd2_32]) (As := [.int 0]) (rest := []) C G (c_forget0 l T xo t im mk rd po co tr wa wb_ fi cd laA mdA wyA pc_A f1A f2A f3A f4A f5A f6A n4A wwA laB mdB wyB pc_B f1B f2B f3B f4B f5B f6B n4B wwB e0f e1f e2f e3f e4f e5f r1f m1f r2f wff hwwA hwwB hwff) (kV_RX11_105 C.2.2.2.2 (Nat.le_of_ble_eq_true rfl) (Nat.le_of_ble_eq_true rfl)) [0, 6, 7, 8] [0, 5, 0, 0] rfl rfl (ci := 10) (qc := (RX11, TX11, 11)) rfl rfl (List.mem_flatten.mpr ⟨_, List.mem_of_getElem? (i := 0) rfl, List.mem_cons_self⟩) rfl rfl hl.1 dX11_text_132 (Nat.le_of_ble_eq_true rfl) (Nat.le_of_ble_eq_true rfl) (fun b1 H locs hw G => ?_)
        refine zEx1 hw ?_
        intro wff_62
        refine zCu2 ?_
        intro hbs9 h_63
        clear hw
        subst hbs9
        have G : zS T A s.heap s [z0_, z1_, wd1_, wg0_, wg1_, z2_27, wg2_37, wt2_48, w2__50, [zO7 rd rl rdd rg u0_19 u1_20 a1_3 u2_18 u3_21 u4_22 u5_23 u6_24 u7_25 u8_26], wd2_32, [zO10 xo t im mk rd po co tr wa wb_ fi cd], wwA, wwB, wff_62] _ _ := G
        refine lv_iload_n hx hb dX11_text_135 rfl (lv_at hl 1 rfl) ?_
        have G := G.sub (bs' := [[zO10 xo t im mk rd po co tr wa wb_ fi cd], wt2_48, z0_, z1_, w2__50, wd1_, wg0_, wg1_, [zO7 rd rl rdd rg u0_19 u1_20 a1_3 u2_18 u3_21 u4_22 u5_23 u6_24 u7_25 u8_26], z2_27, wd2_32, wg2_37, wwA, wwB, wff_62]) [11, 7, 0, 1, 8, 2, 3, 4, 9, 5, 10, 6, 12, 13, 14] rfl
        exact z_back hQ9 (z_iret C hr hlocks G (Nat.le_of_ble_eq_true rfl) (Nat.le_of_ble_eq_true rfl) dX11_text_136 ⟨0, u0_19, u1_20, ft, fk2_49, wt2_48, cr0_, inn0_, k10_, k20_, k30_, k40_, z0_, cr1_, inn1_, k11_, k21_, k31_, k41_, z1_, dd2_33, s1__51, s2__52, s3__53, w2__50, dd1_, p11_, p21_, p31_, wd1_, gg0_, q10_, q20_, wg0_, gg1_, q11_, q21_, wg1_, u0_19, u1_20, u2_18, u3_21, u4_22, u5_23, u6_24, u7_25, u8_26, a1_3, z2_27, 0, 0, j1_28, j2_29, j3_30, j4_31, wd2_32, dd2_33, b1_34, b2_35, b3_36, wg2_37, 0, e1, e2, wwA, wwB, wff_62, mdA, mdB, 0, rfl, h_54, (by first | with_reducible assumption | omega | trivial | assumption), hz0_, (by first | with_reducible assumption | omega | trivial | assumption), hz1_, (by first | with_reducible assumption | omega | trivial | assumption), h_55, hd1_, hg0_, hg1_, h_38, h_40, h_41, hwwA, hwwB, h_63, rfl, (by first | exact Or.inl ⟨rfl, rfl, rfl⟩ | exact Or.inr (Or.inl ⟨rfl, rfl, rfl⟩) | exact Or.inr (Or.inr ⟨rfl, rfl, rfl⟩)), ⟨pPut 1 (pNr 1 at_ Gr).toInt.toNat (pRead k N 1).2 (pCnt 1 at_ (pHd Gr (pRead k N 1).1.2.2.1 (pRead k N 1).1.2.2.2.1)), Or.inr (Or.inr ⟨hokG, by omega, hnG.symm, fun _ _ => rfl⟩), by rw [show (pNr 1 at_ Gr).toInt.toNat = 0 by rw [hnG]; rfl, h_42, h_43]; exact zTR_p10 (zTR_hd hT) (zCnt (kk := 0) (K := 1) (fun j hj => (hTd.2.2.2.1 j hj).trans (pHd_lo hj).symm) (by decide) (by rw [pHd_lo (by decide), hGs]; exact hK 1 (by decide)) ((pOkAt_cg (pHd_lo (by decide))).mpr hokG) (by rw [pNr_cg (pHd_lo (by decide)), hnG]; rfl) rfl h_60) (pCnt_ge (by decide)) (zDyd_eq (zDyd_c h_44 (by omega)) h_57 h_58 h_59)⟩⟩)
      · obtain rfl : r_2 = 1 := Int32.toInt_inj.mp hkk
        have G := G.sub (bs' := [[zO10 xo t im mk rd po co tr wa wb_ fi cd], z0_, z1_, wd0_, wd1_, wg0_, wg1_, wwA, wwB, wff, [zO8 t a1_3 0 u0_19 u1_20 a2_4 a3_5 a4_6 a5_7], [zAr T 1 a1_3 600 ft], [zAr T 0 a2_4 3 fk], [zArq T 3 a3_5 2 q1_8], [zArq T 4 a4_6 2 q2_9], [zArq T 5 a5_7 2 q3_10], [zO7 rd rl rdd rg u0_19 u1_20 a1_3 u2_18 u3_21 u4_22 u5_23 u6_24 u7_25 u8_26], z2_27, wd2_32, wg2_37]) [0, 1, 2, 3, 4, 5, 6, 7, 8, 9, 10, 16, 11, 12, 13, 14, 15, 17, 18, 19] rfl
        have hw_65 : bTold T t l0 l1 d0 d1 g0 g1 0 u0_19 u1_20 ft fk [zO8 t a1_3 0 u0_19 u1_20 a2_4 a3_5 a4_6 a5_7, zAr T 1 a1_3 600 ft, zAr T 0 a2_4 3 fk, zArq T 3 a3_5 2 q1_8, zArq T 4 a4_6 2 q2_9, zArq T 5 a5_7 2 q3_10] := ⟨a1_3, a2_4, a3_5, a4_6, a5_7, q1_8, q2_9, q3_10, rfl, h_11, h_12, h_13, h_14, h_15, h_16⟩
        have G : zS T A s.heap s [[zO10 xo t im mk rd po co tr wa wb_ fi cd], z0_, z1_, wd0_, wd1_, wg0_, wg1_, wwA, wwB, wff, [zO8 t a1_3 0 u0_19 u1_20 a2_4 a3_5 a4_6 a5_7, zAr T 1 a1_3 600 ft, zAr T 0 a2_4 3 fk, zArq T 3 a3_5 2 q1_8, zArq T 4 a4_6 2 q2_9, zArq T 5 a5_7 2 q3_10], [zO7 rd rl rdd rg u0_19 u1_20 a1_3 u2_18 u3_21 u4_22 u5_23 u6_24 u7_25 u8_26], z2_27, wd2_32, wg2_37] _ _ := G.re rfl
        refine z_Vv (bc := [[zO8 t a1_3 0 u0_19 u1_20 a2_4 a3_5 a4_6 a5_7, zAr T 1 a1_3 600 ft, zAr T 0 a2_4 3 fk, zArq T 3 a3_5 2 q1_8, zArq T 4 a4_6 2 q2_9, zArq T 5 a5_7 2 q3_10], wd1_, [zO7 rd rl rdd rg u0_19 u1_20 a1_3 u2_18 u3_21 u4_22 u5_23 u6_24 u7_25 u8_26], wd2_32]) (br := [[zO10 xo t im mk rd po co tr wa wb_ fi cd], z0_, z1_, wd0_, wg0_, wg1_, wwA, wwB, wff, z2_27, wg2_37]) (As := [.int 1, .int 1, .ref rd]) (rest := []) C G (c_f_keep_11 l T t l0 l1 d0 d1 g0 g1 0 u0_19 u1_20 ft fk ([zO8 t a1_3 0 u0_19 u1_20 a2_4 a3_5 a4_6 a5_7, zAr T 1 a1_3 600 ft, zAr T 0 a2_4 3 fk, zArq T 3 a3_5 2 q1_8, zArq T 4 a4_6 2 q2_9, zArq T 5 a5_7 2 q3_10]) dd1_ p11_ p21_ p31_ wd1_ rd rl rdd rg a1_3 u0_19 u1_20 u2_18 u3_21 u4_22 u5_23 u6_24 u7_25 u8_26 dd2_33 b1_34 b2_35 b3_36 wd2_32 hw_65 (by first | with_reducible assumption | with_reducible rfl | omega | assumption | rfl) hd1_ h_40) (kV_RX11_101 C.2.2.2.2 (Nat.le_of_ble_eq_true rfl) (Nat.le_of_ble_eq_true rfl)) [10, 4, 11, 13] [4, 5, 0, 1] rfl rfl (ci := 8) (qc := (RX9, TX9, 8)) rfl rfl (List.mem_flatten.mpr ⟨_, List.mem_of_getElem? (i := 0) rfl, (bTold_mem hw_65).choose_spec⟩) rfl rfl hl.1 dX11_text_119 (Nat.le_of_ble_eq_true rfl) (Nat.le_of_ble_eq_true rfl) (fun b1 H locs hw G => ?_)
        refine zEx6 hw ?_
        intro wt2_66 fk2_67 w2__68 s1__69 s2__70 s3__71
        refine zCu8 ?_
        intro hbs9 h_72 h_73 h_74 h_75 h_76 h_77 h_78
        clear hw
        subst hbs9
        have G : zS T A s.heap s [[zO10 xo t im mk rd po co tr wa wb_ fi cd], z0_, z1_, wd0_, wg0_, wg1_, wwA, wwB, wff, z2_27, wg2_37, wt2_66, w2__68, [zO7 rd rl rdd rg u0_19 u1_20 a1_3 u2_18 u3_21 u4_22 u5_23 u6_24 u7_25 u8_26], wd2_32] _ _ := G
        refine lv_aload_n hx hb dX11_text_122 rfl (lv_at hl 2 rfl) ?_
        refine lv_iload_n hx hb dX11_text_123 rfl (lv_at hl 3 rfl) ?_
        refine lv_if_ne (tgt := 131) hx hb dX11_text_124 (by decide) (fun _ => ?_) (fun q => absurd q (by decide))
        refine lv_iconst (v := 0) hx hb dX11_text_131 (by decide) ?_
        refine z_Vv (bc := [[zO10 xo t im mk rd po co tr wa wb_ fi cd], wwA, wwB, wff]) (br := [z0_, z1_, wd0_, wg0_, wg1_, z2_27, wg2_37, wt2_66, w2__68, [zO7 rd rl rdd rg u0_19 u1_20 a1_3 u2_18 u3_21 u4_22 u5_23 u6_24 u7_25 u8_26], wd2_32]) (As := [.int 0]) (rest := []) C G (c_forget0 l T xo t im mk rd po co tr wa wb_ fi cd laA mdA wyA pc_A f1A f2A f3A f4A f5A f6A n4A wwA laB mdB wyB pc_B f1B f2B f3B f4B f5B f6B n4B wwB e0f e1f e2f e3f e4f e5f r1f m1f r2f wff hwwA hwwB hwff) (kV_RX11_105 C.2.2.2.2 (Nat.le_of_ble_eq_true rfl) (Nat.le_of_ble_eq_true rfl)) [0, 6, 7, 8] [0, 5, 0, 0] rfl rfl (ci := 10) (qc := (RX11, TX11, 11)) rfl rfl (List.mem_flatten.mpr ⟨_, List.mem_of_getElem? (i := 0) rfl, List.mem_cons_self⟩) rfl rfl hl.1 dX11_text_132 (Nat.le_of_ble_eq_true rfl) (Nat.le_of_ble_eq_true rfl) (fun b1 H locs hw G => ?_)
        refine zEx1 hw ?_
        intro wff_80
        refine zCu2 ?_
        intro hbs9 h_81
        clear hw
        subst hbs9
        have G : zS T A s.heap s [z0_, z1_, wd0_, wg0_, wg1_, z2_27, wg2_37, wt2_66, w2__68, [zO7 rd rl rdd rg u0_19 u1_20 a1_3 u2_18 u3_21 u4_22 u5_23 u6_24 u7_25 u8_26], wd2_32, [zO10 xo t im mk rd po co tr wa wb_ fi cd], wwA, wwB, wff_80] _ _ := G
        refine lv_iload_n hx hb dX11_text_135 rfl (lv_at hl 1 rfl) ?_
        have G := G.sub (bs' := [[zO10 xo t im mk rd po co tr wa wb_ fi cd], wt2_66, z0_, z1_, wd0_, w2__68, wg0_, wg1_, [zO7 rd rl rdd rg u0_19 u1_20 a1_3 u2_18 u3_21 u4_22 u5_23 u6_24 u7_25 u8_26], z2_27, wd2_32, wg2_37, wwA, wwB, wff_80]) [11, 7, 0, 1, 2, 8, 3, 4, 9, 5, 10, 6, 12, 13, 14] rfl
        exact z_back hQ9 (z_iret C hr hlocks G (Nat.le_of_ble_eq_true rfl) (Nat.le_of_ble_eq_true rfl) dX11_text_136 ⟨0, u0_19, u1_20, ft, fk2_67, wt2_66, cr0_, inn0_, k10_, k20_, k30_, k40_, z0_, cr1_, inn1_, k11_, k21_, k31_, k41_, z1_, dd0_, p10_, p20_, p30_, wd0_, dd2_33, s1__69, s2__70, s3__71, w2__68, gg0_, q10_, q20_, wg0_, gg1_, q11_, q21_, wg1_, u0_19, u1_20, u2_18, u3_21, u4_22, u5_23, u6_24, u7_25, u8_26, a1_3, z2_27, 0, 0, j1_28, j2_29, j3_30, j4_31, wd2_32, dd2_33, b1_34, b2_35, b3_36, wg2_37, 0, e1, e2, wwA, wwB, wff_80, mdA, mdB, 0, rfl, h_72, (by first | with_reducible assumption | omega | trivial | assumption), hz0_, (by first | with_reducible assumption | omega | trivial | assumption), hz1_, (by first | with_reducible assumption | omega | trivial | assumption), hd0_, h_73, hg0_, hg1_, h_38, h_40, h_41, hwwA, hwwB, h_81, rfl, (by first | exact Or.inl ⟨rfl, rfl, rfl⟩ | exact Or.inr (Or.inl ⟨rfl, rfl, rfl⟩) | exact Or.inr (Or.inr ⟨rfl, rfl, rfl⟩)), ⟨pPut 1 (pNr 1 at_ Gr).toInt.toNat (pRead k N 1).2 (pCnt 1 at_ (pHd Gr (pRead k N 1).1.2.2.1 (pRead k N 1).1.2.2.2.1)), Or.inr (Or.inr ⟨hokG, by omega, hnG.symm, fun _ _ => rfl⟩), by rw [show (pNr 1 at_ Gr).toInt.toNat = 1 by rw [hnG]; rfl, h_42, h_43]; exact zTR_p11 (zTR_hd hT) (zCnt (kk := 1) (K := 2) (fun j hj => (hTd.2.2.2.1 j hj).trans (pHd_lo hj).symm) (by decide) (by rw [pHd_lo (by decide), hGs]; exact hK 1 (by decide)) ((pOkAt_cg (pHd_lo (by decide))).mpr hokG) (by rw [pNr_cg (pHd_lo (by decide)), hnG]; rfl) rfl h_78) (pCnt_ge (by decide)) (zDyd_eq (zDyd_c h_44 (by omega)) h_75 h_76 h_77)⟩⟩)
    · have c_46n : ¬ u0_19.toInt = (0 : Int) := fun q => c_46 ((fa_eq _ _).mpr q)
      refine lv_iconst (v := (-1)) hx hb dX11_text_107 (by decide) ?_
      have G := G.sub (bs' := [[zO10 xo t im mk rd po co tr wa wb_ fi cd], z0_, z1_, wd0_, wd1_, wg0_, wg1_, wwA, wwB, wff, [zO8 t a1_3 0 u0_19 u1_20 a2_4 a3_5 a4_6 a5_7], [zAr T 1 a1_3 600 ft], [zAr T 0 a2_4 3 fk], [zArq T 3 a3_5 2 q1_8], [zArq T 4 a4_6 2 q2_9], [zArq T 5 a5_7 2 q3_10], [zO7 rd rl rdd rg u0_19 u1_20 a1_3 u2_18 u3_21 u4_22 u5_23 u6_24 u7_25 u8_26], z2_27, wd2_32, wg2_37]) [0, 1, 2, 3, 4, 5, 6, 7, 8, 9, 10, 16, 11, 12, 13, 14, 15, 17, 18, 19] rfl
      have hw_83 : bTold T t l0 l1 d0 d1 g0 g1 0 u0_19 u1_20 ft fk [zO8 t a1_3 0 u0_19 u1_20 a2_4 a3_5 a4_6 a5_7, zAr T 1 a1_3 600 ft, zAr T 0 a2_4 3 fk, zArq T 3 a3_5 2 q1_8, zArq T 4 a4_6 2 q2_9, zArq T 5 a5_7 2 q3_10] := ⟨a1_3, a2_4, a3_5, a4_6, a5_7, q1_8, q2_9, q3_10, rfl, h_11, h_12, h_13, h_14, h_15, h_16⟩
      have G : zS T A s.heap s [[zO10 xo t im mk rd po co tr wa wb_ fi cd], z0_, z1_, wd0_, wd1_, wg0_, wg1_, wwA, wwB, wff, [zO8 t a1_3 0 u0_19 u1_20 a2_4 a3_5 a4_6 a5_7, zAr T 1 a1_3 600 ft, zAr T 0 a2_4 3 fk, zArq T 3 a3_5 2 q1_8, zArq T 4 a4_6 2 q2_9, zArq T 5 a5_7 2 q3_10], [zO7 rd rl rdd rg u0_19 u1_20 a1_3 u2_18 u3_21 u4_22 u5_23 u6_24 u7_25 u8_26], z2_27, wd2_32, wg2_37] _ _ := G.re rfl
      have G := G.sub (bs' := [[zO10 xo t im mk rd po co tr wa wb_ fi cd], [zO8 t a1_3 0 u0_19 u1_20 a2_4 a3_5 a4_6 a5_7, zAr T 1 a1_3 600 ft, zAr T 0 a2_4 3 fk, zArq T 3 a3_5 2 q1_8, zArq T 4 a4_6 2 q2_9, zArq T 5 a5_7 2 q3_10], z0_, z1_, wd0_, wd1_, wg0_, wg1_, [zO7 rd rl rdd rg u0_19 u1_20 a1_3 u2_18 u3_21 u4_22 u5_23 u6_24 u7_25 u8_26], z2_27, wd2_32, wg2_37, wwA, wwB, wff]) [0, 10, 1, 2, 3, 4, 5, 6, 11, 12, 13, 14, 7, 8, 9] rfl
      exact z_back hQ9 (z_iret C hr hlocks G (Nat.le_of_ble_eq_true rfl) (Nat.le_of_ble_eq_true rfl) dX11_text_108 ⟨0, u0_19, u1_20, ft, fk, ([zO8 t a1_3 0 u0_19 u1_20 a2_4 a3_5 a4_6 a5_7, zAr T 1 a1_3 600 ft, zAr T 0 a2_4 3 fk, zArq T 3 a3_5 2 q1_8, zArq T 4 a4_6 2 q2_9, zArq T 5 a5_7 2 q3_10]), cr0_, inn0_, k10_, k20_, k30_, k40_, z0_, cr1_, inn1_, k11_, k21_, k31_, k41_, z1_, dd0_, p10_, p20_, p30_, wd0_, dd1_, p11_, p21_, p31_, wd1_, gg0_, q10_, q20_, wg0_, gg1_, q11_, q21_, wg1_, u0_19, u1_20, u2_18, u3_21, u4_22, u5_23, u6_24, u7_25, u8_26, a1_3, z2_27, 0, 0, j1_28, j2_29, j3_30, j4_31, wd2_32, dd2_33, b1_34, b2_35, b3_36, wg2_37, 0, e1, e2, wwA, wwB, wff, mdA, mdB, e0f, rfl, hw_83, (by first | with_reducible assumption | omega | trivial | assumption), hz0_, (by first | with_reducible assumption | omega | trivial | assumption), hz1_, (by first | with_reducible assumption | omega | trivial | assumption), hd0_, hd1_, hg0_, hg1_, h_38, h_40, h_41, hwwA, hwwB, hwff, rfl, (by first | exact Or.inl ⟨rfl, rfl, rfl⟩ | exact Or.inr (Or.inl ⟨rfl, rfl, rfl⟩) | exact Or.inr (Or.inr ⟨rfl, rfl, rfl⟩)), ⟨pHd Gr (pRead k N 1).1.2.2.1 (pRead k N 1).1.2.2.2.1, Or.inr (Or.inl ⟨hokG, by omega, rfl, fun _ _ => rfl⟩), by rw [h_42, h_43]; exact zTR_hd hT⟩⟩)
set_option maxHeartbeats 4000000 in
set_option maxRecDepth 100000 in
/-- c_f_text2 -/
theorem c_f_text2 (l : Launch) (T : zTy) (xo : Nat) (t : Nat) (im : Nat) (mk : Nat) (rd : Nat) (po : Nat) (co : Nat) (tr : Nat) (wa : Nat) (wb_ : Nat) (fi : Nat) (cd : Nat) (l0 : Nat) (l1 : Nat) (d0 : Nat) (d1 : Nat) (g0 : Nat) (g1 : Nat) (ln : Int32) (fl : Int32) (pl : Int32) (ft : Nat → Int32) (fk : Nat → Int32) (wt : va_W) (cr0_ : Int32) (inn0_ : Int32) (k10_ : Nat → Int32) (k20_ : Nat → Int32) (k30_ : Nat → Int32) (k40_ : Nat → Int32) (z0_ : va_W) (cr1_ : Int32) (inn1_ : Int32) (k11_ : Nat → Int32) (k21_ : Nat → Int32) (k31_ : Nat → Int32) (k41_ : Nat → Int32) (z1_ : va_W) (dd0_ : Int32) (p10_ : Nat → Int32) (p20_ : Nat → Int32) (p30_ : Nat → Int32) (wd0_ : va_W) (dd1_ : Int32) (p11_ : Nat → Int32) (p21_ : Nat → Int32) (p31_ : Nat → Int32) (wd1_ : va_W) (gg0_ : Int32) (q10_ : Nat → Int32) (q20_ : Nat → Int32) (wg0_ : va_W) (gg1_ : Int32) (q11_ : Nat → Int32) (q21_ : Nat → Int32) (wg1_ : va_W) (rl : Nat) (rdd : Nat) (rg : Nat) (r0 : Int32) (r1 : Int32) (r2 : Int32) (r3 : Int32) (r4 : Int32) (r5 : Int32) (r6 : Int32) (r7 : Int32) (r8 : Int32) (tq : Nat) (cr : Int32) (inn : Int32) (k1 : Nat → Int32) (k2 : Nat → Int32) (k3 : Nat → Int32) (k4 : Nat → Int32) (z : va_W) (dd : Int32) (v1 : Nat → Int32) (v2 : Nat → Int32) (v3 : Nat → Int32) (wd : va_W) (gg : Int32) (e1 : Nat → Int32) (e2 : Nat → Int32) (wg : va_W) (laA : Nat) (mdA : Int32) (wyA : Int32) (pc_A : Int32) (f1A : Nat → Int32) (f2A : Nat → Int32) (f3A : Nat → Int32) (f4A : Nat → Int32) (f5A : Nat → Int32) (f6A : Nat → Int32) (n4A : Nat) (wwA : va_W) (laB : Nat) (mdB : Int32) (wyB : Int32) (pc_B : Int32) (f1B : Nat → Int32) (f2B : Nat → Int32) (f3B : Nat → Int32) (f4B : Nat → Int32) (f5B : Nat → Int32) (f6B : Nat → Int32) (n4B : Nat) (wwB : va_W) (e0f : Int32) (e1f : Int32) (e2f : Int32) (e3f : Int32) (e4f : Int32) (e5f : Int32) (r1f : Nat → Int32) (m1f : Nat) (r2f : Nat → Int32) (wff : va_W) (k : pT) (N : Nat) (Gr : Nat → Int32) (at_ : Int32) (ht : bTold T t l0 l1 d0 d1 g0 g1 ln fl pl ft fk wt) (hK : zKT fk) (hz0_ : bLand T l0 cr0_ inn0_ k10_ k20_ k30_ k40_ z0_) (hI0_ : zLI cr0_ k10_ k30_) (hz1_ : bLand T l1 cr1_ inn1_ k11_ k21_ k31_ k41_ z1_) (hI1_ : zLI cr1_ k11_ k31_) (hd0_ : bDay T d0 dd0_ p10_ p20_ p30_ wd0_) (hd1_ : bDay T d1 dd1_ p11_ p21_ p31_ wd1_) (hg0_ : bLog T g0 gg0_ q10_ q20_ wg0_) (hg1_ : bLog T g1 gg1_ q11_ q21_ wg1_) (hz : bLand T rl cr inn k1 k2 k3 k4 z) (hd : bDay T rdd dd v1 v2 v3 wd) (hg : bLog T rg gg e1 e2 wg) (hwwA : bWays T wa laA mdA wyA pc_A f1A f2A f3A f4A f5A f6A n4A wwA) (hwwB : bWays T wb_ laB mdB wyB pc_B f1B f2B f3B f4B f5B f6B n4B wwB) (hwff : bFit T fi e0f e1f e2f e3f e4f e5f r1f m1f r2f wff) (hT : zTR ln fl pl ft fk cr0_ inn0_ k10_ k20_ k30_ k40_ cr1_ inn1_ k11_ k21_ k31_ k41_ dd0_ p10_ p20_ p30_ dd1_ p11_ p21_ p31_ gg0_ q10_ q20_ gg1_ q11_ q21_ Gr) (hN : ln = nI N) (hN6 : N ≤ 600) (hk : k = tkT ft N) : zMi l T yX11_text cX11_text 5 (some .int) 9 0 0 [.ref xo, .int 2, .int at_] [[zO10 xo t im mk rd po co tr wa wb_ fi cd], wt, z0_, z1_, wd0_, wd1_, wg0_, wg1_, [zO7 rd rl rdd rg r0 r1 tq r2 r3 r4 r5 r6 r7 r8], z, wd, wg, wwA, wwB, wff] (fun (r : Int32) bs => ∃ (ln_2 : Int32) (fl_2 : Int32) (pl_2 : Int32) (ft_2 : Nat → Int32) (fk_2 : Nat → Int32) (wt_2 : va_W) (cr0__2 : Int32) (inn0__2 : Int32) (k10__2 : Nat → Int32) (k20__2 : Nat → Int32) (k30__2 : Nat → Int32) (k40__2 : Nat → Int32) (z0__2 : va_W) (cr1__2 : Int32) (inn1__2 : Int32) (k11__2 : Nat → Int32) (k21__2 : Nat → Int32) (k31__2 : Nat → Int32) (k41__2 : Nat → Int32) (z1__2 : va_W) (dd0__2 : Int32) (p10__2 : Nat → Int32) (p20__2 : Nat → Int32) (p30__2 : Nat → Int32) (wd0__2 : va_W) (dd1__2 : Int32) (p11__2 : Nat → Int32) (p21__2 : Nat → Int32) (p31__2 : Nat → Int32) (wd1__2 : va_W) (gg0__2 : Int32) (q10__2 : Nat → Int32) (q20__2 : Nat → Int32) (wg0__2 : va_W) (gg1__2 : Int32) (q11__2 : Nat → Int32) (q21__2 : Nat → Int32) (wg1__2 : va_W) (s0 : Int32) (s1 : Int32) (s2 : Int32) (s3 : Int32) (s4 : Int32) (s5 : Int32) (s6 : Int32) (s7 : Int32) (s8 : Int32) (tq_2 : Nat) (z2 : va_W) (c2 : Int32) (i2_ : Int32) (j1 : Nat → Int32) (j2 : Nat → Int32) (j3 : Nat → Int32) (j4 : Nat → Int32) (wd2 : va_W) (dd2 : Int32) (b1 : Nat → Int32) (b2 : Nat → Int32) (b3 : Nat → Int32) (wg2 : va_W) (gg2 : Int32) (b4 : Nat → Int32) (b5 : Nat → Int32) (wwA_2 : va_W) (wwB_2 : va_W) (wff_2 : va_W) (mdA_2 : Int32) (mdB_2 : Int32) (e0f_2 : Int32), bs = [[zO10 xo t im mk rd po co tr wa wb_ fi cd], wt_2, z0__2, z1__2, wd0__2, wd1__2, wg0__2, wg1__2, [zO7 rd rl rdd rg s0 s1 tq_2 s2 s3 s4 s5 s6 s7 s8], z2, wd2, wg2, wwA_2, wwB_2, wff_2] ∧ bTold T t l0 l1 d0 d1 g0 g1 ln_2 fl_2 pl_2 ft_2 fk_2 wt_2 ∧ zKT fk_2 ∧ bLand T l0 cr0__2 inn0__2 k10__2 k20__2 k30__2 k40__2 z0__2 ∧ zLI cr0__2 k10__2 k30__2 ∧ bLand T l1 cr1__2 inn1__2 k11__2 k21__2 k31__2 k41__2 z1__2 ∧ zLI cr1__2 k11__2 k31__2 ∧ bDay T d0 dd0__2 p10__2 p20__2 p30__2 wd0__2 ∧ bDay T d1 dd1__2 p11__2 p21__2 p31__2 wd1__2 ∧ bLog T g0 gg0__2 q10__2 q20__2 wg0__2 ∧ bLog T g1 gg1__2 q11__2 q21__2 wg1__2 ∧ bLand T rl c2 i2_ j1 j2 j3 j4 z2 ∧ bDay T rdd dd2 b1 b2 b3 wd2 ∧ bLog T rg gg2 b4 b5 wg2 ∧ bWays T wa laA mdA_2 wyA pc_A f1A f2A f3A f4A f5A f6A n4A wwA_2 ∧ bWays T wb_ laB mdB_2 wyB pc_B f1B f2B f3B f4B f5B f6B n4B wwB_2 ∧ bFit T fi e0f_2 e1f e2f e3f e4f e5f r1f m1f r2f wff_2 ∧ ln_2 = 0 ∧ (mdA_2 = 0 ∧ mdB_2 = 0 ∧ e0f_2 = 0 ∨ mdA_2 = mdA ∧ mdB_2 = mdB ∧ e0f_2 = 0 ∨ mdA_2 = mdA ∧ mdB_2 = mdB ∧ e0f_2 = e0f) ∧ (∃ G2, zText (pRead k N 2) 2 at_ Gr G2 r ∧ zTR ln_2 fl_2 pl_2 ft_2 fk_2 cr0__2 inn0__2 k10__2 k20__2 k30__2 k40__2 cr1__2 inn1__2 k11__2 k21__2 k31__2 k41__2 dd0__2 p10__2 p20__2 p30__2 dd1__2 p11__2 p21__2 p31__2 gg0__2 q10__2 q20__2 gg1__2 q11__2 q21__2 G2)) := by
  refine zMi_of (own := RX11) (by decide) rfl (Nat.le_of_ble_eq_true rfl) ?_
  intro p e s m args below meth c A ls C hr hlocks hnm hAe G hl
  refine zHide (fun Q9 hQ9 => ?_)
  have hx := C.1
  have hb := C.2.1
  have hl : lv_has ls 5 [(0, .ref xo), (1, .int 2), (2, .int at_)] := hl
  refine lv_aload_n hx hb dX11_text_0 rfl (lv_at hl 0 rfl) ?_
  refine z_get C G clX11 0 rfl 0 (by decide) m_fl_RX11_10 rfl dX11_text_1 ?_
  refine lv_iload_n hx hb dX11_text_4 rfl (lv_at hl 1 rfl) ?_
  refine lv_iload_n hx hb dX11_text_5 rfl (lv_at hl 2 rfl) ?_
  refine z_Vi (bc := [wt]) (br := [[zO10 xo t im mk rd po co tr wa wb_ fi cd], z0_, z1_, wd0_, wd1_, wg0_, wg1_, [zO7 rd rl rdd rg r0 r1 tq r2 r3 r4 r5 r6 r7 r8], z, wd, wg, wwA, wwB, wff]) (As := [.int 2, .int at_]) (rest := []) C G (c_f_placeFor2 l T t l0 l1 d0 d1 g0 g1 ln fl pl ft fk wt at_ ht) (kV_RX11_81 C.2.2.2.2 (Nat.le_of_ble_eq_true rfl) (Nat.le_of_ble_eq_true rfl)) [1] [1] rfl rfl (ci := 8) (qc := (RX9, TX9, 8)) rfl rfl (List.mem_flatten.mpr ⟨_, List.mem_of_getElem? (i := 0) rfl, (bTold_mem ht).choose_spec⟩) rfl rfl hl.1 dX11_text_6 (Nat.le_of_ble_eq_true rfl) (Nat.le_of_ble_eq_true rfl) (fun r_2 b1 H locs hw G => ?_)
  refine zAn2 hw ?_
  intro hbs9 h_1
  clear hw
  subst hbs9
  have G : zS T A s.heap s [[zO10 xo t im mk rd po co tr wa wb_ fi cd], z0_, z1_, wd0_, wd1_, wg0_, wg1_, [zO7 rd rl rdd rg r0 r1 tq r2 r3 r4 r5 r6 r7 r8], z, wd, wg, wwA, wwB, wff, wt] _ _ := G
  have hTd := hT.1
  have hGs : Gr 2 = fk 2 := (hTd.2.2.2.1 2 (by decide)).symm
  refine lv_istore_n (lv' := [(3, .int r_2), (0, .ref xo), (1, .int 2), (2, .int at_)]) hx hb dX11_text_9 rfl hl (by decide) rfl (fun ls hl => ?_)
  refine lv_aload_n hx hb dX11_text_10 rfl (lv_at hl 1 rfl) ?_
  refine z_get C G clX11 0 rfl 0 (by decide) m_fl_RX11_10 rfl dX11_text_11 ?_
  refine zEx8 ht ?_
  intro a1_3 a2_4 a3_5 a4_6 a5_7 q1_8 q2_9 q3_10
  refine zCu7 ?_
  intro hbs9 h_11 h_12 h_13 h_14 h_15 h_16
  clear ht
  subst hbs9
  have G : zS T A s.heap s [[zO10 xo t im mk rd po co tr wa wb_ fi cd], z0_, z1_, wd0_, wd1_, wg0_, wg1_, [zO7 rd rl rdd rg r0 r1 tq r2 r3 r4 r5 r6 r7 r8], z, wd, wg, wwA, wwB, wff, [zO8 t a1_3 ln fl pl a2_4 a3_5 a4_6 a5_7], [zAr T 1 a1_3 600 ft], [zAr T 0 a2_4 3 fk], [zArq T 3 a3_5 2 q1_8], [zArq T 4 a4_6 2 q2_9], [zArq T 5 a5_7 2 q3_10]] _ _ := G.re rfl
  refine z_get C G clX9 14 rfl 1 (by decide) m_fl_RX11_73 rfl dX11_text_14 ?_
  refine lv_istore (lv' := [(4, .int ln), (3, .int r_2), (0, .ref xo), (1, .int 2), (2, .int at_)]) hx hb dX11_text_17 hl (by decide) rfl (fun ls hl => ?_)
  refine lv_aload_n hx hb dX11_text_19 rfl (lv_at hl 2 rfl) ?_
  refine z_get C G clX11 0 rfl 0 (by decide) m_fl_RX11_10 rfl dX11_text_20 ?_
  refine lv_iconst (v := 0) hx hb dX11_text_23 (by decide) ?_
  refine z_put C G clX9 14 rfl 1 (by decide) m_fl_RX11_73 rfl rfl rfl (Nat.le_of_ble_eq_true rfl) dX11_text_24 (fun H locs G => ?_)
  have G : zS T A s.heap s [[zO10 xo t im mk rd po co tr wa wb_ fi cd], z0_, z1_, wd0_, wd1_, wg0_, wg1_, [zO7 rd rl rdd rg r0 r1 tq r2 r3 r4 r5 r6 r7 r8], z, wd, wg, wwA, wwB, wff, [zO8 t a1_3 0 fl pl a2_4 a3_5 a4_6 a5_7], [zAr T 1 a1_3 600 ft], [zAr T 0 a2_4 3 fk], [zArq T 3 a3_5 2 q1_8], [zArq T 4 a4_6 2 q2_9], [zArq T 5 a5_7 2 q3_10]] _ _ := G
  refine lv_aload_n hx hb dX11_text_27 rfl (lv_at hl 2 rfl) ?_
  refine z_get C G clX11 0 rfl 0 (by decide) m_fl_RX11_10 rfl dX11_text_28 ?_
  refine lv_iconst (v := 0) hx hb dX11_text_31 (by decide) ?_
  refine z_put C G clX9 14 rfl 2 (by decide) m_fl_RX11_85 rfl rfl rfl (Nat.le_of_ble_eq_true rfl) dX11_text_32 (fun H locs G => ?_)
  have G : zS T A s.heap s [[zO10 xo t im mk rd po co tr wa wb_ fi cd], z0_, z1_, wd0_, wd1_, wg0_, wg1_, [zO7 rd rl rdd rg r0 r1 tq r2 r3 r4 r5 r6 r7 r8], z, wd, wg, wwA, wwB, wff, [zO8 t a1_3 0 0 pl a2_4 a3_5 a4_6 a5_7], [zAr T 1 a1_3 600 ft], [zAr T 0 a2_4 3 fk], [zArq T 3 a3_5 2 q1_8], [zArq T 4 a4_6 2 q2_9], [zArq T 5 a5_7 2 q3_10]] _ _ := G
  refine lv_aload_n hx hb dX11_text_35 rfl (lv_at hl 2 rfl) ?_
  refine z_get C G clX11 0 rfl 0 (by decide) m_fl_RX11_10 rfl dX11_text_36 ?_
  refine lv_iconst (v := (-1)) hx hb dX11_text_39 (by decide) ?_
  refine z_put C G clX9 14 rfl 3 (by decide) m_fl_RX11_88 rfl rfl rfl (Nat.le_of_ble_eq_true rfl) dX11_text_40 (fun H locs G => ?_)
  have G : zS T A s.heap s [[zO10 xo t im mk rd po co tr wa wb_ fi cd], z0_, z1_, wd0_, wd1_, wg0_, wg1_, [zO7 rd rl rdd rg r0 r1 tq r2 r3 r4 r5 r6 r7 r8], z, wd, wg, wwA, wwB, wff, [zO8 t a1_3 0 0 (-1) a2_4 a3_5 a4_6 a5_7], [zAr T 1 a1_3 600 ft], [zAr T 0 a2_4 3 fk], [zArq T 3 a3_5 2 q1_8], [zArq T 4 a4_6 2 q2_9], [zArq T 5 a5_7 2 q3_10]] _ _ := G
  rcases h_1 with ⟨hno, hm2⟩ | ⟨hok, hnr⟩
  · have hnoG : ¬ pOkAt 2 at_ Gr := fun z9 => hno ((pOkAt_cg (at_ := at_) hGs).mp z9)
    refine lv_iload_n hx hb dX11_text_43 rfl (lv_at hl 1 rfl) ?_
    refine lv_bipush (v := (-2)) hx hb dX11_text_44 (by decide) ?_
    refine lv_icmp_ne (tgt := 52) hx hb dX11_text_46 (by decide) (fun q => absurd ((fa_eq r_2 ((-2) : Int32)).mpr (by show r_2.toInt = (-2 : Int); omega)) q) (fun _ => ?_)
    refine lv_bipush (v := (-2)) hx hb dX11_text_49 (by decide) ?_
    have hw_17 : bTold T t l0 l1 d0 d1 g0 g1 0 0 (-1) ft fk [zO8 t a1_3 0 0 (-1) a2_4 a3_5 a4_6 a5_7, zAr T 1 a1_3 600 ft, zAr T 0 a2_4 3 fk, zArq T 3 a3_5 2 q1_8, zArq T 4 a4_6 2 q2_9, zArq T 5 a5_7 2 q3_10] := ⟨a1_3, a2_4, a3_5, a4_6, a5_7, q1_8, q2_9, q3_10, rfl, h_11, h_12, h_13, h_14, h_15, h_16⟩
    have G : zS T A s.heap s [[zO10 xo t im mk rd po co tr wa wb_ fi cd], z0_, z1_, wd0_, wd1_, wg0_, wg1_, [zO7 rd rl rdd rg r0 r1 tq r2 r3 r4 r5 r6 r7 r8], z, wd, wg, wwA, wwB, wff, [zO8 t a1_3 0 0 (-1) a2_4 a3_5 a4_6 a5_7, zAr T 1 a1_3 600 ft, zAr T 0 a2_4 3 fk, zArq T 3 a3_5 2 q1_8, zArq T 4 a4_6 2 q2_9, zArq T 5 a5_7 2 q3_10]] _ _ := G.re rfl
    have G := G.sub (bs' := [[zO10 xo t im mk rd po co tr wa wb_ fi cd], [zO8 t a1_3 0 0 (-1) a2_4 a3_5 a4_6 a5_7, zAr T 1 a1_3 600 ft, zAr T 0 a2_4 3 fk, zArq T 3 a3_5 2 q1_8, zArq T 4 a4_6 2 q2_9, zArq T 5 a5_7 2 q3_10], z0_, z1_, wd0_, wd1_, wg0_, wg1_, [zO7 rd rl rdd rg r0 r1 tq r2 r3 r4 r5 r6 r7 r8], z, wd, wg, wwA, wwB, wff]) [0, 14, 1, 2, 3, 4, 5, 6, 7, 8, 9, 10, 11, 12, 13] rfl
    exact z_back hQ9 (z_iret C hr hlocks G (Nat.le_of_ble_eq_true rfl) (Nat.le_of_ble_eq_true rfl) dX11_text_51 ⟨0, 0, (-1), ft, fk, ([zO8 t a1_3 0 0 (-1) a2_4 a3_5 a4_6 a5_7, zAr T 1 a1_3 600 ft, zAr T 0 a2_4 3 fk, zArq T 3 a3_5 2 q1_8, zArq T 4 a4_6 2 q2_9, zArq T 5 a5_7 2 q3_10]), cr0_, inn0_, k10_, k20_, k30_, k40_, z0_, cr1_, inn1_, k11_, k21_, k31_, k41_, z1_, dd0_, p10_, p20_, p30_, wd0_, dd1_, p11_, p21_, p31_, wd1_, gg0_, q10_, q20_, wg0_, gg1_, q11_, q21_, wg1_, r0, r1, r2, r3, r4, r5, r6, r7, r8, tq, z, cr, inn, k1, k2, k3, k4, wd, dd, v1, v2, v3, wg, gg, e1, e2, wwA, wwB, wff, mdA, mdB, e0f, rfl, hw_17, (by first | with_reducible assumption | omega | trivial | assumption), hz0_, (by first | with_reducible assumption | omega | trivial | assumption), hz1_, (by first | with_reducible assumption | omega | trivial | assumption), hd0_, hd1_, hg0_, hg1_, hz, hd, hg, hwwA, hwwB, hwff, rfl, (by first | exact Or.inl ⟨rfl, rfl, rfl⟩ | exact Or.inr (Or.inl ⟨rfl, rfl, rfl⟩) | exact Or.inr (Or.inr ⟨rfl, rfl, rfl⟩)), ⟨pHd Gr 0 (-1), Or.inl ⟨hnoG, rfl, fun _ _ => rfl⟩, zTR_hd hT⟩⟩)
  · have hokG := (pOkAt_cg (at_ := at_) hGs).mpr hok
    have hrb : 0 ≤ r_2.toInt ∧ r_2.toInt ≤ 1 := by rw [hnr]; exact pNr_bd hok (hK 2 (by decide))
    have hnG : pNr 2 at_ Gr = r_2 := (pNr_cg hGs).trans hnr.symm
    refine lv_iload_n hx hb dX11_text_43 rfl (lv_at hl 1 rfl) ?_
    refine lv_bipush (v := (-2)) hx hb dX11_text_44 (by decide) ?_
    refine lv_icmp_ne (tgt := 52) hx hb dX11_text_46 (by decide) (fun _ => ?_) (fun q => absurd q (fun q2 => absurd (show r_2.toInt = (-2 : Int) from (fa_eq r_2 ((-2) : Int32)).mp q2) (by omega)))
    refine lv_aload_n hx hb dX11_text_52 rfl (lv_at hl 2 rfl) ?_
    refine z_get C G clX11 0 rfl 3 (by decide) m_fl_RX11_27 rfl dX11_text_53 ?_
    refine lv_aload_n hx hb dX11_text_56 rfl (lv_at hl 2 rfl) ?_
    refine z_get C G clX11 0 rfl 0 (by decide) m_fl_RX11_10 rfl dX11_text_57 ?_
    refine z_get C G clX9 14 rfl 0 (by decide) m_fl_RX11_91 rfl dX11_text_60 ?_
    refine lv_iload hx hb dX11_text_63 (lv_at hl 0 rfl) ?_
    refine lv_iload_n hx hb dX11_text_65 rfl (lv_at hl 3 rfl) ?_
    refine z_Vv (bc := [[zO7 rd rl rdd rg r0 r1 tq r2 r3 r4 r5 r6 r7 r8], [zAr T 1 a1_3 600 ft], z, wd, wg]) (br := [[zO10 xo t im mk rd po co tr wa wb_ fi cd], z0_, z1_, wd0_, wd1_, wg0_, wg1_, wwA, wwB, wff, [zO8 t a1_3 0 0 (-1) a2_4 a3_5 a4_6 a5_7], [zAr T 0 a2_4 3 fk], [zArq T 3 a3_5 2 q1_8], [zArq T 4 a4_6 2 q2_9], [zArq T 5 a5_7 2 q3_10]]) (As := [.ref a1_3, .int ln, .int 2]) (rest := []) C G (c_f_read2 l T rd rl rdd rg a1_3 r0 r1 r2 r3 r4 r5 r6 r7 r8 tq ft cr inn k1 k2 k3 k4 z dd v1 v2 v3 wd gg e1 e2 wg ln k N hz hd hg hN hN6 hk) (kV_RX11_95 C.2.2.2.2 (Nat.le_of_ble_eq_true rfl) (Nat.le_of_ble_eq_true rfl)) [7, 15, 8, 9, 10] [7, 0, 0, 0, 4] rfl rfl (ci := 7) (qc := (RX7, TX7, 13)) rfl rfl (List.mem_flatten.mpr ⟨_, List.mem_of_getElem? (i := 0) rfl, List.mem_cons_self⟩) rfl rfl hl.1 dX11_text_66 (Nat.le_of_ble_eq_true rfl) (Nat.le_of_ble_eq_true rfl) (fun b1 H locs hw G => ?_)
    refine zEx19 hw ?_
    intro u2_18 u0_19 u1_20 u3_21 u4_22 u5_23 u6_24 u7_25 u8_26 z2_27 j1_28 j2_29 j3_30 j4_31 wd2_32 wg2_33 gg2_34 b4_35 b5_36
    refine zCu8 ?_
    intro hbs9 h_37 h_38 h_39 h_40 h_41 h_42 h_43
    clear hw
    subst hbs9
    have G : zS T A s.heap s [[zO10 xo t im mk rd po co tr wa wb_ fi cd], z0_, z1_, wd0_, wd1_, wg0_, wg1_, wwA, wwB, wff, [zO8 t a1_3 0 0 (-1) a2_4 a3_5 a4_6 a5_7], [zAr T 0 a2_4 3 fk], [zArq T 3 a3_5 2 q1_8], [zArq T 4 a4_6 2 q2_9], [zArq T 5 a5_7 2 q3_10], [zO7 rd rl rdd rg u0_19 u1_20 a1_3 u2_18 u3_21 u4_22 u5_23 u6_24 u7_25 u8_26], [zAr T 1 a1_3 600 ft], z2_27, wd2_32, wg2_33] _ _ := G
    have hu0i := congrArg Int32.toInt h_41
    refine lv_aload_n hx hb dX11_text_69 rfl (lv_at hl 2 rfl) ?_
    refine z_get C G clX11 0 rfl 0 (by decide) m_fl_RX11_10 rfl dX11_text_70 ?_
    refine lv_aload_n hx hb dX11_text_73 rfl (lv_at hl 2 rfl) ?_
    refine z_get C G clX11 0 rfl 3 (by decide) m_fl_RX11_27 rfl dX11_text_74 ?_
    refine z_get C G clX7 15 rfl 3 (by decide) m_fl_RX11_99 rfl dX11_text_77 ?_
    refine z_put C G clX9 10 rfl 2 (by decide) m_fl_RX11_85 rfl rfl rfl (Nat.le_of_ble_eq_true rfl) dX11_text_80 (fun H locs G => ?_)
    have G : zS T A s.heap s [[zO10 xo t im mk rd po co tr wa wb_ fi cd], z0_, z1_, wd0_, wd1_, wg0_, wg1_, wwA, wwB, wff, [zO8 t a1_3 0 u0_19 (-1) a2_4 a3_5 a4_6 a5_7], [zAr T 0 a2_4 3 fk], [zArq T 3 a3_5 2 q1_8], [zArq T 4 a4_6 2 q2_9], [zArq T 5 a5_7 2 q3_10], [zO7 rd rl rdd rg u0_19 u1_20 a1_3 u2_18 u3_21 u4_22 u5_23 u6_24 u7_25 u8_26], [zAr T 1 a1_3 600 ft], z2_27, wd2_32, wg2_33] _ _ := G
    refine lv_aload_n hx hb dX11_text_83 rfl (lv_at hl 2 rfl) ?_
    refine z_get C G clX11 0 rfl 0 (by decide) m_fl_RX11_10 rfl dX11_text_84 ?_
    refine lv_aload_n hx hb dX11_text_87 rfl (lv_at hl 2 rfl) ?_
    refine z_get C G clX11 0 rfl 3 (by decide) m_fl_RX11_27 rfl dX11_text_88 ?_
    refine z_get C G clX7 15 rfl 4 (by decide) m_fl_RX11_100 rfl dX11_text_91 ?_
    refine z_put C G clX9 10 rfl 3 (by decide) m_fl_RX11_88 rfl rfl rfl (Nat.le_of_ble_eq_true rfl) dX11_text_94 (fun H locs G => ?_)
    have G : zS T A s.heap s [[zO10 xo t im mk rd po co tr wa wb_ fi cd], z0_, z1_, wd0_, wd1_, wg0_, wg1_, wwA, wwB, wff, [zO8 t a1_3 0 u0_19 u1_20 a2_4 a3_5 a4_6 a5_7], [zAr T 0 a2_4 3 fk], [zArq T 3 a3_5 2 q1_8], [zArq T 4 a4_6 2 q2_9], [zArq T 5 a5_7 2 q3_10], [zO7 rd rl rdd rg u0_19 u1_20 a1_3 u2_18 u3_21 u4_22 u5_23 u6_24 u7_25 u8_26], [zAr T 1 a1_3 600 ft], z2_27, wd2_32, wg2_33] _ _ := G
    refine lv_aload_n hx hb dX11_text_97 rfl (lv_at hl 2 rfl) ?_
    refine z_get C G clX11 0 rfl 3 (by decide) m_fl_RX11_27 rfl dX11_text_98 ?_
    refine z_get C G clX7 15 rfl 3 (by decide) m_fl_RX11_99 rfl dX11_text_101 ?_
    refine lv_if_eq (tgt := 109) hx hb dX11_text_104 (by decide) (fun c_45 => ?_) (fun c_45 => ?_)
    · have c_45n : u0_19.toInt = (0 : Int) := (fa_eq _ _).mp c_45
      refine lv_aload_n hx hb dX11_text_109 rfl (lv_at hl 2 rfl) ?_
      refine z_get C G clX11 0 rfl 0 (by decide) m_fl_RX11_10 rfl dX11_text_110 ?_
      refine lv_iload_n hx hb dX11_text_113 rfl (lv_at hl 3 rfl) ?_
      refine lv_iload_n hx hb dX11_text_114 rfl (lv_at hl 1 rfl) ?_
      refine lv_aload_n hx hb dX11_text_115 rfl (lv_at hl 2 rfl) ?_
      refine z_get C G clX11 0 rfl 3 (by decide) m_fl_RX11_27 rfl dX11_text_116 ?_
      rcases (show r_2.toInt = 0 ∨ r_2.toInt = 1 from by omega) with hkk | hkk
      · obtain rfl : r_2 = 0 := Int32.toInt_inj.mp hkk
        have G := G.sub (bs' := [[zO10 xo t im mk rd po co tr wa wb_ fi cd], z0_, z1_, wd0_, wd1_, wg0_, wg1_, wwA, wwB, wff, [zO8 t a1_3 0 u0_19 u1_20 a2_4 a3_5 a4_6 a5_7], [zAr T 1 a1_3 600 ft], [zAr T 0 a2_4 3 fk], [zArq T 3 a3_5 2 q1_8], [zArq T 4 a4_6 2 q2_9], [zArq T 5 a5_7 2 q3_10], [zO7 rd rl rdd rg u0_19 u1_20 a1_3 u2_18 u3_21 u4_22 u5_23 u6_24 u7_25 u8_26], z2_27, wd2_32, wg2_33]) [0, 1, 2, 3, 4, 5, 6, 7, 8, 9, 10, 16, 11, 12, 13, 14, 15, 17, 18, 19] rfl
        have hw_46 : bTold T t l0 l1 d0 d1 g0 g1 0 u0_19 u1_20 ft fk [zO8 t a1_3 0 u0_19 u1_20 a2_4 a3_5 a4_6 a5_7, zAr T 1 a1_3 600 ft, zAr T 0 a2_4 3 fk, zArq T 3 a3_5 2 q1_8, zArq T 4 a4_6 2 q2_9, zArq T 5 a5_7 2 q3_10] := ⟨a1_3, a2_4, a3_5, a4_6, a5_7, q1_8, q2_9, q3_10, rfl, h_11, h_12, h_13, h_14, h_15, h_16⟩
        have G : zS T A s.heap s [[zO10 xo t im mk rd po co tr wa wb_ fi cd], z0_, z1_, wd0_, wd1_, wg0_, wg1_, wwA, wwB, wff, [zO8 t a1_3 0 u0_19 u1_20 a2_4 a3_5 a4_6 a5_7, zAr T 1 a1_3 600 ft, zAr T 0 a2_4 3 fk, zArq T 3 a3_5 2 q1_8, zArq T 4 a4_6 2 q2_9, zArq T 5 a5_7 2 q3_10], [zO7 rd rl rdd rg u0_19 u1_20 a1_3 u2_18 u3_21 u4_22 u5_23 u6_24 u7_25 u8_26], z2_27, wd2_32, wg2_33] _ _ := G.re rfl
        refine z_Vv (bc := [[zO8 t a1_3 0 u0_19 u1_20 a2_4 a3_5 a4_6 a5_7, zAr T 1 a1_3 600 ft, zAr T 0 a2_4 3 fk, zArq T 3 a3_5 2 q1_8, zArq T 4 a4_6 2 q2_9, zArq T 5 a5_7 2 q3_10], wg0_, [zO7 rd rl rdd rg u0_19 u1_20 a1_3 u2_18 u3_21 u4_22 u5_23 u6_24 u7_25 u8_26], wg2_33]) (br := [[zO10 xo t im mk rd po co tr wa wb_ fi cd], z0_, z1_, wd0_, wd1_, wg1_, wwA, wwB, wff, z2_27, wd2_32]) (As := [.int 2, .int 0, .ref rd]) (rest := []) C G (c_f_keep_20 l T t l0 l1 d0 d1 g0 g1 0 u0_19 u1_20 ft fk ([zO8 t a1_3 0 u0_19 u1_20 a2_4 a3_5 a4_6 a5_7, zAr T 1 a1_3 600 ft, zAr T 0 a2_4 3 fk, zArq T 3 a3_5 2 q1_8, zArq T 4 a4_6 2 q2_9, zArq T 5 a5_7 2 q3_10]) gg0_ q10_ q20_ wg0_ rd rl rdd rg a1_3 u0_19 u1_20 u2_18 u3_21 u4_22 u5_23 u6_24 u7_25 u8_26 gg2_34 b4_35 b5_36 wg2_33 hw_46 (by first | with_reducible assumption | with_reducible rfl | omega | assumption | rfl) hg0_ h_40) (kV_RX11_101 C.2.2.2.2 (Nat.le_of_ble_eq_true rfl) (Nat.le_of_ble_eq_true rfl)) [10, 5, 11, 14] [5, 4, 0, 2] rfl rfl (ci := 8) (qc := (RX9, TX9, 8)) rfl rfl (List.mem_flatten.mpr ⟨_, List.mem_of_getElem? (i := 0) rfl, (bTold_mem hw_46).choose_spec⟩) rfl rfl hl.1 dX11_text_119 (Nat.le_of_ble_eq_true rfl) (Nat.le_of_ble_eq_true rfl) (fun b1 H locs hw G => ?_)
        refine zEx5 hw ?_
        intro wt2_47 fk2_48 w2__49 s1__50 s2__51
        refine zCu7 ?_
        intro hbs9 h_52 h_53 h_54 h_55 h_56 h_57
        clear hw
        subst hbs9
        have G : zS T A s.heap s [[zO10 xo t im mk rd po co tr wa wb_ fi cd], z0_, z1_, wd0_, wd1_, wg1_, wwA, wwB, wff, z2_27, wd2_32, wt2_47, w2__49, [zO7 rd rl rdd rg u0_19 u1_20 a1_3 u2_18 u3_21 u4_22 u5_23 u6_24 u7_25 u8_26], wg2_33] _ _ := G
        refine lv_aload_n hx hb dX11_text_122 rfl (lv_at hl 2 rfl) ?_
        refine lv_iload_n hx hb dX11_text_123 rfl (lv_at hl 3 rfl) ?_
        refine lv_if_ne (tgt := 131) hx hb dX11_text_124 (by decide) (fun _ => ?_) (fun q => absurd q (by decide))
        refine lv_iconst (v := 0) hx hb dX11_text_131 (by decide) ?_
        refine z_Vv (bc := [[zO10 xo t im mk rd po co tr wa wb_ fi cd], wwA, wwB, wff]) (br := [z0_, z1_, wd0_, wd1_, wg1_, z2_27, wd2_32, wt2_47, w2__49, [zO7 rd rl rdd rg u0_19 u1_20 a1_3 u2_18 u3_21 u4_22 u5_23 u6_24 u7_25 u8_26], wg2_33]) (As := [.int 0]) (rest := []) C G (c_forget0 l T xo t im mk rd po co tr wa wb_ fi cd laA mdA wyA pc_A f1A f2A f3A f4A f5A f6A n4A wwA laB mdB wyB pc_B f1B f2B f3B f4B f5B f6B n4B wwB e0f e1f e2f e3f e4f e5f r1f m1f r2f wff hwwA hwwB hwff) (kV_RX11_105 C.2.2.2.2 (Nat.le_of_ble_eq_true rfl) (Nat.le_of_ble_eq_true rfl)) [0, 6, 7, 8] [0, 5, 0, 0] rfl rfl (ci := 10) (qc := (RX11, TX11, 11)) rfl rfl (List.mem_flatten.mpr ⟨_, List.mem_of_getElem? (i := 0) rfl, List.mem_cons_self⟩) rfl rfl hl.1 dX11_text_132 (Nat.le_of_ble_eq_true rfl) (Nat.le_of_ble_eq_true rfl) (fun b1 H locs hw G => ?_)
        refine zEx1 hw ?_
        intro wff_59
        refine zCu2 ?_
        intro hbs9 h_60
        clear hw
        subst hbs9
        have G : zS T A s.heap s [z0_, z1_, wd0_, wd1_, wg1_, z2_27, wd2_32, wt2_47, w2__49, [zO7 rd rl rdd rg u0_19 u1_20 a1_3 u2_18 u3_21 u4_22 u5_23 u6_24 u7_25 u8_26], wg2_33, [zO10 xo t im mk rd po co tr wa wb_ fi cd], wwA, wwB, wff_59] _ _ := G
        refine lv_iload_n hx hb dX11_text_135 rfl (lv_at hl 1 rfl) ?_
        have G := G.sub (bs' := [[zO10 xo t im mk rd po co tr wa wb_ fi cd], wt2_47, z0_, z1_, wd0_, wd1_, w2__49, wg1_, [zO7 rd rl rdd rg u0_19 u1_20 a1_3 u2_18 u3_21 u4_22 u5_23 u6_24 u7_25 u8_26], z2_27, wd2_32, wg2_33, wwA, wwB, wff_59]) [11, 7, 0, 1, 2, 3, 8, 4, 9, 5, 6, 10, 12, 13, 14] rfl
        exact z_back hQ9 (z_iret C hr hlocks G (Nat.le_of_ble_eq_true rfl) (Nat.le_of_ble_eq_true rfl) dX11_text_136 ⟨0, u0_19, u1_20, ft, fk2_48, wt2_47, cr0_, inn0_, k10_, k20_, k30_, k40_, z0_, cr1_, inn1_, k11_, k21_, k31_, k41_, z1_, dd0_, p10_, p20_, p30_, wd0_, dd1_, p11_, p21_, p31_, wd1_, gg2_34, s1__50, s2__51, w2__49, gg1_, q11_, q21_, wg1_, u0_19, u1_20, u2_18, u3_21, u4_22, u5_23, u6_24, u7_25, u8_26, a1_3, z2_27, 0, 0, j1_28, j2_29, j3_30, j4_31, wd2_32, 0, v1, v2, v3, wg2_33, gg2_34, b4_35, b5_36, wwA, wwB, wff_59, mdA, mdB, 0, rfl, h_52, (by first | with_reducible assumption | omega | trivial | assumption), hz0_, (by first | with_reducible assumption | omega | trivial | assumption), hz1_, (by first | with_reducible assumption | omega | trivial | assumption), hd0_, hd1_, h_53, hg1_, h_37, h_39, h_40, hwwA, hwwB, h_60, rfl, (by first | exact Or.inl ⟨rfl, rfl, rfl⟩ | exact Or.inr (Or.inl ⟨rfl, rfl, rfl⟩) | exact Or.inr (Or.inr ⟨rfl, rfl, rfl⟩)), ⟨pPut 2 (pNr 2 at_ Gr).toInt.toNat (pRead k N 2).2 (pCnt 2 at_ (pHd Gr (pRead k N 2).1.2.2.1 (pRead k N 2).1.2.2.2.1)), Or.inr (Or.inr ⟨hokG, by omega, hnG.symm, fun _ _ => rfl⟩), by rw [show (pNr 2 at_ Gr).toInt.toNat = 0 by rw [hnG]; rfl, h_41, h_42]; exact zTR_p20 (zTR_hd hT) (zCnt (kk := 0) (K := 1) (fun j hj => (hTd.2.2.2.1 j hj).trans (pHd_lo hj).symm) (by decide) (by rw [pHd_lo (by decide), hGs]; exact hK 2 (by decide)) ((pOkAt_cg (pHd_lo (by decide))).mpr hokG) (by rw [pNr_cg (pHd_lo (by decide)), hnG]; rfl) rfl h_57) (pCnt_ge (by decide)) (zLgd_eq (zLgd_c h_43 (by omega)) h_55 h_56)⟩⟩)
      · obtain rfl : r_2 = 1 := Int32.toInt_inj.mp hkk
        have G := G.sub (bs' := [[zO10 xo t im mk rd po co tr wa wb_ fi cd], z0_, z1_, wd0_, wd1_, wg0_, wg1_, wwA, wwB, wff, [zO8 t a1_3 0 u0_19 u1_20 a2_4 a3_5 a4_6 a5_7], [zAr T 1 a1_3 600 ft], [zAr T 0 a2_4 3 fk], [zArq T 3 a3_5 2 q1_8], [zArq T 4 a4_6 2 q2_9], [zArq T 5 a5_7 2 q3_10], [zO7 rd rl rdd rg u0_19 u1_20 a1_3 u2_18 u3_21 u4_22 u5_23 u6_24 u7_25 u8_26], z2_27, wd2_32, wg2_33]) [0, 1, 2, 3, 4, 5, 6, 7, 8, 9, 10, 16, 11, 12, 13, 14, 15, 17, 18, 19] rfl
        have hw_62 : bTold T t l0 l1 d0 d1 g0 g1 0 u0_19 u1_20 ft fk [zO8 t a1_3 0 u0_19 u1_20 a2_4 a3_5 a4_6 a5_7, zAr T 1 a1_3 600 ft, zAr T 0 a2_4 3 fk, zArq T 3 a3_5 2 q1_8, zArq T 4 a4_6 2 q2_9, zArq T 5 a5_7 2 q3_10] := ⟨a1_3, a2_4, a3_5, a4_6, a5_7, q1_8, q2_9, q3_10, rfl, h_11, h_12, h_13, h_14, h_15, h_16⟩
        have G : zS T A s.heap s [[zO10 xo t im mk rd po co tr wa wb_ fi cd], z0_, z1_, wd0_, wd1_, wg0_, wg1_, wwA, wwB, wff, [zO8 t a1_3 0 u0_19 u1_20 a2_4 a3_5 a4_6 a5_7, zAr T 1 a1_3 600 ft, zAr T 0 a2_4 3 fk, zArq T 3 a3_5 2 q1_8, zArq T 4 a4_6 2 q2_9, zArq T 5 a5_7 2 q3_10], [zO7 rd rl rdd rg u0_19 u1_20 a1_3 u2_18 u3_21 u4_22 u5_23 u6_24 u7_25 u8_26], z2_27, wd2_32, wg2_33] _ _ := G.re rfl
        refine z_Vv (bc := [[zO8 t a1_3 0 u0_19 u1_20 a2_4 a3_5 a4_6 a5_7, zAr T 1 a1_3 600 ft, zAr T 0 a2_4 3 fk, zArq T 3 a3_5 2 q1_8, zArq T 4 a4_6 2 q2_9, zArq T 5 a5_7 2 q3_10], wg1_, [zO7 rd rl rdd rg u0_19 u1_20 a1_3 u2_18 u3_21 u4_22 u5_23 u6_24 u7_25 u8_26], wg2_33]) (br := [[zO10 xo t im mk rd po co tr wa wb_ fi cd], z0_, z1_, wd0_, wd1_, wg0_, wwA, wwB, wff, z2_27, wd2_32]) (As := [.int 2, .int 1, .ref rd]) (rest := []) C G (c_f_keep_21 l T t l0 l1 d0 d1 g0 g1 0 u0_19 u1_20 ft fk ([zO8 t a1_3 0 u0_19 u1_20 a2_4 a3_5 a4_6 a5_7, zAr T 1 a1_3 600 ft, zAr T 0 a2_4 3 fk, zArq T 3 a3_5 2 q1_8, zArq T 4 a4_6 2 q2_9, zArq T 5 a5_7 2 q3_10]) gg1_ q11_ q21_ wg1_ rd rl rdd rg a1_3 u0_19 u1_20 u2_18 u3_21 u4_22 u5_23 u6_24 u7_25 u8_26 gg2_34 b4_35 b5_36 wg2_33 hw_62 (by first | with_reducible assumption | with_reducible rfl | omega | assumption | rfl) hg1_ h_40) (kV_RX11_101 C.2.2.2.2 (Nat.le_of_ble_eq_true rfl) (Nat.le_of_ble_eq_true rfl)) [10, 6, 11, 14] [6, 3, 0, 2] rfl rfl (ci := 8) (qc := (RX9, TX9, 8)) rfl rfl (List.mem_flatten.mpr ⟨_, List.mem_of_getElem? (i := 0) rfl, (bTold_mem hw_62).choose_spec⟩) rfl rfl hl.1 dX11_text_119 (Nat.le_of_ble_eq_true rfl) (Nat.le_of_ble_eq_true rfl) (fun b1 H locs hw G => ?_)
        refine zEx5 hw ?_
        intro wt2_63 fk2_64 w2__65 s1__66 s2__67
        refine zCu7 ?_
        intro hbs9 h_68 h_69 h_70 h_71 h_72 h_73
        clear hw
        subst hbs9
        have G : zS T A s.heap s [[zO10 xo t im mk rd po co tr wa wb_ fi cd], z0_, z1_, wd0_, wd1_, wg0_, wwA, wwB, wff, z2_27, wd2_32, wt2_63, w2__65, [zO7 rd rl rdd rg u0_19 u1_20 a1_3 u2_18 u3_21 u4_22 u5_23 u6_24 u7_25 u8_26], wg2_33] _ _ := G
        refine lv_aload_n hx hb dX11_text_122 rfl (lv_at hl 2 rfl) ?_
        refine lv_iload_n hx hb dX11_text_123 rfl (lv_at hl 3 rfl) ?_
        refine lv_if_ne (tgt := 131) hx hb dX11_text_124 (by decide) (fun _ => ?_) (fun q => absurd q (by decide))
        refine lv_iconst (v := 0) hx hb dX11_text_131 (by decide) ?_
        refine z_Vv (bc := [[zO10 xo t im mk rd po co tr wa wb_ fi cd], wwA, wwB, wff]) (br := [z0_, z1_, wd0_, wd1_, wg0_, z2_27, wd2_32, wt2_63, w2__65, [zO7 rd rl rdd rg u0_19 u1_20 a1_3 u2_18 u3_21 u4_22 u5_23 u6_24 u7_25 u8_26], wg2_33]) (As := [.int 0]) (rest := []) C G (c_forget0 l T xo t im mk rd po co tr wa wb_ fi cd laA mdA wyA pc_A f1A f2A f3A f4A f5A f6A n4A wwA laB mdB wyB pc_B f1B f2B f3B f4B f5B f6B n4B wwB e0f e1f e2f e3f e4f e5f r1f m1f r2f wff hwwA hwwB hwff) (kV_RX11_105 C.2.2.2.2 (Nat.le_of_ble_eq_true rfl) (Nat.le_of_ble_eq_true rfl)) [0, 6, 7, 8] [0, 5, 0, 0] rfl rfl (ci := 10) (qc := (RX11, TX11, 11)) rfl rfl (List.mem_flatten.mpr ⟨_, List.mem_of_getElem? (i := 0) rfl, List.mem_cons_self⟩) rfl rfl hl.1 dX11_text_132 (Nat.le_of_ble_eq_true rfl) (Nat.le_of_ble_eq_true rfl) (fun b1 H locs hw G => ?_)
        refine zEx1 hw ?_
        intro wff_75
        refine zCu2 ?_
        intro hbs9 h_76
        clear hw
        subst hbs9
        have G : zS T A s.heap s [z0_, z1_, wd0_, wd1_, wg0_, z2_27, wd2_32, wt2_63, w2__65, [zO7 rd rl rdd rg u0_19 u1_20 a1_3 u2_18 u3_21 u4_22 u5_23 u6_24 u7_25 u8_26], wg2_33, [zO10 xo t im mk rd po co tr wa wb_ fi cd], wwA, wwB, wff_75] _ _ := G
        refine lv_iload_n hx hb dX11_text_135 rfl (lv_at hl 1 rfl) ?_
        have G := G.sub (bs' := [[zO10 xo t im mk rd po co tr wa wb_ fi cd], wt2_63, z0_, z1_, wd0_, wd1_, wg0_, w2__65, [zO7 rd rl rdd rg u0_19 u1_20 a1_3 u2_18 u3_21 u4_22 u5_23 u6_24 u7_25 u8_26], z2_27, wd2_32, wg2_33, wwA, wwB, wff_75]) [11, 7, 0, 1, 2, 3, 4, 8, 9, 5, 6, 10, 12, 13, 14] rfl
        exact z_back hQ9 (z_iret C hr hlocks G (Nat.le_of_ble_eq_true rfl) (Nat.le_of_ble_eq_true rfl) dX11_text_136 ⟨0, u0_19, u1_20, ft, fk2_64, wt2_63, cr0_, inn0_, k10_, k20_, k30_, k40_, z0_, cr1_, inn1_, k11_, k21_, k31_, k41_, z1_, dd0_, p10_, p20_, p30_, wd0_, dd1_, p11_, p21_, p31_, wd1_, gg0_, q10_, q20_, wg0_, gg2_34, s1__66, s2__67, w2__65, u0_19, u1_20, u2_18, u3_21, u4_22, u5_23, u6_24, u7_25, u8_26, a1_3, z2_27, 0, 0, j1_28, j2_29, j3_30, j4_31, wd2_32, 0, v1, v2, v3, wg2_33, gg2_34, b4_35, b5_36, wwA, wwB, wff_75, mdA, mdB, 0, rfl, h_68, (by first | with_reducible assumption | omega | trivial | assumption), hz0_, (by first | with_reducible assumption | omega | trivial | assumption), hz1_, (by first | with_reducible assumption | omega | trivial | assumption), hd0_, hd1_, hg0_, h_69, h_37, h_39, h_40, hwwA, hwwB, h_76, rfl, (by first | exact Or.inl ⟨rfl, rfl, rfl⟩ | exact Or.inr (Or.inl ⟨rfl, rfl, rfl⟩) | exact Or.inr (Or.inr ⟨rfl, rfl, rfl⟩)), ⟨pPut 2 (pNr 2 at_ Gr).toInt.toNat (pRead k N 2).2 (pCnt 2 at_ (pHd Gr (pRead k N 2).1.2.2.1 (pRead k N 2).1.2.2.2.1)), Or.inr (Or.inr ⟨hokG, by omega, hnG.symm, fun _ _ => rfl⟩), by rw [show (pNr 2 at_ Gr).toInt.toNat = 1 by rw [hnG]; rfl, h_41, h_42]; exact zTR_p21 (zTR_hd hT) (zCnt (kk := 1) (K := 2) (fun j hj => (hTd.2.2.2.1 j hj).trans (pHd_lo hj).symm) (by decide) (by rw [pHd_lo (by decide), hGs]; exact hK 2 (by decide)) ((pOkAt_cg (pHd_lo (by decide))).mpr hokG) (by rw [pNr_cg (pHd_lo (by decide)), hnG]; rfl) rfl h_73) (pCnt_ge (by decide)) (zLgd_eq (zLgd_c h_43 (by omega)) h_71 h_72)⟩⟩)
    · have c_45n : ¬ u0_19.toInt = (0 : Int) := fun q => c_45 ((fa_eq _ _).mpr q)
      refine lv_iconst (v := (-1)) hx hb dX11_text_107 (by decide) ?_
      have G := G.sub (bs' := [[zO10 xo t im mk rd po co tr wa wb_ fi cd], z0_, z1_, wd0_, wd1_, wg0_, wg1_, wwA, wwB, wff, [zO8 t a1_3 0 u0_19 u1_20 a2_4 a3_5 a4_6 a5_7], [zAr T 1 a1_3 600 ft], [zAr T 0 a2_4 3 fk], [zArq T 3 a3_5 2 q1_8], [zArq T 4 a4_6 2 q2_9], [zArq T 5 a5_7 2 q3_10], [zO7 rd rl rdd rg u0_19 u1_20 a1_3 u2_18 u3_21 u4_22 u5_23 u6_24 u7_25 u8_26], z2_27, wd2_32, wg2_33]) [0, 1, 2, 3, 4, 5, 6, 7, 8, 9, 10, 16, 11, 12, 13, 14, 15, 17, 18, 19] rfl
      have hw_78 : bTold T t l0 l1 d0 d1 g0 g1 0 u0_19 u1_20 ft fk [zO8 t a1_3 0 u0_19 u1_20 a2_4 a3_5 a4_6 a5_7, zAr T 1 a1_3 600 ft, zAr T 0 a2_4 3 fk, zArq T 3 a3_5 2 q1_8, zArq T 4 a4_6 2 q2_9, zArq T 5 a5_7 2 q3_10] := ⟨a1_3, a2_4, a3_5, a4_6, a5_7, q1_8, q2_9, q3_10, rfl, h_11, h_12, h_13, h_14, h_15, h_16⟩
      have G : zS T A s.heap s [[zO10 xo t im mk rd po co tr wa wb_ fi cd], z0_, z1_, wd0_, wd1_, wg0_, wg1_, wwA, wwB, wff, [zO8 t a1_3 0 u0_19 u1_20 a2_4 a3_5 a4_6 a5_7, zAr T 1 a1_3 600 ft, zAr T 0 a2_4 3 fk, zArq T 3 a3_5 2 q1_8, zArq T 4 a4_6 2 q2_9, zArq T 5 a5_7 2 q3_10], [zO7 rd rl rdd rg u0_19 u1_20 a1_3 u2_18 u3_21 u4_22 u5_23 u6_24 u7_25 u8_26], z2_27, wd2_32, wg2_33] _ _ := G.re rfl
      have G := G.sub (bs' := [[zO10 xo t im mk rd po co tr wa wb_ fi cd], [zO8 t a1_3 0 u0_19 u1_20 a2_4 a3_5 a4_6 a5_7, zAr T 1 a1_3 600 ft, zAr T 0 a2_4 3 fk, zArq T 3 a3_5 2 q1_8, zArq T 4 a4_6 2 q2_9, zArq T 5 a5_7 2 q3_10], z0_, z1_, wd0_, wd1_, wg0_, wg1_, [zO7 rd rl rdd rg u0_19 u1_20 a1_3 u2_18 u3_21 u4_22 u5_23 u6_24 u7_25 u8_26], z2_27, wd2_32, wg2_33, wwA, wwB, wff]) [0, 10, 1, 2, 3, 4, 5, 6, 11, 12, 13, 14, 7, 8, 9] rfl
      exact z_back hQ9 (z_iret C hr hlocks G (Nat.le_of_ble_eq_true rfl) (Nat.le_of_ble_eq_true rfl) dX11_text_108 ⟨0, u0_19, u1_20, ft, fk, ([zO8 t a1_3 0 u0_19 u1_20 a2_4 a3_5 a4_6 a5_7, zAr T 1 a1_3 600 ft, zAr T 0 a2_4 3 fk, zArq T 3 a3_5 2 q1_8, zArq T 4 a4_6 2 q2_9, zArq T 5 a5_7 2 q3_10]), cr0_, inn0_, k10_, k20_, k30_, k40_, z0_, cr1_, inn1_, k11_, k21_, k31_, k41_, z1_, dd0_, p10_, p20_, p30_, wd0_, dd1_, p11_, p21_, p31_, wd1_, gg0_, q10_, q20_, wg0_, gg1_, q11_, q21_, wg1_, u0_19, u1_20, u2_18, u3_21, u4_22, u5_23, u6_24, u7_25, u8_26, a1_3, z2_27, 0, 0, j1_28, j2_29, j3_30, j4_31, wd2_32, 0, v1, v2, v3, wg2_33, gg2_34, b4_35, b5_36, wwA, wwB, wff, mdA, mdB, e0f, rfl, hw_78, (by first | with_reducible assumption | omega | trivial | assumption), hz0_, (by first | with_reducible assumption | omega | trivial | assumption), hz1_, (by first | with_reducible assumption | omega | trivial | assumption), hd0_, hd1_, hg0_, hg1_, h_37, h_39, h_40, hwwA, hwwB, hwff, rfl, (by first | exact Or.inl ⟨rfl, rfl, rfl⟩ | exact Or.inr (Or.inl ⟨rfl, rfl, rfl⟩) | exact Or.inr (Or.inr ⟨rfl, rfl, rfl⟩)), ⟨pHd Gr (pRead k N 2).1.2.2.1 (pRead k N 2).1.2.2.2.1, Or.inr (Or.inl ⟨hokG, by omega, rfl, fun _ _ => rfl⟩), by rw [h_41, h_42]; exact zTR_hd hT⟩⟩)


/-! FEED -/
theorem zBe_b (y : Int32) : zBe y.toInt8.toInt32 (y &&& 255) := by
  have e1 : y.toInt8.toInt32.toInt = y.toInt.bmod 256 := by rw [Int8.toInt_toInt32, Int32.toInt_toInt8]
  have e2 : y &&& 255 = nI (y.toBitVec.toNat % 2 ^ 8) := pk_and y 8 (by decide)
  have e3 : (y &&& 255).toInt = ((y.toBitVec.toNat % 256 : Nat) : Int) := by rw [e2]; exact nI_toInt (by omega)
  have e4 : y.toInt = if 2 * y.toBitVec.toNat < 4294967296 then (y.toBitVec.toNat : Int) else (y.toBitVec.toNat : Int) - 4294967296 := BitVec.toInt_eq_toNat_cond y.toBitVec
  have e5 : y.toInt.bmod 256 = if y.toInt % 256 < 128 then y.toInt % 256 else y.toInt % 256 - 256 := Int.bmod_def y.toInt 256
  have e6 : y.toInt % 256 = ((y.toBitVec.toNat % 256 : Nat) : Int) := by
    rw [e4]
    split <;> omega
  rw [e6] at e5
  unfold zBe
  by_cases c : ((y.toBitVec.toNat % 256 : Nat) : Int) < 128
  · rw [if_pos c] at e5
    exact Or.inl ⟨Int32.toInt_inj.mp (by rw [e3, e1, e5]), by rw [e1, e5]; omega⟩
  · rw [if_neg c] at e5
    exact Or.inr ⟨by rw [e1, e5]; omega, by rw [e3]; omega⟩
def zB8 (x s : Int32) : Int32 := (x >>> (s &&& 31)).toInt8.toInt32
def zApp (p : Nat) (x : Int32) (f : Nat → Int32) : Nat → Int32 := upd (upd (upd (upd f p (zB8 x 24)) (p + 1) (zB8 x 16)) (p + 1 + 1) (zB8 x 8)) (p + 1 + 1 + 1) (zB8 x 0)
def zFeedC (p : Nat) (a b c d e : Int32) (f : Nat → Int32) : Nat → Int32 := zApp (p + 4 + 4 + 4 + 4) e (zApp (p + 4 + 4 + 4) d (zApp (p + 4 + 4) c (zApp (p + 4) b (zApp p a f))))
def pB (a b c d e : Int32) (i : Nat) : Int32 := (if i < 4 then a else if i < 8 then b else if i < 12 then c else if i < 16 then d else e) >>> ((24 - 8 * (nI i - nI i / 4 * 4)) &&& 31)
theorem zApp_o {p j : Nat} {x : Int32} {f : Nat → Int32} (h : j < p ∨ p + 4 ≤ j) : zApp p x f j = f j := by unfold zApp; rw [z_ne (by omega), z_ne (by omega), z_ne (by omega), z_ne (by omega)]
theorem zApp_i {p : Nat} {x : Int32} {f : Nat → Int32} : zApp p x f p = zB8 x 24 ∧ zApp p x f (p + 1) = zB8 x 16 ∧ zApp p x f (p + 2) = zB8 x 8 ∧ zApp p x f (p + 3) = zB8 x 0 := by
  unfold zApp
  refine ⟨?_, ?_, ?_, ?_⟩
  · rw [z_ne (by omega), z_ne (by omega), z_ne (by omega), z_eq rfl]
  · rw [z_ne (by omega), z_ne (by omega), z_eq rfl]
  · rw [z_ne (by omega), z_eq rfl]
  · rw [z_eq rfl]
theorem zFeedC_o {p j : Nat} {a b c d e : Int32} {f : Nat → Int32} (h : j < p ∨ p + 20 ≤ j) : zFeedC p a b c d e f j = f j := by unfold zFeedC; rw [zApp_o (by omega), zApp_o (by omega), zApp_o (by omega), zApp_o (by omega), zApp_o (by omega)]
theorem pB_s : ∀ i, i < 20 → ((24 - 8 * (nI i - nI i / 4 * 4)) &&& 31 : Int32) = ([24, 16, 8, 0] : List Int32).getD (i % 4) 0 &&& 31 := by decide +kernel
/-- the twenty bytes, with sign and without -/
theorem zFeed_be {p i : Nat} {a b c d e : Int32} {f : Nat → Int32} (h : i < 20) : zFeedC p a b c d e f (p + i) = (pB a b c d e i).toInt8.toInt32 := by
  unfold pB
  rw [pB_s i h]
  unfold zFeedC
  have k : ∀ (q m : Nat) (x : Int32) (g : Nat → Int32), m < 4 → zApp q x g (q + m) = (x >>> (([24, 16, 8, 0] : List Int32).getD m 0 &&& 31)).toInt8.toInt32 := by
    intro q m x g hm
    have z := zApp_i (p := q) (x := x) (f := g)
    rcases (show m = 0 ∨ m = 1 ∨ m = 2 ∨ m = 3 by omega) with e | e | e | e <;> subst e
    · exact z.1
    · exact z.2.1
    · exact z.2.2.1
    · exact z.2.2.2
  rcases (show i < 4 ∨ (4 ≤ i ∧ i < 8) ∨ (8 ≤ i ∧ i < 12) ∨ (12 ≤ i ∧ i < 16) ∨ (16 ≤ i ∧ i < 20) by omega) with q | q | q | q | q
  · rw [zApp_o (by omega), zApp_o (by omega), zApp_o (by omega), zApp_o (by omega), k p i a f q, if_pos q, show i % 4 = i by omega]
  · rw [zApp_o (by omega), zApp_o (by omega), zApp_o (by omega), show p + i = p + 4 + (i - 4) by omega, k _ _ _ _ (by omega), if_neg (by omega), if_pos (by omega), show i % 4 = i - 4 by omega]
  · rw [zApp_o (by omega), zApp_o (by omega), show p + i = p + 4 + 4 + (i - 8) by omega, k _ _ _ _ (by omega), if_neg (by omega), if_neg (by omega), if_pos (by omega), show i % 4 = i - 8 by omega]
  · rw [zApp_o (by omega), show p + i = p + 4 + 4 + 4 + (i - 12) by omega, k _ _ _ _ (by omega), if_neg (by omega), if_neg (by omega), if_neg (by omega), if_pos (by omega), show i % 4 = i - 12 by omega]
  · rw [show p + i = p + 4 + 4 + 4 + 4 + (i - 16) by omega, k _ _ _ _ (by omega), if_neg (by omega), if_neg (by omega), if_neg (by omega), if_neg (by omega), show i % 4 = i - 16 by omega]
def zFeedR (p : Nat) (a b c d e : Int32) (f g : Nat → Int32) : Prop := g 4 = nI (p + 20) ∧ (∀ j, j < 20 → g (10 + (p + j)) = pB a b c d e j &&& 255) ∧ ∀ j, (j < 10 + p ∨ 30 + p ≤ j) → ¬ j = 4 → g j = f j
theorem pB_y {a b c d e v x : Int32} {i : Nat} (h : v = (if i < 4 then a else if i < 8 then b else if i < 12 then c else if i < 16 then d else e)) (hx : x = (v >>> ((24 - 8 * (nI i - nI i / 4 * 4)) &&& 31)) &&& 255) : x = pB a b c d e i &&& 255 := by rw [hx, h]; rfl
theorem zFd_s {p i : Nat} {a b c d e v w : Int32} {x : Nat → Int32} (h : ∀ j, j < i → x (10 + (p + j)) = pB a b c d e j &&& 255) (hv : v = pB a b c d e i &&& 255) : ∀ j, j < i + 1 → upd (upd x (10 + (p + i)) v) 4 w (10 + (p + j)) = pB a b c d e j &&& 255 := by
  intro j hj
  rw [z_ne (by omega)]
  by_cases q : j = i
  · rw [q, z_eq rfl]; exact hv
  · rw [z_ne (by omega)]; exact h j (by omega)
theorem zFd_o {p i : Nat} {v w : Int32} {x f : Nat → Int32} (h : ∀ j, (j < 10 + p ∨ 10 + p + i ≤ j) → ¬ j = 4 → x j = f j) : ∀ j, (j < 10 + p ∨ 10 + p + (i + 1) ≤ j) → ¬ j = 4 → upd (upd x (10 + (p + i)) v) 4 w j = f j := by
  intro j h1 h2
  rw [z_ne h2, z_ne (by omega)]
  exact h j (by omega) h2
set_option maxHeartbeats 4000000 in
set_option maxRecDepth 100000 in
/-- append -/
theorem c_f_append (l : Launch) (T : zTy) (t : Nat) (l0 : Nat) (l1 : Nat) (d0 : Nat) (d1 : Nat) (g0 : Nat) (g1 : Nat) (ln : Int32) (fl : Int32) (pl : Int32) (ft : Nat → Int32) (fk : Nat → Int32) (wt : va_W) (x : Int32) (p0 : Nat) (ht : bTold T t l0 l1 d0 d1 g0 g1 ln fl pl ft fk wt) (hp : ln = nI p0) (hp6 : p0 + 4 ≤ 600) : zMv l T yX9_append cX9_append 3 1 0 0 [.ref t, .int x] [wt] (fun bs => ∃ (wt2 : va_W) (u : Int32) (g : Nat → Int32), bs = [wt2] ∧ bTold T t l0 l1 d0 d1 g0 g1 u fl pl g fk wt2 ∧ u = nI (p0 + 4) ∧ g = zApp p0 x ft) := by
  refine zMv_of (own := RX9) (by decide) rfl (Nat.le_of_ble_eq_true rfl) ?_
  intro p e s m args below meth c A ls C hr hlocks hnm hAe G hl
  refine zHide (fun Q9 hQ9 => ?_)
  have hx := C.1
  have hb := C.2.1
  have hl : lv_has ls 3 [(0, .ref t), (1, .int x)] := hl
  subst hp
  refine lv_bipush (v := 24) hx hb dX9_append_0 (by decide) ?_
  refine lv_istore_n (lv' := [(2, .int 24), (0, .ref t), (1, .int x)]) hx hb dX9_append_2 rfl hl (by decide) rfl (fun ls hl => ?_)
  refine lv_iload_n hx hb dX9_append_3 rfl (lv_at hl 0 rfl) ?_
  refine lv_if_lt (tgt := 46) hx hb dX9_append_4 (by decide) (fun q => absurd q (by decide)) (fun _ => ?_)
  refine lv_aload_n hx hb dX9_append_7 rfl (lv_at hl 1 rfl) ?_
  refine zEx8 ht ?_
  intro a1_1 a2_2 a3_3 a4_4 a5_5 q1_6 q2_7 q3_8
  refine zCu7 ?_
  intro hbs9 h_9 h_10 h_11 h_12 h_13 h_14
  clear ht
  subst hbs9
  have G : zS T A s.heap s [[zO8 t a1_1 (nI p0) fl pl a2_2 a3_3 a4_4 a5_5], [zAr T 1 a1_1 600 ft], [zAr T 0 a2_2 3 fk], [zArq T 3 a3_3 2 q1_6], [zArq T 4 a4_4 2 q2_7], [zArq T 5 a5_5 2 q3_8]] _ _ := G.re rfl
  refine z_get C G clX9 0 rfl 1 (by decide) m_fl_RX9_44 rfl dX9_append_8 ?_
  refine lv_sipush (v := 600) hx hb dX9_append_11 (by decide) ?_
  refine lv_icmp_ge (tgt := 40) hx hb dX9_append_14 (by decide) (fun q => absurd q (fun q2 => absurd ((nI_leI (a := 600) (b := p0) (by omega) (by omega)).mp q2) (by omega))) (fun _ => ?_)
  refine lv_aload_n hx hb dX9_append_17 rfl (lv_at hl 1 rfl) ?_
  refine z_get C G clX9 0 rfl 0 (by decide) m_fl_RX9_9 rfl dX9_append_18 ?_
  refine lv_aload_n hx hb dX9_append_21 rfl (lv_at hl 1 rfl) ?_
  refine z_get C G clX9 0 rfl 1 (by decide) m_fl_RX9_44 rfl dX9_append_22 ?_
  refine lv_iload_n hx hb dX9_append_25 rfl (lv_at hl 2 rfl) ?_
  refine lv_iload_n hx hb dX9_append_26 rfl (lv_at hl 0 rfl) ?_
  refine lv_ishr hx hb dX9_append_27 ?_
  refine lv_i2b hx hb dX9_append_28 rfl ?_
  refine z_bst C G 1 rfl (vp_in_nI (by omega) (by omega)) dX9_append_29 (fun H locs G => ?_)
  rw [nI_clamp (by omega)] at G
  have G : zS T A s.heap s [[zO8 t a1_1 (nI p0) fl pl a2_2 a3_3 a4_4 a5_5], [zAr T 1 a1_1 600 (upd ft p0 (vp_nar .byte ((x >>> (24 &&& 31)).toInt8.toInt32)))], [zAr T 0 a2_2 3 fk], [zArq T 3 a3_3 2 q1_6], [zArq T 4 a4_4 2 q2_7], [zArq T 5 a5_5 2 q3_8]] _ _ := G
  refine lv_aload_n hx hb dX9_append_30 rfl (lv_at hl 1 rfl) ?_
  refine lv_dup hx hb dX9_append_31 rfl ?_
  refine z_get C G clX9 0 rfl 1 (by decide) m_fl_RX9_44 rfl dX9_append_32 ?_
  refine lv_iconst (v := 1) hx hb dX9_append_35 (by decide) ?_
  refine lv_iadd hx hb dX9_append_36 ?_
  refine lv_topi (fun y_15 ey_15 => ?_)
  obtain rfl : y_15 = nI (p0 + 1) := ey_15.trans (z_iaddn p0 1 rfl rfl)
  refine z_put C G clX9 0 rfl 1 (by decide) m_fl_RX9_44 rfl rfl rfl (Nat.le_of_ble_eq_true rfl) dX9_append_37 (fun H locs G => ?_)
  have G : zS T A s.heap s [[zO8 t a1_1 (nI (p0 + 1)) fl pl a2_2 a3_3 a4_4 a5_5], [zAr T 1 a1_1 600 (upd ft p0 (vp_nar .byte ((x >>> (24 &&& 31)).toInt8.toInt32)))], [zAr T 0 a2_2 3 fk], [zArq T 3 a3_3 2 q1_6], [zArq T 4 a4_4 2 q2_7], [zArq T 5 a5_5 2 q3_8]] _ _ := G
  refine lv_iinc (v := 16) (lv' := [(2, .int 16), (0, .ref t), (1, .int x)]) hx hb dX9_append_40 hl (k := 0) rfl (by decide) (by decide) rfl (fun ls hl => ?_)
  refine lv_goto (tgt := 3) hx hb dX9_append_43 (by decide) ?_
  refine lv_iload_n hx hb dX9_append_3 rfl (lv_at hl 0 rfl) ?_
  refine lv_if_lt (tgt := 46) hx hb dX9_append_4 (by decide) (fun q => absurd q (by decide)) (fun _ => ?_)
  refine lv_aload_n hx hb dX9_append_7 rfl (lv_at hl 1 rfl) ?_
  refine z_get C G clX9 0 rfl 1 (by decide) m_fl_RX9_44 rfl dX9_append_8 ?_
  refine lv_sipush (v := 600) hx hb dX9_append_11 (by decide) ?_
  refine lv_icmp_ge (tgt := 40) hx hb dX9_append_14 (by decide) (fun q => absurd q (fun q2 => absurd ((nI_leI (a := 600) (b := p0 + 1) (by omega) (by omega)).mp q2) (by omega))) (fun _ => ?_)
  refine lv_aload_n hx hb dX9_append_17 rfl (lv_at hl 1 rfl) ?_
  refine z_get C G clX9 0 rfl 0 (by decide) m_fl_RX9_9 rfl dX9_append_18 ?_
  refine lv_aload_n hx hb dX9_append_21 rfl (lv_at hl 1 rfl) ?_
  refine z_get C G clX9 0 rfl 1 (by decide) m_fl_RX9_44 rfl dX9_append_22 ?_
  refine lv_iload_n hx hb dX9_append_25 rfl (lv_at hl 2 rfl) ?_
  refine lv_iload_n hx hb dX9_append_26 rfl (lv_at hl 0 rfl) ?_
  refine lv_ishr hx hb dX9_append_27 ?_
  refine lv_i2b hx hb dX9_append_28 rfl ?_
  refine z_bst C G 1 rfl (vp_in_nI (by omega) (by omega)) dX9_append_29 (fun H locs G => ?_)
  rw [nI_clamp (by omega)] at G
  have G : zS T A s.heap s [[zO8 t a1_1 (nI (p0 + 1)) fl pl a2_2 a3_3 a4_4 a5_5], [zAr T 1 a1_1 600 (upd (upd ft p0 (vp_nar .byte ((x >>> (24 &&& 31)).toInt8.toInt32))) (p0 + 1) (vp_nar .byte ((x >>> (16 &&& 31)).toInt8.toInt32)))], [zAr T 0 a2_2 3 fk], [zArq T 3 a3_3 2 q1_6], [zArq T 4 a4_4 2 q2_7], [zArq T 5 a5_5 2 q3_8]] _ _ := G
  refine lv_aload_n hx hb dX9_append_30 rfl (lv_at hl 1 rfl) ?_
  refine lv_dup hx hb dX9_append_31 rfl ?_
  refine z_get C G clX9 0 rfl 1 (by decide) m_fl_RX9_44 rfl dX9_append_32 ?_
  refine lv_iconst (v := 1) hx hb dX9_append_35 (by decide) ?_
  refine lv_iadd hx hb dX9_append_36 ?_
  refine lv_topi (fun y_16 ey_16 => ?_)
  obtain rfl : y_16 = nI ((p0 + 1) + 1) := ey_16.trans (z_iaddn (p0 + 1) 1 rfl rfl)
  refine z_put C G clX9 0 rfl 1 (by decide) m_fl_RX9_44 rfl rfl rfl (Nat.le_of_ble_eq_true rfl) dX9_append_37 (fun H locs G => ?_)
  have G : zS T A s.heap s [[zO8 t a1_1 (nI ((p0 + 1) + 1)) fl pl a2_2 a3_3 a4_4 a5_5], [zAr T 1 a1_1 600 (upd (upd ft p0 (vp_nar .byte ((x >>> (24 &&& 31)).toInt8.toInt32))) (p0 + 1) (vp_nar .byte ((x >>> (16 &&& 31)).toInt8.toInt32)))], [zAr T 0 a2_2 3 fk], [zArq T 3 a3_3 2 q1_6], [zArq T 4 a4_4 2 q2_7], [zArq T 5 a5_5 2 q3_8]] _ _ := G
  refine lv_iinc (v := 8) (lv' := [(2, .int 8), (0, .ref t), (1, .int x)]) hx hb dX9_append_40 hl (k := 0) rfl (by decide) (by decide) rfl (fun ls hl => ?_)
  refine lv_goto (tgt := 3) hx hb dX9_append_43 (by decide) ?_
  refine lv_iload_n hx hb dX9_append_3 rfl (lv_at hl 0 rfl) ?_
  refine lv_if_lt (tgt := 46) hx hb dX9_append_4 (by decide) (fun q => absurd q (by decide)) (fun _ => ?_)
  refine lv_aload_n hx hb dX9_append_7 rfl (lv_at hl 1 rfl) ?_
  refine z_get C G clX9 0 rfl 1 (by decide) m_fl_RX9_44 rfl dX9_append_8 ?_
  refine lv_sipush (v := 600) hx hb dX9_append_11 (by decide) ?_
  refine lv_icmp_ge (tgt := 40) hx hb dX9_append_14 (by decide) (fun q => absurd q (fun q2 => absurd ((nI_leI (a := 600) (b := (p0 + 1) + 1) (by omega) (by omega)).mp q2) (by omega))) (fun _ => ?_)
  refine lv_aload_n hx hb dX9_append_17 rfl (lv_at hl 1 rfl) ?_
  refine z_get C G clX9 0 rfl 0 (by decide) m_fl_RX9_9 rfl dX9_append_18 ?_
  refine lv_aload_n hx hb dX9_append_21 rfl (lv_at hl 1 rfl) ?_
  refine z_get C G clX9 0 rfl 1 (by decide) m_fl_RX9_44 rfl dX9_append_22 ?_
  refine lv_iload_n hx hb dX9_append_25 rfl (lv_at hl 2 rfl) ?_
  refine lv_iload_n hx hb dX9_append_26 rfl (lv_at hl 0 rfl) ?_
  refine lv_ishr hx hb dX9_append_27 ?_
  refine lv_i2b hx hb dX9_append_28 rfl ?_
  refine z_bst C G 1 rfl (vp_in_nI (by omega) (by omega)) dX9_append_29 (fun H locs G => ?_)
  rw [nI_clamp (by omega)] at G
  have G : zS T A s.heap s [[zO8 t a1_1 (nI ((p0 + 1) + 1)) fl pl a2_2 a3_3 a4_4 a5_5], [zAr T 1 a1_1 600 (upd (upd (upd ft p0 (vp_nar .byte ((x >>> (24 &&& 31)).toInt8.toInt32))) (p0 + 1) (vp_nar .byte ((x >>> (16 &&& 31)).toInt8.toInt32))) ((p0 + 1) + 1) (vp_nar .byte ((x >>> (8 &&& 31)).toInt8.toInt32)))], [zAr T 0 a2_2 3 fk], [zArq T 3 a3_3 2 q1_6], [zArq T 4 a4_4 2 q2_7], [zArq T 5 a5_5 2 q3_8]] _ _ := G
  refine lv_aload_n hx hb dX9_append_30 rfl (lv_at hl 1 rfl) ?_
  refine lv_dup hx hb dX9_append_31 rfl ?_
  refine z_get C G clX9 0 rfl 1 (by decide) m_fl_RX9_44 rfl dX9_append_32 ?_
  refine lv_iconst (v := 1) hx hb dX9_append_35 (by decide) ?_
  refine lv_iadd hx hb dX9_append_36 ?_
  refine lv_topi (fun y_17 ey_17 => ?_)
  obtain rfl : y_17 = nI (((p0 + 1) + 1) + 1) := ey_17.trans (z_iaddn ((p0 + 1) + 1) 1 rfl rfl)
  refine z_put C G clX9 0 rfl 1 (by decide) m_fl_RX9_44 rfl rfl rfl (Nat.le_of_ble_eq_true rfl) dX9_append_37 (fun H locs G => ?_)
  have G : zS T A s.heap s [[zO8 t a1_1 (nI (((p0 + 1) + 1) + 1)) fl pl a2_2 a3_3 a4_4 a5_5], [zAr T 1 a1_1 600 (upd (upd (upd ft p0 (vp_nar .byte ((x >>> (24 &&& 31)).toInt8.toInt32))) (p0 + 1) (vp_nar .byte ((x >>> (16 &&& 31)).toInt8.toInt32))) ((p0 + 1) + 1) (vp_nar .byte ((x >>> (8 &&& 31)).toInt8.toInt32)))], [zAr T 0 a2_2 3 fk], [zArq T 3 a3_3 2 q1_6], [zArq T 4 a4_4 2 q2_7], [zArq T 5 a5_5 2 q3_8]] _ _ := G
  refine lv_iinc (v := 0) (lv' := [(2, .int 0), (0, .ref t), (1, .int x)]) hx hb dX9_append_40 hl (k := 0) rfl (by decide) (by decide) rfl (fun ls hl => ?_)
  refine lv_goto (tgt := 3) hx hb dX9_append_43 (by decide) ?_
  refine lv_iload_n hx hb dX9_append_3 rfl (lv_at hl 0 rfl) ?_
  refine lv_if_lt (tgt := 46) hx hb dX9_append_4 (by decide) (fun q => absurd q (by decide)) (fun _ => ?_)
  refine lv_aload_n hx hb dX9_append_7 rfl (lv_at hl 1 rfl) ?_
  refine z_get C G clX9 0 rfl 1 (by decide) m_fl_RX9_44 rfl dX9_append_8 ?_
  refine lv_sipush (v := 600) hx hb dX9_append_11 (by decide) ?_
  refine lv_icmp_ge (tgt := 40) hx hb dX9_append_14 (by decide) (fun q => absurd q (fun q2 => absurd ((nI_leI (a := 600) (b := ((p0 + 1) + 1) + 1) (by omega) (by omega)).mp q2) (by omega))) (fun _ => ?_)
  refine lv_aload_n hx hb dX9_append_17 rfl (lv_at hl 1 rfl) ?_
  refine z_get C G clX9 0 rfl 0 (by decide) m_fl_RX9_9 rfl dX9_append_18 ?_
  refine lv_aload_n hx hb dX9_append_21 rfl (lv_at hl 1 rfl) ?_
  refine z_get C G clX9 0 rfl 1 (by decide) m_fl_RX9_44 rfl dX9_append_22 ?_
  refine lv_iload_n hx hb dX9_append_25 rfl (lv_at hl 2 rfl) ?_
  refine lv_iload_n hx hb dX9_append_26 rfl (lv_at hl 0 rfl) ?_
  refine lv_ishr hx hb dX9_append_27 ?_
  refine lv_i2b hx hb dX9_append_28 rfl ?_
  refine z_bst C G 1 rfl (vp_in_nI (by omega) (by omega)) dX9_append_29 (fun H locs G => ?_)
  rw [nI_clamp (by omega)] at G
  have G : zS T A s.heap s [[zO8 t a1_1 (nI (((p0 + 1) + 1) + 1)) fl pl a2_2 a3_3 a4_4 a5_5], [zAr T 1 a1_1 600 (upd (upd (upd (upd ft p0 (vp_nar .byte ((x >>> (24 &&& 31)).toInt8.toInt32))) (p0 + 1) (vp_nar .byte ((x >>> (16 &&& 31)).toInt8.toInt32))) ((p0 + 1) + 1) (vp_nar .byte ((x >>> (8 &&& 31)).toInt8.toInt32))) (((p0 + 1) + 1) + 1) (vp_nar .byte ((x >>> (0 &&& 31)).toInt8.toInt32)))], [zAr T 0 a2_2 3 fk], [zArq T 3 a3_3 2 q1_6], [zArq T 4 a4_4 2 q2_7], [zArq T 5 a5_5 2 q3_8]] _ _ := G
  refine lv_aload_n hx hb dX9_append_30 rfl (lv_at hl 1 rfl) ?_
  refine lv_dup hx hb dX9_append_31 rfl ?_
  refine z_get C G clX9 0 rfl 1 (by decide) m_fl_RX9_44 rfl dX9_append_32 ?_
  refine lv_iconst (v := 1) hx hb dX9_append_35 (by decide) ?_
  refine lv_iadd hx hb dX9_append_36 ?_
  refine lv_topi (fun y_18 ey_18 => ?_)
  obtain rfl : y_18 = nI ((((p0 + 1) + 1) + 1) + 1) := ey_18.trans (z_iaddn (((p0 + 1) + 1) + 1) 1 rfl rfl)
  refine z_put C G clX9 0 rfl 1 (by decide) m_fl_RX9_44 rfl rfl rfl (Nat.le_of_ble_eq_true rfl) dX9_append_37 (fun H locs G => ?_)
  have G : zS T A s.heap s [[zO8 t a1_1 (nI ((((p0 + 1) + 1) + 1) + 1)) fl pl a2_2 a3_3 a4_4 a5_5], [zAr T 1 a1_1 600 (upd (upd (upd (upd ft p0 (vp_nar .byte ((x >>> (24 &&& 31)).toInt8.toInt32))) (p0 + 1) (vp_nar .byte ((x >>> (16 &&& 31)).toInt8.toInt32))) ((p0 + 1) + 1) (vp_nar .byte ((x >>> (8 &&& 31)).toInt8.toInt32))) (((p0 + 1) + 1) + 1) (vp_nar .byte ((x >>> (0 &&& 31)).toInt8.toInt32)))], [zAr T 0 a2_2 3 fk], [zArq T 3 a3_3 2 q1_6], [zArq T 4 a4_4 2 q2_7], [zArq T 5 a5_5 2 q3_8]] _ _ := G
  refine lv_iinc (v := (-8)) (lv' := [(2, .int (-8)), (0, .ref t), (1, .int x)]) hx hb dX9_append_40 hl (k := 0) rfl (by decide) (by decide) rfl (fun ls hl => ?_)
  refine lv_goto (tgt := 3) hx hb dX9_append_43 (by decide) ?_
  refine lv_iload_n hx hb dX9_append_3 rfl (lv_at hl 0 rfl) ?_
  refine lv_if_lt (tgt := 46) hx hb dX9_append_4 (by decide) (fun _ => ?_) (fun q => absurd (by decide) q)
  have hw_19 : bTold T t l0 l1 d0 d1 g0 g1 (nI ((((p0 + 1) + 1) + 1) + 1)) fl pl (upd (upd (upd (upd ft p0 (vp_nar .byte ((x >>> (24 &&& 31)).toInt8.toInt32))) (p0 + 1) (vp_nar .byte ((x >>> (16 &&& 31)).toInt8.toInt32))) ((p0 + 1) + 1) (vp_nar .byte ((x >>> (8 &&& 31)).toInt8.toInt32))) (((p0 + 1) + 1) + 1) (vp_nar .byte ((x >>> (0 &&& 31)).toInt8.toInt32))) fk [zO8 t a1_1 (nI ((((p0 + 1) + 1) + 1) + 1)) fl pl a2_2 a3_3 a4_4 a5_5, zAr T 1 a1_1 600 (upd (upd (upd (upd ft p0 (vp_nar .byte ((x >>> (24 &&& 31)).toInt8.toInt32))) (p0 + 1) (vp_nar .byte ((x >>> (16 &&& 31)).toInt8.toInt32))) ((p0 + 1) + 1) (vp_nar .byte ((x >>> (8 &&& 31)).toInt8.toInt32))) (((p0 + 1) + 1) + 1) (vp_nar .byte ((x >>> (0 &&& 31)).toInt8.toInt32))), zAr T 0 a2_2 3 fk, zArq T 3 a3_3 2 q1_6, zArq T 4 a4_4 2 q2_7, zArq T 5 a5_5 2 q3_8] := ⟨a1_1, a2_2, a3_3, a4_4, a5_5, q1_6, q2_7, q3_8, rfl, h_9, h_10, h_11, h_12, h_13, h_14⟩
  have G : zS T A s.heap s [[zO8 t a1_1 (nI ((((p0 + 1) + 1) + 1) + 1)) fl pl a2_2 a3_3 a4_4 a5_5, zAr T 1 a1_1 600 (upd (upd (upd (upd ft p0 (vp_nar .byte ((x >>> (24 &&& 31)).toInt8.toInt32))) (p0 + 1) (vp_nar .byte ((x >>> (16 &&& 31)).toInt8.toInt32))) ((p0 + 1) + 1) (vp_nar .byte ((x >>> (8 &&& 31)).toInt8.toInt32))) (((p0 + 1) + 1) + 1) (vp_nar .byte ((x >>> (0 &&& 31)).toInt8.toInt32))), zAr T 0 a2_2 3 fk, zArq T 3 a3_3 2 q1_6, zArq T 4 a4_4 2 q2_7, zArq T 5 a5_5 2 q3_8]] _ _ := G.re rfl
  exact z_back hQ9 (z_vret C hr hlocks G (Nat.le_of_ble_eq_true rfl) (Nat.le_of_ble_eq_true rfl) dX9_append_46 ⟨([zO8 t a1_1 (nI ((((p0 + 1) + 1) + 1) + 1)) fl pl a2_2 a3_3 a4_4 a5_5, zAr T 1 a1_1 600 (upd (upd (upd (upd ft p0 (vp_nar .byte ((x >>> (24 &&& 31)).toInt8.toInt32))) (p0 + 1) (vp_nar .byte ((x >>> (16 &&& 31)).toInt8.toInt32))) ((p0 + 1) + 1) (vp_nar .byte ((x >>> (8 &&& 31)).toInt8.toInt32))) (((p0 + 1) + 1) + 1) (vp_nar .byte ((x >>> (0 &&& 31)).toInt8.toInt32))), zAr T 0 a2_2 3 fk, zArq T 3 a3_3 2 q1_6, zArq T 4 a4_4 2 q2_7, zArq T 5 a5_5 2 q3_8]), (nI ((((p0 + 1) + 1) + 1) + 1)), (upd (upd (upd (upd ft p0 (vp_nar .byte ((x >>> (24 &&& 31)).toInt8.toInt32))) (p0 + 1) (vp_nar .byte ((x >>> (16 &&& 31)).toInt8.toInt32))) ((p0 + 1) + 1) (vp_nar .byte ((x >>> (8 &&& 31)).toInt8.toInt32))) (((p0 + 1) + 1) + 1) (vp_nar .byte ((x >>> (0 &&& 31)).toInt8.toInt32))), rfl, hw_19, rfl, (by unfold zApp zB8; rw [pk_vb, pk_vb, pk_vb, pk_vb])⟩)
set_option maxHeartbeats 4000000 in
set_option maxRecDepth 100000 in
/-- feed -/
theorem c_f_feed (l : Launch) (T : zTy) (xo : Nat) (t : Nat) (im : Nat) (mk : Nat) (rd : Nat) (po : Nat) (co : Nat) (tr : Nat) (wa : Nat) (wb_ : Nat) (fi : Nat) (cd : Nat) (l0 : Nat) (l1 : Nat) (d0 : Nat) (d1 : Nat) (g0 : Nat) (g1 : Nat) (ln : Int32) (fl : Int32) (pl : Int32) (ft : Nat → Int32) (fk : Nat → Int32) (wt : va_W) (i1 : Int32) (i2 : Int32) (i3 : Int32) (i4 : Int32) (i5 : Int32) (p0 : Nat) (ht : bTold T t l0 l1 d0 d1 g0 g1 ln fl pl ft fk wt) (hK : zKT fk) (hp : ln = nI p0) (hp6 : p0 ≤ 600) : zMi l T yX11_feed cX11_feed 6 (some .int) 2 0 0 [.ref xo, .int i1, .int i2, .int i3, .int i4, .int i5] [[zO10 xo t im mk rd po co tr wa wb_ fi cd], wt] (fun (r : Int32) bs => ∃ (wt_2 : va_W) (u : Int32) (g : Nat → Int32), bs = [[zO10 xo t im mk rd po co tr wa wb_ fi cd], wt_2] ∧ bTold T t l0 l1 d0 d1 g0 g1 u fl pl g fk wt_2 ∧ (580 < p0 ∧ r = -1 ∧ u = nI p0 ∧ g = ft ∨ p0 ≤ 580 ∧ r = nI (p0 + 20) ∧ u = nI (p0 + 20) ∧ g = zFeedC p0 i1 i2 i3 i4 i5 ft)) := by
  refine zMi_of (own := RX11) (by decide) rfl (Nat.le_of_ble_eq_true rfl) ?_
  intro p e s m args below meth c A ls C hr hlocks hnm hAe G hl
  refine zHide (fun Q9 hQ9 => ?_)
  have hx := C.1
  have hb := C.2.1
  have hl : lv_has ls 6 [(0, .ref xo), (1, .int i1), (2, .int i2), (3, .int i3), (4, .int i4), (5, .int i5)] := hl
  subst hp
  refine lv_aload_n hx hb dX11_feed_0 rfl (lv_at hl 0 rfl) ?_
  refine z_get C G clX11 0 rfl 0 (by decide) m_fl_RX11_10 rfl dX11_feed_1 ?_
  refine zEx8 ht ?_
  intro a1_1 a2_2 a3_3 a4_4 a5_5 q1_6 q2_7 q3_8
  refine zCu7 ?_
  intro hbs9 h_9 h_10 h_11 h_12 h_13 h_14
  clear ht
  subst hbs9
  have G : zS T A s.heap s [[zO10 xo t im mk rd po co tr wa wb_ fi cd], [zO8 t a1_1 (nI p0) fl pl a2_2 a3_3 a4_4 a5_5], [zAr T 1 a1_1 600 ft], [zAr T 0 a2_2 3 fk], [zArq T 3 a3_3 2 q1_6], [zArq T 4 a4_4 2 q2_7], [zArq T 5 a5_5 2 q3_8]] _ _ := G.re rfl
  refine z_get C G clX9 1 rfl 1 (by decide) m_fl_RX11_73 rfl dX11_feed_4 ?_
  refine lv_bipush (v := 20) hx hb dX11_feed_7 (by decide) ?_
  refine lv_iadd hx hb dX11_feed_9 ?_
  refine lv_topi (fun y_15 ey_15 => ?_)
  obtain rfl : y_15 = nI (p0 + 20) := ey_15.trans (z_iaddn p0 20 rfl rfl)
  refine lv_sipush (v := 600) hx hb dX11_feed_10 (by decide) ?_
  refine lv_icmp_le (tgt := 18) hx hb dX11_feed_13 (by decide) (fun c_16 => ?_) (fun c_16 => ?_)
  · have c_16n : p0 + 20 ≤ 600 := (nI_leI (a := p0 + 20) (b := 600) (by omega) (by omega)).mp c_16
    refine lv_aload_n hx hb dX11_feed_18 rfl (lv_at hl 0 rfl) ?_
    refine z_get C G clX11 0 rfl 0 (by decide) m_fl_RX11_10 rfl dX11_feed_19 ?_
    refine lv_iload_n hx hb dX11_feed_22 rfl (lv_at hl 1 rfl) ?_
    have hw_17 : bTold T t l0 l1 d0 d1 g0 g1 (nI p0) fl pl ft fk [zO8 t a1_1 (nI p0) fl pl a2_2 a3_3 a4_4 a5_5, zAr T 1 a1_1 600 ft, zAr T 0 a2_2 3 fk, zArq T 3 a3_3 2 q1_6, zArq T 4 a4_4 2 q2_7, zArq T 5 a5_5 2 q3_8] := ⟨a1_1, a2_2, a3_3, a4_4, a5_5, q1_6, q2_7, q3_8, rfl, h_9, h_10, h_11, h_12, h_13, h_14⟩
    have G : zS T A s.heap s [[zO10 xo t im mk rd po co tr wa wb_ fi cd], [zO8 t a1_1 (nI p0) fl pl a2_2 a3_3 a4_4 a5_5, zAr T 1 a1_1 600 ft, zAr T 0 a2_2 3 fk, zArq T 3 a3_3 2 q1_6, zArq T 4 a4_4 2 q2_7, zArq T 5 a5_5 2 q3_8]] _ _ := G.re rfl
    refine z_Vv (bc := [[zO8 t a1_1 (nI p0) fl pl a2_2 a3_3 a4_4 a5_5, zAr T 1 a1_1 600 ft, zAr T 0 a2_2 3 fk, zArq T 3 a3_3 2 q1_6, zArq T 4 a4_4 2 q2_7, zArq T 5 a5_5 2 q3_8]]) (br := [[zO10 xo t im mk rd po co tr wa wb_ fi cd]]) (As := [.int i1]) (rest := []) C G (c_f_append l T t l0 l1 d0 d1 g0 g1 (nI p0) fl pl ft fk ([zO8 t a1_1 (nI p0) fl pl a2_2 a3_3 a4_4 a5_5, zAr T 1 a1_1 600 ft, zAr T 0 a2_2 3 fk, zArq T 3 a3_3 2 q1_6, zArq T 4 a4_4 2 q2_7, zArq T 5 a5_5 2 q3_8]) i1 p0 hw_17 rfl (by omega)) (kV_RX11_77 C.2.2.2.2 (Nat.le_of_ble_eq_true rfl) (Nat.le_of_ble_eq_true rfl)) [1] [1] rfl rfl (ci := 8) (qc := (RX9, TX9, 8)) rfl rfl (List.mem_flatten.mpr ⟨_, List.mem_of_getElem? (i := 0) rfl, (bTold_mem hw_17).choose_spec⟩) rfl rfl hl.1 dX11_feed_23 (Nat.le_of_ble_eq_true rfl) (Nat.le_of_ble_eq_true rfl) (fun b1 H locs hw G => ?_)
    refine zEx3 hw ?_
    intro wt2_18 u_19 g_20
    refine zCu4 ?_
    intro hbs9 h_21 h_22 h_23
    clear hw
    subst hbs9
    have G : zS T A s.heap s [[zO10 xo t im mk rd po co tr wa wb_ fi cd], wt2_18] _ _ := G
    subst h_22
    refine lv_aload_n hx hb dX11_feed_26 rfl (lv_at hl 0 rfl) ?_
    refine z_get C G clX11 0 rfl 0 (by decide) m_fl_RX11_10 rfl dX11_feed_27 ?_
    refine lv_iload_n hx hb dX11_feed_30 rfl (lv_at hl 2 rfl) ?_
    refine z_Vv (bc := [wt2_18]) (br := [[zO10 xo t im mk rd po co tr wa wb_ fi cd]]) (As := [.int i2]) (rest := []) C G (c_f_append l T t l0 l1 d0 d1 g0 g1 (nI (p0 + 4)) fl pl g_20 fk wt2_18 i2 (p0 + 4) h_21 rfl (by omega)) (kV_RX11_77 C.2.2.2.2 (Nat.le_of_ble_eq_true rfl) (Nat.le_of_ble_eq_true rfl)) [1] [1] rfl rfl (ci := 8) (qc := (RX9, TX9, 8)) rfl rfl (List.mem_flatten.mpr ⟨_, List.mem_of_getElem? (i := 0) rfl, (bTold_mem h_21).choose_spec⟩) rfl rfl hl.1 dX11_feed_31 (Nat.le_of_ble_eq_true rfl) (Nat.le_of_ble_eq_true rfl) (fun b1 H locs hw G => ?_)
    refine zEx3 hw ?_
    intro wt2_25 u_26 g_27
    refine zCu4 ?_
    intro hbs9 h_28 h_29 h_30
    clear hw
    subst hbs9
    have G : zS T A s.heap s [[zO10 xo t im mk rd po co tr wa wb_ fi cd], wt2_25] _ _ := G
    subst h_29
    refine lv_aload_n hx hb dX11_feed_34 rfl (lv_at hl 0 rfl) ?_
    refine z_get C G clX11 0 rfl 0 (by decide) m_fl_RX11_10 rfl dX11_feed_35 ?_
    refine lv_iload_n hx hb dX11_feed_38 rfl (lv_at hl 3 rfl) ?_
    refine z_Vv (bc := [wt2_25]) (br := [[zO10 xo t im mk rd po co tr wa wb_ fi cd]]) (As := [.int i3]) (rest := []) C G (c_f_append l T t l0 l1 d0 d1 g0 g1 (nI (p0 + 4 + 4)) fl pl g_27 fk wt2_25 i3 ((p0 + 4) + 4) h_28 rfl (by omega)) (kV_RX11_77 C.2.2.2.2 (Nat.le_of_ble_eq_true rfl) (Nat.le_of_ble_eq_true rfl)) [1] [1] rfl rfl (ci := 8) (qc := (RX9, TX9, 8)) rfl rfl (List.mem_flatten.mpr ⟨_, List.mem_of_getElem? (i := 0) rfl, (bTold_mem h_28).choose_spec⟩) rfl rfl hl.1 dX11_feed_39 (Nat.le_of_ble_eq_true rfl) (Nat.le_of_ble_eq_true rfl) (fun b1 H locs hw G => ?_)
    refine zEx3 hw ?_
    intro wt2_32 u_33 g_34
    refine zCu4 ?_
    intro hbs9 h_35 h_36 h_37
    clear hw
    subst hbs9
    have G : zS T A s.heap s [[zO10 xo t im mk rd po co tr wa wb_ fi cd], wt2_32] _ _ := G
    subst h_36
    refine lv_aload_n hx hb dX11_feed_42 rfl (lv_at hl 0 rfl) ?_
    refine z_get C G clX11 0 rfl 0 (by decide) m_fl_RX11_10 rfl dX11_feed_43 ?_
    refine lv_iload hx hb dX11_feed_46 (lv_at hl 4 rfl) ?_
    refine z_Vv (bc := [wt2_32]) (br := [[zO10 xo t im mk rd po co tr wa wb_ fi cd]]) (As := [.int i4]) (rest := []) C G (c_f_append l T t l0 l1 d0 d1 g0 g1 (nI ((p0 + 4) + 4 + 4)) fl pl g_34 fk wt2_32 i4 (((p0 + 4) + 4) + 4) h_35 rfl (by omega)) (kV_RX11_77 C.2.2.2.2 (Nat.le_of_ble_eq_true rfl) (Nat.le_of_ble_eq_true rfl)) [1] [1] rfl rfl (ci := 8) (qc := (RX9, TX9, 8)) rfl rfl (List.mem_flatten.mpr ⟨_, List.mem_of_getElem? (i := 0) rfl, (bTold_mem h_35).choose_spec⟩) rfl rfl hl.1 dX11_feed_48 (Nat.le_of_ble_eq_true rfl) (Nat.le_of_ble_eq_true rfl) (fun b1 H locs hw G => ?_)
    refine zEx3 hw ?_
    intro wt2_39 u_40 g_41
    refine zCu4 ?_
    intro hbs9 h_42 h_43 h_44
    clear hw
    subst hbs9
    have G : zS T A s.heap s [[zO10 xo t im mk rd po co tr wa wb_ fi cd], wt2_39] _ _ := G
    subst h_43
    refine lv_aload_n hx hb dX11_feed_51 rfl (lv_at hl 0 rfl) ?_
    refine z_get C G clX11 0 rfl 0 (by decide) m_fl_RX11_10 rfl dX11_feed_52 ?_
    refine lv_iload hx hb dX11_feed_55 (lv_at hl 5 rfl) ?_
    refine z_Vv (bc := [wt2_39]) (br := [[zO10 xo t im mk rd po co tr wa wb_ fi cd]]) (As := [.int i5]) (rest := []) C G (c_f_append l T t l0 l1 d0 d1 g0 g1 (nI (((p0 + 4) + 4) + 4 + 4)) fl pl g_41 fk wt2_39 i5 ((((p0 + 4) + 4) + 4) + 4) h_42 rfl (by omega)) (kV_RX11_77 C.2.2.2.2 (Nat.le_of_ble_eq_true rfl) (Nat.le_of_ble_eq_true rfl)) [1] [1] rfl rfl (ci := 8) (qc := (RX9, TX9, 8)) rfl rfl (List.mem_flatten.mpr ⟨_, List.mem_of_getElem? (i := 0) rfl, (bTold_mem h_42).choose_spec⟩) rfl rfl hl.1 dX11_feed_57 (Nat.le_of_ble_eq_true rfl) (Nat.le_of_ble_eq_true rfl) (fun b1 H locs hw G => ?_)
    refine zEx3 hw ?_
    intro wt2_46 u_47 g_48
    refine zCu4 ?_
    intro hbs9 h_49 h_50 h_51
    clear hw
    subst hbs9
    have G : zS T A s.heap s [[zO10 xo t im mk rd po co tr wa wb_ fi cd], wt2_46] _ _ := G
    subst h_50
    refine lv_aload_n hx hb dX11_feed_60 rfl (lv_at hl 0 rfl) ?_
    refine z_get C G clX11 0 rfl 0 (by decide) m_fl_RX11_10 rfl dX11_feed_61 ?_
    refine zEx8 h_49 ?_
    intro a1_53 a2_54 a3_55 a4_56 a5_57 q1_58 q2_59 q3_60
    refine zCu7 ?_
    intro hbs9 h_61 h_62 h_63 h_64 h_65 h_66
    clear h_49
    subst hbs9
    have G : zS T A s.heap s [[zO10 xo t im mk rd po co tr wa wb_ fi cd], [zO8 t a1_53 (nI ((((p0 + 4) + 4) + 4) + 4 + 4)) fl pl a2_54 a3_55 a4_56 a5_57], [zAr T 1 a1_53 600 g_48], [zAr T 0 a2_54 3 fk], [zArq T 3 a3_55 2 q1_58], [zArq T 4 a4_56 2 q2_59], [zArq T 5 a5_57 2 q3_60]] _ _ := G.re rfl
    refine z_get C G clX9 1 rfl 1 (by decide) m_fl_RX11_73 rfl dX11_feed_64 ?_
    have hw_67 : bTold T t l0 l1 d0 d1 g0 g1 (nI ((((p0 + 4) + 4) + 4) + 4 + 4)) fl pl g_48 fk [zO8 t a1_53 (nI ((((p0 + 4) + 4) + 4) + 4 + 4)) fl pl a2_54 a3_55 a4_56 a5_57, zAr T 1 a1_53 600 g_48, zAr T 0 a2_54 3 fk, zArq T 3 a3_55 2 q1_58, zArq T 4 a4_56 2 q2_59, zArq T 5 a5_57 2 q3_60] := ⟨a1_53, a2_54, a3_55, a4_56, a5_57, q1_58, q2_59, q3_60, rfl, h_61, h_62, h_63, h_64, h_65, h_66⟩
    have G : zS T A s.heap s [[zO10 xo t im mk rd po co tr wa wb_ fi cd], [zO8 t a1_53 (nI ((((p0 + 4) + 4) + 4) + 4 + 4)) fl pl a2_54 a3_55 a4_56 a5_57, zAr T 1 a1_53 600 g_48, zAr T 0 a2_54 3 fk, zArq T 3 a3_55 2 q1_58, zArq T 4 a4_56 2 q2_59, zArq T 5 a5_57 2 q3_60]] _ _ := G.re rfl
    exact z_back hQ9 (z_iret C hr hlocks G (Nat.le_of_ble_eq_true rfl) (Nat.le_of_ble_eq_true rfl) dX11_feed_67 ⟨([zO8 t a1_53 (nI ((((p0 + 4) + 4) + 4) + 4 + 4)) fl pl a2_54 a3_55 a4_56 a5_57, zAr T 1 a1_53 600 g_48, zAr T 0 a2_54 3 fk, zArq T 3 a3_55 2 q1_58, zArq T 4 a4_56 2 q2_59, zArq T 5 a5_57 2 q3_60]), (nI ((((p0 + 4) + 4) + 4) + 4 + 4)), g_48, rfl, hw_67, (Or.inr ⟨by omega, rfl, rfl, by unfold zFeedC; rw [h_51, h_44, h_37, h_30, h_23]⟩)⟩)
  · have c_16n : ¬ p0 + 20 ≤ 600 := fun q => c_16 ((nI_leI (a := p0 + 20) (b := 600) (by omega) (by omega)).mpr q)
    refine lv_iconst (v := (-1)) hx hb dX11_feed_16 (by decide) ?_
    have hw_68 : bTold T t l0 l1 d0 d1 g0 g1 (nI p0) fl pl ft fk [zO8 t a1_1 (nI p0) fl pl a2_2 a3_3 a4_4 a5_5, zAr T 1 a1_1 600 ft, zAr T 0 a2_2 3 fk, zArq T 3 a3_3 2 q1_6, zArq T 4 a4_4 2 q2_7, zArq T 5 a5_5 2 q3_8] := ⟨a1_1, a2_2, a3_3, a4_4, a5_5, q1_6, q2_7, q3_8, rfl, h_9, h_10, h_11, h_12, h_13, h_14⟩
    have G : zS T A s.heap s [[zO10 xo t im mk rd po co tr wa wb_ fi cd], [zO8 t a1_1 (nI p0) fl pl a2_2 a3_3 a4_4 a5_5, zAr T 1 a1_1 600 ft, zAr T 0 a2_2 3 fk, zArq T 3 a3_3 2 q1_6, zArq T 4 a4_4 2 q2_7, zArq T 5 a5_5 2 q3_8]] _ _ := G.re rfl
    exact z_back hQ9 (z_iret C hr hlocks G (Nat.le_of_ble_eq_true rfl) (Nat.le_of_ble_eq_true rfl) dX11_feed_17 ⟨([zO8 t a1_1 (nI p0) fl pl a2_2 a3_3 a4_4 a5_5, zAr T 1 a1_1 600 ft, zAr T 0 a2_2 3 fk, zArq T 3 a3_3 2 q1_6, zArq T 4 a4_4 2 q2_7, zArq T 5 a5_5 2 q3_8]), (nI p0), ft, rfl, hw_68, (Or.inl ⟨by omega, rfl, rfl, rfl⟩)⟩)
set_option maxHeartbeats 4000000 in
set_option maxRecDepth 100000 in
/-- c_fm_feed -/
theorem c_fm_feed (l : Launch) (T : zTy) (mo : Nat) (m_all : Nat) (m_has : Nat) (i_size : Int32) (i_next : Int32) (i_where : Int32) (i_token : Int32) (i_number : Int32) (i_word : Int32) (i_wrong : Int32) (i_farCrossing : Int32) (m_read : Nat) (i_z0 : Int32) (i_crossings : Int32) (i_inns : Int32) (m_posts : Nat) (m_shut : Nat) (m_here : Nat) (i_steps : Int32) (i_done : Int32) (i_at : Int32) (i_gone : Int32) (m_was : Nat) (m_came : Nat) (m_seenAt : Nat) (m_rowWorth : Nat) (m_farBy : Nat) (m_used : Nat) (i_everywhere : Int32) (i_again0 : Int32) (i_d0 : Int32) (i_never : Int32) (i_firstCame : Int32) (i_longRun : Int32) (i_moved : Int32) (i_crowd : Int32) (i_l0 : Int32) (i_fitMany : Int32) (i_fitLeast : Int32) (i_fitMost : Int32) (m_fitPost : Nat) (m_fitEnd : Nat) (m_keptPosts : Nat) (i_x0 : Int32) (f_all : Nat → Int32) (p0 : Nat) (a_ : Int32) (b_ : Int32) (c_ : Int32) (d_ : Int32) (e_ : Int32) (h4 : f_all 4 = nI p0) (hp6 : p0 ≤ 600) : zMi l T yX12_feed cX12_feed 8 (some .int) 1 0 0 [.ref mo, .int a_, .int b_, .int c_, .int d_, .int e_] [[zO11 mo m_all m_has i_size i_next i_where i_token i_number i_word i_wrong i_farCrossing m_read i_z0 i_crossings i_inns m_posts m_shut m_here i_steps i_done i_at i_gone m_was m_came m_seenAt m_rowWorth m_farBy m_used i_everywhere i_again0 i_d0 i_never i_firstCame i_longRun i_moved i_crowd i_l0 i_fitMany i_fitLeast i_fitMost m_fitPost m_fitEnd m_keptPosts i_x0], [zAr T 0 m_all 3952 f_all]] (fun (r : Int32) bs => ∃ (g_all : Nat → Int32), bs = [[zO11 mo m_all m_has i_size i_next i_where i_token i_number i_word i_wrong i_farCrossing m_read i_z0 i_crossings i_inns m_posts m_shut m_here i_steps i_done i_at i_gone m_was m_came m_seenAt m_rowWorth m_farBy m_used i_everywhere i_again0 i_d0 i_never i_firstCame i_longRun i_moved i_crowd i_l0 i_fitMany i_fitLeast i_fitMost m_fitPost m_fitEnd m_keptPosts i_x0], [zAr T 0 m_all 3952 g_all]] ∧ (580 < p0 ∧ r = -1 ∧ g_all = f_all ∨ p0 ≤ 580 ∧ r = nI (p0 + 20) ∧ zFeedR p0 a_ b_ c_ d_ e_ f_all g_all)) := by
  refine zMi_of (own := RX12) (by decide) rfl (Nat.le_of_ble_eq_true rfl) ?_
  intro p e s m args below meth c A ls C hr hlocks hnm hAe G hl
  refine zHide (fun Q9 hQ9 => ?_)
  have hx := C.1
  have hb := C.2.1
  have hl : lv_has ls 8 [(0, .ref mo), (1, .int a_), (2, .int b_), (3, .int c_), (4, .int d_), (5, .int e_)] := hl
  refine lv_aload_n hx hb dX12_feed_0 rfl (lv_at hl 0 rfl) ?_
  refine z_get C G clX12 0 rfl 0 (by decide) m_fl_RX12_7 rfl dX12_feed_1 ?_
  refine lv_iconst (v := 4) hx hb dX12_feed_4 (by decide) ?_
  refine z_ild C G 1 rfl (vp_in_nI (n := 4) (by decide) (by decide)) dX12_feed_5 ?_
  refine lv_topi (fun v_1 ev_1 => ?_)
  rw [show ((4 : Int32).toNatClampNeg) = 4 from rfl] at ev_1
  subst ev_1
  rw [show f_all 4 = nI p0 from h4]
  refine lv_bipush (v := 20) hx hb dX12_feed_6 (by decide) ?_
  refine lv_iadd hx hb dX12_feed_8 ?_
  refine lv_topi (fun y_2 ey_2 => ?_)
  obtain rfl : y_2 = nI (p0 + 20) := ey_2.trans (z_iaddn p0 20 rfl rfl)
  refine lv_sipush (v := 600) hx hb dX12_feed_9 (by decide) ?_
  refine lv_icmp_le (tgt := 17) hx hb dX12_feed_12 (by decide) (fun c_3 => ?_) (fun c_3 => ?_)
  · have c_3n : p0 + 20 ≤ 600 := (nI_leI (a := p0 + 20) (b := 600) (by omega) (by omega)).mp c_3
    refine lv_iconst (v := 0) hx hb dX12_feed_17 (by decide) ?_
    refine lv_istore (lv' := [(6, .int 0), (0, .ref mo), (1, .int a_), (2, .int b_), (3, .int c_), (4, .int d_), (5, .int e_)]) hx hb dX12_feed_18 hl (by decide) rfl (fun ls hl => ?_)
    refine z_lp2 (T := T) 20 (fun (i : Nat) (x : Nat → Int32) => [[zO11 mo m_all m_has i_size i_next i_where i_token i_number i_word i_wrong i_farCrossing m_read i_z0 i_crossings i_inns m_posts m_shut m_here i_steps i_done i_at i_gone m_was m_came m_seenAt m_rowWorth m_farBy m_used i_everywhere i_again0 i_d0 i_never i_firstCame i_longRun i_moved i_crowd i_l0 i_fitMany i_fitLeast i_fitMost m_fitPost m_fitEnd m_keptPosts i_x0], [zAr T 0 m_all 3952 x]]) (fun (i : Nat) (x : Nat → Int32) => [(6, .int (nI i)), (0, .ref mo), (1, .int a_), (2, .int b_), (3, .int c_), (4, .int d_), (5, .int e_)]) (fun (i : Nat) (x : Nat → Int32) => i ≤ 20 ∧ x 4 = nI (p0 + i) ∧ (∀ j, j < i → x (10 + (p0 + j)) = pB a_ b_ c_ d_ e_ j &&& 255) ∧ (∀ j, (j < 10 + p0 ∨ 10 + p0 + i ≤ j) → ¬ j = 4 → x j = f_all j)) (fun (i : Nat) (x : Nat → Int32) => 20 - i) ?_ 0 f_all (show 0 ≤ 20 ∧ f_all 4 = nI (p0 + 0) ∧ (∀ j, j < 0 → f_all (10 + (p0 + j)) = pB a_ b_ c_ d_ e_ j &&& 255) ∧ (∀ j, (j < 10 + p0 ∨ 10 + p0 + 0 ≤ j) → ¬ j = 4 → f_all j = f_all j) from ⟨by omega, h4, (fun j hj => absurd hj (Nat.not_lt_zero _)), (fun j _ _ => rfl)⟩) G (lv_sub hl [0, 1, 2, 3, 4, 5, 6] rfl)
    intro i x hI9 ih_20 H locs ls G hl
    replace hI9 : i ≤ 20 ∧ x 4 = nI (p0 + i) ∧ (∀ j, j < i → x (10 + (p0 + j)) = pB a_ b_ c_ d_ e_ j &&& 255) ∧ (∀ j, (j < 10 + p0 ∨ 10 + p0 + i ≤ j) → ¬ j = 4 → x j = f_all j) := hI9
    refine zAn4 hI9 ?_
    intro hi hx4 hS hO
    clear hI9
    replace G : zS T A s.heap s [[zO11 mo m_all m_has i_size i_next i_where i_token i_number i_word i_wrong i_farCrossing m_read i_z0 i_crossings i_inns m_posts m_shut m_here i_steps i_done i_at i_gone m_was m_came m_seenAt m_rowWorth m_farBy m_used i_everywhere i_again0 i_d0 i_never i_firstCame i_longRun i_moved i_crowd i_l0 i_fitMany i_fitLeast i_fitMost m_fitPost m_fitEnd m_keptPosts i_x0], [zAr T 0 m_all 3952 x]] _ _ := G
    replace hl : lv_has ls 8 [(6, .int (nI i)), (0, .ref mo), (1, .int a_), (2, .int b_), (3, .int c_), (4, .int d_), (5, .int e_)] := hl
    refine lv_iload hx hb dX12_feed_20 (lv_at hl 0 rfl) ?_
    refine lv_bipush (v := 20) hx hb dX12_feed_22 (by decide) ?_
    refine lv_icmp_ge (tgt := 122) hx hb dX12_feed_24 (by decide) (fun c_4 => ?_) (fun c_4 => ?_)
    · have c_4n : 20 ≤ i := (nI_leI (a := 20) (b := i) (by omega) (by omega)).mp c_4
      refine lv_aload_n hx hb dX12_feed_122 rfl (lv_at hl 1 rfl) ?_
      refine z_get C G clX12 0 rfl 0 (by decide) m_fl_RX12_7 rfl dX12_feed_123 ?_
      refine lv_iconst (v := 4) hx hb dX12_feed_126 (by decide) ?_
      refine z_ild C G 1 rfl (vp_in_nI (n := 4) (by decide) (by decide)) dX12_feed_127 ?_
      refine lv_topi (fun v_5 ev_5 => ?_)
      rw [show ((4 : Int32).toNatClampNeg) = 4 from rfl] at ev_5
      subst ev_5
      exact z_back hQ9 (z_iret C hr hlocks G (Nat.le_of_ble_eq_true rfl) (Nat.le_of_ble_eq_true rfl) dX12_feed_128 ⟨x, rfl, (Or.inr ⟨by omega, (by rw [hx4, show i = 20 by omega]), (by rw [hx4, show i = 20 by omega]), fun j hj => hS j (by omega), fun j h1 h2 => hO j (by omega) h2⟩)⟩)
    · have c_4n : ¬ 20 ≤ i := fun q => c_4 ((nI_leI (a := 20) (b := i) (by omega) (by omega)).mpr q)
      refine lv_iload hx hb dX12_feed_27 (lv_at hl 0 rfl) ?_
      refine lv_iconst (v := 4) hx hb dX12_feed_29 (by decide) ?_
      refine lv_icmp_ge (tgt := 37) hx hb dX12_feed_30 (by decide) (fun c_6 => ?_) (fun c_6 => ?_)
      · have c_6n : 4 ≤ i := (nI_leI (a := 4) (b := i) (by omega) (by omega)).mp c_6
        refine lv_iload hx hb dX12_feed_37 (lv_at hl 0 rfl) ?_
        refine lv_bipush (v := 8) hx hb dX12_feed_39 (by decide) ?_
        refine lv_icmp_ge (tgt := 48) hx hb dX12_feed_41 (by decide) (fun c_7 => ?_) (fun c_7 => ?_)
        · have c_7n : 8 ≤ i := (nI_leI (a := 8) (b := i) (by omega) (by omega)).mp c_7
          refine lv_iload hx hb dX12_feed_48 (lv_at hl 0 rfl) ?_
          refine lv_bipush (v := 12) hx hb dX12_feed_50 (by decide) ?_
          refine lv_icmp_ge (tgt := 59) hx hb dX12_feed_52 (by decide) (fun c_8 => ?_) (fun c_8 => ?_)
          · have c_8n : 12 ≤ i := (nI_leI (a := 12) (b := i) (by omega) (by omega)).mp c_8
            refine lv_iload hx hb dX12_feed_59 (lv_at hl 0 rfl) ?_
            refine lv_bipush (v := 16) hx hb dX12_feed_61 (by decide) ?_
            refine lv_icmp_ge (tgt := 71) hx hb dX12_feed_63 (by decide) (fun c_9 => ?_) (fun c_9 => ?_)
            · have c_9n : 16 ≤ i := (nI_leI (a := 16) (b := i) (by omega) (by omega)).mp c_9
              refine lv_iload hx hb dX12_feed_71 (lv_at hl 6 rfl) ?_
              refine lv_istore (lv' := [(7, .int e_), (6, .int (nI i)), (0, .ref mo), (1, .int a_), (2, .int b_), (3, .int c_), (4, .int d_), (5, .int e_)]) hx hb dX12_feed_73 hl (by decide) rfl (fun ls hl => ?_)
              refine lv_aload_n hx hb dX12_feed_75 rfl (lv_at hl 2 rfl) ?_
              refine z_get C G clX12 0 rfl 0 (by decide) m_fl_RX12_7 rfl dX12_feed_76 ?_
              refine lv_bipush (v := 10) hx hb dX12_feed_79 (by decide) ?_
              refine lv_aload_n hx hb dX12_feed_81 rfl (lv_at hl 2 rfl) ?_
              refine z_get C G clX12 0 rfl 0 (by decide) m_fl_RX12_7 rfl dX12_feed_82 ?_
              refine lv_iconst (v := 4) hx hb dX12_feed_85 (by decide) ?_
              refine z_ild C G 1 rfl (vp_in_nI (n := 4) (by decide) (by decide)) dX12_feed_86 ?_
              refine lv_topi (fun v_10 ev_10 => ?_)
              rw [show ((4 : Int32).toNatClampNeg) = 4 from rfl] at ev_10
              subst ev_10
              rw [hx4]
              refine lv_iadd hx hb dX12_feed_87 ?_
              refine lv_topi (fun y_11 ey_11 => ?_)
              obtain rfl : y_11 = nI (10 + (p0 + i)) := ey_11.trans (z_iaddn 10 (p0 + i) rfl rfl)
              refine lv_iload hx hb dX12_feed_88 (lv_at hl 0 rfl) ?_
              refine lv_bipush (v := 24) hx hb dX12_feed_90 (by decide) ?_
              refine lv_bipush (v := 8) hx hb dX12_feed_92 (by decide) ?_
              refine lv_iload hx hb dX12_feed_94 (lv_at hl 1 rfl) ?_
              refine lv_iconst (v := 4) hx hb dX12_feed_96 (by decide) ?_
              refine lv_irem hx hb dX12_feed_97 (by decide) ?_
              refine lv_imul hx hb dX12_feed_98 ?_
              refine lv_isub hx hb dX12_feed_99 ?_
              refine lv_ishr hx hb dX12_feed_100 ?_
              refine lv_sipush (v := 255) hx hb dX12_feed_101 (by decide) ?_
              refine lv_iand hx hb dX12_feed_104 ?_
              refine z_ist C G 1 rfl (vp_in_nI (by omega) (by omega)) dX12_feed_105 (fun H locs G => ?_)
              rw [nI_clamp (by omega)] at G
              have G : zS T A s.heap s [[zO11 mo m_all m_has i_size i_next i_where i_token i_number i_word i_wrong i_farCrossing m_read i_z0 i_crossings i_inns m_posts m_shut m_here i_steps i_done i_at i_gone m_was m_came m_seenAt m_rowWorth m_farBy m_used i_everywhere i_again0 i_d0 i_never i_firstCame i_longRun i_moved i_crowd i_l0 i_fitMany i_fitLeast i_fitMost m_fitPost m_fitEnd m_keptPosts i_x0], [zAr T 0 m_all 3952 (upd x (10 + (p0 + i)) ((e_ >>> ((24 - (8 * ((nI i) - (nI i) / 4 * 4))) &&& 31)) &&& 255))]] _ _ := G
              refine lv_aload_n hx hb dX12_feed_106 rfl (lv_at hl 2 rfl) ?_
              refine z_get C G clX12 0 rfl 0 (by decide) m_fl_RX12_7 rfl dX12_feed_107 ?_
              refine lv_iconst (v := 4) hx hb dX12_feed_110 (by decide) ?_
              refine lv_dup2_11 hx hb dX12_feed_111 rfl rfl ?_
              refine z_ild C G 1 rfl (vp_in_nI (n := 4) (by decide) (by decide)) dX12_feed_112 ?_
              refine lv_topi (fun v_12 ev_12 => ?_)
              rw [show ((4 : Int32).toNatClampNeg) = 4 from rfl] at ev_12
              subst ev_12
              rw [show (upd x (10 + (p0 + i)) ((e_ >>> ((24 - (8 * ((nI i) - (nI i) / 4 * 4))) &&& 31)) &&& 255)) 4 = nI (p0 + i) from (z_ne (by omega)).trans hx4]
              refine lv_iconst (v := 1) hx hb dX12_feed_113 (by decide) ?_
              refine lv_iadd hx hb dX12_feed_114 ?_
              refine lv_topi (fun y_13 ey_13 => ?_)
              obtain rfl : y_13 = nI ((p0 + i) + 1) := ey_13.trans (z_iaddn (p0 + i) 1 rfl rfl)
              refine z_ist C G 1 rfl (vp_in_nI (n := 4) (by decide) (by decide)) dX12_feed_115 (fun H locs G => ?_)
              have G : zS T A s.heap s [[zO11 mo m_all m_has i_size i_next i_where i_token i_number i_word i_wrong i_farCrossing m_read i_z0 i_crossings i_inns m_posts m_shut m_here i_steps i_done i_at i_gone m_was m_came m_seenAt m_rowWorth m_farBy m_used i_everywhere i_again0 i_d0 i_never i_firstCame i_longRun i_moved i_crowd i_l0 i_fitMany i_fitLeast i_fitMost m_fitPost m_fitEnd m_keptPosts i_x0], [zAr T 0 m_all 3952 (upd (upd x (10 + (p0 + i)) ((e_ >>> ((24 - (8 * ((nI i) - (nI i) / 4 * 4))) &&& 31)) &&& 255)) 4 (nI ((p0 + i) + 1)))]] _ _ := G
              refine lv_iinc (v := nI (i + 1)) (lv' := [(6, .int (nI (i + 1))), (7, .int e_), (0, .ref mo), (1, .int a_), (2, .int b_), (3, .int c_), (4, .int d_), (5, .int e_)]) hx hb dX12_feed_116 hl (k := 1) rfl (z_inc i 1) (by decide) rfl (fun ls hl => ?_)
              refine lv_goto (tgt := 20) hx hb dX12_feed_119 (by decide) ?_
              exact ih_20 (i + 1) (upd (upd x (10 + (p0 + i)) ((e_ >>> ((24 - (8 * ((nI i) - (nI i) / 4 * 4))) &&& 31)) &&& 255)) 4 (nI ((p0 + i) + 1))) (show (i + 1) ≤ 20 ∧ (upd (upd x (10 + (p0 + i)) ((e_ >>> ((24 - (8 * ((nI i) - (nI i) / 4 * 4))) &&& 31)) &&& 255)) 4 (nI ((p0 + i) + 1))) 4 = nI (p0 + (i + 1)) ∧ (∀ j, j < (i + 1) → (upd (upd x (10 + (p0 + i)) ((e_ >>> ((24 - (8 * ((nI i) - (nI i) / 4 * 4))) &&& 31)) &&& 255)) 4 (nI ((p0 + i) + 1))) (10 + (p0 + j)) = pB a_ b_ c_ d_ e_ j &&& 255) ∧ (∀ j, (j < 10 + p0 ∨ 10 + p0 + (i + 1) ≤ j) → ¬ j = 4 → (upd (upd x (10 + (p0 + i)) ((e_ >>> ((24 - (8 * ((nI i) - (nI i) / 4 * 4))) &&& 31)) &&& 255)) 4 (nI ((p0 + i) + 1))) j = f_all j) from ⟨by omega, (z_eq rfl), (zFd_s hS (pB_y (v := e_) (by rw [if_neg (by omega), if_neg (by omega), if_neg (by omega), if_neg (by omega)]) rfl)), (zFd_o hO)⟩) (show 20 - (i + 1) < 20 - i from by omega) _ _ ls G (lv_sub hl [0, 2, 3, 4, 5, 6, 7] rfl)
            · have c_9n : ¬ 16 ≤ i := fun q => c_9 ((nI_leI (a := 16) (b := i) (by omega) (by omega)).mpr q)
              refine lv_iload hx hb dX12_feed_66 (lv_at hl 5 rfl) ?_
              refine lv_goto (tgt := 73) hx hb dX12_feed_68 (by decide) ?_
              refine lv_istore (lv' := [(7, .int d_), (6, .int (nI i)), (0, .ref mo), (1, .int a_), (2, .int b_), (3, .int c_), (4, .int d_), (5, .int e_)]) hx hb dX12_feed_73 hl (by decide) rfl (fun ls hl => ?_)
              refine lv_aload_n hx hb dX12_feed_75 rfl (lv_at hl 2 rfl) ?_
              refine z_get C G clX12 0 rfl 0 (by decide) m_fl_RX12_7 rfl dX12_feed_76 ?_
              refine lv_bipush (v := 10) hx hb dX12_feed_79 (by decide) ?_
              refine lv_aload_n hx hb dX12_feed_81 rfl (lv_at hl 2 rfl) ?_
              refine z_get C G clX12 0 rfl 0 (by decide) m_fl_RX12_7 rfl dX12_feed_82 ?_
              refine lv_iconst (v := 4) hx hb dX12_feed_85 (by decide) ?_
              refine z_ild C G 1 rfl (vp_in_nI (n := 4) (by decide) (by decide)) dX12_feed_86 ?_
              refine lv_topi (fun v_14 ev_14 => ?_)
              rw [show ((4 : Int32).toNatClampNeg) = 4 from rfl] at ev_14
              subst ev_14
              rw [hx4]
              refine lv_iadd hx hb dX12_feed_87 ?_
              refine lv_topi (fun y_15 ey_15 => ?_)
              obtain rfl : y_15 = nI (10 + (p0 + i)) := ey_15.trans (z_iaddn 10 (p0 + i) rfl rfl)
              refine lv_iload hx hb dX12_feed_88 (lv_at hl 0 rfl) ?_
              refine lv_bipush (v := 24) hx hb dX12_feed_90 (by decide) ?_
              refine lv_bipush (v := 8) hx hb dX12_feed_92 (by decide) ?_
              refine lv_iload hx hb dX12_feed_94 (lv_at hl 1 rfl) ?_
              refine lv_iconst (v := 4) hx hb dX12_feed_96 (by decide) ?_
              refine lv_irem hx hb dX12_feed_97 (by decide) ?_
              refine lv_imul hx hb dX12_feed_98 ?_
              refine lv_isub hx hb dX12_feed_99 ?_
              refine lv_ishr hx hb dX12_feed_100 ?_
              refine lv_sipush (v := 255) hx hb dX12_feed_101 (by decide) ?_
              refine lv_iand hx hb dX12_feed_104 ?_
              refine z_ist C G 1 rfl (vp_in_nI (by omega) (by omega)) dX12_feed_105 (fun H locs G => ?_)
              rw [nI_clamp (by omega)] at G
              have G : zS T A s.heap s [[zO11 mo m_all m_has i_size i_next i_where i_token i_number i_word i_wrong i_farCrossing m_read i_z0 i_crossings i_inns m_posts m_shut m_here i_steps i_done i_at i_gone m_was m_came m_seenAt m_rowWorth m_farBy m_used i_everywhere i_again0 i_d0 i_never i_firstCame i_longRun i_moved i_crowd i_l0 i_fitMany i_fitLeast i_fitMost m_fitPost m_fitEnd m_keptPosts i_x0], [zAr T 0 m_all 3952 (upd x (10 + (p0 + i)) ((d_ >>> ((24 - (8 * ((nI i) - (nI i) / 4 * 4))) &&& 31)) &&& 255))]] _ _ := G
              refine lv_aload_n hx hb dX12_feed_106 rfl (lv_at hl 2 rfl) ?_
              refine z_get C G clX12 0 rfl 0 (by decide) m_fl_RX12_7 rfl dX12_feed_107 ?_
              refine lv_iconst (v := 4) hx hb dX12_feed_110 (by decide) ?_
              refine lv_dup2_11 hx hb dX12_feed_111 rfl rfl ?_
              refine z_ild C G 1 rfl (vp_in_nI (n := 4) (by decide) (by decide)) dX12_feed_112 ?_
              refine lv_topi (fun v_16 ev_16 => ?_)
              rw [show ((4 : Int32).toNatClampNeg) = 4 from rfl] at ev_16
              subst ev_16
              rw [show (upd x (10 + (p0 + i)) ((d_ >>> ((24 - (8 * ((nI i) - (nI i) / 4 * 4))) &&& 31)) &&& 255)) 4 = nI (p0 + i) from (z_ne (by omega)).trans hx4]
              refine lv_iconst (v := 1) hx hb dX12_feed_113 (by decide) ?_
              refine lv_iadd hx hb dX12_feed_114 ?_
              refine lv_topi (fun y_17 ey_17 => ?_)
              obtain rfl : y_17 = nI ((p0 + i) + 1) := ey_17.trans (z_iaddn (p0 + i) 1 rfl rfl)
              refine z_ist C G 1 rfl (vp_in_nI (n := 4) (by decide) (by decide)) dX12_feed_115 (fun H locs G => ?_)
              have G : zS T A s.heap s [[zO11 mo m_all m_has i_size i_next i_where i_token i_number i_word i_wrong i_farCrossing m_read i_z0 i_crossings i_inns m_posts m_shut m_here i_steps i_done i_at i_gone m_was m_came m_seenAt m_rowWorth m_farBy m_used i_everywhere i_again0 i_d0 i_never i_firstCame i_longRun i_moved i_crowd i_l0 i_fitMany i_fitLeast i_fitMost m_fitPost m_fitEnd m_keptPosts i_x0], [zAr T 0 m_all 3952 (upd (upd x (10 + (p0 + i)) ((d_ >>> ((24 - (8 * ((nI i) - (nI i) / 4 * 4))) &&& 31)) &&& 255)) 4 (nI ((p0 + i) + 1)))]] _ _ := G
              refine lv_iinc (v := nI (i + 1)) (lv' := [(6, .int (nI (i + 1))), (7, .int d_), (0, .ref mo), (1, .int a_), (2, .int b_), (3, .int c_), (4, .int d_), (5, .int e_)]) hx hb dX12_feed_116 hl (k := 1) rfl (z_inc i 1) (by decide) rfl (fun ls hl => ?_)
              refine lv_goto (tgt := 20) hx hb dX12_feed_119 (by decide) ?_
              exact ih_20 (i + 1) (upd (upd x (10 + (p0 + i)) ((d_ >>> ((24 - (8 * ((nI i) - (nI i) / 4 * 4))) &&& 31)) &&& 255)) 4 (nI ((p0 + i) + 1))) (show (i + 1) ≤ 20 ∧ (upd (upd x (10 + (p0 + i)) ((d_ >>> ((24 - (8 * ((nI i) - (nI i) / 4 * 4))) &&& 31)) &&& 255)) 4 (nI ((p0 + i) + 1))) 4 = nI (p0 + (i + 1)) ∧ (∀ j, j < (i + 1) → (upd (upd x (10 + (p0 + i)) ((d_ >>> ((24 - (8 * ((nI i) - (nI i) / 4 * 4))) &&& 31)) &&& 255)) 4 (nI ((p0 + i) + 1))) (10 + (p0 + j)) = pB a_ b_ c_ d_ e_ j &&& 255) ∧ (∀ j, (j < 10 + p0 ∨ 10 + p0 + (i + 1) ≤ j) → ¬ j = 4 → (upd (upd x (10 + (p0 + i)) ((d_ >>> ((24 - (8 * ((nI i) - (nI i) / 4 * 4))) &&& 31)) &&& 255)) 4 (nI ((p0 + i) + 1))) j = f_all j) from ⟨by omega, (z_eq rfl), (zFd_s hS (pB_y (v := d_) (by rw [if_neg (by omega), if_neg (by omega), if_neg (by omega), if_pos (by omega)]) rfl)), (zFd_o hO)⟩) (show 20 - (i + 1) < 20 - i from by omega) _ _ ls G (lv_sub hl [0, 2, 3, 4, 5, 6, 7] rfl)
          · have c_8n : ¬ 12 ≤ i := fun q => c_8 ((nI_leI (a := 12) (b := i) (by omega) (by omega)).mpr q)
            refine lv_iload_n hx hb dX12_feed_55 rfl (lv_at hl 4 rfl) ?_
            refine lv_goto (tgt := 73) hx hb dX12_feed_56 (by decide) ?_
            refine lv_istore (lv' := [(7, .int c_), (6, .int (nI i)), (0, .ref mo), (1, .int a_), (2, .int b_), (3, .int c_), (4, .int d_), (5, .int e_)]) hx hb dX12_feed_73 hl (by decide) rfl (fun ls hl => ?_)
            refine lv_aload_n hx hb dX12_feed_75 rfl (lv_at hl 2 rfl) ?_
            refine z_get C G clX12 0 rfl 0 (by decide) m_fl_RX12_7 rfl dX12_feed_76 ?_
            refine lv_bipush (v := 10) hx hb dX12_feed_79 (by decide) ?_
            refine lv_aload_n hx hb dX12_feed_81 rfl (lv_at hl 2 rfl) ?_
            refine z_get C G clX12 0 rfl 0 (by decide) m_fl_RX12_7 rfl dX12_feed_82 ?_
            refine lv_iconst (v := 4) hx hb dX12_feed_85 (by decide) ?_
            refine z_ild C G 1 rfl (vp_in_nI (n := 4) (by decide) (by decide)) dX12_feed_86 ?_
            refine lv_topi (fun v_18 ev_18 => ?_)
            rw [show ((4 : Int32).toNatClampNeg) = 4 from rfl] at ev_18
            subst ev_18
            rw [hx4]
            refine lv_iadd hx hb dX12_feed_87 ?_
            refine lv_topi (fun y_19 ey_19 => ?_)
            obtain rfl : y_19 = nI (10 + (p0 + i)) := ey_19.trans (z_iaddn 10 (p0 + i) rfl rfl)
            refine lv_iload hx hb dX12_feed_88 (lv_at hl 0 rfl) ?_
            refine lv_bipush (v := 24) hx hb dX12_feed_90 (by decide) ?_
            refine lv_bipush (v := 8) hx hb dX12_feed_92 (by decide) ?_
            refine lv_iload hx hb dX12_feed_94 (lv_at hl 1 rfl) ?_
            refine lv_iconst (v := 4) hx hb dX12_feed_96 (by decide) ?_
            refine lv_irem hx hb dX12_feed_97 (by decide) ?_
            refine lv_imul hx hb dX12_feed_98 ?_
            refine lv_isub hx hb dX12_feed_99 ?_
            refine lv_ishr hx hb dX12_feed_100 ?_
            refine lv_sipush (v := 255) hx hb dX12_feed_101 (by decide) ?_
            refine lv_iand hx hb dX12_feed_104 ?_
            refine z_ist C G 1 rfl (vp_in_nI (by omega) (by omega)) dX12_feed_105 (fun H locs G => ?_)
            rw [nI_clamp (by omega)] at G
            have G : zS T A s.heap s [[zO11 mo m_all m_has i_size i_next i_where i_token i_number i_word i_wrong i_farCrossing m_read i_z0 i_crossings i_inns m_posts m_shut m_here i_steps i_done i_at i_gone m_was m_came m_seenAt m_rowWorth m_farBy m_used i_everywhere i_again0 i_d0 i_never i_firstCame i_longRun i_moved i_crowd i_l0 i_fitMany i_fitLeast i_fitMost m_fitPost m_fitEnd m_keptPosts i_x0], [zAr T 0 m_all 3952 (upd x (10 + (p0 + i)) ((c_ >>> ((24 - (8 * ((nI i) - (nI i) / 4 * 4))) &&& 31)) &&& 255))]] _ _ := G
            refine lv_aload_n hx hb dX12_feed_106 rfl (lv_at hl 2 rfl) ?_
            refine z_get C G clX12 0 rfl 0 (by decide) m_fl_RX12_7 rfl dX12_feed_107 ?_
            refine lv_iconst (v := 4) hx hb dX12_feed_110 (by decide) ?_
            refine lv_dup2_11 hx hb dX12_feed_111 rfl rfl ?_
            refine z_ild C G 1 rfl (vp_in_nI (n := 4) (by decide) (by decide)) dX12_feed_112 ?_
            refine lv_topi (fun v_20 ev_20 => ?_)
            rw [show ((4 : Int32).toNatClampNeg) = 4 from rfl] at ev_20
            subst ev_20
            rw [show (upd x (10 + (p0 + i)) ((c_ >>> ((24 - (8 * ((nI i) - (nI i) / 4 * 4))) &&& 31)) &&& 255)) 4 = nI (p0 + i) from (z_ne (by omega)).trans hx4]
            refine lv_iconst (v := 1) hx hb dX12_feed_113 (by decide) ?_
            refine lv_iadd hx hb dX12_feed_114 ?_
            refine lv_topi (fun y_21 ey_21 => ?_)
            obtain rfl : y_21 = nI ((p0 + i) + 1) := ey_21.trans (z_iaddn (p0 + i) 1 rfl rfl)
            refine z_ist C G 1 rfl (vp_in_nI (n := 4) (by decide) (by decide)) dX12_feed_115 (fun H locs G => ?_)
            have G : zS T A s.heap s [[zO11 mo m_all m_has i_size i_next i_where i_token i_number i_word i_wrong i_farCrossing m_read i_z0 i_crossings i_inns m_posts m_shut m_here i_steps i_done i_at i_gone m_was m_came m_seenAt m_rowWorth m_farBy m_used i_everywhere i_again0 i_d0 i_never i_firstCame i_longRun i_moved i_crowd i_l0 i_fitMany i_fitLeast i_fitMost m_fitPost m_fitEnd m_keptPosts i_x0], [zAr T 0 m_all 3952 (upd (upd x (10 + (p0 + i)) ((c_ >>> ((24 - (8 * ((nI i) - (nI i) / 4 * 4))) &&& 31)) &&& 255)) 4 (nI ((p0 + i) + 1)))]] _ _ := G
            refine lv_iinc (v := nI (i + 1)) (lv' := [(6, .int (nI (i + 1))), (7, .int c_), (0, .ref mo), (1, .int a_), (2, .int b_), (3, .int c_), (4, .int d_), (5, .int e_)]) hx hb dX12_feed_116 hl (k := 1) rfl (z_inc i 1) (by decide) rfl (fun ls hl => ?_)
            refine lv_goto (tgt := 20) hx hb dX12_feed_119 (by decide) ?_
            exact ih_20 (i + 1) (upd (upd x (10 + (p0 + i)) ((c_ >>> ((24 - (8 * ((nI i) - (nI i) / 4 * 4))) &&& 31)) &&& 255)) 4 (nI ((p0 + i) + 1))) (show (i + 1) ≤ 20 ∧ (upd (upd x (10 + (p0 + i)) ((c_ >>> ((24 - (8 * ((nI i) - (nI i) / 4 * 4))) &&& 31)) &&& 255)) 4 (nI ((p0 + i) + 1))) 4 = nI (p0 + (i + 1)) ∧ (∀ j, j < (i + 1) → (upd (upd x (10 + (p0 + i)) ((c_ >>> ((24 - (8 * ((nI i) - (nI i) / 4 * 4))) &&& 31)) &&& 255)) 4 (nI ((p0 + i) + 1))) (10 + (p0 + j)) = pB a_ b_ c_ d_ e_ j &&& 255) ∧ (∀ j, (j < 10 + p0 ∨ 10 + p0 + (i + 1) ≤ j) → ¬ j = 4 → (upd (upd x (10 + (p0 + i)) ((c_ >>> ((24 - (8 * ((nI i) - (nI i) / 4 * 4))) &&& 31)) &&& 255)) 4 (nI ((p0 + i) + 1))) j = f_all j) from ⟨by omega, (z_eq rfl), (zFd_s hS (pB_y (v := c_) (by rw [if_neg (by omega), if_neg (by omega), if_pos (by omega)]) rfl)), (zFd_o hO)⟩) (show 20 - (i + 1) < 20 - i from by omega) _ _ ls G (lv_sub hl [0, 2, 3, 4, 5, 6, 7] rfl)
        · have c_7n : ¬ 8 ≤ i := fun q => c_7 ((nI_leI (a := 8) (b := i) (by omega) (by omega)).mpr q)
          refine lv_iload_n hx hb dX12_feed_44 rfl (lv_at hl 3 rfl) ?_
          refine lv_goto (tgt := 73) hx hb dX12_feed_45 (by decide) ?_
          refine lv_istore (lv' := [(7, .int b_), (6, .int (nI i)), (0, .ref mo), (1, .int a_), (2, .int b_), (3, .int c_), (4, .int d_), (5, .int e_)]) hx hb dX12_feed_73 hl (by decide) rfl (fun ls hl => ?_)
          refine lv_aload_n hx hb dX12_feed_75 rfl (lv_at hl 2 rfl) ?_
          refine z_get C G clX12 0 rfl 0 (by decide) m_fl_RX12_7 rfl dX12_feed_76 ?_
          refine lv_bipush (v := 10) hx hb dX12_feed_79 (by decide) ?_
          refine lv_aload_n hx hb dX12_feed_81 rfl (lv_at hl 2 rfl) ?_
          refine z_get C G clX12 0 rfl 0 (by decide) m_fl_RX12_7 rfl dX12_feed_82 ?_
          refine lv_iconst (v := 4) hx hb dX12_feed_85 (by decide) ?_
          refine z_ild C G 1 rfl (vp_in_nI (n := 4) (by decide) (by decide)) dX12_feed_86 ?_
          refine lv_topi (fun v_22 ev_22 => ?_)
          rw [show ((4 : Int32).toNatClampNeg) = 4 from rfl] at ev_22
          subst ev_22
          rw [hx4]
          refine lv_iadd hx hb dX12_feed_87 ?_
          refine lv_topi (fun y_23 ey_23 => ?_)
          obtain rfl : y_23 = nI (10 + (p0 + i)) := ey_23.trans (z_iaddn 10 (p0 + i) rfl rfl)
          refine lv_iload hx hb dX12_feed_88 (lv_at hl 0 rfl) ?_
          refine lv_bipush (v := 24) hx hb dX12_feed_90 (by decide) ?_
          refine lv_bipush (v := 8) hx hb dX12_feed_92 (by decide) ?_
          refine lv_iload hx hb dX12_feed_94 (lv_at hl 1 rfl) ?_
          refine lv_iconst (v := 4) hx hb dX12_feed_96 (by decide) ?_
          refine lv_irem hx hb dX12_feed_97 (by decide) ?_
          refine lv_imul hx hb dX12_feed_98 ?_
          refine lv_isub hx hb dX12_feed_99 ?_
          refine lv_ishr hx hb dX12_feed_100 ?_
          refine lv_sipush (v := 255) hx hb dX12_feed_101 (by decide) ?_
          refine lv_iand hx hb dX12_feed_104 ?_
          refine z_ist C G 1 rfl (vp_in_nI (by omega) (by omega)) dX12_feed_105 (fun H locs G => ?_)
          rw [nI_clamp (by omega)] at G
          have G : zS T A s.heap s [[zO11 mo m_all m_has i_size i_next i_where i_token i_number i_word i_wrong i_farCrossing m_read i_z0 i_crossings i_inns m_posts m_shut m_here i_steps i_done i_at i_gone m_was m_came m_seenAt m_rowWorth m_farBy m_used i_everywhere i_again0 i_d0 i_never i_firstCame i_longRun i_moved i_crowd i_l0 i_fitMany i_fitLeast i_fitMost m_fitPost m_fitEnd m_keptPosts i_x0], [zAr T 0 m_all 3952 (upd x (10 + (p0 + i)) ((b_ >>> ((24 - (8 * ((nI i) - (nI i) / 4 * 4))) &&& 31)) &&& 255))]] _ _ := G
          refine lv_aload_n hx hb dX12_feed_106 rfl (lv_at hl 2 rfl) ?_
          refine z_get C G clX12 0 rfl 0 (by decide) m_fl_RX12_7 rfl dX12_feed_107 ?_
          refine lv_iconst (v := 4) hx hb dX12_feed_110 (by decide) ?_
          refine lv_dup2_11 hx hb dX12_feed_111 rfl rfl ?_
          refine z_ild C G 1 rfl (vp_in_nI (n := 4) (by decide) (by decide)) dX12_feed_112 ?_
          refine lv_topi (fun v_24 ev_24 => ?_)
          rw [show ((4 : Int32).toNatClampNeg) = 4 from rfl] at ev_24
          subst ev_24
          rw [show (upd x (10 + (p0 + i)) ((b_ >>> ((24 - (8 * ((nI i) - (nI i) / 4 * 4))) &&& 31)) &&& 255)) 4 = nI (p0 + i) from (z_ne (by omega)).trans hx4]
          refine lv_iconst (v := 1) hx hb dX12_feed_113 (by decide) ?_
          refine lv_iadd hx hb dX12_feed_114 ?_
          refine lv_topi (fun y_25 ey_25 => ?_)
          obtain rfl : y_25 = nI ((p0 + i) + 1) := ey_25.trans (z_iaddn (p0 + i) 1 rfl rfl)
          refine z_ist C G 1 rfl (vp_in_nI (n := 4) (by decide) (by decide)) dX12_feed_115 (fun H locs G => ?_)
          have G : zS T A s.heap s [[zO11 mo m_all m_has i_size i_next i_where i_token i_number i_word i_wrong i_farCrossing m_read i_z0 i_crossings i_inns m_posts m_shut m_here i_steps i_done i_at i_gone m_was m_came m_seenAt m_rowWorth m_farBy m_used i_everywhere i_again0 i_d0 i_never i_firstCame i_longRun i_moved i_crowd i_l0 i_fitMany i_fitLeast i_fitMost m_fitPost m_fitEnd m_keptPosts i_x0], [zAr T 0 m_all 3952 (upd (upd x (10 + (p0 + i)) ((b_ >>> ((24 - (8 * ((nI i) - (nI i) / 4 * 4))) &&& 31)) &&& 255)) 4 (nI ((p0 + i) + 1)))]] _ _ := G
          refine lv_iinc (v := nI (i + 1)) (lv' := [(6, .int (nI (i + 1))), (7, .int b_), (0, .ref mo), (1, .int a_), (2, .int b_), (3, .int c_), (4, .int d_), (5, .int e_)]) hx hb dX12_feed_116 hl (k := 1) rfl (z_inc i 1) (by decide) rfl (fun ls hl => ?_)
          refine lv_goto (tgt := 20) hx hb dX12_feed_119 (by decide) ?_
          exact ih_20 (i + 1) (upd (upd x (10 + (p0 + i)) ((b_ >>> ((24 - (8 * ((nI i) - (nI i) / 4 * 4))) &&& 31)) &&& 255)) 4 (nI ((p0 + i) + 1))) (show (i + 1) ≤ 20 ∧ (upd (upd x (10 + (p0 + i)) ((b_ >>> ((24 - (8 * ((nI i) - (nI i) / 4 * 4))) &&& 31)) &&& 255)) 4 (nI ((p0 + i) + 1))) 4 = nI (p0 + (i + 1)) ∧ (∀ j, j < (i + 1) → (upd (upd x (10 + (p0 + i)) ((b_ >>> ((24 - (8 * ((nI i) - (nI i) / 4 * 4))) &&& 31)) &&& 255)) 4 (nI ((p0 + i) + 1))) (10 + (p0 + j)) = pB a_ b_ c_ d_ e_ j &&& 255) ∧ (∀ j, (j < 10 + p0 ∨ 10 + p0 + (i + 1) ≤ j) → ¬ j = 4 → (upd (upd x (10 + (p0 + i)) ((b_ >>> ((24 - (8 * ((nI i) - (nI i) / 4 * 4))) &&& 31)) &&& 255)) 4 (nI ((p0 + i) + 1))) j = f_all j) from ⟨by omega, (z_eq rfl), (zFd_s hS (pB_y (v := b_) (by rw [if_neg (by omega), if_pos (by omega)]) rfl)), (zFd_o hO)⟩) (show 20 - (i + 1) < 20 - i from by omega) _ _ ls G (lv_sub hl [0, 2, 3, 4, 5, 6, 7] rfl)
      · have c_6n : ¬ 4 ≤ i := fun q => c_6 ((nI_leI (a := 4) (b := i) (by omega) (by omega)).mpr q)
        refine lv_iload_n hx hb dX12_feed_33 rfl (lv_at hl 2 rfl) ?_
        refine lv_goto (tgt := 73) hx hb dX12_feed_34 (by decide) ?_
        refine lv_istore (lv' := [(7, .int a_), (6, .int (nI i)), (0, .ref mo), (1, .int a_), (2, .int b_), (3, .int c_), (4, .int d_), (5, .int e_)]) hx hb dX12_feed_73 hl (by decide) rfl (fun ls hl => ?_)
        refine lv_aload_n hx hb dX12_feed_75 rfl (lv_at hl 2 rfl) ?_
        refine z_get C G clX12 0 rfl 0 (by decide) m_fl_RX12_7 rfl dX12_feed_76 ?_
        refine lv_bipush (v := 10) hx hb dX12_feed_79 (by decide) ?_
        refine lv_aload_n hx hb dX12_feed_81 rfl (lv_at hl 2 rfl) ?_
        refine z_get C G clX12 0 rfl 0 (by decide) m_fl_RX12_7 rfl dX12_feed_82 ?_
        refine lv_iconst (v := 4) hx hb dX12_feed_85 (by decide) ?_
        refine z_ild C G 1 rfl (vp_in_nI (n := 4) (by decide) (by decide)) dX12_feed_86 ?_
        refine lv_topi (fun v_26 ev_26 => ?_)
        rw [show ((4 : Int32).toNatClampNeg) = 4 from rfl] at ev_26
        subst ev_26
        rw [hx4]
        refine lv_iadd hx hb dX12_feed_87 ?_
        refine lv_topi (fun y_27 ey_27 => ?_)
        obtain rfl : y_27 = nI (10 + (p0 + i)) := ey_27.trans (z_iaddn 10 (p0 + i) rfl rfl)
        refine lv_iload hx hb dX12_feed_88 (lv_at hl 0 rfl) ?_
        refine lv_bipush (v := 24) hx hb dX12_feed_90 (by decide) ?_
        refine lv_bipush (v := 8) hx hb dX12_feed_92 (by decide) ?_
        refine lv_iload hx hb dX12_feed_94 (lv_at hl 1 rfl) ?_
        refine lv_iconst (v := 4) hx hb dX12_feed_96 (by decide) ?_
        refine lv_irem hx hb dX12_feed_97 (by decide) ?_
        refine lv_imul hx hb dX12_feed_98 ?_
        refine lv_isub hx hb dX12_feed_99 ?_
        refine lv_ishr hx hb dX12_feed_100 ?_
        refine lv_sipush (v := 255) hx hb dX12_feed_101 (by decide) ?_
        refine lv_iand hx hb dX12_feed_104 ?_
        refine z_ist C G 1 rfl (vp_in_nI (by omega) (by omega)) dX12_feed_105 (fun H locs G => ?_)
        rw [nI_clamp (by omega)] at G
        have G : zS T A s.heap s [[zO11 mo m_all m_has i_size i_next i_where i_token i_number i_word i_wrong i_farCrossing m_read i_z0 i_crossings i_inns m_posts m_shut m_here i_steps i_done i_at i_gone m_was m_came m_seenAt m_rowWorth m_farBy m_used i_everywhere i_again0 i_d0 i_never i_firstCame i_longRun i_moved i_crowd i_l0 i_fitMany i_fitLeast i_fitMost m_fitPost m_fitEnd m_keptPosts i_x0], [zAr T 0 m_all 3952 (upd x (10 + (p0 + i)) ((a_ >>> ((24 - (8 * ((nI i) - (nI i) / 4 * 4))) &&& 31)) &&& 255))]] _ _ := G
        refine lv_aload_n hx hb dX12_feed_106 rfl (lv_at hl 2 rfl) ?_
        refine z_get C G clX12 0 rfl 0 (by decide) m_fl_RX12_7 rfl dX12_feed_107 ?_
        refine lv_iconst (v := 4) hx hb dX12_feed_110 (by decide) ?_
        refine lv_dup2_11 hx hb dX12_feed_111 rfl rfl ?_
        refine z_ild C G 1 rfl (vp_in_nI (n := 4) (by decide) (by decide)) dX12_feed_112 ?_
        refine lv_topi (fun v_28 ev_28 => ?_)
        rw [show ((4 : Int32).toNatClampNeg) = 4 from rfl] at ev_28
        subst ev_28
        rw [show (upd x (10 + (p0 + i)) ((a_ >>> ((24 - (8 * ((nI i) - (nI i) / 4 * 4))) &&& 31)) &&& 255)) 4 = nI (p0 + i) from (z_ne (by omega)).trans hx4]
        refine lv_iconst (v := 1) hx hb dX12_feed_113 (by decide) ?_
        refine lv_iadd hx hb dX12_feed_114 ?_
        refine lv_topi (fun y_29 ey_29 => ?_)
        obtain rfl : y_29 = nI ((p0 + i) + 1) := ey_29.trans (z_iaddn (p0 + i) 1 rfl rfl)
        refine z_ist C G 1 rfl (vp_in_nI (n := 4) (by decide) (by decide)) dX12_feed_115 (fun H locs G => ?_)
        have G : zS T A s.heap s [[zO11 mo m_all m_has i_size i_next i_where i_token i_number i_word i_wrong i_farCrossing m_read i_z0 i_crossings i_inns m_posts m_shut m_here i_steps i_done i_at i_gone m_was m_came m_seenAt m_rowWorth m_farBy m_used i_everywhere i_again0 i_d0 i_never i_firstCame i_longRun i_moved i_crowd i_l0 i_fitMany i_fitLeast i_fitMost m_fitPost m_fitEnd m_keptPosts i_x0], [zAr T 0 m_all 3952 (upd (upd x (10 + (p0 + i)) ((a_ >>> ((24 - (8 * ((nI i) - (nI i) / 4 * 4))) &&& 31)) &&& 255)) 4 (nI ((p0 + i) + 1)))]] _ _ := G
        refine lv_iinc (v := nI (i + 1)) (lv' := [(6, .int (nI (i + 1))), (7, .int a_), (0, .ref mo), (1, .int a_), (2, .int b_), (3, .int c_), (4, .int d_), (5, .int e_)]) hx hb dX12_feed_116 hl (k := 1) rfl (z_inc i 1) (by decide) rfl (fun ls hl => ?_)
        refine lv_goto (tgt := 20) hx hb dX12_feed_119 (by decide) ?_
        exact ih_20 (i + 1) (upd (upd x (10 + (p0 + i)) ((a_ >>> ((24 - (8 * ((nI i) - (nI i) / 4 * 4))) &&& 31)) &&& 255)) 4 (nI ((p0 + i) + 1))) (show (i + 1) ≤ 20 ∧ (upd (upd x (10 + (p0 + i)) ((a_ >>> ((24 - (8 * ((nI i) - (nI i) / 4 * 4))) &&& 31)) &&& 255)) 4 (nI ((p0 + i) + 1))) 4 = nI (p0 + (i + 1)) ∧ (∀ j, j < (i + 1) → (upd (upd x (10 + (p0 + i)) ((a_ >>> ((24 - (8 * ((nI i) - (nI i) / 4 * 4))) &&& 31)) &&& 255)) 4 (nI ((p0 + i) + 1))) (10 + (p0 + j)) = pB a_ b_ c_ d_ e_ j &&& 255) ∧ (∀ j, (j < 10 + p0 ∨ 10 + p0 + (i + 1) ≤ j) → ¬ j = 4 → (upd (upd x (10 + (p0 + i)) ((a_ >>> ((24 - (8 * ((nI i) - (nI i) / 4 * 4))) &&& 31)) &&& 255)) 4 (nI ((p0 + i) + 1))) j = f_all j) from ⟨by omega, (z_eq rfl), (zFd_s hS (pB_y (v := a_) (by rw [if_pos (by omega)]) rfl)), (zFd_o hO)⟩) (show 20 - (i + 1) < 20 - i from by omega) _ _ ls G (lv_sub hl [0, 2, 3, 4, 5, 6, 7] rfl)
  · have c_3n : ¬ p0 + 20 ≤ 600 := fun q => c_3 ((nI_leI (a := p0 + 20) (b := 600) (by omega) (by omega)).mpr q)
    refine lv_iconst (v := (-1)) hx hb dX12_feed_15 (by decide) ?_
    exact z_back hQ9 (z_iret C hr hlocks G (Nat.le_of_ble_eq_true rfl) (Nat.le_of_ble_eq_true rfl) dX12_feed_16 ⟨f_all, rfl, (Or.inl ⟨by omega, rfl, rfl⟩)⟩)


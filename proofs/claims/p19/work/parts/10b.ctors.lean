def bLand (T : zTy) (h : Nat) (cr : Int32) (inn : Int32) (f1 : Nat → Int32) (f2 : Nat → Int32) (f3 : Nat → Int32) (f4 : Nat → Int32) (w : va_W) : Prop := ∃ (a1 : Nat) (a2 : Nat) (a3 : Nat) (a4 : Nat), w = [zO4 h cr inn a1 a2 a3 a4, zAr T 0 a1 7 f1, zAr T 0 a2 28 f2, zAr T 0 a3 7 f3, zAr T 0 a4 7 f4]
theorem bLand_mem {T : zTy} {h : Nat} {cr : Int32} {inn : Int32} {f1 : Nat → Int32} {f2 : Nat → Int32} {f3 : Nat → Int32} {f4 : Nat → Int32} {w : va_W} (H : bLand T h cr inn f1 f2 f3 f4 w) : ∃ fs, ((h, .inr (4, fs)) : Nat × va_E) ∈ w := by
  obtain ⟨_, _, _, _, rfl⟩ := H
  exact ⟨_, List.mem_cons_self⟩

def bDay (T : zTy) (h : Nat) (dd : Int32) (f1 : Nat → Int32) (f2 : Nat → Int32) (f3 : Nat → Int32) (w : va_W) : Prop := ∃ (a1 : Nat) (a2 : Nat) (a3 : Nat), w = [(h, .inr (2, [.int dd, .ref a1, .ref a2, .ref a3])), zAr T 0 a1 40 f1, zAr T 0 a2 40 f2, zAr T 0 a3 40 f3]
theorem bDay_mem {T : zTy} {h : Nat} {dd : Int32} {f1 : Nat → Int32} {f2 : Nat → Int32} {f3 : Nat → Int32} {w : va_W} (H : bDay T h dd f1 f2 f3 w) : ∃ fs, ((h, .inr (2, fs)) : Nat × va_E) ∈ w := by
  obtain ⟨_, _, _, rfl⟩ := H
  exact ⟨_, List.mem_cons_self⟩

def bLog (T : zTy) (h : Nat) (gg : Int32) (f1 : Nat → Int32) (f2 : Nat → Int32) (w : va_W) : Prop := ∃ (a1 : Nat) (a2 : Nat), w = [(h, .inr (5, [.int gg, .ref a1, .ref a2])), zAr T 0 a1 8 f1, zAr T 0 a2 8 f2]
theorem bLog_mem {T : zTy} {h : Nat} {gg : Int32} {f1 : Nat → Int32} {f2 : Nat → Int32} {w : va_W} (H : bLog T h gg f1 f2 w) : ∃ fs, ((h, .inr (5, fs)) : Nat × va_E) ∈ w := by
  obtain ⟨_, _, rfl⟩ := H
  exact ⟨_, List.mem_cons_self⟩

def bTold (T : zTy) (h : Nat) (l0 : Nat) (l1 : Nat) (d0 : Nat) (d1 : Nat) (g0 : Nat) (g1 : Nat) (ln : Int32) (fl : Int32) (pl : Int32) (ft : Nat → Int32) (fk : Nat → Int32) (w : va_W) : Prop := ∃ (a1 : Nat) (a2 : Nat) (a3 : Nat) (a4 : Nat) (a5 : Nat) (q1 : Nat → Option Nat) (q2 : Nat → Option Nat) (q3 : Nat → Option Nat), w = [zO8 h a1 ln fl pl a2 a3 a4 a5, zAr T 1 a1 600 ft, zAr T 0 a2 3 fk, zArq T 3 a3 2 q1, zArq T 4 a4 2 q2, zArq T 5 a5 2 q3] ∧ q1 0 = some l0 ∧ q1 1 = some l1 ∧ q2 0 = some d0 ∧ q2 1 = some d1 ∧ q3 0 = some g0 ∧ q3 1 = some g1
theorem bTold_mem {T : zTy} {h : Nat} {l0 : Nat} {l1 : Nat} {d0 : Nat} {d1 : Nat} {g0 : Nat} {g1 : Nat} {ln : Int32} {fl : Int32} {pl : Int32} {ft : Nat → Int32} {fk : Nat → Int32} {w : va_W} (H : bTold T h l0 l1 d0 d1 g0 g1 ln fl pl ft fk w) : ∃ fs, ((h, .inr (8, fs)) : Nat × va_E) ∈ w := by
  obtain ⟨_, _, _, _, _, _, _, _, rfl, -, -, -, -, -, -⟩ := H
  exact ⟨_, List.mem_cons_self⟩

def bPosts (T : zTy) (h : Nat) (la : Nat) (f1 : Nat → Int32) (f2 : Nat → Int32) (f3 : Nat → Int32) (st : Int32) (wh : Int32) (w : va_W) : Prop := ∃ (a1 : Nat) (a2 : Nat) (a3 : Nat), w = [zO6 h la a1 a2 st wh a3, zAr T 0 a1 7 f1, zAr T 0 a2 7 f2, zAr T 0 a3 7 f3]
theorem bPosts_mem {T : zTy} {h : Nat} {la : Nat} {f1 : Nat → Int32} {f2 : Nat → Int32} {f3 : Nat → Int32} {st : Int32} {wh : Int32} {w : va_W} (H : bPosts T h la f1 f2 f3 st wh w) : ∃ fs, ((h, .inr (6, fs)) : Nat × va_E) ∈ w := by
  obtain ⟨_, _, _, rfl⟩ := H
  exact ⟨_, List.mem_cons_self⟩

def bCourse (T : zTy) (h : Nat) (po : Nat) (la : Nat) (fw : Nat → Int32) (v0 : Int32) (v1 : Int32) (v2 : Int32) (v3 : Int32) (v4 : Int32) (v5 : Int32) (v6 : Int32) (v7 : Int32) (w : va_W) : Prop := ∃ (a1 : Nat), w = [zO1 h po a1 v0 la v1 v2 v3 v4 v5 v6 v7, zAr T 0 a1 7 fw]
theorem bCourse_mem {T : zTy} {h : Nat} {po : Nat} {la : Nat} {fw : Nat → Int32} {v0 : Int32} {v1 : Int32} {v2 : Int32} {v3 : Int32} {v4 : Int32} {v5 : Int32} {v6 : Int32} {v7 : Int32} {w : va_W} (H : bCourse T h po la fw v0 v1 v2 v3 v4 v5 v6 v7 w) : ∃ fs, ((h, .inr (1, fs)) : Nat × va_E) ∈ w := by
  obtain ⟨_, rfl⟩ := H
  exact ⟨_, List.mem_cons_self⟩

def bTrail (T : zTy) (h : Nat) (po : Nat) (f1 : Nat → Int32) (f2 : Nat → Int32) (v0 : Int32) (v1 : Int32) (v2 : Int32) (v3 : Int32) (v4 : Int32) (w : va_W) : Prop := ∃ (a1 : Nat) (a2 : Nat), w = [zO9 h po a1 a2 v0 v1 v2 v3 v4, zAr T 0 a1 7 f1, zAr T 0 a2 7 f2]
theorem bTrail_mem {T : zTy} {h : Nat} {po : Nat} {f1 : Nat → Int32} {f2 : Nat → Int32} {v0 : Int32} {v1 : Int32} {v2 : Int32} {v3 : Int32} {v4 : Int32} {w : va_W} (H : bTrail T h po f1 f2 v0 v1 v2 v3 v4 w) : ∃ fs, ((h, .inr (9, fs)) : Nat × va_E) ∈ w := by
  obtain ⟨_, _, rfl⟩ := H
  exact ⟨_, List.mem_cons_self⟩

def bWays (T : zTy) (h : Nat) (la : Nat) (md : Int32) (wy : Int32) (pc_ : Int32) (f1 : Nat → Int32) (f2 : Nat → Int32) (f3 : Nat → Int32) (f4 : Nat → Int32) (f5 : Nat → Int32) (f6 : Nat → Int32) (n4 : Nat) (w : va_W) : Prop := ∃ (a1 : Nat) (a2 : Nat) (a3 : Nat) (a4 : Nat) (a5 : Nat) (a6 : Nat), w = [zO0 h md wy la pc_ a1 a2 a3 a4 a5 a6, zAr T 0 a1 7 f1, zAr T 0 a2 7 f2, zAr T 0 a3 7 f3, zAr T 0 a4 n4 f4, zAr T 0 a5 n4 f5, zAr T 0 a6 n4 f6]
theorem bWays_mem {T : zTy} {h : Nat} {la : Nat} {md : Int32} {wy : Int32} {pc_ : Int32} {f1 : Nat → Int32} {f2 : Nat → Int32} {f3 : Nat → Int32} {f4 : Nat → Int32} {f5 : Nat → Int32} {f6 : Nat → Int32} {n4 : Nat} {w : va_W} (H : bWays T h la md wy pc_ f1 f2 f3 f4 f5 f6 n4 w) : ∃ fs, ((h, .inr (0, fs)) : Nat × va_E) ∈ w := by
  obtain ⟨_, _, _, _, _, _, rfl⟩ := H
  exact ⟨_, List.mem_cons_self⟩

def bFit (T : zTy) (h : Nat) (v0 : Int32) (v1 : Int32) (v2 : Int32) (v3 : Int32) (v4 : Int32) (v5 : Int32) (f1 : Nat → Int32) (n1 : Nat) (f2 : Nat → Int32) (w : va_W) : Prop := ∃ (a1 : Nat) (a2 : Nat), w = [zO3 h v0 v1 v2 v3 v4 v5 a1 a2, zAr T 0 a1 n1 f1, zAr T 0 a2 7 f2]
theorem bFit_mem {T : zTy} {h : Nat} {v0 : Int32} {v1 : Int32} {v2 : Int32} {v3 : Int32} {v4 : Int32} {v5 : Int32} {f1 : Nat → Int32} {n1 : Nat} {f2 : Nat → Int32} {w : va_W} (H : bFit T h v0 v1 v2 v3 v4 v5 f1 n1 f2 w) : ∃ fs, ((h, .inr (3, fs)) : Nat × va_E) ∈ w := by
  obtain ⟨_, _, rfl⟩ := H
  exact ⟨_, List.mem_cons_self⟩

set_option maxHeartbeats 4000000 in
set_option maxRecDepth 100000 in
theorem c_Land_init (l : Launch) (T : zTy) (h : Nat) : zMv l T yX4_init cX4_init 1 1 4 49 [.ref h] [[(h, .inr (4, [.int 0, .int 0, .null, .null, .null, .null]))]] (fun bs => ∃ (w : va_W), bs = [w] ∧ bLand T h 0 0 (fun _ => 0) (fun _ => 0) (fun _ => 0) (fun _ => 0) w) := by
  refine zMv_of (own := RX4) (by decide) rfl (Nat.le_of_ble_eq_true rfl) ?_
  intro p e s m args below meth c A ls C hr hlocks hnm hAe G hl
  refine zHide (fun Q9 hQ9 => ?_)
  have hx := C.1
  have hb := C.2.1
  have hl : lv_has ls 1 [(0, .ref h)] := hl
  refine lv_aload_n hx hb dX4_init_0 rfl (lv_at hl 0 rfl) ?_
  refine W.objInit hx hb C.2.2.2.1 (C.2.2.2.2 _ m_ml_RX4_3) (C.2.2.2.2 _ m_im_obj) (C.2.2.2.2 _ m_co_obj) rfl (by rw [C.2.2.1]; exact hl.1) rfl dX4_init_1 (Nat.le_of_ble_eq_true rfl) (Nat.le_of_ble_eq_true rfl) ?_
  refine W.eq (g2 := F0 m 4 ls []) rfl ?_
  refine lv_aload_n hx hb dX4_init_4 rfl (lv_at hl 0 rfl) ?_
  refine lv_bipush (v := 7) hx hb dX4_init_5 (by decide) ?_
  refine z_newa C G 0 (ty := .int) (N' := 7) (a0 := (7, .inl (fun _ => 0))) rfl z_uint m_ar_int rfl (fun _ => rfl) (by decide) (by decide) (Nat.le_of_ble_eq_true rfl) (Nat.le_of_ble_eq_true rfl) (Nat.le_of_ble_eq_true rfl) dX4_init_7 (fun q_1 H G => ?_)
  have G : zS T A s.heap s [[(h, .inr (4, [.int 0, .int 0, .null, .null, .null, .null]))], [zAr T 0 q_1 7 (fun _ => 0)]] _ _ := G
  refine z_putF C G hnm clX4 0 rfl 2 (by decide) m_fl_RX4_9 rfl rfl rfl rfl (Nat.le_of_ble_eq_true rfl) dX4_init_9 (fun H locs G => ?_)
  have G : zS T A s.heap s [[(h, .inr (4, [.int 0, .int 0, .ref q_1, .null, .null, .null]))], [zAr T 0 q_1 7 (fun _ => 0)]] _ _ := G
  refine lv_aload_n hx hb dX4_init_12 rfl (lv_at hl 0 rfl) ?_
  refine lv_bipush (v := 28) hx hb dX4_init_13 (by decide) ?_
  refine z_newa C G 0 (ty := .int) (N' := 28) (a0 := (28, .inl (fun _ => 0))) rfl z_uint m_ar_int rfl (fun _ => rfl) (by decide) (by decide) (Nat.le_of_ble_eq_true rfl) (Nat.le_of_ble_eq_true rfl) (Nat.le_of_ble_eq_true rfl) dX4_init_15 (fun q_2 H G => ?_)
  have G : zS T A s.heap s [[(h, .inr (4, [.int 0, .int 0, .ref q_1, .null, .null, .null]))], [zAr T 0 q_1 7 (fun _ => 0)], [zAr T 0 q_2 28 (fun _ => 0)]] _ _ := G
  refine z_putF C G hnm clX4 0 rfl 3 (by decide) m_fl_RX4_15 rfl rfl rfl rfl (Nat.le_of_ble_eq_true rfl) dX4_init_17 (fun H locs G => ?_)
  have G : zS T A s.heap s [[(h, .inr (4, [.int 0, .int 0, .ref q_1, .ref q_2, .null, .null]))], [zAr T 0 q_1 7 (fun _ => 0)], [zAr T 0 q_2 28 (fun _ => 0)]] _ _ := G
  refine lv_aload_n hx hb dX4_init_20 rfl (lv_at hl 0 rfl) ?_
  refine lv_bipush (v := 7) hx hb dX4_init_21 (by decide) ?_
  refine z_newa C G 0 (ty := .int) (N' := 7) (a0 := (7, .inl (fun _ => 0))) rfl z_uint m_ar_int rfl (fun _ => rfl) (by decide) (by decide) (Nat.le_of_ble_eq_true rfl) (Nat.le_of_ble_eq_true rfl) (Nat.le_of_ble_eq_true rfl) dX4_init_23 (fun q_3 H G => ?_)
  have G : zS T A s.heap s [[(h, .inr (4, [.int 0, .int 0, .ref q_1, .ref q_2, .null, .null]))], [zAr T 0 q_1 7 (fun _ => 0)], [zAr T 0 q_2 28 (fun _ => 0)], [zAr T 0 q_3 7 (fun _ => 0)]] _ _ := G
  refine z_putF C G hnm clX4 0 rfl 4 (by decide) m_fl_RX4_18 rfl rfl rfl rfl (Nat.le_of_ble_eq_true rfl) dX4_init_25 (fun H locs G => ?_)
  have G : zS T A s.heap s [[(h, .inr (4, [.int 0, .int 0, .ref q_1, .ref q_2, .ref q_3, .null]))], [zAr T 0 q_1 7 (fun _ => 0)], [zAr T 0 q_2 28 (fun _ => 0)], [zAr T 0 q_3 7 (fun _ => 0)]] _ _ := G
  refine lv_aload_n hx hb dX4_init_28 rfl (lv_at hl 0 rfl) ?_
  refine lv_bipush (v := 7) hx hb dX4_init_29 (by decide) ?_
  refine z_newa C G 0 (ty := .int) (N' := 7) (a0 := (7, .inl (fun _ => 0))) rfl z_uint m_ar_int rfl (fun _ => rfl) (by decide) (by decide) (Nat.le_of_ble_eq_true rfl) (Nat.le_of_ble_eq_true rfl) (Nat.le_of_ble_eq_true rfl) dX4_init_31 (fun q_4 H G => ?_)
  have G : zS T A s.heap s [[(h, .inr (4, [.int 0, .int 0, .ref q_1, .ref q_2, .ref q_3, .null]))], [zAr T 0 q_1 7 (fun _ => 0)], [zAr T 0 q_2 28 (fun _ => 0)], [zAr T 0 q_3 7 (fun _ => 0)], [zAr T 0 q_4 7 (fun _ => 0)]] _ _ := G
  refine z_putF C G hnm clX4 0 rfl 5 (by decide) m_fl_RX4_21 rfl rfl rfl rfl (Nat.le_of_ble_eq_true rfl) dX4_init_33 (fun H locs G => ?_)
  have G : zS T A s.heap s [[zO4 h 0 0 q_1 q_2 q_3 q_4], [zAr T 0 q_1 7 (fun _ => 0)], [zAr T 0 q_2 28 (fun _ => 0)], [zAr T 0 q_3 7 (fun _ => 0)], [zAr T 0 q_4 7 (fun _ => 0)]] _ _ := G
  have hw_5 : bLand T h 0 0 (fun _ => 0) (fun _ => 0) (fun _ => 0) (fun _ => 0) [zO4 h 0 0 q_1 q_2 q_3 q_4, zAr T 0 q_1 7 (fun _ => 0), zAr T 0 q_2 28 (fun _ => 0), zAr T 0 q_3 7 (fun _ => 0), zAr T 0 q_4 7 (fun _ => 0)] := ⟨q_1, q_2, q_3, q_4, rfl⟩
  have G : zS T A s.heap s [[zO4 h 0 0 q_1 q_2 q_3 q_4, zAr T 0 q_1 7 (fun _ => 0), zAr T 0 q_2 28 (fun _ => 0), zAr T 0 q_3 7 (fun _ => 0), zAr T 0 q_4 7 (fun _ => 0)]] _ _ := G.re rfl
  exact z_back hQ9 (z_vret C hr hlocks G (Nat.le_of_ble_eq_true rfl) (Nat.le_of_ble_eq_true rfl) dX4_init_36 ⟨([zO4 h 0 0 q_1 q_2 q_3 q_4, zAr T 0 q_1 7 (fun _ => 0), zAr T 0 q_2 28 (fun _ => 0), zAr T 0 q_3 7 (fun _ => 0), zAr T 0 q_4 7 (fun _ => 0)]), rfl, hw_5⟩)
set_option maxHeartbeats 4000000 in
set_option maxRecDepth 100000 in
theorem c_Day_init (l : Launch) (T : zTy) (h : Nat) : zMv l T yX2_init cX2_init 1 1 3 120 [.ref h] [[(h, .inr (2, [.int 0, .null, .null, .null]))]] (fun bs => ∃ (w : va_W), bs = [w] ∧ bDay T h 0 (fun _ => 0) (fun _ => 0) (fun _ => 0) w) := by
  refine zMv_of (own := RX2) (by decide) rfl (Nat.le_of_ble_eq_true rfl) ?_
  intro p e s m args below meth c A ls C hr hlocks hnm hAe G hl
  refine zHide (fun Q9 hQ9 => ?_)
  have hx := C.1
  have hb := C.2.1
  have hl : lv_has ls 1 [(0, .ref h)] := hl
  refine lv_aload_n hx hb dX2_init_0 rfl (lv_at hl 0 rfl) ?_
  refine W.objInit hx hb C.2.2.2.1 (C.2.2.2.2 _ m_ml_RX2_3) (C.2.2.2.2 _ m_im_obj) (C.2.2.2.2 _ m_co_obj) rfl (by rw [C.2.2.1]; exact hl.1) rfl dX2_init_1 (Nat.le_of_ble_eq_true rfl) (Nat.le_of_ble_eq_true rfl) ?_
  refine W.eq (g2 := F0 m 4 ls []) rfl ?_
  refine lv_aload_n hx hb dX2_init_4 rfl (lv_at hl 0 rfl) ?_
  refine lv_bipush (v := 40) hx hb dX2_init_5 (by decide) ?_
  refine z_newa C G 0 (ty := .int) (N' := 40) (a0 := (40, .inl (fun _ => 0))) rfl z_uint m_ar_int rfl (fun _ => rfl) (by decide) (by decide) (Nat.le_of_ble_eq_true rfl) (Nat.le_of_ble_eq_true rfl) (Nat.le_of_ble_eq_true rfl) dX2_init_7 (fun q_1 H G => ?_)
  have G : zS T A s.heap s [[(h, .inr (2, [.int 0, .null, .null, .null]))], [zAr T 0 q_1 40 (fun _ => 0)]] _ _ := G
  refine z_putF C G hnm clX2 0 rfl 1 (by decide) m_fl_RX2_9 rfl rfl rfl rfl (Nat.le_of_ble_eq_true rfl) dX2_init_9 (fun H locs G => ?_)
  have G : zS T A s.heap s [[(h, .inr (2, [.int 0, .ref q_1, .null, .null]))], [zAr T 0 q_1 40 (fun _ => 0)]] _ _ := G
  refine lv_aload_n hx hb dX2_init_12 rfl (lv_at hl 0 rfl) ?_
  refine lv_bipush (v := 40) hx hb dX2_init_13 (by decide) ?_
  refine z_newa C G 0 (ty := .int) (N' := 40) (a0 := (40, .inl (fun _ => 0))) rfl z_uint m_ar_int rfl (fun _ => rfl) (by decide) (by decide) (Nat.le_of_ble_eq_true rfl) (Nat.le_of_ble_eq_true rfl) (Nat.le_of_ble_eq_true rfl) dX2_init_15 (fun q_2 H G => ?_)
  have G : zS T A s.heap s [[(h, .inr (2, [.int 0, .ref q_1, .null, .null]))], [zAr T 0 q_1 40 (fun _ => 0)], [zAr T 0 q_2 40 (fun _ => 0)]] _ _ := G
  refine z_putF C G hnm clX2 0 rfl 2 (by decide) m_fl_RX2_15 rfl rfl rfl rfl (Nat.le_of_ble_eq_true rfl) dX2_init_17 (fun H locs G => ?_)
  have G : zS T A s.heap s [[(h, .inr (2, [.int 0, .ref q_1, .ref q_2, .null]))], [zAr T 0 q_1 40 (fun _ => 0)], [zAr T 0 q_2 40 (fun _ => 0)]] _ _ := G
  refine lv_aload_n hx hb dX2_init_20 rfl (lv_at hl 0 rfl) ?_
  refine lv_bipush (v := 40) hx hb dX2_init_21 (by decide) ?_
  refine z_newa C G 0 (ty := .int) (N' := 40) (a0 := (40, .inl (fun _ => 0))) rfl z_uint m_ar_int rfl (fun _ => rfl) (by decide) (by decide) (Nat.le_of_ble_eq_true rfl) (Nat.le_of_ble_eq_true rfl) (Nat.le_of_ble_eq_true rfl) dX2_init_23 (fun q_3 H G => ?_)
  have G : zS T A s.heap s [[(h, .inr (2, [.int 0, .ref q_1, .ref q_2, .null]))], [zAr T 0 q_1 40 (fun _ => 0)], [zAr T 0 q_2 40 (fun _ => 0)], [zAr T 0 q_3 40 (fun _ => 0)]] _ _ := G
  refine z_putF C G hnm clX2 0 rfl 3 (by decide) m_fl_RX2_18 rfl rfl rfl rfl (Nat.le_of_ble_eq_true rfl) dX2_init_25 (fun H locs G => ?_)
  have G : zS T A s.heap s [[(h, .inr (2, [.int 0, .ref q_1, .ref q_2, .ref q_3]))], [zAr T 0 q_1 40 (fun _ => 0)], [zAr T 0 q_2 40 (fun _ => 0)], [zAr T 0 q_3 40 (fun _ => 0)]] _ _ := G
  have hw_4 : bDay T h 0 (fun _ => 0) (fun _ => 0) (fun _ => 0) [(h, .inr (2, [.int 0, .ref q_1, .ref q_2, .ref q_3])), zAr T 0 q_1 40 (fun _ => 0), zAr T 0 q_2 40 (fun _ => 0), zAr T 0 q_3 40 (fun _ => 0)] := ⟨q_1, q_2, q_3, rfl⟩
  have G : zS T A s.heap s [[(h, .inr (2, [.int 0, .ref q_1, .ref q_2, .ref q_3])), zAr T 0 q_1 40 (fun _ => 0), zAr T 0 q_2 40 (fun _ => 0), zAr T 0 q_3 40 (fun _ => 0)]] _ _ := G.re rfl
  exact z_back hQ9 (z_vret C hr hlocks G (Nat.le_of_ble_eq_true rfl) (Nat.le_of_ble_eq_true rfl) dX2_init_28 ⟨([(h, .inr (2, [.int 0, .ref q_1, .ref q_2, .ref q_3])), zAr T 0 q_1 40 (fun _ => 0), zAr T 0 q_2 40 (fun _ => 0), zAr T 0 q_3 40 (fun _ => 0)]), rfl, hw_4⟩)
set_option maxHeartbeats 4000000 in
set_option maxRecDepth 100000 in
theorem c_Log_init (l : Launch) (T : zTy) (h : Nat) : zMv l T yX5_init cX5_init 1 1 2 16 [.ref h] [[(h, .inr (5, [.int 0, .null, .null]))]] (fun bs => ∃ (w : va_W), bs = [w] ∧ bLog T h 0 (fun _ => 0) (fun _ => 0) w) := by
  refine zMv_of (own := RX5) (by decide) rfl (Nat.le_of_ble_eq_true rfl) ?_
  intro p e s m args below meth c A ls C hr hlocks hnm hAe G hl
  refine zHide (fun Q9 hQ9 => ?_)
  have hx := C.1
  have hb := C.2.1
  have hl : lv_has ls 1 [(0, .ref h)] := hl
  refine lv_aload_n hx hb dX5_init_0 rfl (lv_at hl 0 rfl) ?_
  refine W.objInit hx hb C.2.2.2.1 (C.2.2.2.2 _ m_ml_RX5_3) (C.2.2.2.2 _ m_im_obj) (C.2.2.2.2 _ m_co_obj) rfl (by rw [C.2.2.1]; exact hl.1) rfl dX5_init_1 (Nat.le_of_ble_eq_true rfl) (Nat.le_of_ble_eq_true rfl) ?_
  refine W.eq (g2 := F0 m 4 ls []) rfl ?_
  refine lv_aload_n hx hb dX5_init_4 rfl (lv_at hl 0 rfl) ?_
  refine lv_bipush (v := 8) hx hb dX5_init_5 (by decide) ?_
  refine z_newa C G 0 (ty := .int) (N' := 8) (a0 := (8, .inl (fun _ => 0))) rfl z_uint m_ar_int rfl (fun _ => rfl) (by decide) (by decide) (Nat.le_of_ble_eq_true rfl) (Nat.le_of_ble_eq_true rfl) (Nat.le_of_ble_eq_true rfl) dX5_init_7 (fun q_1 H G => ?_)
  have G : zS T A s.heap s [[(h, .inr (5, [.int 0, .null, .null]))], [zAr T 0 q_1 8 (fun _ => 0)]] _ _ := G
  refine z_putF C G hnm clX5 0 rfl 1 (by decide) m_fl_RX5_9 rfl rfl rfl rfl (Nat.le_of_ble_eq_true rfl) dX5_init_9 (fun H locs G => ?_)
  have G : zS T A s.heap s [[(h, .inr (5, [.int 0, .ref q_1, .null]))], [zAr T 0 q_1 8 (fun _ => 0)]] _ _ := G
  refine lv_aload_n hx hb dX5_init_12 rfl (lv_at hl 0 rfl) ?_
  refine lv_bipush (v := 8) hx hb dX5_init_13 (by decide) ?_
  refine z_newa C G 0 (ty := .int) (N' := 8) (a0 := (8, .inl (fun _ => 0))) rfl z_uint m_ar_int rfl (fun _ => rfl) (by decide) (by decide) (Nat.le_of_ble_eq_true rfl) (Nat.le_of_ble_eq_true rfl) (Nat.le_of_ble_eq_true rfl) dX5_init_15 (fun q_2 H G => ?_)
  have G : zS T A s.heap s [[(h, .inr (5, [.int 0, .ref q_1, .null]))], [zAr T 0 q_1 8 (fun _ => 0)], [zAr T 0 q_2 8 (fun _ => 0)]] _ _ := G
  refine z_putF C G hnm clX5 0 rfl 2 (by decide) m_fl_RX5_15 rfl rfl rfl rfl (Nat.le_of_ble_eq_true rfl) dX5_init_17 (fun H locs G => ?_)
  have G : zS T A s.heap s [[(h, .inr (5, [.int 0, .ref q_1, .ref q_2]))], [zAr T 0 q_1 8 (fun _ => 0)], [zAr T 0 q_2 8 (fun _ => 0)]] _ _ := G
  have hw_3 : bLog T h 0 (fun _ => 0) (fun _ => 0) [(h, .inr (5, [.int 0, .ref q_1, .ref q_2])), zAr T 0 q_1 8 (fun _ => 0), zAr T 0 q_2 8 (fun _ => 0)] := ⟨q_1, q_2, rfl⟩
  have G : zS T A s.heap s [[(h, .inr (5, [.int 0, .ref q_1, .ref q_2])), zAr T 0 q_1 8 (fun _ => 0), zAr T 0 q_2 8 (fun _ => 0)]] _ _ := G.re rfl
  exact z_back hQ9 (z_vret C hr hlocks G (Nat.le_of_ble_eq_true rfl) (Nat.le_of_ble_eq_true rfl) dX5_init_20 ⟨([(h, .inr (5, [.int 0, .ref q_1, .ref q_2])), zAr T 0 q_1 8 (fun _ => 0), zAr T 0 q_2 8 (fun _ => 0)]), rfl, hw_3⟩)
set_option maxHeartbeats 4000000 in
set_option maxRecDepth 100000 in
theorem c_Told_init (l : Launch) (T : zTy) (h : Nat) : zMv l T yX9_init cX9_init 1 3 29 1005 [.ref h] [[(h, .inr (8, [.null, .int 0, .int 0, .int 0, .null, .null, .null, .null]))]] (fun bs => ∃ (w : va_W) (l0 : Nat) (l1 : Nat) (d0 : Nat) (d1 : Nat) (g0 : Nat) (g1 : Nat) (w1 : va_W) (w2 : va_W) (w3 : va_W) (w4 : va_W) (w5 : va_W) (w6 : va_W), bs = [w, w1, w2, w3, w4, w5, w6] ∧ bTold T h l0 l1 d0 d1 g0 g1 0 0 (-1) (fun _ => 0) (fun _ => 0) w ∧ bLand T l0 0 0 (fun _ => 0) (fun _ => 0) (fun _ => 0) (fun _ => 0) w1 ∧ bLand T l1 0 0 (fun _ => 0) (fun _ => 0) (fun _ => 0) (fun _ => 0) w2 ∧ bDay T d0 0 (fun _ => 0) (fun _ => 0) (fun _ => 0) w3 ∧ bDay T d1 0 (fun _ => 0) (fun _ => 0) (fun _ => 0) w4 ∧ bLog T g0 0 (fun _ => 0) (fun _ => 0) w5 ∧ bLog T g1 0 (fun _ => 0) (fun _ => 0) w6) := by
  refine zMv_of (own := RX9) (by decide) rfl (Nat.le_of_ble_eq_true rfl) ?_
  intro p e s m args below meth c A ls C hr hlocks hnm hAe G hl
  refine zHide (fun Q9 hQ9 => ?_)
  have hx := C.1
  have hb := C.2.1
  have hl : lv_has ls 1 [(0, .ref h)] := hl
  refine lv_aload_n hx hb dX9_init_0 rfl (lv_at hl 0 rfl) ?_
  refine W.objInit hx hb C.2.2.2.1 (C.2.2.2.2 _ m_ml_RX9_3) (C.2.2.2.2 _ m_im_obj) (C.2.2.2.2 _ m_co_obj) rfl (by rw [C.2.2.1]; exact hl.1) rfl dX9_init_1 (Nat.le_of_ble_eq_true rfl) (Nat.le_of_ble_eq_true rfl) ?_
  refine W.eq (g2 := F0 m 4 ls []) rfl ?_
  refine lv_aload_n hx hb dX9_init_4 rfl (lv_at hl 0 rfl) ?_
  refine lv_sipush (v := 600) hx hb dX9_init_5 (by decide) ?_
  refine z_newa C G 1 (ty := .byte) (N' := 600) (a0 := (600, .inl (fun _ => 0))) rfl z_ubyte m_ar_byte rfl (fun _ => rfl) (by decide) (by decide) (Nat.le_of_ble_eq_true rfl) (Nat.le_of_ble_eq_true rfl) (Nat.le_of_ble_eq_true rfl) dX9_init_8 (fun q_1 H G => ?_)
  have G : zS T A s.heap s [[(h, .inr (8, [.null, .int 0, .int 0, .int 0, .null, .null, .null, .null]))], [zAr T 1 q_1 600 (fun _ => 0)]] _ _ := G
  refine z_putF C G hnm clX9 0 rfl 0 (by decide) m_fl_RX9_9 rfl rfl rfl rfl (Nat.le_of_ble_eq_true rfl) dX9_init_10 (fun H locs G => ?_)
  have G : zS T A s.heap s [[(h, .inr (8, [.ref q_1, .int 0, .int 0, .int 0, .null, .null, .null, .null]))], [zAr T 1 q_1 600 (fun _ => 0)]] _ _ := G
  refine lv_aload_n hx hb dX9_init_13 rfl (lv_at hl 0 rfl) ?_
  refine lv_iconst (v := (-1)) hx hb dX9_init_14 (by decide) ?_
  refine z_put C G clX9 0 rfl 3 (by decide) m_fl_RX9_15 rfl rfl rfl (Nat.le_of_ble_eq_true rfl) dX9_init_15 (fun H locs G => ?_)
  have G : zS T A s.heap s [[(h, .inr (8, [.ref q_1, .int 0, .int 0, .int (-1), .null, .null, .null, .null]))], [zAr T 1 q_1 600 (fun _ => 0)]] _ _ := G
  refine lv_aload_n hx hb dX9_init_18 rfl (lv_at hl 0 rfl) ?_
  refine lv_iconst (v := 3) hx hb dX9_init_19 (by decide) ?_
  refine z_newa C G 0 (ty := .int) (N' := 3) (a0 := (3, .inl (fun _ => 0))) rfl z_uint m_ar_int rfl (fun _ => rfl) (by decide) (by decide) (Nat.le_of_ble_eq_true rfl) (Nat.le_of_ble_eq_true rfl) (Nat.le_of_ble_eq_true rfl) dX9_init_20 (fun q_2 H G => ?_)
  have G : zS T A s.heap s [[(h, .inr (8, [.ref q_1, .int 0, .int 0, .int (-1), .null, .null, .null, .null]))], [zAr T 1 q_1 600 (fun _ => 0)], [zAr T 0 q_2 3 (fun _ => 0)]] _ _ := G
  refine z_putF C G hnm clX9 0 rfl 4 (by decide) m_fl_RX9_19 rfl rfl rfl rfl (Nat.le_of_ble_eq_true rfl) dX9_init_22 (fun H locs G => ?_)
  have G : zS T A s.heap s [[(h, .inr (8, [.ref q_1, .int 0, .int 0, .int (-1), .ref q_2, .null, .null, .null]))], [zAr T 1 q_1 600 (fun _ => 0)], [zAr T 0 q_2 3 (fun _ => 0)]] _ _ := G
  refine lv_aload_n hx hb dX9_init_25 rfl (lv_at hl 0 rfl) ?_
  refine lv_iconst (v := 2) hx hb dX9_init_26 (by decide) ?_
  refine z_newq C G 3 rfl m_cl_RX9_23 (List.mem_of_getElem? (i := 0) rfl) (N' := 2) (by decide) (by decide) (by decide) (Nat.le_of_ble_eq_true rfl) (Nat.le_of_ble_eq_true rfl) dX9_init_27 (fun q_3 H G => ?_)
  have G : zS T A s.heap s [[(h, .inr (8, [.ref q_1, .int 0, .int 0, .int (-1), .ref q_2, .null, .null, .null]))], [zAr T 1 q_1 600 (fun _ => 0)], [zAr T 0 q_2 3 (fun _ => 0)], [zArq T 3 q_3 2 (fun _ => none)]] _ _ := G
  refine lv_dup hx hb dX9_init_30 rfl ?_
  refine lv_iconst (v := 0) hx hb dX9_init_31 (by decide) ?_
  refine z_new C G clX4 (fs := [.int 0, .int 0, .null, .null, .null, .null]) m_cl_RX9_23 m_in_RX4 m_ii_RX4 (fun j hj => by match j, hj with | 0, _ => rfl | 1, _ => rfl | 2, _ => rfl | 3, _ => rfl | 4, _ => rfl | 5, _ => rfl | j + 6, h => exact absurd h (by omega)) (Nat.le_of_ble_eq_true rfl) (Nat.le_of_ble_eq_true rfl) dX9_init_32 (fun q_4 H G => ?_)
  have G : zS T A s.heap s [[(h, .inr (8, [.ref q_1, .int 0, .int 0, .int (-1), .ref q_2, .null, .null, .null]))], [zAr T 1 q_1 600 (fun _ => 0)], [zAr T 0 q_2 3 (fun _ => 0)], [zArq T 3 q_3 2 (fun _ => none)], [(q_4, .inr (4, [.int 0, .int 0, .null, .null, .null, .null]))]] _ _ := G
  refine lv_dup hx hb dX9_init_35 rfl ?_
  refine z_Jv (bc := [[(q_4, .inr (4, [.int 0, .int 0, .null, .null, .null, .null]))]]) (br := [[(h, .inr (8, [.ref q_1, .int 0, .int 0, .int (-1), .ref q_2, .null, .null, .null]))], [zAr T 1 q_1 600 (fun _ => 0)], [zAr T 0 q_2 3 (fun _ => 0)], [zArq T 3 q_3 2 (fun _ => none)]]) (As := []) (rest := [.ref q_4, .int 0, .ref q_3, .ref q_3, .ref h]) C G (c_Land_init l T q_4) (kJ_RX9_25 G.2.2.2.2.2.1 C.2.2.2.2 (Nat.le_of_ble_eq_true rfl) (Nat.le_of_ble_eq_true rfl)) [4] [4] rfl rfl rfl rfl hl.1 dX9_init_36 (Nat.le_of_ble_eq_true rfl) (Nat.le_of_ble_eq_true rfl) (fun b1 H locs hw G => ?_)
  refine zEx1 hw ?_
  intro w_5
  refine zCu2 ?_
  intro hbs9 h_6
  clear hw
  subst hbs9
  have G : zS T A s.heap s [[(h, .inr (8, [.ref q_1, .int 0, .int 0, .int (-1), .ref q_2, .null, .null, .null]))], [zAr T 1 q_1 600 (fun _ => 0)], [zAr T 0 q_2 3 (fun _ => 0)], [zArq T 3 q_3 2 (fun _ => none)], w_5] _ _ := G
  refine z_ast C G 3 3 (ci := 4) (r := (RX4, TX4, 6)) rfl rfl (List.mem_flatten.mpr ⟨_, List.mem_of_getElem? (i := 4) rfl, (bLand_mem h_6).choose_spec⟩) rfl (vp_in_nI (n := 0) (by decide) (by decide)) dX9_init_39 (fun H locs G => ?_)
  have G : zS T A s.heap s [[(h, .inr (8, [.ref q_1, .int 0, .int 0, .int (-1), .ref q_2, .null, .null, .null]))], [zAr T 1 q_1 600 (fun _ => 0)], [zAr T 0 q_2 3 (fun _ => 0)], [zArq T 3 q_3 2 (va_up (fun _ => none) 0 (some q_4))], w_5] _ _ := G
  refine lv_dup hx hb dX9_init_40 rfl ?_
  refine lv_iconst (v := 1) hx hb dX9_init_41 (by decide) ?_
  refine z_new C G clX4 (fs := [.int 0, .int 0, .null, .null, .null, .null]) m_cl_RX9_23 m_in_RX4 m_ii_RX4 (fun j hj => by match j, hj with | 0, _ => rfl | 1, _ => rfl | 2, _ => rfl | 3, _ => rfl | 4, _ => rfl | 5, _ => rfl | j + 6, h => exact absurd h (by omega)) (Nat.le_of_ble_eq_true rfl) (Nat.le_of_ble_eq_true rfl) dX9_init_42 (fun q_8 H G => ?_)
  have G : zS T A s.heap s [[(h, .inr (8, [.ref q_1, .int 0, .int 0, .int (-1), .ref q_2, .null, .null, .null]))], [zAr T 1 q_1 600 (fun _ => 0)], [zAr T 0 q_2 3 (fun _ => 0)], [zArq T 3 q_3 2 (va_up (fun _ => none) 0 (some q_4))], w_5, [(q_8, .inr (4, [.int 0, .int 0, .null, .null, .null, .null]))]] _ _ := G
  refine lv_dup hx hb dX9_init_45 rfl ?_
  refine z_Jv (bc := [[(q_8, .inr (4, [.int 0, .int 0, .null, .null, .null, .null]))]]) (br := [[(h, .inr (8, [.ref q_1, .int 0, .int 0, .int (-1), .ref q_2, .null, .null, .null]))], [zAr T 1 q_1 600 (fun _ => 0)], [zAr T 0 q_2 3 (fun _ => 0)], [zArq T 3 q_3 2 (va_up (fun _ => none) 0 (some q_4))], w_5]) (As := []) (rest := [.ref q_8, .int 1, .ref q_3, .ref q_3, .ref h]) C G (c_Land_init l T q_8) (kJ_RX9_25 G.2.2.2.2.2.1 C.2.2.2.2 (Nat.le_of_ble_eq_true rfl) (Nat.le_of_ble_eq_true rfl)) [5] [5] rfl rfl rfl rfl hl.1 dX9_init_46 (Nat.le_of_ble_eq_true rfl) (Nat.le_of_ble_eq_true rfl) (fun b1 H locs hw G => ?_)
  refine zEx1 hw ?_
  intro w_9
  refine zCu2 ?_
  intro hbs9 h_10
  clear hw
  subst hbs9
  have G : zS T A s.heap s [[(h, .inr (8, [.ref q_1, .int 0, .int 0, .int (-1), .ref q_2, .null, .null, .null]))], [zAr T 1 q_1 600 (fun _ => 0)], [zAr T 0 q_2 3 (fun _ => 0)], [zArq T 3 q_3 2 (va_up (fun _ => none) 0 (some q_4))], w_5, w_9] _ _ := G
  refine z_ast C G 3 3 (ci := 4) (r := (RX4, TX4, 6)) rfl rfl (List.mem_flatten.mpr ⟨_, List.mem_of_getElem? (i := 5) rfl, (bLand_mem h_10).choose_spec⟩) rfl (vp_in_nI (n := 1) (by decide) (by decide)) dX9_init_49 (fun H locs G => ?_)
  have G : zS T A s.heap s [[(h, .inr (8, [.ref q_1, .int 0, .int 0, .int (-1), .ref q_2, .null, .null, .null]))], [zAr T 1 q_1 600 (fun _ => 0)], [zAr T 0 q_2 3 (fun _ => 0)], [zArq T 3 q_3 2 (va_up (va_up (fun _ => none) 0 (some q_4)) 1 (some q_8))], w_5, w_9] _ _ := G
  refine z_putF C G hnm clX9 0 rfl 5 (by decide) m_fl_RX9_26 rfl rfl rfl rfl (Nat.le_of_ble_eq_true rfl) dX9_init_50 (fun H locs G => ?_)
  have G : zS T A s.heap s [[(h, .inr (8, [.ref q_1, .int 0, .int 0, .int (-1), .ref q_2, .ref q_3, .null, .null]))], [zAr T 1 q_1 600 (fun _ => 0)], [zAr T 0 q_2 3 (fun _ => 0)], [zArq T 3 q_3 2 (va_up (va_up (fun _ => none) 0 (some q_4)) 1 (some q_8))], w_5, w_9] _ _ := G
  refine lv_aload_n hx hb dX9_init_53 rfl (lv_at hl 0 rfl) ?_
  refine lv_iconst (v := 2) hx hb dX9_init_54 (by decide) ?_
  refine z_newq C G 4 rfl m_cl_RX9_30 (List.mem_of_getElem? (i := 1) rfl) (N' := 2) (by decide) (by decide) (by decide) (Nat.le_of_ble_eq_true rfl) (Nat.le_of_ble_eq_true rfl) dX9_init_55 (fun q_12 H G => ?_)
  have G : zS T A s.heap s [[(h, .inr (8, [.ref q_1, .int 0, .int 0, .int (-1), .ref q_2, .ref q_3, .null, .null]))], [zAr T 1 q_1 600 (fun _ => 0)], [zAr T 0 q_2 3 (fun _ => 0)], [zArq T 3 q_3 2 (va_up (va_up (fun _ => none) 0 (some q_4)) 1 (some q_8))], w_5, w_9, [zArq T 4 q_12 2 (fun _ => none)]] _ _ := G
  refine lv_dup hx hb dX9_init_58 rfl ?_
  refine lv_iconst (v := 0) hx hb dX9_init_59 (by decide) ?_
  refine z_new C G clX2 (fs := [.int 0, .null, .null, .null]) m_cl_RX9_30 m_in_RX2 m_ii_RX2 (fun j hj => by match j, hj with | 0, _ => rfl | 1, _ => rfl | 2, _ => rfl | 3, _ => rfl | j + 4, h => exact absurd h (by omega)) (Nat.le_of_ble_eq_true rfl) (Nat.le_of_ble_eq_true rfl) dX9_init_60 (fun q_13 H G => ?_)
  have G : zS T A s.heap s [[(h, .inr (8, [.ref q_1, .int 0, .int 0, .int (-1), .ref q_2, .ref q_3, .null, .null]))], [zAr T 1 q_1 600 (fun _ => 0)], [zAr T 0 q_2 3 (fun _ => 0)], [zArq T 3 q_3 2 (va_up (va_up (fun _ => none) 0 (some q_4)) 1 (some q_8))], w_5, w_9, [zArq T 4 q_12 2 (fun _ => none)], [(q_13, .inr (2, [.int 0, .null, .null, .null]))]] _ _ := G
  refine lv_dup hx hb dX9_init_63 rfl ?_
  refine z_Jv (bc := [[(q_13, .inr (2, [.int 0, .null, .null, .null]))]]) (br := [[(h, .inr (8, [.ref q_1, .int 0, .int 0, .int (-1), .ref q_2, .ref q_3, .null, .null]))], [zAr T 1 q_1 600 (fun _ => 0)], [zAr T 0 q_2 3 (fun _ => 0)], [zArq T 3 q_3 2 (va_up (va_up (fun _ => none) 0 (some q_4)) 1 (some q_8))], w_5, w_9, [zArq T 4 q_12 2 (fun _ => none)]]) (As := []) (rest := [.ref q_13, .int 0, .ref q_12, .ref q_12, .ref h]) C G (c_Day_init l T q_13) (kJ_RX9_32 G.2.2.2.2.2.1 C.2.2.2.2 (Nat.le_of_ble_eq_true rfl) (Nat.le_of_ble_eq_true rfl)) [7] [7] rfl rfl rfl rfl hl.1 dX9_init_64 (Nat.le_of_ble_eq_true rfl) (Nat.le_of_ble_eq_true rfl) (fun b1 H locs hw G => ?_)
  refine zEx1 hw ?_
  intro w_14
  refine zCu2 ?_
  intro hbs9 h_15
  clear hw
  subst hbs9
  have G : zS T A s.heap s [[(h, .inr (8, [.ref q_1, .int 0, .int 0, .int (-1), .ref q_2, .ref q_3, .null, .null]))], [zAr T 1 q_1 600 (fun _ => 0)], [zAr T 0 q_2 3 (fun _ => 0)], [zArq T 3 q_3 2 (va_up (va_up (fun _ => none) 0 (some q_4)) 1 (some q_8))], w_5, w_9, [zArq T 4 q_12 2 (fun _ => none)], w_14] _ _ := G
  refine z_ast C G 6 4 (ci := 2) (r := (RX2, TX2, 4)) rfl rfl (List.mem_flatten.mpr ⟨_, List.mem_of_getElem? (i := 7) rfl, (bDay_mem h_15).choose_spec⟩) rfl (vp_in_nI (n := 0) (by decide) (by decide)) dX9_init_67 (fun H locs G => ?_)
  have G : zS T A s.heap s [[(h, .inr (8, [.ref q_1, .int 0, .int 0, .int (-1), .ref q_2, .ref q_3, .null, .null]))], [zAr T 1 q_1 600 (fun _ => 0)], [zAr T 0 q_2 3 (fun _ => 0)], [zArq T 3 q_3 2 (va_up (va_up (fun _ => none) 0 (some q_4)) 1 (some q_8))], w_5, w_9, [zArq T 4 q_12 2 (va_up (fun _ => none) 0 (some q_13))], w_14] _ _ := G
  refine lv_dup hx hb dX9_init_68 rfl ?_
  refine lv_iconst (v := 1) hx hb dX9_init_69 (by decide) ?_
  refine z_new C G clX2 (fs := [.int 0, .null, .null, .null]) m_cl_RX9_30 m_in_RX2 m_ii_RX2 (fun j hj => by match j, hj with | 0, _ => rfl | 1, _ => rfl | 2, _ => rfl | 3, _ => rfl | j + 4, h => exact absurd h (by omega)) (Nat.le_of_ble_eq_true rfl) (Nat.le_of_ble_eq_true rfl) dX9_init_70 (fun q_17 H G => ?_)
  have G : zS T A s.heap s [[(h, .inr (8, [.ref q_1, .int 0, .int 0, .int (-1), .ref q_2, .ref q_3, .null, .null]))], [zAr T 1 q_1 600 (fun _ => 0)], [zAr T 0 q_2 3 (fun _ => 0)], [zArq T 3 q_3 2 (va_up (va_up (fun _ => none) 0 (some q_4)) 1 (some q_8))], w_5, w_9, [zArq T 4 q_12 2 (va_up (fun _ => none) 0 (some q_13))], w_14, [(q_17, .inr (2, [.int 0, .null, .null, .null]))]] _ _ := G
  refine lv_dup hx hb dX9_init_73 rfl ?_
  refine z_Jv (bc := [[(q_17, .inr (2, [.int 0, .null, .null, .null]))]]) (br := [[(h, .inr (8, [.ref q_1, .int 0, .int 0, .int (-1), .ref q_2, .ref q_3, .null, .null]))], [zAr T 1 q_1 600 (fun _ => 0)], [zAr T 0 q_2 3 (fun _ => 0)], [zArq T 3 q_3 2 (va_up (va_up (fun _ => none) 0 (some q_4)) 1 (some q_8))], w_5, w_9, [zArq T 4 q_12 2 (va_up (fun _ => none) 0 (some q_13))], w_14]) (As := []) (rest := [.ref q_17, .int 1, .ref q_12, .ref q_12, .ref h]) C G (c_Day_init l T q_17) (kJ_RX9_32 G.2.2.2.2.2.1 C.2.2.2.2 (Nat.le_of_ble_eq_true rfl) (Nat.le_of_ble_eq_true rfl)) [8] [8] rfl rfl rfl rfl hl.1 dX9_init_74 (Nat.le_of_ble_eq_true rfl) (Nat.le_of_ble_eq_true rfl) (fun b1 H locs hw G => ?_)
  refine zEx1 hw ?_
  intro w_18
  refine zCu2 ?_
  intro hbs9 h_19
  clear hw
  subst hbs9
  have G : zS T A s.heap s [[(h, .inr (8, [.ref q_1, .int 0, .int 0, .int (-1), .ref q_2, .ref q_3, .null, .null]))], [zAr T 1 q_1 600 (fun _ => 0)], [zAr T 0 q_2 3 (fun _ => 0)], [zArq T 3 q_3 2 (va_up (va_up (fun _ => none) 0 (some q_4)) 1 (some q_8))], w_5, w_9, [zArq T 4 q_12 2 (va_up (fun _ => none) 0 (some q_13))], w_14, w_18] _ _ := G
  refine z_ast C G 6 4 (ci := 2) (r := (RX2, TX2, 4)) rfl rfl (List.mem_flatten.mpr ⟨_, List.mem_of_getElem? (i := 8) rfl, (bDay_mem h_19).choose_spec⟩) rfl (vp_in_nI (n := 1) (by decide) (by decide)) dX9_init_77 (fun H locs G => ?_)
  have G : zS T A s.heap s [[(h, .inr (8, [.ref q_1, .int 0, .int 0, .int (-1), .ref q_2, .ref q_3, .null, .null]))], [zAr T 1 q_1 600 (fun _ => 0)], [zAr T 0 q_2 3 (fun _ => 0)], [zArq T 3 q_3 2 (va_up (va_up (fun _ => none) 0 (some q_4)) 1 (some q_8))], w_5, w_9, [zArq T 4 q_12 2 (va_up (va_up (fun _ => none) 0 (some q_13)) 1 (some q_17))], w_14, w_18] _ _ := G
  refine z_putF C G hnm clX9 0 rfl 6 (by decide) m_fl_RX9_33 rfl rfl rfl rfl (Nat.le_of_ble_eq_true rfl) dX9_init_78 (fun H locs G => ?_)
  have G : zS T A s.heap s [[(h, .inr (8, [.ref q_1, .int 0, .int 0, .int (-1), .ref q_2, .ref q_3, .ref q_12, .null]))], [zAr T 1 q_1 600 (fun _ => 0)], [zAr T 0 q_2 3 (fun _ => 0)], [zArq T 3 q_3 2 (va_up (va_up (fun _ => none) 0 (some q_4)) 1 (some q_8))], w_5, w_9, [zArq T 4 q_12 2 (va_up (va_up (fun _ => none) 0 (some q_13)) 1 (some q_17))], w_14, w_18] _ _ := G
  refine lv_aload_n hx hb dX9_init_81 rfl (lv_at hl 0 rfl) ?_
  refine lv_iconst (v := 2) hx hb dX9_init_82 (by decide) ?_
  refine z_newq C G 5 rfl m_cl_RX9_37 (List.mem_of_getElem? (i := 2) rfl) (N' := 2) (by decide) (by decide) (by decide) (Nat.le_of_ble_eq_true rfl) (Nat.le_of_ble_eq_true rfl) dX9_init_83 (fun q_21 H G => ?_)
  have G : zS T A s.heap s [[(h, .inr (8, [.ref q_1, .int 0, .int 0, .int (-1), .ref q_2, .ref q_3, .ref q_12, .null]))], [zAr T 1 q_1 600 (fun _ => 0)], [zAr T 0 q_2 3 (fun _ => 0)], [zArq T 3 q_3 2 (va_up (va_up (fun _ => none) 0 (some q_4)) 1 (some q_8))], w_5, w_9, [zArq T 4 q_12 2 (va_up (va_up (fun _ => none) 0 (some q_13)) 1 (some q_17))], w_14, w_18, [zArq T 5 q_21 2 (fun _ => none)]] _ _ := G
  refine lv_dup hx hb dX9_init_86 rfl ?_
  refine lv_iconst (v := 0) hx hb dX9_init_87 (by decide) ?_
  refine z_new C G clX5 (fs := [.int 0, .null, .null]) m_cl_RX9_37 m_in_RX5 m_ii_RX5 (fun j hj => by match j, hj with | 0, _ => rfl | 1, _ => rfl | 2, _ => rfl | j + 3, h => exact absurd h (by omega)) (Nat.le_of_ble_eq_true rfl) (Nat.le_of_ble_eq_true rfl) dX9_init_88 (fun q_22 H G => ?_)
  have G : zS T A s.heap s [[(h, .inr (8, [.ref q_1, .int 0, .int 0, .int (-1), .ref q_2, .ref q_3, .ref q_12, .null]))], [zAr T 1 q_1 600 (fun _ => 0)], [zAr T 0 q_2 3 (fun _ => 0)], [zArq T 3 q_3 2 (va_up (va_up (fun _ => none) 0 (some q_4)) 1 (some q_8))], w_5, w_9, [zArq T 4 q_12 2 (va_up (va_up (fun _ => none) 0 (some q_13)) 1 (some q_17))], w_14, w_18, [zArq T 5 q_21 2 (fun _ => none)], [(q_22, .inr (5, [.int 0, .null, .null]))]] _ _ := G
  refine lv_dup hx hb dX9_init_91 rfl ?_
  refine z_Jv (bc := [[(q_22, .inr (5, [.int 0, .null, .null]))]]) (br := [[(h, .inr (8, [.ref q_1, .int 0, .int 0, .int (-1), .ref q_2, .ref q_3, .ref q_12, .null]))], [zAr T 1 q_1 600 (fun _ => 0)], [zAr T 0 q_2 3 (fun _ => 0)], [zArq T 3 q_3 2 (va_up (va_up (fun _ => none) 0 (some q_4)) 1 (some q_8))], w_5, w_9, [zArq T 4 q_12 2 (va_up (va_up (fun _ => none) 0 (some q_13)) 1 (some q_17))], w_14, w_18, [zArq T 5 q_21 2 (fun _ => none)]]) (As := []) (rest := [.ref q_22, .int 0, .ref q_21, .ref q_21, .ref h]) C G (c_Log_init l T q_22) (kJ_RX9_39 G.2.2.2.2.2.1 C.2.2.2.2 (Nat.le_of_ble_eq_true rfl) (Nat.le_of_ble_eq_true rfl)) [10] [10] rfl rfl rfl rfl hl.1 dX9_init_92 (Nat.le_of_ble_eq_true rfl) (Nat.le_of_ble_eq_true rfl) (fun b1 H locs hw G => ?_)
  refine zEx1 hw ?_
  intro w_23
  refine zCu2 ?_
  intro hbs9 h_24
  clear hw
  subst hbs9
  have G : zS T A s.heap s [[(h, .inr (8, [.ref q_1, .int 0, .int 0, .int (-1), .ref q_2, .ref q_3, .ref q_12, .null]))], [zAr T 1 q_1 600 (fun _ => 0)], [zAr T 0 q_2 3 (fun _ => 0)], [zArq T 3 q_3 2 (va_up (va_up (fun _ => none) 0 (some q_4)) 1 (some q_8))], w_5, w_9, [zArq T 4 q_12 2 (va_up (va_up (fun _ => none) 0 (some q_13)) 1 (some q_17))], w_14, w_18, [zArq T 5 q_21 2 (fun _ => none)], w_23] _ _ := G
  refine z_ast C G 9 5 (ci := 5) (r := (RX5, TX5, 3)) rfl rfl (List.mem_flatten.mpr ⟨_, List.mem_of_getElem? (i := 10) rfl, (bLog_mem h_24).choose_spec⟩) rfl (vp_in_nI (n := 0) (by decide) (by decide)) dX9_init_95 (fun H locs G => ?_)
  have G : zS T A s.heap s [[(h, .inr (8, [.ref q_1, .int 0, .int 0, .int (-1), .ref q_2, .ref q_3, .ref q_12, .null]))], [zAr T 1 q_1 600 (fun _ => 0)], [zAr T 0 q_2 3 (fun _ => 0)], [zArq T 3 q_3 2 (va_up (va_up (fun _ => none) 0 (some q_4)) 1 (some q_8))], w_5, w_9, [zArq T 4 q_12 2 (va_up (va_up (fun _ => none) 0 (some q_13)) 1 (some q_17))], w_14, w_18, [zArq T 5 q_21 2 (va_up (fun _ => none) 0 (some q_22))], w_23] _ _ := G
  refine lv_dup hx hb dX9_init_96 rfl ?_
  refine lv_iconst (v := 1) hx hb dX9_init_97 (by decide) ?_
  refine z_new C G clX5 (fs := [.int 0, .null, .null]) m_cl_RX9_37 m_in_RX5 m_ii_RX5 (fun j hj => by match j, hj with | 0, _ => rfl | 1, _ => rfl | 2, _ => rfl | j + 3, h => exact absurd h (by omega)) (Nat.le_of_ble_eq_true rfl) (Nat.le_of_ble_eq_true rfl) dX9_init_98 (fun q_26 H G => ?_)
  have G : zS T A s.heap s [[(h, .inr (8, [.ref q_1, .int 0, .int 0, .int (-1), .ref q_2, .ref q_3, .ref q_12, .null]))], [zAr T 1 q_1 600 (fun _ => 0)], [zAr T 0 q_2 3 (fun _ => 0)], [zArq T 3 q_3 2 (va_up (va_up (fun _ => none) 0 (some q_4)) 1 (some q_8))], w_5, w_9, [zArq T 4 q_12 2 (va_up (va_up (fun _ => none) 0 (some q_13)) 1 (some q_17))], w_14, w_18, [zArq T 5 q_21 2 (va_up (fun _ => none) 0 (some q_22))], w_23, [(q_26, .inr (5, [.int 0, .null, .null]))]] _ _ := G
  refine lv_dup hx hb dX9_init_101 rfl ?_
  refine z_Jv (bc := [[(q_26, .inr (5, [.int 0, .null, .null]))]]) (br := [[(h, .inr (8, [.ref q_1, .int 0, .int 0, .int (-1), .ref q_2, .ref q_3, .ref q_12, .null]))], [zAr T 1 q_1 600 (fun _ => 0)], [zAr T 0 q_2 3 (fun _ => 0)], [zArq T 3 q_3 2 (va_up (va_up (fun _ => none) 0 (some q_4)) 1 (some q_8))], w_5, w_9, [zArq T 4 q_12 2 (va_up (va_up (fun _ => none) 0 (some q_13)) 1 (some q_17))], w_14, w_18, [zArq T 5 q_21 2 (va_up (fun _ => none) 0 (some q_22))], w_23]) (As := []) (rest := [.ref q_26, .int 1, .ref q_21, .ref q_21, .ref h]) C G (c_Log_init l T q_26) (kJ_RX9_39 G.2.2.2.2.2.1 C.2.2.2.2 (Nat.le_of_ble_eq_true rfl) (Nat.le_of_ble_eq_true rfl)) [11] [11] rfl rfl rfl rfl hl.1 dX9_init_102 (Nat.le_of_ble_eq_true rfl) (Nat.le_of_ble_eq_true rfl) (fun b1 H locs hw G => ?_)
  refine zEx1 hw ?_
  intro w_27
  refine zCu2 ?_
  intro hbs9 h_28
  clear hw
  subst hbs9
  have G : zS T A s.heap s [[(h, .inr (8, [.ref q_1, .int 0, .int 0, .int (-1), .ref q_2, .ref q_3, .ref q_12, .null]))], [zAr T 1 q_1 600 (fun _ => 0)], [zAr T 0 q_2 3 (fun _ => 0)], [zArq T 3 q_3 2 (va_up (va_up (fun _ => none) 0 (some q_4)) 1 (some q_8))], w_5, w_9, [zArq T 4 q_12 2 (va_up (va_up (fun _ => none) 0 (some q_13)) 1 (some q_17))], w_14, w_18, [zArq T 5 q_21 2 (va_up (fun _ => none) 0 (some q_22))], w_23, w_27] _ _ := G
  refine z_ast C G 9 5 (ci := 5) (r := (RX5, TX5, 3)) rfl rfl (List.mem_flatten.mpr ⟨_, List.mem_of_getElem? (i := 11) rfl, (bLog_mem h_28).choose_spec⟩) rfl (vp_in_nI (n := 1) (by decide) (by decide)) dX9_init_105 (fun H locs G => ?_)
  have G : zS T A s.heap s [[(h, .inr (8, [.ref q_1, .int 0, .int 0, .int (-1), .ref q_2, .ref q_3, .ref q_12, .null]))], [zAr T 1 q_1 600 (fun _ => 0)], [zAr T 0 q_2 3 (fun _ => 0)], [zArq T 3 q_3 2 (va_up (va_up (fun _ => none) 0 (some q_4)) 1 (some q_8))], w_5, w_9, [zArq T 4 q_12 2 (va_up (va_up (fun _ => none) 0 (some q_13)) 1 (some q_17))], w_14, w_18, [zArq T 5 q_21 2 (va_up (va_up (fun _ => none) 0 (some q_22)) 1 (some q_26))], w_23, w_27] _ _ := G
  refine z_putF C G hnm clX9 0 rfl 7 (by decide) m_fl_RX9_40 rfl rfl rfl rfl (Nat.le_of_ble_eq_true rfl) dX9_init_106 (fun H locs G => ?_)
  have G : zS T A s.heap s [[zO8 h q_1 0 0 (-1) q_2 q_3 q_12 q_21], [zAr T 1 q_1 600 (fun _ => 0)], [zAr T 0 q_2 3 (fun _ => 0)], [zArq T 3 q_3 2 (va_up (va_up (fun _ => none) 0 (some q_4)) 1 (some q_8))], w_5, w_9, [zArq T 4 q_12 2 (va_up (va_up (fun _ => none) 0 (some q_13)) 1 (some q_17))], w_14, w_18, [zArq T 5 q_21 2 (va_up (va_up (fun _ => none) 0 (some q_22)) 1 (some q_26))], w_23, w_27] _ _ := G
  have G := G.sub (bs' := [[zO8 h q_1 0 0 (-1) q_2 q_3 q_12 q_21], [zAr T 1 q_1 600 (fun _ => 0)], [zAr T 0 q_2 3 (fun _ => 0)], [zArq T 3 q_3 2 (va_up (va_up (fun _ => none) 0 (some q_4)) 1 (some q_8))], [zArq T 4 q_12 2 (va_up (va_up (fun _ => none) 0 (some q_13)) 1 (some q_17))], [zArq T 5 q_21 2 (va_up (va_up (fun _ => none) 0 (some q_22)) 1 (some q_26))], w_5, w_9, w_14, w_18, w_23, w_27]) [0, 1, 2, 3, 6, 9, 4, 5, 7, 8, 10, 11] rfl
  have hw_30 : bTold T h q_4 q_8 q_13 q_17 q_22 q_26 0 0 (-1) (fun _ => 0) (fun _ => 0) [zO8 h q_1 0 0 (-1) q_2 q_3 q_12 q_21, zAr T 1 q_1 600 (fun _ => 0), zAr T 0 q_2 3 (fun _ => 0), zArq T 3 q_3 2 (va_up (va_up (fun _ => none) 0 (some q_4)) 1 (some q_8)), zArq T 4 q_12 2 (va_up (va_up (fun _ => none) 0 (some q_13)) 1 (some q_17)), zArq T 5 q_21 2 (va_up (va_up (fun _ => none) 0 (some q_22)) 1 (some q_26))] := ⟨q_1, q_2, q_3, q_12, q_21, (va_up (va_up (fun _ => none) 0 (some q_4)) 1 (some q_8)), (va_up (va_up (fun _ => none) 0 (some q_13)) 1 (some q_17)), (va_up (va_up (fun _ => none) 0 (some q_22)) 1 (some q_26)), rfl, rfl, rfl, rfl, rfl, rfl, rfl⟩
  have G : zS T A s.heap s [[zO8 h q_1 0 0 (-1) q_2 q_3 q_12 q_21, zAr T 1 q_1 600 (fun _ => 0), zAr T 0 q_2 3 (fun _ => 0), zArq T 3 q_3 2 (va_up (va_up (fun _ => none) 0 (some q_4)) 1 (some q_8)), zArq T 4 q_12 2 (va_up (va_up (fun _ => none) 0 (some q_13)) 1 (some q_17)), zArq T 5 q_21 2 (va_up (va_up (fun _ => none) 0 (some q_22)) 1 (some q_26))], w_5, w_9, w_14, w_18, w_23, w_27] _ _ := G.re rfl
  exact z_back hQ9 (z_vret C hr hlocks G (Nat.le_of_ble_eq_true rfl) (Nat.le_of_ble_eq_true rfl) dX9_init_109 ⟨([zO8 h q_1 0 0 (-1) q_2 q_3 q_12 q_21, zAr T 1 q_1 600 (fun _ => 0), zAr T 0 q_2 3 (fun _ => 0), zArq T 3 q_3 2 (va_up (va_up (fun _ => none) 0 (some q_4)) 1 (some q_8)), zArq T 4 q_12 2 (va_up (va_up (fun _ => none) 0 (some q_13)) 1 (some q_17)), zArq T 5 q_21 2 (va_up (va_up (fun _ => none) 0 (some q_22)) 1 (some q_26))]), q_4, q_8, q_13, q_17, q_22, q_26, w_5, w_9, w_14, w_18, w_23, w_27, rfl, hw_30, h_6, h_10, h_15, h_19, h_24, h_28⟩)
set_option maxHeartbeats 4000000 in
set_option maxRecDepth 100000 in
theorem c_Posts_init (l : Launch) (T : zTy) (h : Nat) : zMv l T yX6_init cX6_init 1 3 8 76 [.ref h] [[(h, .inr (6, [.null, .null, .null, .int 0, .int 0, .null]))]] (fun bs => ∃ (w : va_W) (la : Nat), bs = [w] ∧ bPosts T h la (fun _ => 0) (fun _ => 0) (fun _ => 0) 0 0 w) := by
  refine zMv_of (own := RX6) (by decide) rfl (Nat.le_of_ble_eq_true rfl) ?_
  intro p e s m args below meth c A ls C hr hlocks hnm hAe G hl
  refine zHide (fun Q9 hQ9 => ?_)
  have hx := C.1
  have hb := C.2.1
  have hl : lv_has ls 1 [(0, .ref h)] := hl
  refine lv_aload_n hx hb dX6_init_0 rfl (lv_at hl 0 rfl) ?_
  refine W.objInit hx hb C.2.2.2.1 (C.2.2.2.2 _ m_ml_RX6_3) (C.2.2.2.2 _ m_im_obj) (C.2.2.2.2 _ m_co_obj) rfl (by rw [C.2.2.1]; exact hl.1) rfl dX6_init_1 (Nat.le_of_ble_eq_true rfl) (Nat.le_of_ble_eq_true rfl) ?_
  refine W.eq (g2 := F0 m 4 ls []) rfl ?_
  refine lv_aload_n hx hb dX6_init_4 rfl (lv_at hl 0 rfl) ?_
  refine z_new C G clX4 (fs := [.int 0, .int 0, .null, .null, .null, .null]) m_cl_RX6_9 m_in_RX4 m_ii_RX4 (fun j hj => by match j, hj with | 0, _ => rfl | 1, _ => rfl | 2, _ => rfl | 3, _ => rfl | 4, _ => rfl | 5, _ => rfl | j + 6, h => exact absurd h (by omega)) (Nat.le_of_ble_eq_true rfl) (Nat.le_of_ble_eq_true rfl) dX6_init_5 (fun q_1 H G => ?_)
  have G : zS T A s.heap s [[(h, .inr (6, [.null, .null, .null, .int 0, .int 0, .null]))], [(q_1, .inr (4, [.int 0, .int 0, .null, .null, .null, .null]))]] _ _ := G
  refine lv_dup hx hb dX6_init_8 rfl ?_
  refine z_Jv (bc := [[(q_1, .inr (4, [.int 0, .int 0, .null, .null, .null, .null]))]]) (br := [[(h, .inr (6, [.null, .null, .null, .int 0, .int 0, .null]))]]) (As := []) (rest := [.ref q_1, .ref h]) C G (c_Land_init l T q_1) (kJ_RX6_11 G.2.2.2.2.2.1 C.2.2.2.2 (Nat.le_of_ble_eq_true rfl) (Nat.le_of_ble_eq_true rfl)) [1] [1] rfl rfl rfl rfl hl.1 dX6_init_9 (Nat.le_of_ble_eq_true rfl) (Nat.le_of_ble_eq_true rfl) (fun b1 H locs hw G => ?_)
  refine zEx1 hw ?_
  intro w_2
  refine zCu2 ?_
  intro hbs9 h_3
  clear hw
  subst hbs9
  have G : zS T A s.heap s [[(h, .inr (6, [.null, .null, .null, .int 0, .int 0, .null]))], w_2] _ _ := G
  refine z_put C G clX6 0 rfl 0 (by decide) m_fl_RX6_12 rfl rfl rfl (Nat.le_of_ble_eq_true rfl) dX6_init_12 (fun H locs G => ?_)
  have G : zS T A s.heap s [[(h, .inr (6, [.ref q_1, .null, .null, .int 0, .int 0, .null]))], w_2] _ _ := G
  refine lv_aload_n hx hb dX6_init_15 rfl (lv_at hl 0 rfl) ?_
  refine lv_bipush (v := 7) hx hb dX6_init_16 (by decide) ?_
  refine z_newa C G 0 (ty := .int) (N' := 7) (a0 := (7, .inl (fun _ => 0))) rfl z_uint m_ar_int rfl (fun _ => rfl) (by decide) (by decide) (Nat.le_of_ble_eq_true rfl) (Nat.le_of_ble_eq_true rfl) (Nat.le_of_ble_eq_true rfl) dX6_init_18 (fun q_5 H G => ?_)
  have G : zS T A s.heap s [[(h, .inr (6, [.ref q_1, .null, .null, .int 0, .int 0, .null]))], w_2, [zAr T 0 q_5 7 (fun _ => 0)]] _ _ := G
  refine z_putF C G hnm clX6 0 rfl 1 (by decide) m_fl_RX6_18 rfl rfl rfl rfl (Nat.le_of_ble_eq_true rfl) dX6_init_20 (fun H locs G => ?_)
  have G : zS T A s.heap s [[(h, .inr (6, [.ref q_1, .ref q_5, .null, .int 0, .int 0, .null]))], w_2, [zAr T 0 q_5 7 (fun _ => 0)]] _ _ := G
  refine lv_aload_n hx hb dX6_init_23 rfl (lv_at hl 0 rfl) ?_
  refine lv_bipush (v := 7) hx hb dX6_init_24 (by decide) ?_
  refine z_newa C G 0 (ty := .int) (N' := 7) (a0 := (7, .inl (fun _ => 0))) rfl z_uint m_ar_int rfl (fun _ => rfl) (by decide) (by decide) (Nat.le_of_ble_eq_true rfl) (Nat.le_of_ble_eq_true rfl) (Nat.le_of_ble_eq_true rfl) dX6_init_26 (fun q_6 H G => ?_)
  have G : zS T A s.heap s [[(h, .inr (6, [.ref q_1, .ref q_5, .null, .int 0, .int 0, .null]))], w_2, [zAr T 0 q_5 7 (fun _ => 0)], [zAr T 0 q_6 7 (fun _ => 0)]] _ _ := G
  refine z_putF C G hnm clX6 0 rfl 2 (by decide) m_fl_RX6_22 rfl rfl rfl rfl (Nat.le_of_ble_eq_true rfl) dX6_init_28 (fun H locs G => ?_)
  have G : zS T A s.heap s [[(h, .inr (6, [.ref q_1, .ref q_5, .ref q_6, .int 0, .int 0, .null]))], w_2, [zAr T 0 q_5 7 (fun _ => 0)], [zAr T 0 q_6 7 (fun _ => 0)]] _ _ := G
  refine lv_aload_n hx hb dX6_init_31 rfl (lv_at hl 0 rfl) ?_
  refine lv_bipush (v := 7) hx hb dX6_init_32 (by decide) ?_
  refine z_newa C G 0 (ty := .int) (N' := 7) (a0 := (7, .inl (fun _ => 0))) rfl z_uint m_ar_int rfl (fun _ => rfl) (by decide) (by decide) (Nat.le_of_ble_eq_true rfl) (Nat.le_of_ble_eq_true rfl) (Nat.le_of_ble_eq_true rfl) dX6_init_34 (fun q_7 H G => ?_)
  have G : zS T A s.heap s [[(h, .inr (6, [.ref q_1, .ref q_5, .ref q_6, .int 0, .int 0, .null]))], w_2, [zAr T 0 q_5 7 (fun _ => 0)], [zAr T 0 q_6 7 (fun _ => 0)], [zAr T 0 q_7 7 (fun _ => 0)]] _ _ := G
  refine z_putF C G hnm clX6 0 rfl 5 (by decide) m_fl_RX6_25 rfl rfl rfl rfl (Nat.le_of_ble_eq_true rfl) dX6_init_36 (fun H locs G => ?_)
  have G : zS T A s.heap s [[zO6 h q_1 q_5 q_6 0 0 q_7], w_2, [zAr T 0 q_5 7 (fun _ => 0)], [zAr T 0 q_6 7 (fun _ => 0)], [zAr T 0 q_7 7 (fun _ => 0)]] _ _ := G
  have G := G.sub (bs' := [[zO6 h q_1 q_5 q_6 0 0 q_7], [zAr T 0 q_5 7 (fun _ => 0)], [zAr T 0 q_6 7 (fun _ => 0)], [zAr T 0 q_7 7 (fun _ => 0)], w_2]) [0, 2, 3, 4, 1] rfl
  have hw_8 : bPosts T h q_1 (fun _ => 0) (fun _ => 0) (fun _ => 0) 0 0 [zO6 h q_1 q_5 q_6 0 0 q_7, zAr T 0 q_5 7 (fun _ => 0), zAr T 0 q_6 7 (fun _ => 0), zAr T 0 q_7 7 (fun _ => 0)] := ⟨q_5, q_6, q_7, rfl⟩
  have G : zS T A s.heap s [[zO6 h q_1 q_5 q_6 0 0 q_7, zAr T 0 q_5 7 (fun _ => 0), zAr T 0 q_6 7 (fun _ => 0), zAr T 0 q_7 7 (fun _ => 0)], w_2] _ _ := G.re rfl
  have G := G.sub (bs' := [[zO6 h q_1 q_5 q_6 0 0 q_7, zAr T 0 q_5 7 (fun _ => 0), zAr T 0 q_6 7 (fun _ => 0), zAr T 0 q_7 7 (fun _ => 0)]]) [0] rfl
  exact z_back hQ9 (z_vret C hr hlocks G (Nat.le_of_ble_eq_true rfl) (Nat.le_of_ble_eq_true rfl) dX6_init_39 ⟨([zO6 h q_1 q_5 q_6 0 0 q_7, zAr T 0 q_5 7 (fun _ => 0), zAr T 0 q_6 7 (fun _ => 0), zAr T 0 q_7 7 (fun _ => 0)]), q_1, rfl, hw_8⟩)
set_option maxHeartbeats 4000000 in
set_option maxRecDepth 100000 in
theorem c_Trail_init (l : Launch) (T : zTy) (h : Nat) : zMv l T yX10_init cX10_init 1 5 11 96 [.ref h] [[(h, .inr (9, [.null, .null, .null, .int 0, .int 0, .int 0, .int 0, .int 0]))]] (fun bs => ∃ (w : va_W) (po : Nat) (la : Nat) (w1 : va_W), bs = [w, w1] ∧ bTrail T h po (fun _ => 0) (fun _ => 0) 0 0 0 0 0 w ∧ bPosts T po la (fun _ => 0) (fun _ => 0) (fun _ => 0) 0 0 w1) := by
  refine zMv_of (own := RX10) (by decide) rfl (Nat.le_of_ble_eq_true rfl) ?_
  intro p e s m args below meth c A ls C hr hlocks hnm hAe G hl
  refine zHide (fun Q9 hQ9 => ?_)
  have hx := C.1
  have hb := C.2.1
  have hl : lv_has ls 1 [(0, .ref h)] := hl
  refine lv_aload_n hx hb dX10_init_0 rfl (lv_at hl 0 rfl) ?_
  refine W.objInit hx hb C.2.2.2.1 (C.2.2.2.2 _ m_ml_RX10_3) (C.2.2.2.2 _ m_im_obj) (C.2.2.2.2 _ m_co_obj) rfl (by rw [C.2.2.1]; exact hl.1) rfl dX10_init_1 (Nat.le_of_ble_eq_true rfl) (Nat.le_of_ble_eq_true rfl) ?_
  refine W.eq (g2 := F0 m 4 ls []) rfl ?_
  refine lv_aload_n hx hb dX10_init_4 rfl (lv_at hl 0 rfl) ?_
  refine z_new C G clX6 (fs := [.null, .null, .null, .int 0, .int 0, .null]) m_cl_RX10_9 m_in_RX6 m_ii_RX6 (fun j hj => by match j, hj with | 0, _ => rfl | 1, _ => rfl | 2, _ => rfl | 3, _ => rfl | 4, _ => rfl | 5, _ => rfl | j + 6, h => exact absurd h (by omega)) (Nat.le_of_ble_eq_true rfl) (Nat.le_of_ble_eq_true rfl) dX10_init_5 (fun q_1 H G => ?_)
  have G : zS T A s.heap s [[(h, .inr (9, [.null, .null, .null, .int 0, .int 0, .int 0, .int 0, .int 0]))], [(q_1, .inr (6, [.null, .null, .null, .int 0, .int 0, .null]))]] _ _ := G
  refine lv_dup hx hb dX10_init_8 rfl ?_
  refine z_Jv (bc := [[(q_1, .inr (6, [.null, .null, .null, .int 0, .int 0, .null]))]]) (br := [[(h, .inr (9, [.null, .null, .null, .int 0, .int 0, .int 0, .int 0, .int 0]))]]) (As := []) (rest := [.ref q_1, .ref h]) C G (c_Posts_init l T q_1) (kJ_RX10_11 G.2.2.2.2.2.1 C.2.2.2.2 (Nat.le_of_ble_eq_true rfl) (Nat.le_of_ble_eq_true rfl)) [1] [1] rfl rfl rfl rfl hl.1 dX10_init_9 (Nat.le_of_ble_eq_true rfl) (Nat.le_of_ble_eq_true rfl) (fun b1 H locs hw G => ?_)
  refine zEx2 hw ?_
  intro w_2 la_3
  refine zCu2 ?_
  intro hbs9 h_4
  clear hw
  subst hbs9
  have G : zS T A s.heap s [[(h, .inr (9, [.null, .null, .null, .int 0, .int 0, .int 0, .int 0, .int 0]))], w_2] _ _ := G
  refine z_putF C G hnm clX10 0 rfl 0 (by decide) m_fl_RX10_12 rfl rfl rfl rfl (Nat.le_of_ble_eq_true rfl) dX10_init_12 (fun H locs G => ?_)
  have G : zS T A s.heap s [[(h, .inr (9, [.ref q_1, .null, .null, .int 0, .int 0, .int 0, .int 0, .int 0]))], w_2] _ _ := G
  refine lv_aload_n hx hb dX10_init_15 rfl (lv_at hl 0 rfl) ?_
  refine lv_bipush (v := 7) hx hb dX10_init_16 (by decide) ?_
  refine z_newa C G 0 (ty := .int) (N' := 7) (a0 := (7, .inl (fun _ => 0))) rfl z_uint m_ar_int rfl (fun _ => rfl) (by decide) (by decide) (Nat.le_of_ble_eq_true rfl) (Nat.le_of_ble_eq_true rfl) (Nat.le_of_ble_eq_true rfl) dX10_init_18 (fun q_6 H G => ?_)
  have G : zS T A s.heap s [[(h, .inr (9, [.ref q_1, .null, .null, .int 0, .int 0, .int 0, .int 0, .int 0]))], w_2, [zAr T 0 q_6 7 (fun _ => 0)]] _ _ := G
  refine z_putF C G hnm clX10 0 rfl 1 (by decide) m_fl_RX10_18 rfl rfl rfl rfl (Nat.le_of_ble_eq_true rfl) dX10_init_20 (fun H locs G => ?_)
  have G : zS T A s.heap s [[(h, .inr (9, [.ref q_1, .ref q_6, .null, .int 0, .int 0, .int 0, .int 0, .int 0]))], w_2, [zAr T 0 q_6 7 (fun _ => 0)]] _ _ := G
  refine lv_aload_n hx hb dX10_init_23 rfl (lv_at hl 0 rfl) ?_
  refine lv_bipush (v := 7) hx hb dX10_init_24 (by decide) ?_
  refine z_newa C G 0 (ty := .int) (N' := 7) (a0 := (7, .inl (fun _ => 0))) rfl z_uint m_ar_int rfl (fun _ => rfl) (by decide) (by decide) (Nat.le_of_ble_eq_true rfl) (Nat.le_of_ble_eq_true rfl) (Nat.le_of_ble_eq_true rfl) dX10_init_26 (fun q_7 H G => ?_)
  have G : zS T A s.heap s [[(h, .inr (9, [.ref q_1, .ref q_6, .null, .int 0, .int 0, .int 0, .int 0, .int 0]))], w_2, [zAr T 0 q_6 7 (fun _ => 0)], [zAr T 0 q_7 7 (fun _ => 0)]] _ _ := G
  refine z_putF C G hnm clX10 0 rfl 2 (by decide) m_fl_RX10_22 rfl rfl rfl rfl (Nat.le_of_ble_eq_true rfl) dX10_init_28 (fun H locs G => ?_)
  have G : zS T A s.heap s [[zO9 h q_1 q_6 q_7 0 0 0 0 0], w_2, [zAr T 0 q_6 7 (fun _ => 0)], [zAr T 0 q_7 7 (fun _ => 0)]] _ _ := G
  have G := G.sub (bs' := [[zO9 h q_1 q_6 q_7 0 0 0 0 0], [zAr T 0 q_6 7 (fun _ => 0)], [zAr T 0 q_7 7 (fun _ => 0)], w_2]) [0, 2, 3, 1] rfl
  have hw_8 : bTrail T h q_1 (fun _ => 0) (fun _ => 0) 0 0 0 0 0 [zO9 h q_1 q_6 q_7 0 0 0 0 0, zAr T 0 q_6 7 (fun _ => 0), zAr T 0 q_7 7 (fun _ => 0)] := ⟨q_6, q_7, rfl⟩
  have G : zS T A s.heap s [[zO9 h q_1 q_6 q_7 0 0 0 0 0, zAr T 0 q_6 7 (fun _ => 0), zAr T 0 q_7 7 (fun _ => 0)], w_2] _ _ := G.re rfl
  exact z_back hQ9 (z_vret C hr hlocks G (Nat.le_of_ble_eq_true rfl) (Nat.le_of_ble_eq_true rfl) dX10_init_31 ⟨([zO9 h q_1 q_6 q_7 0 0 0 0 0, zAr T 0 q_6 7 (fun _ => 0), zAr T 0 q_7 7 (fun _ => 0)]), q_1, la_3, w_2, rfl, hw_8, h_4⟩)
set_option maxHeartbeats 4000000 in
set_option maxRecDepth 100000 in
theorem c_Course_init (l : Launch) (T : zTy) (h : Nat) : zMv l T yX1_init cX1_init 1 5 15 144 [.ref h] [[(h, .inr (1, [.null, .null, .int 0, .null, .int 0, .int 0, .int 0, .int 0, .int 0, .int 0, .int 0]))]] (fun bs => ∃ (w : va_W) (po : Nat) (lc : Nat) (la : Nat) (w1 : va_W), bs = [w, w1] ∧ bCourse T h po lc (fun _ => 0) 0 0 0 0 0 0 0 0 w ∧ bPosts T po la (fun _ => 0) (fun _ => 0) (fun _ => 0) 0 0 w1) := by
  refine zMv_of (own := RX1) (by decide) rfl (Nat.le_of_ble_eq_true rfl) ?_
  intro p e s m args below meth c A ls C hr hlocks hnm hAe G hl
  refine zHide (fun Q9 hQ9 => ?_)
  have hx := C.1
  have hb := C.2.1
  have hl : lv_has ls 1 [(0, .ref h)] := hl
  refine lv_aload_n hx hb dX1_init_0 rfl (lv_at hl 0 rfl) ?_
  refine W.objInit hx hb C.2.2.2.1 (C.2.2.2.2 _ m_ml_RX1_3) (C.2.2.2.2 _ m_im_obj) (C.2.2.2.2 _ m_co_obj) rfl (by rw [C.2.2.1]; exact hl.1) rfl dX1_init_1 (Nat.le_of_ble_eq_true rfl) (Nat.le_of_ble_eq_true rfl) ?_
  refine W.eq (g2 := F0 m 4 ls []) rfl ?_
  refine lv_aload_n hx hb dX1_init_4 rfl (lv_at hl 0 rfl) ?_
  refine z_new C G clX6 (fs := [.null, .null, .null, .int 0, .int 0, .null]) m_cl_RX1_9 m_in_RX6 m_ii_RX6 (fun j hj => by match j, hj with | 0, _ => rfl | 1, _ => rfl | 2, _ => rfl | 3, _ => rfl | 4, _ => rfl | 5, _ => rfl | j + 6, h => exact absurd h (by omega)) (Nat.le_of_ble_eq_true rfl) (Nat.le_of_ble_eq_true rfl) dX1_init_5 (fun q_1 H G => ?_)
  have G : zS T A s.heap s [[(h, .inr (1, [.null, .null, .int 0, .null, .int 0, .int 0, .int 0, .int 0, .int 0, .int 0, .int 0]))], [(q_1, .inr (6, [.null, .null, .null, .int 0, .int 0, .null]))]] _ _ := G
  refine lv_dup hx hb dX1_init_8 rfl ?_
  refine z_Jv (bc := [[(q_1, .inr (6, [.null, .null, .null, .int 0, .int 0, .null]))]]) (br := [[(h, .inr (1, [.null, .null, .int 0, .null, .int 0, .int 0, .int 0, .int 0, .int 0, .int 0, .int 0]))]]) (As := []) (rest := [.ref q_1, .ref h]) C G (c_Posts_init l T q_1) (kJ_RX1_11 G.2.2.2.2.2.1 C.2.2.2.2 (Nat.le_of_ble_eq_true rfl) (Nat.le_of_ble_eq_true rfl)) [1] [1] rfl rfl rfl rfl hl.1 dX1_init_9 (Nat.le_of_ble_eq_true rfl) (Nat.le_of_ble_eq_true rfl) (fun b1 H locs hw G => ?_)
  refine zEx2 hw ?_
  intro w_2 la_3
  refine zCu2 ?_
  intro hbs9 h_4
  clear hw
  subst hbs9
  have G : zS T A s.heap s [[(h, .inr (1, [.null, .null, .int 0, .null, .int 0, .int 0, .int 0, .int 0, .int 0, .int 0, .int 0]))], w_2] _ _ := G
  refine z_putF C G hnm clX1 0 rfl 0 (by decide) m_fl_RX1_12 rfl rfl rfl rfl (Nat.le_of_ble_eq_true rfl) dX1_init_12 (fun H locs G => ?_)
  have G : zS T A s.heap s [[(h, .inr (1, [.ref q_1, .null, .int 0, .null, .int 0, .int 0, .int 0, .int 0, .int 0, .int 0, .int 0]))], w_2] _ _ := G
  refine lv_aload_n hx hb dX1_init_15 rfl (lv_at hl 0 rfl) ?_
  refine lv_bipush (v := 7) hx hb dX1_init_16 (by decide) ?_
  refine z_newa C G 0 (ty := .int) (N' := 7) (a0 := (7, .inl (fun _ => 0))) rfl z_uint m_ar_int rfl (fun _ => rfl) (by decide) (by decide) (Nat.le_of_ble_eq_true rfl) (Nat.le_of_ble_eq_true rfl) (Nat.le_of_ble_eq_true rfl) dX1_init_18 (fun q_6 H G => ?_)
  have G : zS T A s.heap s [[(h, .inr (1, [.ref q_1, .null, .int 0, .null, .int 0, .int 0, .int 0, .int 0, .int 0, .int 0, .int 0]))], w_2, [zAr T 0 q_6 7 (fun _ => 0)]] _ _ := G
  refine z_putF C G hnm clX1 0 rfl 1 (by decide) m_fl_RX1_18 rfl rfl rfl rfl (Nat.le_of_ble_eq_true rfl) dX1_init_20 (fun H locs G => ?_)
  have G : zS T A s.heap s [[(h, .inr (1, [.ref q_1, .ref q_6, .int 0, .null, .int 0, .int 0, .int 0, .int 0, .int 0, .int 0, .int 0]))], w_2, [zAr T 0 q_6 7 (fun _ => 0)]] _ _ := G
  refine lv_aload_n hx hb dX1_init_23 rfl (lv_at hl 0 rfl) ?_
  refine z_new C G clX4 (fs := [.int 0, .int 0, .null, .null, .null, .null]) m_cl_RX1_22 m_in_RX4 m_ii_RX4 (fun j hj => by match j, hj with | 0, _ => rfl | 1, _ => rfl | 2, _ => rfl | 3, _ => rfl | 4, _ => rfl | 5, _ => rfl | j + 6, h => exact absurd h (by omega)) (Nat.le_of_ble_eq_true rfl) (Nat.le_of_ble_eq_true rfl) dX1_init_24 (fun q_7 H G => ?_)
  have G : zS T A s.heap s [[(h, .inr (1, [.ref q_1, .ref q_6, .int 0, .null, .int 0, .int 0, .int 0, .int 0, .int 0, .int 0, .int 0]))], w_2, [zAr T 0 q_6 7 (fun _ => 0)], [(q_7, .inr (4, [.int 0, .int 0, .null, .null, .null, .null]))]] _ _ := G
  refine lv_dup hx hb dX1_init_27 rfl ?_
  refine z_Jv (bc := [[(q_7, .inr (4, [.int 0, .int 0, .null, .null, .null, .null]))]]) (br := [[(h, .inr (1, [.ref q_1, .ref q_6, .int 0, .null, .int 0, .int 0, .int 0, .int 0, .int 0, .int 0, .int 0]))], w_2, [zAr T 0 q_6 7 (fun _ => 0)]]) (As := []) (rest := [.ref q_7, .ref h]) C G (c_Land_init l T q_7) (kJ_RX1_24 G.2.2.2.2.2.1 C.2.2.2.2 (Nat.le_of_ble_eq_true rfl) (Nat.le_of_ble_eq_true rfl)) [3] [3] rfl rfl rfl rfl hl.1 dX1_init_28 (Nat.le_of_ble_eq_true rfl) (Nat.le_of_ble_eq_true rfl) (fun b1 H locs hw G => ?_)
  refine zEx1 hw ?_
  intro w_8
  refine zCu2 ?_
  intro hbs9 h_9
  clear hw
  subst hbs9
  have G : zS T A s.heap s [[(h, .inr (1, [.ref q_1, .ref q_6, .int 0, .null, .int 0, .int 0, .int 0, .int 0, .int 0, .int 0, .int 0]))], w_2, [zAr T 0 q_6 7 (fun _ => 0)], w_8] _ _ := G
  refine z_put C G clX1 0 rfl 3 (by decide) m_fl_RX1_25 rfl rfl rfl (Nat.le_of_ble_eq_true rfl) dX1_init_31 (fun H locs G => ?_)
  have G : zS T A s.heap s [[zO1 h q_1 q_6 0 q_7 0 0 0 0 0 0 0], w_2, [zAr T 0 q_6 7 (fun _ => 0)], w_8] _ _ := G
  have G := G.sub (bs' := [[zO1 h q_1 q_6 0 q_7 0 0 0 0 0 0 0], [zAr T 0 q_6 7 (fun _ => 0)], w_2, w_8]) [0, 2, 1, 3] rfl
  have hw_11 : bCourse T h q_1 q_7 (fun _ => 0) 0 0 0 0 0 0 0 0 [zO1 h q_1 q_6 0 q_7 0 0 0 0 0 0 0, zAr T 0 q_6 7 (fun _ => 0)] := ⟨q_6, rfl⟩
  have G : zS T A s.heap s [[zO1 h q_1 q_6 0 q_7 0 0 0 0 0 0 0, zAr T 0 q_6 7 (fun _ => 0)], w_2, w_8] _ _ := G.re rfl
  have G := G.sub (bs' := [[zO1 h q_1 q_6 0 q_7 0 0 0 0 0 0 0, zAr T 0 q_6 7 (fun _ => 0)], w_2]) [0, 1] rfl
  exact z_back hQ9 (z_vret C hr hlocks G (Nat.le_of_ble_eq_true rfl) (Nat.le_of_ble_eq_true rfl) dX1_init_34 ⟨([zO1 h q_1 q_6 0 q_7 0 0 0 0 0 0 0, zAr T 0 q_6 7 (fun _ => 0)]), q_1, q_7, la_3, w_2, rfl, hw_11, h_4⟩)
set_option maxHeartbeats 4000000 in
set_option maxRecDepth 100000 in
theorem c_Ways_init (l : Launch) (T : zTy) (h : Nat) : zMv l T yX0_init cX0_init 1 3 11 76 [.ref h] [[(h, .inr (0, [.int 0, .int 0, .null, .int 0, .null, .null, .null, .null, .null, .null]))]] (fun bs => ∃ (w : va_W) (la : Nat), bs = [w] ∧ bWays T h la 0 0 0 (fun _ => 0) (fun _ => 0) (fun _ => 0) (fun _ => 0) (fun _ => 0) (fun _ => 0) 0 w) := by
  refine zMv_of (own := RX0) (by decide) rfl (Nat.le_of_ble_eq_true rfl) ?_
  intro p e s m args below meth c A ls C hr hlocks hnm hAe G hl
  refine zHide (fun Q9 hQ9 => ?_)
  have hx := C.1
  have hb := C.2.1
  have hl : lv_has ls 1 [(0, .ref h)] := hl
  refine lv_aload_n hx hb dX0_init_0 rfl (lv_at hl 0 rfl) ?_
  refine W.objInit hx hb C.2.2.2.1 (C.2.2.2.2 _ m_ml_RX0_5) (C.2.2.2.2 _ m_im_obj) (C.2.2.2.2 _ m_co_obj) rfl (by rw [C.2.2.1]; exact hl.1) rfl dX0_init_1 (Nat.le_of_ble_eq_true rfl) (Nat.le_of_ble_eq_true rfl) ?_
  refine W.eq (g2 := F0 m 4 ls []) rfl ?_
  refine lv_aload_n hx hb dX0_init_4 rfl (lv_at hl 0 rfl) ?_
  refine z_new C G clX4 (fs := [.int 0, .int 0, .null, .null, .null, .null]) m_cl_RX0_11 m_in_RX4 m_ii_RX4 (fun j hj => by match j, hj with | 0, _ => rfl | 1, _ => rfl | 2, _ => rfl | 3, _ => rfl | 4, _ => rfl | 5, _ => rfl | j + 6, h => exact absurd h (by omega)) (Nat.le_of_ble_eq_true rfl) (Nat.le_of_ble_eq_true rfl) dX0_init_5 (fun q_1 H G => ?_)
  have G : zS T A s.heap s [[(h, .inr (0, [.int 0, .int 0, .null, .int 0, .null, .null, .null, .null, .null, .null]))], [(q_1, .inr (4, [.int 0, .int 0, .null, .null, .null, .null]))]] _ _ := G
  refine lv_dup hx hb dX0_init_8 rfl ?_
  refine z_Jv (bc := [[(q_1, .inr (4, [.int 0, .int 0, .null, .null, .null, .null]))]]) (br := [[(h, .inr (0, [.int 0, .int 0, .null, .int 0, .null, .null, .null, .null, .null, .null]))]]) (As := []) (rest := [.ref q_1, .ref h]) C G (c_Land_init l T q_1) (kJ_RX0_13 G.2.2.2.2.2.1 C.2.2.2.2 (Nat.le_of_ble_eq_true rfl) (Nat.le_of_ble_eq_true rfl)) [1] [1] rfl rfl rfl rfl hl.1 dX0_init_9 (Nat.le_of_ble_eq_true rfl) (Nat.le_of_ble_eq_true rfl) (fun b1 H locs hw G => ?_)
  refine zEx1 hw ?_
  intro w_2
  refine zCu2 ?_
  intro hbs9 h_3
  clear hw
  subst hbs9
  have G : zS T A s.heap s [[(h, .inr (0, [.int 0, .int 0, .null, .int 0, .null, .null, .null, .null, .null, .null]))], w_2] _ _ := G
  refine z_put C G clX0 0 rfl 2 (by decide) m_fl_RX0_14 rfl rfl rfl (Nat.le_of_ble_eq_true rfl) dX0_init_12 (fun H locs G => ?_)
  have G : zS T A s.heap s [[(h, .inr (0, [.int 0, .int 0, .ref q_1, .int 0, .null, .null, .null, .null, .null, .null]))], w_2] _ _ := G
  refine lv_aload_n hx hb dX0_init_15 rfl (lv_at hl 0 rfl) ?_
  refine lv_bipush (v := 7) hx hb dX0_init_16 (by decide) ?_
  refine z_newa C G 0 (ty := .int) (N' := 7) (a0 := (7, .inl (fun _ => 0))) rfl z_uint m_ar_int rfl (fun _ => rfl) (by decide) (by decide) (Nat.le_of_ble_eq_true rfl) (Nat.le_of_ble_eq_true rfl) (Nat.le_of_ble_eq_true rfl) dX0_init_18 (fun q_5 H G => ?_)
  have G : zS T A s.heap s [[(h, .inr (0, [.int 0, .int 0, .ref q_1, .int 0, .null, .null, .null, .null, .null, .null]))], w_2, [zAr T 0 q_5 7 (fun _ => 0)]] _ _ := G
  refine z_putF C G hnm clX0 0 rfl 4 (by decide) m_fl_RX0_18 rfl rfl rfl rfl (Nat.le_of_ble_eq_true rfl) dX0_init_20 (fun H locs G => ?_)
  have G : zS T A s.heap s [[(h, .inr (0, [.int 0, .int 0, .ref q_1, .int 0, .ref q_5, .null, .null, .null, .null, .null]))], w_2, [zAr T 0 q_5 7 (fun _ => 0)]] _ _ := G
  refine lv_aload_n hx hb dX0_init_23 rfl (lv_at hl 0 rfl) ?_
  refine lv_bipush (v := 7) hx hb dX0_init_24 (by decide) ?_
  refine z_newa C G 0 (ty := .int) (N' := 7) (a0 := (7, .inl (fun _ => 0))) rfl z_uint m_ar_int rfl (fun _ => rfl) (by decide) (by decide) (Nat.le_of_ble_eq_true rfl) (Nat.le_of_ble_eq_true rfl) (Nat.le_of_ble_eq_true rfl) dX0_init_26 (fun q_6 H G => ?_)
  have G : zS T A s.heap s [[(h, .inr (0, [.int 0, .int 0, .ref q_1, .int 0, .ref q_5, .null, .null, .null, .null, .null]))], w_2, [zAr T 0 q_5 7 (fun _ => 0)], [zAr T 0 q_6 7 (fun _ => 0)]] _ _ := G
  refine z_putF C G hnm clX0 0 rfl 5 (by decide) m_fl_RX0_22 rfl rfl rfl rfl (Nat.le_of_ble_eq_true rfl) dX0_init_28 (fun H locs G => ?_)
  have G : zS T A s.heap s [[(h, .inr (0, [.int 0, .int 0, .ref q_1, .int 0, .ref q_5, .ref q_6, .null, .null, .null, .null]))], w_2, [zAr T 0 q_5 7 (fun _ => 0)], [zAr T 0 q_6 7 (fun _ => 0)]] _ _ := G
  refine lv_aload_n hx hb dX0_init_31 rfl (lv_at hl 0 rfl) ?_
  refine lv_bipush (v := 7) hx hb dX0_init_32 (by decide) ?_
  refine z_newa C G 0 (ty := .int) (N' := 7) (a0 := (7, .inl (fun _ => 0))) rfl z_uint m_ar_int rfl (fun _ => rfl) (by decide) (by decide) (Nat.le_of_ble_eq_true rfl) (Nat.le_of_ble_eq_true rfl) (Nat.le_of_ble_eq_true rfl) dX0_init_34 (fun q_7 H G => ?_)
  have G : zS T A s.heap s [[(h, .inr (0, [.int 0, .int 0, .ref q_1, .int 0, .ref q_5, .ref q_6, .null, .null, .null, .null]))], w_2, [zAr T 0 q_5 7 (fun _ => 0)], [zAr T 0 q_6 7 (fun _ => 0)], [zAr T 0 q_7 7 (fun _ => 0)]] _ _ := G
  refine z_putF C G hnm clX0 0 rfl 6 (by decide) m_fl_RX0_25 rfl rfl rfl rfl (Nat.le_of_ble_eq_true rfl) dX0_init_36 (fun H locs G => ?_)
  have G : zS T A s.heap s [[(h, .inr (0, [.int 0, .int 0, .ref q_1, .int 0, .ref q_5, .ref q_6, .ref q_7, .null, .null, .null]))], w_2, [zAr T 0 q_5 7 (fun _ => 0)], [zAr T 0 q_6 7 (fun _ => 0)], [zAr T 0 q_7 7 (fun _ => 0)]] _ _ := G
  refine lv_aload_n hx hb dX0_init_39 rfl (lv_at hl 0 rfl) ?_
  refine lv_iconst (v := 0) hx hb dX0_init_40 (by decide) ?_
  refine z_newa C G 0 (ty := .int) (N' := 0) (a0 := (0, .inl (fun _ => 0))) rfl z_uint m_ar_int rfl (fun _ => rfl) (by decide) (by decide) (Nat.le_of_ble_eq_true rfl) (Nat.le_of_ble_eq_true rfl) (Nat.le_of_ble_eq_true rfl) dX0_init_41 (fun q_8 H G => ?_)
  have G : zS T A s.heap s [[(h, .inr (0, [.int 0, .int 0, .ref q_1, .int 0, .ref q_5, .ref q_6, .ref q_7, .null, .null, .null]))], w_2, [zAr T 0 q_5 7 (fun _ => 0)], [zAr T 0 q_6 7 (fun _ => 0)], [zAr T 0 q_7 7 (fun _ => 0)], [zAr T 0 q_8 0 (fun _ => 0)]] _ _ := G
  refine z_put C G clX0 0 rfl 7 (by decide) m_fl_RX0_28 rfl rfl rfl (Nat.le_of_ble_eq_true rfl) dX0_init_43 (fun H locs G => ?_)
  have G : zS T A s.heap s [[(h, .inr (0, [.int 0, .int 0, .ref q_1, .int 0, .ref q_5, .ref q_6, .ref q_7, .ref q_8, .null, .null]))], w_2, [zAr T 0 q_5 7 (fun _ => 0)], [zAr T 0 q_6 7 (fun _ => 0)], [zAr T 0 q_7 7 (fun _ => 0)], [zAr T 0 q_8 0 (fun _ => 0)]] _ _ := G
  refine lv_aload_n hx hb dX0_init_46 rfl (lv_at hl 0 rfl) ?_
  refine lv_iconst (v := 0) hx hb dX0_init_47 (by decide) ?_
  refine z_newa C G 0 (ty := .int) (N' := 0) (a0 := (0, .inl (fun _ => 0))) rfl z_uint m_ar_int rfl (fun _ => rfl) (by decide) (by decide) (Nat.le_of_ble_eq_true rfl) (Nat.le_of_ble_eq_true rfl) (Nat.le_of_ble_eq_true rfl) dX0_init_48 (fun q_9 H G => ?_)
  have G : zS T A s.heap s [[(h, .inr (0, [.int 0, .int 0, .ref q_1, .int 0, .ref q_5, .ref q_6, .ref q_7, .ref q_8, .null, .null]))], w_2, [zAr T 0 q_5 7 (fun _ => 0)], [zAr T 0 q_6 7 (fun _ => 0)], [zAr T 0 q_7 7 (fun _ => 0)], [zAr T 0 q_8 0 (fun _ => 0)], [zAr T 0 q_9 0 (fun _ => 0)]] _ _ := G
  refine z_put C G clX0 0 rfl 8 (by decide) m_fl_RX0_31 rfl rfl rfl (Nat.le_of_ble_eq_true rfl) dX0_init_50 (fun H locs G => ?_)
  have G : zS T A s.heap s [[(h, .inr (0, [.int 0, .int 0, .ref q_1, .int 0, .ref q_5, .ref q_6, .ref q_7, .ref q_8, .ref q_9, .null]))], w_2, [zAr T 0 q_5 7 (fun _ => 0)], [zAr T 0 q_6 7 (fun _ => 0)], [zAr T 0 q_7 7 (fun _ => 0)], [zAr T 0 q_8 0 (fun _ => 0)], [zAr T 0 q_9 0 (fun _ => 0)]] _ _ := G
  refine lv_aload_n hx hb dX0_init_53 rfl (lv_at hl 0 rfl) ?_
  refine lv_iconst (v := 0) hx hb dX0_init_54 (by decide) ?_
  refine z_newa C G 0 (ty := .int) (N' := 0) (a0 := (0, .inl (fun _ => 0))) rfl z_uint m_ar_int rfl (fun _ => rfl) (by decide) (by decide) (Nat.le_of_ble_eq_true rfl) (Nat.le_of_ble_eq_true rfl) (Nat.le_of_ble_eq_true rfl) dX0_init_55 (fun q_10 H G => ?_)
  have G : zS T A s.heap s [[(h, .inr (0, [.int 0, .int 0, .ref q_1, .int 0, .ref q_5, .ref q_6, .ref q_7, .ref q_8, .ref q_9, .null]))], w_2, [zAr T 0 q_5 7 (fun _ => 0)], [zAr T 0 q_6 7 (fun _ => 0)], [zAr T 0 q_7 7 (fun _ => 0)], [zAr T 0 q_8 0 (fun _ => 0)], [zAr T 0 q_9 0 (fun _ => 0)], [zAr T 0 q_10 0 (fun _ => 0)]] _ _ := G
  refine z_put C G clX0 0 rfl 9 (by decide) m_fl_RX0_34 rfl rfl rfl (Nat.le_of_ble_eq_true rfl) dX0_init_57 (fun H locs G => ?_)
  have G : zS T A s.heap s [[zO0 h 0 0 q_1 0 q_5 q_6 q_7 q_8 q_9 q_10], w_2, [zAr T 0 q_5 7 (fun _ => 0)], [zAr T 0 q_6 7 (fun _ => 0)], [zAr T 0 q_7 7 (fun _ => 0)], [zAr T 0 q_8 0 (fun _ => 0)], [zAr T 0 q_9 0 (fun _ => 0)], [zAr T 0 q_10 0 (fun _ => 0)]] _ _ := G
  have G := G.sub (bs' := [[zO0 h 0 0 q_1 0 q_5 q_6 q_7 q_8 q_9 q_10], [zAr T 0 q_5 7 (fun _ => 0)], [zAr T 0 q_6 7 (fun _ => 0)], [zAr T 0 q_7 7 (fun _ => 0)], [zAr T 0 q_8 0 (fun _ => 0)], [zAr T 0 q_9 0 (fun _ => 0)], [zAr T 0 q_10 0 (fun _ => 0)], w_2]) [0, 2, 3, 4, 5, 6, 7, 1] rfl
  have hw_11 : bWays T h q_1 0 0 0 (fun _ => 0) (fun _ => 0) (fun _ => 0) (fun _ => 0) (fun _ => 0) (fun _ => 0) 0 [zO0 h 0 0 q_1 0 q_5 q_6 q_7 q_8 q_9 q_10, zAr T 0 q_5 7 (fun _ => 0), zAr T 0 q_6 7 (fun _ => 0), zAr T 0 q_7 7 (fun _ => 0), zAr T 0 q_8 0 (fun _ => 0), zAr T 0 q_9 0 (fun _ => 0), zAr T 0 q_10 0 (fun _ => 0)] := ⟨q_5, q_6, q_7, q_8, q_9, q_10, rfl⟩
  have G : zS T A s.heap s [[zO0 h 0 0 q_1 0 q_5 q_6 q_7 q_8 q_9 q_10, zAr T 0 q_5 7 (fun _ => 0), zAr T 0 q_6 7 (fun _ => 0), zAr T 0 q_7 7 (fun _ => 0), zAr T 0 q_8 0 (fun _ => 0), zAr T 0 q_9 0 (fun _ => 0), zAr T 0 q_10 0 (fun _ => 0)], w_2] _ _ := G.re rfl
  have G := G.sub (bs' := [[zO0 h 0 0 q_1 0 q_5 q_6 q_7 q_8 q_9 q_10, zAr T 0 q_5 7 (fun _ => 0), zAr T 0 q_6 7 (fun _ => 0), zAr T 0 q_7 7 (fun _ => 0), zAr T 0 q_8 0 (fun _ => 0), zAr T 0 q_9 0 (fun _ => 0), zAr T 0 q_10 0 (fun _ => 0)]]) [0] rfl
  exact z_back hQ9 (z_vret C hr hlocks G (Nat.le_of_ble_eq_true rfl) (Nat.le_of_ble_eq_true rfl) dX0_init_60 ⟨([zO0 h 0 0 q_1 0 q_5 q_6 q_7 q_8 q_9 q_10, zAr T 0 q_5 7 (fun _ => 0), zAr T 0 q_6 7 (fun _ => 0), zAr T 0 q_7 7 (fun _ => 0), zAr T 0 q_8 0 (fun _ => 0), zAr T 0 q_9 0 (fun _ => 0), zAr T 0 q_10 0 (fun _ => 0)]), q_1, rfl, hw_11⟩)
set_option maxHeartbeats 4000000 in
set_option maxRecDepth 100000 in
theorem c_Fit_init (l : Launch) (T : zTy) (h : Nat) : zMv l T yX3_init cX3_init 1 1 2 7 [.ref h] [[(h, .inr (3, [.int 0, .int 0, .int 0, .int 0, .int 0, .int 0, .null, .null]))]] (fun bs => ∃ (w : va_W), bs = [w] ∧ bFit T h 0 (-1) (-1) 0 0 0 (fun _ => 0) 0 (fun _ => 0) w) := by
  refine zMv_of (own := RX3) (by decide) rfl (Nat.le_of_ble_eq_true rfl) ?_
  intro p e s m args below meth c A ls C hr hlocks hnm hAe G hl
  refine zHide (fun Q9 hQ9 => ?_)
  have hx := C.1
  have hb := C.2.1
  have hl : lv_has ls 1 [(0, .ref h)] := hl
  refine lv_aload_n hx hb dX3_init_0 rfl (lv_at hl 0 rfl) ?_
  refine W.objInit hx hb C.2.2.2.1 (C.2.2.2.2 _ m_ml_RX3_5) (C.2.2.2.2 _ m_im_obj) (C.2.2.2.2 _ m_co_obj) rfl (by rw [C.2.2.1]; exact hl.1) rfl dX3_init_1 (Nat.le_of_ble_eq_true rfl) (Nat.le_of_ble_eq_true rfl) ?_
  refine W.eq (g2 := F0 m 4 ls []) rfl ?_
  refine lv_aload_n hx hb dX3_init_4 rfl (lv_at hl 0 rfl) ?_
  refine lv_iconst (v := (-1)) hx hb dX3_init_5 (by decide) ?_
  refine z_put C G clX3 0 rfl 1 (by decide) m_fl_RX3_11 rfl rfl rfl (Nat.le_of_ble_eq_true rfl) dX3_init_6 (fun H locs G => ?_)
  have G : zS T A s.heap s [[(h, .inr (3, [.int 0, .int (-1), .int 0, .int 0, .int 0, .int 0, .null, .null]))]] _ _ := G
  refine lv_aload_n hx hb dX3_init_9 rfl (lv_at hl 0 rfl) ?_
  refine lv_iconst (v := (-1)) hx hb dX3_init_10 (by decide) ?_
  refine z_put C G clX3 0 rfl 2 (by decide) m_fl_RX3_15 rfl rfl rfl (Nat.le_of_ble_eq_true rfl) dX3_init_11 (fun H locs G => ?_)
  have G : zS T A s.heap s [[(h, .inr (3, [.int 0, .int (-1), .int (-1), .int 0, .int 0, .int 0, .null, .null]))]] _ _ := G
  refine lv_aload_n hx hb dX3_init_14 rfl (lv_at hl 0 rfl) ?_
  refine lv_iconst (v := 0) hx hb dX3_init_15 (by decide) ?_
  refine z_newa C G 0 (ty := .int) (N' := 0) (a0 := (0, .inl (fun _ => 0))) rfl z_uint m_ar_int rfl (fun _ => rfl) (by decide) (by decide) (Nat.le_of_ble_eq_true rfl) (Nat.le_of_ble_eq_true rfl) (Nat.le_of_ble_eq_true rfl) dX3_init_16 (fun q_1 H G => ?_)
  have G : zS T A s.heap s [[(h, .inr (3, [.int 0, .int (-1), .int (-1), .int 0, .int 0, .int 0, .null, .null]))], [zAr T 0 q_1 0 (fun _ => 0)]] _ _ := G
  refine z_put C G clX3 0 rfl 6 (by decide) m_fl_RX3_18 rfl rfl rfl (Nat.le_of_ble_eq_true rfl) dX3_init_18 (fun H locs G => ?_)
  have G : zS T A s.heap s [[(h, .inr (3, [.int 0, .int (-1), .int (-1), .int 0, .int 0, .int 0, .ref q_1, .null]))], [zAr T 0 q_1 0 (fun _ => 0)]] _ _ := G
  refine lv_aload_n hx hb dX3_init_21 rfl (lv_at hl 0 rfl) ?_
  refine lv_bipush (v := 7) hx hb dX3_init_22 (by decide) ?_
  refine z_newa C G 0 (ty := .int) (N' := 7) (a0 := (7, .inl (fun _ => 0))) rfl z_uint m_ar_int rfl (fun _ => rfl) (by decide) (by decide) (Nat.le_of_ble_eq_true rfl) (Nat.le_of_ble_eq_true rfl) (Nat.le_of_ble_eq_true rfl) dX3_init_24 (fun q_2 H G => ?_)
  have G : zS T A s.heap s [[(h, .inr (3, [.int 0, .int (-1), .int (-1), .int 0, .int 0, .int 0, .ref q_1, .null]))], [zAr T 0 q_1 0 (fun _ => 0)], [zAr T 0 q_2 7 (fun _ => 0)]] _ _ := G
  refine z_putF C G hnm clX3 0 rfl 7 (by decide) m_fl_RX3_22 rfl rfl rfl rfl (Nat.le_of_ble_eq_true rfl) dX3_init_26 (fun H locs G => ?_)
  have G : zS T A s.heap s [[zO3 h 0 (-1) (-1) 0 0 0 q_1 q_2], [zAr T 0 q_1 0 (fun _ => 0)], [zAr T 0 q_2 7 (fun _ => 0)]] _ _ := G
  have hw_3 : bFit T h 0 (-1) (-1) 0 0 0 (fun _ => 0) 0 (fun _ => 0) [zO3 h 0 (-1) (-1) 0 0 0 q_1 q_2, zAr T 0 q_1 0 (fun _ => 0), zAr T 0 q_2 7 (fun _ => 0)] := ⟨q_1, q_2, rfl⟩
  have G : zS T A s.heap s [[zO3 h 0 (-1) (-1) 0 0 0 q_1 q_2, zAr T 0 q_1 0 (fun _ => 0), zAr T 0 q_2 7 (fun _ => 0)]] _ _ := G.re rfl
  exact z_back hQ9 (z_vret C hr hlocks G (Nat.le_of_ble_eq_true rfl) (Nat.le_of_ble_eq_true rfl) dX3_init_29 ⟨([zO3 h 0 (-1) (-1) 0 0 0 q_1 q_2, zAr T 0 q_1 0 (fun _ => 0), zAr T 0 q_2 7 (fun _ => 0)]), rfl, hw_3⟩)
set_option maxHeartbeats 4000000 in
set_option maxRecDepth 100000 in
theorem c_Reader_init (l : Launch) (T : zTy) (rd : Nat) : zMv l T yX7_init cX7_init 1 3 13 198 [.ref rd] [[(rd, .inr (7, [.null, .null, .null, .int 0, .int 0, .null, .int 0, .int 0, .int 0, .int 0, .int 0, .int 0, .int 0]))]] (fun bs => ∃ (rl : Nat) (rdd : Nat) (rg : Nat) (tp : Nat) (w1 : va_W) (w2 : va_W) (w3 : va_W), bs = [[zO7 rd rl rdd rg 0 0 tp 0 0 0 0 0 0 0], w1, w2, w3] ∧ bLand T rl 0 0 (fun _ => 0) (fun _ => 0) (fun _ => 0) (fun _ => 0) w1 ∧ bDay T rdd 0 (fun _ => 0) (fun _ => 0) (fun _ => 0) w2 ∧ bLog T rg 0 (fun _ => 0) (fun _ => 0) w3) := by
  refine zMv_of (own := RX7) (by decide) rfl (Nat.le_of_ble_eq_true rfl) ?_
  intro p e s m args below meth c A ls C hr hlocks hnm hAe G hl
  refine zHide (fun Q9 hQ9 => ?_)
  have hx := C.1
  have hb := C.2.1
  have hl : lv_has ls 1 [(0, .ref rd)] := hl
  refine lv_aload_n hx hb dX7_init_0 rfl (lv_at hl 0 rfl) ?_
  refine W.objInit hx hb C.2.2.2.1 (C.2.2.2.2 _ m_ml_RX7_3) (C.2.2.2.2 _ m_im_obj) (C.2.2.2.2 _ m_co_obj) rfl (by rw [C.2.2.1]; exact hl.1) rfl dX7_init_1 (Nat.le_of_ble_eq_true rfl) (Nat.le_of_ble_eq_true rfl) ?_
  refine W.eq (g2 := F0 m 4 ls []) rfl ?_
  refine lv_aload_n hx hb dX7_init_4 rfl (lv_at hl 0 rfl) ?_
  refine z_new C G clX4 (fs := [.int 0, .int 0, .null, .null, .null, .null]) m_cl_RX7_9 m_in_RX4 m_ii_RX4 (fun j hj => by match j, hj with | 0, _ => rfl | 1, _ => rfl | 2, _ => rfl | 3, _ => rfl | 4, _ => rfl | 5, _ => rfl | j + 6, h => exact absurd h (by omega)) (Nat.le_of_ble_eq_true rfl) (Nat.le_of_ble_eq_true rfl) dX7_init_5 (fun q_1 H G => ?_)
  have G : zS T A s.heap s [[(rd, .inr (7, [.null, .null, .null, .int 0, .int 0, .null, .int 0, .int 0, .int 0, .int 0, .int 0, .int 0, .int 0]))], [(q_1, .inr (4, [.int 0, .int 0, .null, .null, .null, .null]))]] _ _ := G
  refine lv_dup hx hb dX7_init_8 rfl ?_
  refine z_Jv (bc := [[(q_1, .inr (4, [.int 0, .int 0, .null, .null, .null, .null]))]]) (br := [[(rd, .inr (7, [.null, .null, .null, .int 0, .int 0, .null, .int 0, .int 0, .int 0, .int 0, .int 0, .int 0, .int 0]))]]) (As := []) (rest := [.ref q_1, .ref rd]) C G (c_Land_init l T q_1) (kJ_RX7_11 G.2.2.2.2.2.1 C.2.2.2.2 (Nat.le_of_ble_eq_true rfl) (Nat.le_of_ble_eq_true rfl)) [1] [1] rfl rfl rfl rfl hl.1 dX7_init_9 (Nat.le_of_ble_eq_true rfl) (Nat.le_of_ble_eq_true rfl) (fun b1 H locs hw G => ?_)
  refine zEx1 hw ?_
  intro w_2
  refine zCu2 ?_
  intro hbs9 h_3
  clear hw
  subst hbs9
  have G : zS T A s.heap s [[(rd, .inr (7, [.null, .null, .null, .int 0, .int 0, .null, .int 0, .int 0, .int 0, .int 0, .int 0, .int 0, .int 0]))], w_2] _ _ := G
  refine z_putF C G hnm clX7 0 rfl 0 (by decide) m_fl_RX7_12 rfl rfl rfl rfl (Nat.le_of_ble_eq_true rfl) dX7_init_12 (fun H locs G => ?_)
  have G : zS T A s.heap s [[(rd, .inr (7, [.ref q_1, .null, .null, .int 0, .int 0, .null, .int 0, .int 0, .int 0, .int 0, .int 0, .int 0, .int 0]))], w_2] _ _ := G
  refine lv_aload_n hx hb dX7_init_15 rfl (lv_at hl 0 rfl) ?_
  refine z_new C G clX2 (fs := [.int 0, .null, .null, .null]) m_cl_RX7_18 m_in_RX2 m_ii_RX2 (fun j hj => by match j, hj with | 0, _ => rfl | 1, _ => rfl | 2, _ => rfl | 3, _ => rfl | j + 4, h => exact absurd h (by omega)) (Nat.le_of_ble_eq_true rfl) (Nat.le_of_ble_eq_true rfl) dX7_init_16 (fun q_5 H G => ?_)
  have G : zS T A s.heap s [[(rd, .inr (7, [.ref q_1, .null, .null, .int 0, .int 0, .null, .int 0, .int 0, .int 0, .int 0, .int 0, .int 0, .int 0]))], w_2, [(q_5, .inr (2, [.int 0, .null, .null, .null]))]] _ _ := G
  refine lv_dup hx hb dX7_init_19 rfl ?_
  refine z_Jv (bc := [[(q_5, .inr (2, [.int 0, .null, .null, .null]))]]) (br := [[(rd, .inr (7, [.ref q_1, .null, .null, .int 0, .int 0, .null, .int 0, .int 0, .int 0, .int 0, .int 0, .int 0, .int 0]))], w_2]) (As := []) (rest := [.ref q_5, .ref rd]) C G (c_Day_init l T q_5) (kJ_RX7_20 G.2.2.2.2.2.1 C.2.2.2.2 (Nat.le_of_ble_eq_true rfl) (Nat.le_of_ble_eq_true rfl)) [2] [2] rfl rfl rfl rfl hl.1 dX7_init_20 (Nat.le_of_ble_eq_true rfl) (Nat.le_of_ble_eq_true rfl) (fun b1 H locs hw G => ?_)
  refine zEx1 hw ?_
  intro w_6
  refine zCu2 ?_
  intro hbs9 h_7
  clear hw
  subst hbs9
  have G : zS T A s.heap s [[(rd, .inr (7, [.ref q_1, .null, .null, .int 0, .int 0, .null, .int 0, .int 0, .int 0, .int 0, .int 0, .int 0, .int 0]))], w_2, w_6] _ _ := G
  refine z_putF C G hnm clX7 0 rfl 1 (by decide) m_fl_RX7_21 rfl rfl rfl rfl (Nat.le_of_ble_eq_true rfl) dX7_init_23 (fun H locs G => ?_)
  have G : zS T A s.heap s [[(rd, .inr (7, [.ref q_1, .ref q_5, .null, .int 0, .int 0, .null, .int 0, .int 0, .int 0, .int 0, .int 0, .int 0, .int 0]))], w_2, w_6] _ _ := G
  refine lv_aload_n hx hb dX7_init_26 rfl (lv_at hl 0 rfl) ?_
  refine z_new C G clX5 (fs := [.int 0, .null, .null]) m_cl_RX7_25 m_in_RX5 m_ii_RX5 (fun j hj => by match j, hj with | 0, _ => rfl | 1, _ => rfl | 2, _ => rfl | j + 3, h => exact absurd h (by omega)) (Nat.le_of_ble_eq_true rfl) (Nat.le_of_ble_eq_true rfl) dX7_init_27 (fun q_9 H G => ?_)
  have G : zS T A s.heap s [[(rd, .inr (7, [.ref q_1, .ref q_5, .null, .int 0, .int 0, .null, .int 0, .int 0, .int 0, .int 0, .int 0, .int 0, .int 0]))], w_2, w_6, [(q_9, .inr (5, [.int 0, .null, .null]))]] _ _ := G
  refine lv_dup hx hb dX7_init_30 rfl ?_
  refine z_Jv (bc := [[(q_9, .inr (5, [.int 0, .null, .null]))]]) (br := [[(rd, .inr (7, [.ref q_1, .ref q_5, .null, .int 0, .int 0, .null, .int 0, .int 0, .int 0, .int 0, .int 0, .int 0, .int 0]))], w_2, w_6]) (As := []) (rest := [.ref q_9, .ref rd]) C G (c_Log_init l T q_9) (kJ_RX7_27 G.2.2.2.2.2.1 C.2.2.2.2 (Nat.le_of_ble_eq_true rfl) (Nat.le_of_ble_eq_true rfl)) [3] [3] rfl rfl rfl rfl hl.1 dX7_init_31 (Nat.le_of_ble_eq_true rfl) (Nat.le_of_ble_eq_true rfl) (fun b1 H locs hw G => ?_)
  refine zEx1 hw ?_
  intro w_10
  refine zCu2 ?_
  intro hbs9 h_11
  clear hw
  subst hbs9
  have G : zS T A s.heap s [[(rd, .inr (7, [.ref q_1, .ref q_5, .null, .int 0, .int 0, .null, .int 0, .int 0, .int 0, .int 0, .int 0, .int 0, .int 0]))], w_2, w_6, w_10] _ _ := G
  refine z_putF C G hnm clX7 0 rfl 2 (by decide) m_fl_RX7_28 rfl rfl rfl rfl (Nat.le_of_ble_eq_true rfl) dX7_init_34 (fun H locs G => ?_)
  have G : zS T A s.heap s [[(rd, .inr (7, [.ref q_1, .ref q_5, .ref q_9, .int 0, .int 0, .null, .int 0, .int 0, .int 0, .int 0, .int 0, .int 0, .int 0]))], w_2, w_6, w_10] _ _ := G
  refine lv_aload_n hx hb dX7_init_37 rfl (lv_at hl 0 rfl) ?_
  refine lv_iconst (v := 0) hx hb dX7_init_38 (by decide) ?_
  refine z_newa C G 1 (ty := .byte) (N' := 0) (a0 := (0, .inl (fun _ => 0))) rfl z_ubyte m_ar_byte rfl (fun _ => rfl) (by decide) (by decide) (Nat.le_of_ble_eq_true rfl) (Nat.le_of_ble_eq_true rfl) (Nat.le_of_ble_eq_true rfl) dX7_init_39 (fun q_13 H G => ?_)
  have G : zS T A s.heap s [[(rd, .inr (7, [.ref q_1, .ref q_5, .ref q_9, .int 0, .int 0, .null, .int 0, .int 0, .int 0, .int 0, .int 0, .int 0, .int 0]))], w_2, w_6, w_10, [zAr T 1 q_13 0 (fun _ => 0)]] _ _ := G
  refine z_put C G clX7 0 rfl 5 (by decide) m_fl_RX7_32 rfl rfl rfl (Nat.le_of_ble_eq_true rfl) dX7_init_41 (fun H locs G => ?_)
  have G : zS T A s.heap s [[zO7 rd q_1 q_5 q_9 0 0 q_13 0 0 0 0 0 0 0], w_2, w_6, w_10, [zAr T 1 q_13 0 (fun _ => 0)]] _ _ := G
  have G := G.sub (bs' := [[zO7 rd q_1 q_5 q_9 0 0 q_13 0 0 0 0 0 0 0], w_2, w_6, w_10]) [0, 1, 2, 3] rfl
  exact z_back hQ9 (z_vret C hr hlocks G (Nat.le_of_ble_eq_true rfl) (Nat.le_of_ble_eq_true rfl) dX7_init_44 ⟨q_1, q_5, q_9, q_13, w_2, w_6, w_10, rfl, h_3, h_7, h_11⟩)
theorem m_fl_RX4_24 : Cond.fieldLink RX4 24 (TX4 0).1 (TX4 0).2.1 (TX4 0).2.2.1 ∈ zT := zmem1 zsub_1 41 rfl rfl
theorem m_co_X4_has : Cond.code yX4_has cX4_has 2 (some .boolean) ∈ zT := zmem1 zsub_3 133 rfl rfl
theorem m_ml_RX4_31 : Cond.methodLink RX4 31 yX4_has ∈ zT := zmem1 zsub_3 130 rfl rfl
theorem m_im_X4_has : Cond.instanceMethod yX4_has ∈ zT := zmem1 zsub_3 131 rfl rfl
theorem m_se_X4_has : Cond.selects RX4 yX4_has yX4_has ∈ zT := zmem1 zsub_3 132 rfl rfl
theorem m_fl_RX4_28 : Cond.fieldLink RX4 28 (TX4 1).1 (TX4 1).2.1 (TX4 1).2.2.1 ∈ zT := zmem1 zsub_1 49 rfl rfl
theorem m_co_X4_hasRoad : Cond.code yX4_hasRoad cX4_hasRoad 3 (some .boolean) ∈ zT := zmem1 zsub_3 208 rfl rfl
theorem m_ml_RX4_35 : Cond.methodLink RX4 35 yX4_hasRoad ∈ zT := zmem1 zsub_3 205 rfl rfl
theorem m_im_X4_hasRoad : Cond.instanceMethod yX4_hasRoad ∈ zT := zmem1 zsub_3 206 rfl rfl
theorem m_se_X4_hasRoad : Cond.selects RX4 yX4_hasRoad yX4_hasRoad ∈ zT := zmem1 zsub_3 207 rfl rfl
theorem m_co_X4_target : Cond.code yX4_target cX4_target 3 (some .int) ∈ zT := zmem1 zsub_3 204 rfl rfl
theorem m_ml_RX4_39 : Cond.methodLink RX4 39 yX4_target ∈ zT := zmem1 zsub_3 201 rfl rfl
theorem m_im_X4_target : Cond.instanceMethod yX4_target ∈ zT := zmem1 zsub_3 202 rfl rfl
theorem m_se_X4_target : Cond.selects RX4 yX4_target yX4_target ∈ zT := zmem1 zsub_3 203 rfl rfl
theorem kV_RX4_31 {R : Room} {s : State} {args : Array Value} {d mc ms : Nat} (hts : ∀ w ∈ zT, w.before args s = true) (h1 : d + 1 ≤ R.frames) (h2 : 8 + (2 + 11) + 40 * d ≤ R.locals) : CallW R s args RX4 RX4 31 yX4_has cX4_has 2 (some .boolean) (zW yX4_has cX4_has 2 (some .boolean)) (zR d mc ms) mc ms 1 := z_cwV hts m_co_X4_has m_ml_RX4_31 m_im_X4_has m_se_X4_has m_ii_RX4 (by decide +kernel) h1 h2
theorem kV_RX4_35 {R : Room} {s : State} {args : Array Value} {d mc ms : Nat} (hts : ∀ w ∈ zT, w.before args s = true) (h1 : d + 1 ≤ R.frames) (h2 : 8 + (3 + 11) + 40 * d ≤ R.locals) : CallW R s args RX4 RX4 35 yX4_hasRoad cX4_hasRoad 3 (some .boolean) (zW yX4_hasRoad cX4_hasRoad 3 (some .boolean)) (zR d mc ms) mc ms 2 := z_cwV hts m_co_X4_hasRoad m_ml_RX4_35 m_im_X4_hasRoad m_se_X4_hasRoad m_ii_RX4 (by decide +kernel) h1 h2
theorem kV_RX4_39 {R : Room} {s : State} {args : Array Value} {d mc ms : Nat} (hts : ∀ w ∈ zT, w.before args s = true) (h1 : d + 1 ≤ R.frames) (h2 : 8 + (3 + 11) + 40 * d ≤ R.locals) : CallW R s args RX4 RX4 39 yX4_target cX4_target 3 (some .int) (zW yX4_target cX4_target 3 (some .int)) (zR d mc ms) mc ms 2 := z_cwV hts m_co_X4_target m_ml_RX4_39 m_im_X4_target m_se_X4_target m_ii_RX4 (by decide +kernel) h1 h2
theorem dX4_has_0 : decode cX4_has 0 = .ok (.iload_n 1, 1) := zo_27 (by decide +kernel)
theorem dX4_has_1 : decode cX4_has 1 = .ok (.ifCond .lt 21, 3) := zo_155 (by decide +kernel)
theorem dX4_has_4 : decode cX4_has 4 = .ok (.iload_n 1, 1) := zo_27 (by decide +kernel)
theorem dX4_has_5 : decode cX4_has 5 = .ok (.aload_n 0, 1) := zo_42 (by decide +kernel)
theorem dX4_has_6 : decode cX4_has 6 = .ok (.getfield 24, 3) := zo_180 (by decide +kernel)
theorem dX4_has_9 : decode cX4_has 9 = .ok (.if_icmp .ge 13, 3) := zo_162 (by decide +kernel)
theorem dX4_has_12 : decode cX4_has 12 = .ok (.iload_n 1, 1) := zo_27 (by decide +kernel)
theorem dX4_has_13 : decode cX4_has 13 = .ok (.bipush 7, 2) := zo_16 (by decide +kernel)
theorem dX4_has_15 : decode cX4_has 15 = .ok (.if_icmp .ge 7, 3) := zo_162 (by decide +kernel)
theorem dX4_has_18 : decode cX4_has 18 = .ok (.iconst 1, 1) := zo_4 (by decide +kernel)
theorem dX4_has_19 : decode cX4_has 19 = .ok (.goto 4, 3) := zo_167 (by decide +kernel)
theorem dX4_has_22 : decode cX4_has 22 = .ok (.iconst 0, 1) := zo_3 (by decide +kernel)
theorem dX4_has_23 : decode cX4_has 23 = .ok (.ireturn, 1) := zo_172 (by decide +kernel)
theorem dX4_isInn_0 : decode cX4_isInn 0 = .ok (.aload_n 0, 1) := zo_42 (by decide +kernel)
theorem dX4_isInn_1 : decode cX4_isInn 1 = .ok (.iload_n 1, 1) := zo_27 (by decide +kernel)
theorem dX4_isInn_2 : decode cX4_isInn 2 = .ok (.invokevirtual 31, 3) := zo_182 (by decide +kernel)
theorem dX4_isInn_5 : decode cX4_isInn 5 = .ok (.ifCond .eq 18, 3) := zo_153 (by decide +kernel)
theorem dX4_isInn_8 : decode cX4_isInn 8 = .ok (.aload_n 0, 1) := zo_42 (by decide +kernel)
theorem dX4_isInn_9 : decode cX4_isInn 9 = .ok (.getfield 28, 3) := zo_180 (by decide +kernel)
theorem dX4_isInn_12 : decode cX4_isInn 12 = .ok (.iload_n 1, 1) := zo_27 (by decide +kernel)
theorem dX4_isInn_13 : decode cX4_isInn 13 = .ok (.ishr, 1) := zo_122 (by decide +kernel)
theorem dX4_isInn_14 : decode cX4_isInn 14 = .ok (.iconst 1, 1) := zo_4 (by decide +kernel)
theorem dX4_isInn_15 : decode cX4_isInn 15 = .ok (.iand, 1) := zo_126 (by decide +kernel)
theorem dX4_isInn_16 : decode cX4_isInn 16 = .ok (.ifCond .eq 7, 3) := zo_153 (by decide +kernel)
theorem dX4_isInn_19 : decode cX4_isInn 19 = .ok (.iconst 1, 1) := zo_4 (by decide +kernel)
theorem dX4_isInn_20 : decode cX4_isInn 20 = .ok (.goto 4, 3) := zo_167 (by decide +kernel)
theorem dX4_isInn_23 : decode cX4_isInn 23 = .ok (.iconst 0, 1) := zo_3 (by decide +kernel)
theorem dX4_isInn_24 : decode cX4_isInn 24 = .ok (.ireturn, 1) := zo_172 (by decide +kernel)
theorem dX4_hasRoad_0 : decode cX4_hasRoad 0 = .ok (.iload_n 1, 1) := zo_27 (by decide +kernel)
theorem dX4_hasRoad_1 : decode cX4_hasRoad 1 = .ok (.ifCond .lt 40, 3) := zo_155 (by decide +kernel)
theorem dX4_hasRoad_4 : decode cX4_hasRoad 4 = .ok (.iload_n 1, 1) := zo_27 (by decide +kernel)
theorem dX4_hasRoad_5 : decode cX4_hasRoad 5 = .ok (.aload_n 0, 1) := zo_42 (by decide +kernel)
theorem dX4_hasRoad_6 : decode cX4_hasRoad 6 = .ok (.getfield 24, 3) := zo_180 (by decide +kernel)
theorem dX4_hasRoad_9 : decode cX4_hasRoad 9 = .ok (.if_icmp .ge 32, 3) := zo_162 (by decide +kernel)
theorem dX4_hasRoad_12 : decode cX4_hasRoad 12 = .ok (.iload_n 1, 1) := zo_27 (by decide +kernel)
theorem dX4_hasRoad_13 : decode cX4_hasRoad 13 = .ok (.bipush 7, 2) := zo_16 (by decide +kernel)
theorem dX4_hasRoad_15 : decode cX4_hasRoad 15 = .ok (.if_icmp .ge 26, 3) := zo_162 (by decide +kernel)
theorem dX4_hasRoad_18 : decode cX4_hasRoad 18 = .ok (.iload_n 2, 1) := zo_28 (by decide +kernel)
theorem dX4_hasRoad_19 : decode cX4_hasRoad 19 = .ok (.ifCond .lt 22, 3) := zo_155 (by decide +kernel)
theorem dX4_hasRoad_22 : decode cX4_hasRoad 22 = .ok (.iload_n 2, 1) := zo_28 (by decide +kernel)
theorem dX4_hasRoad_23 : decode cX4_hasRoad 23 = .ok (.aload_n 0, 1) := zo_42 (by decide +kernel)
theorem dX4_hasRoad_24 : decode cX4_hasRoad 24 = .ok (.getfield 9, 3) := zo_180 (by decide +kernel)
theorem dX4_hasRoad_27 : decode cX4_hasRoad 27 = .ok (.iload_n 1, 1) := zo_27 (by decide +kernel)
theorem dX4_hasRoad_28 : decode cX4_hasRoad 28 = .ok (.iaload, 1) := zo_46 (by decide +kernel)
theorem dX4_hasRoad_29 : decode cX4_hasRoad 29 = .ok (.if_icmp .ge 12, 3) := zo_162 (by decide +kernel)
theorem dX4_hasRoad_32 : decode cX4_hasRoad 32 = .ok (.iload_n 2, 1) := zo_28 (by decide +kernel)
theorem dX4_hasRoad_33 : decode cX4_hasRoad 33 = .ok (.iconst 4, 1) := zo_7 (by decide +kernel)
theorem dX4_hasRoad_34 : decode cX4_hasRoad 34 = .ok (.if_icmp .ge 7, 3) := zo_162 (by decide +kernel)
theorem dX4_hasRoad_37 : decode cX4_hasRoad 37 = .ok (.iconst 1, 1) := zo_4 (by decide +kernel)
theorem dX4_hasRoad_38 : decode cX4_hasRoad 38 = .ok (.goto 4, 3) := zo_167 (by decide +kernel)
theorem dX4_hasRoad_41 : decode cX4_hasRoad 41 = .ok (.iconst 0, 1) := zo_3 (by decide +kernel)
theorem dX4_hasRoad_42 : decode cX4_hasRoad 42 = .ok (.ireturn, 1) := zo_172 (by decide +kernel)
theorem dX4_waysOut_0 : decode cX4_waysOut 0 = .ok (.iload_n 1, 1) := zo_27 (by decide +kernel)
theorem dX4_waysOut_1 : decode cX4_waysOut 1 = .ok (.ifCond .lt 37, 3) := zo_155 (by decide +kernel)
theorem dX4_waysOut_4 : decode cX4_waysOut 4 = .ok (.iload_n 1, 1) := zo_27 (by decide +kernel)
theorem dX4_waysOut_5 : decode cX4_waysOut 5 = .ok (.aload_n 0, 1) := zo_42 (by decide +kernel)
theorem dX4_waysOut_6 : decode cX4_waysOut 6 = .ok (.getfield 24, 3) := zo_180 (by decide +kernel)
theorem dX4_waysOut_9 : decode cX4_waysOut 9 = .ok (.if_icmp .ge 29, 3) := zo_162 (by decide +kernel)
theorem dX4_waysOut_12 : decode cX4_waysOut 12 = .ok (.iload_n 1, 1) := zo_27 (by decide +kernel)
theorem dX4_waysOut_13 : decode cX4_waysOut 13 = .ok (.bipush 7, 2) := zo_16 (by decide +kernel)
theorem dX4_waysOut_15 : decode cX4_waysOut 15 = .ok (.if_icmp .ge 23, 3) := zo_162 (by decide +kernel)
theorem dX4_waysOut_18 : decode cX4_waysOut 18 = .ok (.aload_n 0, 1) := zo_42 (by decide +kernel)
theorem dX4_waysOut_19 : decode cX4_waysOut 19 = .ok (.getfield 28, 3) := zo_180 (by decide +kernel)
theorem dX4_waysOut_22 : decode cX4_waysOut 22 = .ok (.iload_n 1, 1) := zo_27 (by decide +kernel)
theorem dX4_waysOut_23 : decode cX4_waysOut 23 = .ok (.ishr, 1) := zo_122 (by decide +kernel)
theorem dX4_waysOut_24 : decode cX4_waysOut 24 = .ok (.iconst 1, 1) := zo_4 (by decide +kernel)
theorem dX4_waysOut_25 : decode cX4_waysOut 25 = .ok (.iand, 1) := zo_126 (by decide +kernel)
theorem dX4_waysOut_26 : decode cX4_waysOut 26 = .ok (.ifCond .ne 12, 3) := zo_154 (by decide +kernel)
theorem dX4_waysOut_29 : decode cX4_waysOut 29 = .ok (.aload_n 0, 1) := zo_42 (by decide +kernel)
theorem dX4_waysOut_30 : decode cX4_waysOut 30 = .ok (.getfield 9, 3) := zo_180 (by decide +kernel)
theorem dX4_waysOut_33 : decode cX4_waysOut 33 = .ok (.iload_n 1, 1) := zo_27 (by decide +kernel)
theorem dX4_waysOut_34 : decode cX4_waysOut 34 = .ok (.iaload, 1) := zo_46 (by decide +kernel)
theorem dX4_waysOut_35 : decode cX4_waysOut 35 = .ok (.goto 4, 3) := zo_167 (by decide +kernel)
theorem dX4_waysOut_38 : decode cX4_waysOut 38 = .ok (.iconst 0, 1) := zo_3 (by decide +kernel)
theorem dX4_waysOut_39 : decode cX4_waysOut 39 = .ok (.ireturn, 1) := zo_172 (by decide +kernel)
theorem dX4_target_0 : decode cX4_target 0 = .ok (.aload_n 0, 1) := zo_42 (by decide +kernel)
theorem dX4_target_1 : decode cX4_target 1 = .ok (.iload_n 1, 1) := zo_27 (by decide +kernel)
theorem dX4_target_2 : decode cX4_target 2 = .ok (.iload_n 2, 1) := zo_28 (by decide +kernel)
theorem dX4_target_3 : decode cX4_target 3 = .ok (.invokevirtual 35, 3) := zo_182 (by decide +kernel)
theorem dX4_target_6 : decode cX4_target 6 = .ok (.ifCond .eq 16, 3) := zo_153 (by decide +kernel)
theorem dX4_target_9 : decode cX4_target 9 = .ok (.aload_n 0, 1) := zo_42 (by decide +kernel)
theorem dX4_target_10 : decode cX4_target 10 = .ok (.getfield 15, 3) := zo_180 (by decide +kernel)
theorem dX4_target_13 : decode cX4_target 13 = .ok (.iload_n 1, 1) := zo_27 (by decide +kernel)
theorem dX4_target_14 : decode cX4_target 14 = .ok (.iconst 4, 1) := zo_7 (by decide +kernel)
theorem dX4_target_15 : decode cX4_target 15 = .ok (.imul, 1) := zo_104 (by decide +kernel)
theorem dX4_target_16 : decode cX4_target 16 = .ok (.iload_n 2, 1) := zo_28 (by decide +kernel)
theorem dX4_target_17 : decode cX4_target 17 = .ok (.iadd, 1) := zo_96 (by decide +kernel)
theorem dX4_target_18 : decode cX4_target 18 = .ok (.iaload, 1) := zo_46 (by decide +kernel)
theorem dX4_target_19 : decode cX4_target 19 = .ok (.goto 4, 3) := zo_167 (by decide +kernel)
theorem dX4_target_22 : decode cX4_target 22 = .ok (.iconst (-1), 1) := zo_2 (by decide +kernel)
theorem dX4_target_23 : decode cX4_target 23 = .ok (.ireturn, 1) := zo_172 (by decide +kernel)
theorem dX4_addRoad_0 : decode cX4_addRoad 0 = .ok (.aload_n 0, 1) := zo_42 (by decide +kernel)
theorem dX4_addRoad_1 : decode cX4_addRoad 1 = .ok (.iload_n 1, 1) := zo_27 (by decide +kernel)
theorem dX4_addRoad_2 : decode cX4_addRoad 2 = .ok (.invokevirtual 31, 3) := zo_182 (by decide +kernel)
theorem dX4_addRoad_5 : decode cX4_addRoad 5 = .ok (.ifCond .eq 39, 3) := zo_153 (by decide +kernel)
theorem dX4_addRoad_8 : decode cX4_addRoad 8 = .ok (.aload_n 0, 1) := zo_42 (by decide +kernel)
theorem dX4_addRoad_9 : decode cX4_addRoad 9 = .ok (.getfield 9, 3) := zo_180 (by decide +kernel)
theorem dX4_addRoad_12 : decode cX4_addRoad 12 = .ok (.iload_n 1, 1) := zo_27 (by decide +kernel)
theorem dX4_addRoad_13 : decode cX4_addRoad 13 = .ok (.iaload, 1) := zo_46 (by decide +kernel)
theorem dX4_addRoad_14 : decode cX4_addRoad 14 = .ok (.iconst 4, 1) := zo_7 (by decide +kernel)
theorem dX4_addRoad_15 : decode cX4_addRoad 15 = .ok (.if_icmp .ge 29, 3) := zo_162 (by decide +kernel)
theorem dX4_addRoad_18 : decode cX4_addRoad 18 = .ok (.aload_n 0, 1) := zo_42 (by decide +kernel)
theorem dX4_addRoad_19 : decode cX4_addRoad 19 = .ok (.getfield 15, 3) := zo_180 (by decide +kernel)
theorem dX4_addRoad_22 : decode cX4_addRoad 22 = .ok (.iload_n 1, 1) := zo_27 (by decide +kernel)
theorem dX4_addRoad_23 : decode cX4_addRoad 23 = .ok (.iconst 4, 1) := zo_7 (by decide +kernel)
theorem dX4_addRoad_24 : decode cX4_addRoad 24 = .ok (.imul, 1) := zo_104 (by decide +kernel)
theorem dX4_addRoad_25 : decode cX4_addRoad 25 = .ok (.aload_n 0, 1) := zo_42 (by decide +kernel)
theorem dX4_addRoad_26 : decode cX4_addRoad 26 = .ok (.getfield 9, 3) := zo_180 (by decide +kernel)
theorem dX4_addRoad_29 : decode cX4_addRoad 29 = .ok (.iload_n 1, 1) := zo_27 (by decide +kernel)
theorem dX4_addRoad_30 : decode cX4_addRoad 30 = .ok (.iaload, 1) := zo_46 (by decide +kernel)
theorem dX4_addRoad_31 : decode cX4_addRoad 31 = .ok (.iadd, 1) := zo_96 (by decide +kernel)
theorem dX4_addRoad_32 : decode cX4_addRoad 32 = .ok (.iload_n 2, 1) := zo_28 (by decide +kernel)
theorem dX4_addRoad_33 : decode cX4_addRoad 33 = .ok (.iastore, 1) := zo_79 (by decide +kernel)
theorem dX4_addRoad_34 : decode cX4_addRoad 34 = .ok (.aload_n 0, 1) := zo_42 (by decide +kernel)
theorem dX4_addRoad_35 : decode cX4_addRoad 35 = .ok (.getfield 9, 3) := zo_180 (by decide +kernel)
theorem dX4_addRoad_38 : decode cX4_addRoad 38 = .ok (.iload_n 1, 1) := zo_27 (by decide +kernel)
theorem dX4_addRoad_39 : decode cX4_addRoad 39 = .ok (.dup2, 1) := zo_92 (by decide +kernel)
theorem dX4_addRoad_40 : decode cX4_addRoad 40 = .ok (.iaload, 1) := zo_46 (by decide +kernel)
theorem dX4_addRoad_41 : decode cX4_addRoad 41 = .ok (.iconst 1, 1) := zo_4 (by decide +kernel)
theorem dX4_addRoad_42 : decode cX4_addRoad 42 = .ok (.iadd, 1) := zo_96 (by decide +kernel)
theorem dX4_addRoad_43 : decode cX4_addRoad 43 = .ok (.iastore, 1) := zo_79 (by decide +kernel)
theorem dX4_addRoad_44 : decode cX4_addRoad 44 = .ok (.return_, 1) := zo_177 (by decide +kernel)
theorem dX4_told_0 : decode cX4_told 0 = .ok (.iload_n 1, 1) := zo_27 (by decide +kernel)
theorem dX4_told_1 : decode cX4_told 1 = .ok (.ifCond .ne 8, 3) := zo_154 (by decide +kernel)
theorem dX4_told_4 : decode cX4_told 4 = .ok (.aload_n 0, 1) := zo_42 (by decide +kernel)
theorem dX4_told_5 : decode cX4_told 5 = .ok (.getfield 24, 3) := zo_180 (by decide +kernel)
theorem dX4_told_8 : decode cX4_told 8 = .ok (.ireturn, 1) := zo_172 (by decide +kernel)
theorem dX4_told_9 : decode cX4_told 9 = .ok (.iload_n 1, 1) := zo_27 (by decide +kernel)
theorem dX4_told_10 : decode cX4_told 10 = .ok (.iconst 1, 1) := zo_4 (by decide +kernel)
theorem dX4_told_11 : decode cX4_told 11 = .ok (.if_icmp .ne 8, 3) := zo_160 (by decide +kernel)
theorem dX4_told_14 : decode cX4_told 14 = .ok (.aload_n 0, 1) := zo_42 (by decide +kernel)
theorem dX4_told_15 : decode cX4_told 15 = .ok (.getfield 28, 3) := zo_180 (by decide +kernel)
theorem dX4_told_18 : decode cX4_told 18 = .ok (.ireturn, 1) := zo_172 (by decide +kernel)
theorem dX4_told_19 : decode cX4_told 19 = .ok (.iload_n 1, 1) := zo_27 (by decide +kernel)
theorem dX4_told_20 : decode cX4_told 20 = .ok (.bipush 100, 2) := zo_16 (by decide +kernel)
theorem dX4_told_22 : decode cX4_told 22 = .ok (.if_icmp .lt 22, 3) := zo_161 (by decide +kernel)
theorem dX4_told_25 : decode cX4_told 25 = .ok (.aload_n 0, 1) := zo_42 (by decide +kernel)
theorem dX4_told_26 : decode cX4_told 26 = .ok (.iload_n 1, 1) := zo_27 (by decide +kernel)
theorem dX4_told_27 : decode cX4_told 27 = .ok (.bipush 100, 2) := zo_16 (by decide +kernel)
theorem dX4_told_29 : decode cX4_told 29 = .ok (.isub, 1) := zo_100 (by decide +kernel)
theorem dX4_told_30 : decode cX4_told 30 = .ok (.bipush 10, 2) := zo_16 (by decide +kernel)
theorem dX4_told_32 : decode cX4_told 32 = .ok (.idiv, 1) := zo_108 (by decide +kernel)
theorem dX4_told_33 : decode cX4_told 33 = .ok (.iload_n 1, 1) := zo_27 (by decide +kernel)
theorem dX4_told_34 : decode cX4_told 34 = .ok (.bipush 100, 2) := zo_16 (by decide +kernel)
theorem dX4_told_36 : decode cX4_told 36 = .ok (.isub, 1) := zo_100 (by decide +kernel)
theorem dX4_told_37 : decode cX4_told 37 = .ok (.bipush 10, 2) := zo_16 (by decide +kernel)
theorem dX4_told_39 : decode cX4_told 39 = .ok (.irem, 1) := zo_112 (by decide +kernel)
theorem dX4_told_40 : decode cX4_told 40 = .ok (.invokevirtual 39, 3) := zo_182 (by decide +kernel)
theorem dX4_told_43 : decode cX4_told 43 = .ok (.ireturn, 1) := zo_172 (by decide +kernel)
theorem dX4_told_44 : decode cX4_told 44 = .ok (.iload_n 1, 1) := zo_27 (by decide +kernel)
theorem dX4_told_45 : decode cX4_told 45 = .ok (.bipush 10, 2) := zo_16 (by decide +kernel)
theorem dX4_told_47 : decode cX4_told 47 = .ok (.irem, 1) := zo_112 (by decide +kernel)
theorem dX4_told_48 : decode cX4_told 48 = .ok (.istore_n 2, 1) := zo_61 (by decide +kernel)
theorem dX4_told_49 : decode cX4_told 49 = .ok (.aload_n 0, 1) := zo_42 (by decide +kernel)
theorem dX4_told_50 : decode cX4_told 50 = .ok (.iload_n 2, 1) := zo_28 (by decide +kernel)
theorem dX4_told_51 : decode cX4_told 51 = .ok (.invokevirtual 31, 3) := zo_182 (by decide +kernel)
theorem dX4_told_54 : decode cX4_told 54 = .ok (.ifCond .ne 5, 3) := zo_154 (by decide +kernel)
theorem dX4_told_57 : decode cX4_told 57 = .ok (.iconst (-1), 1) := zo_2 (by decide +kernel)
theorem dX4_told_58 : decode cX4_told 58 = .ok (.ireturn, 1) := zo_172 (by decide +kernel)
theorem dX4_told_59 : decode cX4_told 59 = .ok (.iload_n 1, 1) := zo_27 (by decide +kernel)
theorem dX4_told_60 : decode cX4_told 60 = .ok (.bipush 10, 2) := zo_16 (by decide +kernel)
theorem dX4_told_62 : decode cX4_told 62 = .ok (.idiv, 1) := zo_108 (by decide +kernel)
theorem dX4_told_63 : decode cX4_told 63 = .ok (.tableswitch 46 1 3 #[25, 32, 39], 25) := by decide +kernel
theorem dX4_told_88 : decode cX4_told 88 = .ok (.aload_n 0, 1) := zo_42 (by decide +kernel)
theorem dX4_told_89 : decode cX4_told 89 = .ok (.getfield 9, 3) := zo_180 (by decide +kernel)
theorem dX4_told_92 : decode cX4_told 92 = .ok (.iload_n 2, 1) := zo_28 (by decide +kernel)
theorem dX4_told_93 : decode cX4_told 93 = .ok (.iaload, 1) := zo_46 (by decide +kernel)
theorem dX4_told_94 : decode cX4_told 94 = .ok (.ireturn, 1) := zo_172 (by decide +kernel)
theorem dX4_told_95 : decode cX4_told 95 = .ok (.aload_n 0, 1) := zo_42 (by decide +kernel)
theorem dX4_told_96 : decode cX4_told 96 = .ok (.getfield 18, 3) := zo_180 (by decide +kernel)
theorem dX4_told_99 : decode cX4_told 99 = .ok (.iload_n 2, 1) := zo_28 (by decide +kernel)
theorem dX4_told_100 : decode cX4_told 100 = .ok (.iaload, 1) := zo_46 (by decide +kernel)
theorem dX4_told_101 : decode cX4_told 101 = .ok (.ireturn, 1) := zo_172 (by decide +kernel)
theorem dX4_told_102 : decode cX4_told 102 = .ok (.aload_n 0, 1) := zo_42 (by decide +kernel)
theorem dX4_told_103 : decode cX4_told 103 = .ok (.getfield 21, 3) := zo_180 (by decide +kernel)
theorem dX4_told_106 : decode cX4_told 106 = .ok (.iload_n 2, 1) := zo_28 (by decide +kernel)
theorem dX4_told_107 : decode cX4_told 107 = .ok (.iaload, 1) := zo_46 (by decide +kernel)
theorem dX4_told_108 : decode cX4_told 108 = .ok (.ireturn, 1) := zo_172 (by decide +kernel)
theorem dX4_told_109 : decode cX4_told 109 = .ok (.iconst (-1), 1) := zo_2 (by decide +kernel)
theorem dX4_told_110 : decode cX4_told 110 = .ok (.ireturn, 1) := zo_172 (by decide +kernel)

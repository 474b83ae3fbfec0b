def bLand (T : zTy) (h : Nat) (cr : Int32) (inn : Int32) (f1 : Nat → Int32) (f2 : Nat → Int32) (f3 : Nat → Int32) (f4 : Nat → Int32) (w : va_W) : Prop := ∃ (a1 : Nat) (a2 : Nat) (a3 : Nat) (a4 : Nat), w = [(h, .inr (4, [.int cr, .int inn, .ref a1, .ref a2, .ref a3, .ref a4])), (a1, .inl (T.2 0, 7, .inl f1)), (a2, .inl (T.2 0, 28, .inl f2)), (a3, .inl (T.2 0, 7, .inl f3)), (a4, .inl (T.2 0, 7, .inl f4))]
theorem bLand_mem {T : zTy} {h : Nat} {cr : Int32} {inn : Int32} {f1 : Nat → Int32} {f2 : Nat → Int32} {f3 : Nat → Int32} {f4 : Nat → Int32} {w : va_W} (H : bLand T h cr inn f1 f2 f3 f4 w) : ∃ fs, ((h, .inr (4, fs)) : Nat × va_E) ∈ w := by
  obtain ⟨_, _, _, _, rfl⟩ := H
  exact ⟨_, List.mem_cons_self⟩

def bDay (T : zTy) (h : Nat) (dd : Int32) (f1 : Nat → Int32) (f2 : Nat → Int32) (f3 : Nat → Int32) (w : va_W) : Prop := ∃ (a1 : Nat) (a2 : Nat) (a3 : Nat), w = [(h, .inr (2, [.int dd, .ref a1, .ref a2, .ref a3])), (a1, .inl (T.2 0, 40, .inl f1)), (a2, .inl (T.2 0, 40, .inl f2)), (a3, .inl (T.2 0, 40, .inl f3))]
theorem bDay_mem {T : zTy} {h : Nat} {dd : Int32} {f1 : Nat → Int32} {f2 : Nat → Int32} {f3 : Nat → Int32} {w : va_W} (H : bDay T h dd f1 f2 f3 w) : ∃ fs, ((h, .inr (2, fs)) : Nat × va_E) ∈ w := by
  obtain ⟨_, _, _, rfl⟩ := H
  exact ⟨_, List.mem_cons_self⟩

def bLog (T : zTy) (h : Nat) (gg : Int32) (f1 : Nat → Int32) (f2 : Nat → Int32) (w : va_W) : Prop := ∃ (a1 : Nat) (a2 : Nat), w = [(h, .inr (5, [.int gg, .ref a1, .ref a2])), (a1, .inl (T.2 0, 8, .inl f1)), (a2, .inl (T.2 0, 8, .inl f2))]
theorem bLog_mem {T : zTy} {h : Nat} {gg : Int32} {f1 : Nat → Int32} {f2 : Nat → Int32} {w : va_W} (H : bLog T h gg f1 f2 w) : ∃ fs, ((h, .inr (5, fs)) : Nat × va_E) ∈ w := by
  obtain ⟨_, _, rfl⟩ := H
  exact ⟨_, List.mem_cons_self⟩

def bTold (T : zTy) (h : Nat) (l0 : Nat) (l1 : Nat) (d0 : Nat) (d1 : Nat) (g0 : Nat) (g1 : Nat) (ln : Int32) (fl : Int32) (pl : Int32) (ft : Nat → Int32) (fk : Nat → Int32) (w : va_W) : Prop := ∃ (a1 : Nat) (a2 : Nat) (a3 : Nat) (a4 : Nat) (a5 : Nat) (q1 : Nat → Option Nat) (q2 : Nat → Option Nat) (q3 : Nat → Option Nat), w = [(h, .inr (8, [.ref a1, .int ln, .int fl, .int pl, .ref a2, .ref a3, .ref a4, .ref a5])), (a1, .inl (T.2 1, 600, .inl ft)), (a2, .inl (T.2 0, 3, .inl fk)), (a3, .inl (T.2 3, 2, .inr (.inr (.inr (.inr q1))))), (a4, .inl (T.2 4, 2, .inr (.inr (.inr (.inr q2))))), (a5, .inl (T.2 5, 2, .inr (.inr (.inr (.inr q3)))))] ∧ q1 0 = some l0 ∧ q1 1 = some l1 ∧ q2 0 = some d0 ∧ q2 1 = some d1 ∧ q3 0 = some g0 ∧ q3 1 = some g1
theorem bTold_mem {T : zTy} {h : Nat} {l0 : Nat} {l1 : Nat} {d0 : Nat} {d1 : Nat} {g0 : Nat} {g1 : Nat} {ln : Int32} {fl : Int32} {pl : Int32} {ft : Nat → Int32} {fk : Nat → Int32} {w : va_W} (H : bTold T h l0 l1 d0 d1 g0 g1 ln fl pl ft fk w) : ∃ fs, ((h, .inr (8, fs)) : Nat × va_E) ∈ w := by
  obtain ⟨_, _, _, _, _, _, _, _, rfl, -, -, -, -, -, -⟩ := H
  exact ⟨_, List.mem_cons_self⟩

def bPosts (T : zTy) (h : Nat) (la : Nat) (f1 : Nat → Int32) (f2 : Nat → Int32) (f3 : Nat → Int32) (st : Int32) (wh : Int32) (w : va_W) : Prop := ∃ (a1 : Nat) (a2 : Nat) (a3 : Nat), w = [(h, .inr (6, [.ref la, .ref a1, .ref a2, .int st, .int wh, .ref a3])), (a1, .inl (T.2 0, 7, .inl f1)), (a2, .inl (T.2 0, 7, .inl f2)), (a3, .inl (T.2 0, 7, .inl f3))]
theorem bPosts_mem {T : zTy} {h : Nat} {la : Nat} {f1 : Nat → Int32} {f2 : Nat → Int32} {f3 : Nat → Int32} {st : Int32} {wh : Int32} {w : va_W} (H : bPosts T h la f1 f2 f3 st wh w) : ∃ fs, ((h, .inr (6, fs)) : Nat × va_E) ∈ w := by
  obtain ⟨_, _, _, rfl⟩ := H
  exact ⟨_, List.mem_cons_self⟩

def bCourse (T : zTy) (h : Nat) (po : Nat) (la : Nat) (fw : Nat → Int32) (v0 : Int32) (v1 : Int32) (v2 : Int32) (v3 : Int32) (v4 : Int32) (v5 : Int32) (v6 : Int32) (v7 : Int32) (w : va_W) : Prop := ∃ (a1 : Nat), w = [(h, .inr (1, [.ref po, .ref a1, .int v0, .ref la, .int v1, .int v2, .int v3, .int v4, .int v5, .int v6, .int v7])), (a1, .inl (T.2 0, 7, .inl fw))]
theorem bCourse_mem {T : zTy} {h : Nat} {po : Nat} {la : Nat} {fw : Nat → Int32} {v0 : Int32} {v1 : Int32} {v2 : Int32} {v3 : Int32} {v4 : Int32} {v5 : Int32} {v6 : Int32} {v7 : Int32} {w : va_W} (H : bCourse T h po la fw v0 v1 v2 v3 v4 v5 v6 v7 w) : ∃ fs, ((h, .inr (1, fs)) : Nat × va_E) ∈ w := by
  obtain ⟨_, rfl⟩ := H
  exact ⟨_, List.mem_cons_self⟩

def bTrail (T : zTy) (h : Nat) (po : Nat) (f1 : Nat → Int32) (f2 : Nat → Int32) (v0 : Int32) (v1 : Int32) (v2 : Int32) (v3 : Int32) (v4 : Int32) (w : va_W) : Prop := ∃ (a1 : Nat) (a2 : Nat), w = [(h, .inr (9, [.ref po, .ref a1, .ref a2, .int v0, .int v1, .int v2, .int v3, .int v4])), (a1, .inl (T.2 0, 7, .inl f1)), (a2, .inl (T.2 0, 7, .inl f2))]
theorem bTrail_mem {T : zTy} {h : Nat} {po : Nat} {f1 : Nat → Int32} {f2 : Nat → Int32} {v0 : Int32} {v1 : Int32} {v2 : Int32} {v3 : Int32} {v4 : Int32} {w : va_W} (H : bTrail T h po f1 f2 v0 v1 v2 v3 v4 w) : ∃ fs, ((h, .inr (9, fs)) : Nat × va_E) ∈ w := by
  obtain ⟨_, _, rfl⟩ := H
  exact ⟨_, List.mem_cons_self⟩

def bWays (T : zTy) (h : Nat) (la : Nat) (md : Int32) (wy : Int32) (pc_ : Int32) (f1 : Nat → Int32) (f2 : Nat → Int32) (f3 : Nat → Int32) (f4 : Nat → Int32) (f5 : Nat → Int32) (f6 : Nat → Int32) (n4 : Nat) (w : va_W) : Prop := ∃ (a1 : Nat) (a2 : Nat) (a3 : Nat) (a4 : Nat) (a5 : Nat) (a6 : Nat), w = [(h, .inr (0, [.int md, .int wy, .ref la, .int pc_, .ref a1, .ref a2, .ref a3, .ref a4, .ref a5, .ref a6])), (a1, .inl (T.2 0, 7, .inl f1)), (a2, .inl (T.2 0, 7, .inl f2)), (a3, .inl (T.2 0, 7, .inl f3)), (a4, .inl (T.2 0, n4, .inl f4)), (a5, .inl (T.2 0, n4, .inl f5)), (a6, .inl (T.2 0, n4, .inl f6))]
theorem bWays_mem {T : zTy} {h : Nat} {la : Nat} {md : Int32} {wy : Int32} {pc_ : Int32} {f1 : Nat → Int32} {f2 : Nat → Int32} {f3 : Nat → Int32} {f4 : Nat → Int32} {f5 : Nat → Int32} {f6 : Nat → Int32} {n4 : Nat} {w : va_W} (H : bWays T h la md wy pc_ f1 f2 f3 f4 f5 f6 n4 w) : ∃ fs, ((h, .inr (0, fs)) : Nat × va_E) ∈ w := by
  obtain ⟨_, _, _, _, _, _, rfl⟩ := H
  exact ⟨_, List.mem_cons_self⟩

def bFit (T : zTy) (h : Nat) (v0 : Int32) (v1 : Int32) (v2 : Int32) (v3 : Int32) (v4 : Int32) (v5 : Int32) (f1 : Nat → Int32) (n1 : Nat) (f2 : Nat → Int32) (w : va_W) : Prop := ∃ (a1 : Nat) (a2 : Nat), w = [(h, .inr (3, [.int v0, .int v1, .int v2, .int v3, .int v4, .int v5, .ref a1, .ref a2])), (a1, .inl (T.2 0, n1, .inl f1)), (a2, .inl (T.2 0, 7, .inl f2))]
theorem bFit_mem {T : zTy} {h : Nat} {v0 : Int32} {v1 : Int32} {v2 : Int32} {v3 : Int32} {v4 : Int32} {v5 : Int32} {f1 : Nat → Int32} {n1 : Nat} {f2 : Nat → Int32} {w : va_W} (H : bFit T h v0 v1 v2 v3 v4 v5 f1 n1 f2 w) : ∃ fs, ((h, .inr (3, fs)) : Nat × va_E) ∈ w := by
  obtain ⟨_, _, rfl⟩ := H
  exact ⟨_, List.mem_cons_self⟩

set_option maxHeartbeats 4000000 in
set_option maxRecDepth 100000 in
theorem c_Land_init (l : Launch) (T : zTy) (h : Nat) : zMv l T yX4_init cX4_init 1 1 4 49 [.ref h] [[(h, .inr (4, [.int 0, .int 0, .null, .null, .null, .null]))]] (fun bs => ∃ (w : va_W), bs = [w] ∧ bLand T h 0 0 (fun _ => 0) (fun _ => 0) (fun _ => 0) (fun _ => 0) w) := by
  refine zMv_of (own := RX4) (by decide) rfl (Nat.le_of_ble_eq_true rfl) ?_
  intro p e s m args below meth c A ls C hr hlocks hnm hAe G hl
  have hx := C.1
  have hb := C.2.1
  have hl : lv_has ls 1 [(0, .ref h)] := hl
  refine lv_aload_n hx hb dX4_init_0 rfl (lv_at hl 0 rfl) ?_
  refine W.objInit hx hb C.2.2.2.1 (C.2.2.2.2 _ m_ml_RX4_3) (C.2.2.2.2 _ m_im_obj) (C.2.2.2.2 _ m_co_obj) rfl (by rw [C.2.2.1]; exact hl.1) rfl dX4_init_1 (Nat.le_of_ble_eq_true rfl) (Nat.le_of_ble_eq_true rfl) ?_
  refine W.eq (g2 := F0 m 4 ls []) rfl ?_
  refine lv_aload_n hx hb dX4_init_4 rfl (lv_at hl 0 rfl) ?_
  refine lv_bipush (v := 7) hx hb dX4_init_5 (by decide) ?_
  refine z_newa C G 0 (ty := .int) (N' := 7) (a0 := (7, .inl (fun _ => 0))) rfl z_uint m_ar_int rfl (fun _ => rfl) (by decide) (by decide) (Nat.le_of_ble_eq_true rfl) (Nat.le_of_ble_eq_true rfl) (Nat.le_of_ble_eq_true rfl) dX4_init_7 (fun q_1 H G => ?_)
  have G : zS T A s.heap s [[(h, .inr (4, [.int 0, .int 0, .null, .null, .null, .null]))], [(q_1, .inl (T.2 0, 7, .inl (fun _ => 0)))]] _ _ := G
  refine z_putF C G hnm clX4 0 rfl 2 (by decide) m_fl_RX4_9 rfl rfl rfl rfl (Nat.le_of_ble_eq_true rfl) dX4_init_9 (fun H locs G => ?_)
  have G : zS T A s.heap s [[(h, .inr (4, [.int 0, .int 0, .ref q_1, .null, .null, .null]))], [(q_1, .inl (T.2 0, 7, .inl (fun _ => 0)))]] _ _ := G
  refine lv_aload_n hx hb dX4_init_12 rfl (lv_at hl 0 rfl) ?_
  refine lv_bipush (v := 28) hx hb dX4_init_13 (by decide) ?_
  refine z_newa C G 0 (ty := .int) (N' := 28) (a0 := (28, .inl (fun _ => 0))) rfl z_uint m_ar_int rfl (fun _ => rfl) (by decide) (by decide) (Nat.le_of_ble_eq_true rfl) (Nat.le_of_ble_eq_true rfl) (Nat.le_of_ble_eq_true rfl) dX4_init_15 (fun q_2 H G => ?_)
  have G : zS T A s.heap s [[(h, .inr (4, [.int 0, .int 0, .ref q_1, .null, .null, .null]))], [(q_1, .inl (T.2 0, 7, .inl (fun _ => 0)))], [(q_2, .inl (T.2 0, 28, .inl (fun _ => 0)))]] _ _ := G
  refine z_putF C G hnm clX4 0 rfl 3 (by decide) m_fl_RX4_15 rfl rfl rfl rfl (Nat.le_of_ble_eq_true rfl) dX4_init_17 (fun H locs G => ?_)
  have G : zS T A s.heap s [[(h, .inr (4, [.int 0, .int 0, .ref q_1, .ref q_2, .null, .null]))], [(q_1, .inl (T.2 0, 7, .inl (fun _ => 0)))], [(q_2, .inl (T.2 0, 28, .inl (fun _ => 0)))]] _ _ := G
  refine lv_aload_n hx hb dX4_init_20 rfl (lv_at hl 0 rfl) ?_
  refine lv_bipush (v := 7) hx hb dX4_init_21 (by decide) ?_
  refine z_newa C G 0 (ty := .int) (N' := 7) (a0 := (7, .inl (fun _ => 0))) rfl z_uint m_ar_int rfl (fun _ => rfl) (by decide) (by decide) (Nat.le_of_ble_eq_true rfl) (Nat.le_of_ble_eq_true rfl) (Nat.le_of_ble_eq_true rfl) dX4_init_23 (fun q_3 H G => ?_)
  have G : zS T A s.heap s [[(h, .inr (4, [.int 0, .int 0, .ref q_1, .ref q_2, .null, .null]))], [(q_1, .inl (T.2 0, 7, .inl (fun _ => 0)))], [(q_2, .inl (T.2 0, 28, .inl (fun _ => 0)))], [(q_3, .inl (T.2 0, 7, .inl (fun _ => 0)))]] _ _ := G
  refine z_putF C G hnm clX4 0 rfl 4 (by decide) m_fl_RX4_18 rfl rfl rfl rfl (Nat.le_of_ble_eq_true rfl) dX4_init_25 (fun H locs G => ?_)
  have G : zS T A s.heap s [[(h, .inr (4, [.int 0, .int 0, .ref q_1, .ref q_2, .ref q_3, .null]))], [(q_1, .inl (T.2 0, 7, .inl (fun _ => 0)))], [(q_2, .inl (T.2 0, 28, .inl (fun _ => 0)))], [(q_3, .inl (T.2 0, 7, .inl (fun _ => 0)))]] _ _ := G
  refine lv_aload_n hx hb dX4_init_28 rfl (lv_at hl 0 rfl) ?_
  refine lv_bipush (v := 7) hx hb dX4_init_29 (by decide) ?_
  refine z_newa C G 0 (ty := .int) (N' := 7) (a0 := (7, .inl (fun _ => 0))) rfl z_uint m_ar_int rfl (fun _ => rfl) (by decide) (by decide) (Nat.le_of_ble_eq_true rfl) (Nat.le_of_ble_eq_true rfl) (Nat.le_of_ble_eq_true rfl) dX4_init_31 (fun q_4 H G => ?_)
  have G : zS T A s.heap s [[(h, .inr (4, [.int 0, .int 0, .ref q_1, .ref q_2, .ref q_3, .null]))], [(q_1, .inl (T.2 0, 7, .inl (fun _ => 0)))], [(q_2, .inl (T.2 0, 28, .inl (fun _ => 0)))], [(q_3, .inl (T.2 0, 7, .inl (fun _ => 0)))], [(q_4, .inl (T.2 0, 7, .inl (fun _ => 0)))]] _ _ := G
  refine z_putF C G hnm clX4 0 rfl 5 (by decide) m_fl_RX4_21 rfl rfl rfl rfl (Nat.le_of_ble_eq_true rfl) dX4_init_33 (fun H locs G => ?_)
  have G : zS T A s.heap s [[(h, .inr (4, [.int 0, .int 0, .ref q_1, .ref q_2, .ref q_3, .ref q_4]))], [(q_1, .inl (T.2 0, 7, .inl (fun _ => 0)))], [(q_2, .inl (T.2 0, 28, .inl (fun _ => 0)))], [(q_3, .inl (T.2 0, 7, .inl (fun _ => 0)))], [(q_4, .inl (T.2 0, 7, .inl (fun _ => 0)))]] _ _ := G
  have hw_5 : bLand T h 0 0 (fun _ => 0) (fun _ => 0) (fun _ => 0) (fun _ => 0) [(h, .inr (4, [.int 0, .int 0, .ref q_1, .ref q_2, .ref q_3, .ref q_4])), (q_1, .inl (T.2 0, 7, .inl (fun _ => 0))), (q_2, .inl (T.2 0, 28, .inl (fun _ => 0))), (q_3, .inl (T.2 0, 7, .inl (fun _ => 0))), (q_4, .inl (T.2 0, 7, .inl (fun _ => 0)))] := ⟨q_1, q_2, q_3, q_4, rfl⟩
  have G : zS T A s.heap s [[(h, .inr (4, [.int 0, .int 0, .ref q_1, .ref q_2, .ref q_3, .ref q_4])), (q_1, .inl (T.2 0, 7, .inl (fun _ => 0))), (q_2, .inl (T.2 0, 28, .inl (fun _ => 0))), (q_3, .inl (T.2 0, 7, .inl (fun _ => 0))), (q_4, .inl (T.2 0, 7, .inl (fun _ => 0)))]] _ _ := G.re rfl
  exact z_vret C hr hlocks G (Nat.le_of_ble_eq_true rfl) (Nat.le_of_ble_eq_true rfl) dX4_init_36 ⟨([(h, .inr (4, [.int 0, .int 0, .ref q_1, .ref q_2, .ref q_3, .ref q_4])), (q_1, .inl (T.2 0, 7, .inl (fun _ => 0))), (q_2, .inl (T.2 0, 28, .inl (fun _ => 0))), (q_3, .inl (T.2 0, 7, .inl (fun _ => 0))), (q_4, .inl (T.2 0, 7, .inl (fun _ => 0)))]), rfl, hw_5⟩
set_option maxHeartbeats 4000000 in
set_option maxRecDepth 100000 in
theorem c_Day_init (l : Launch) (T : zTy) (h : Nat) : zMv l T yX2_init cX2_init 1 1 3 120 [.ref h] [[(h, .inr (2, [.int 0, .null, .null, .null]))]] (fun bs => ∃ (w : va_W), bs = [w] ∧ bDay T h 0 (fun _ => 0) (fun _ => 0) (fun _ => 0) w) := by
  refine zMv_of (own := RX2) (by decide) rfl (Nat.le_of_ble_eq_true rfl) ?_
  intro p e s m args below meth c A ls C hr hlocks hnm hAe G hl
  have hx := C.1
  have hb := C.2.1
  have hl : lv_has ls 1 [(0, .ref h)] := hl
  refine lv_aload_n hx hb dX2_init_0 rfl (lv_at hl 0 rfl) ?_
  refine W.objInit hx hb C.2.2.2.1 (C.2.2.2.2 _ m_ml_RX2_3) (C.2.2.2.2 _ m_im_obj) (C.2.2.2.2 _ m_co_obj) rfl (by rw [C.2.2.1]; exact hl.1) rfl dX2_init_1 (Nat.le_of_ble_eq_true rfl) (Nat.le_of_ble_eq_true rfl) ?_
  refine W.eq (g2 := F0 m 4 ls []) rfl ?_
  refine lv_aload_n hx hb dX2_init_4 rfl (lv_at hl 0 rfl) ?_
  refine lv_bipush (v := 40) hx hb dX2_init_5 (by decide) ?_
  refine z_newa C G 0 (ty := .int) (N' := 40) (a0 := (40, .inl (fun _ => 0))) rfl z_uint m_ar_int rfl (fun _ => rfl) (by decide) (by decide) (Nat.le_of_ble_eq_true rfl) (Nat.le_of_ble_eq_true rfl) (Nat.le_of_ble_eq_true rfl) dX2_init_7 (fun q_1 H G => ?_)
  have G : zS T A s.heap s [[(h, .inr (2, [.int 0, .null, .null, .null]))], [(q_1, .inl (T.2 0, 40, .inl (fun _ => 0)))]] _ _ := G
  refine z_putF C G hnm clX2 0 rfl 1 (by decide) m_fl_RX2_9 rfl rfl rfl rfl (Nat.le_of_ble_eq_true rfl) dX2_init_9 (fun H locs G => ?_)
  have G : zS T A s.heap s [[(h, .inr (2, [.int 0, .ref q_1, .null, .null]))], [(q_1, .inl (T.2 0, 40, .inl (fun _ => 0)))]] _ _ := G
  refine lv_aload_n hx hb dX2_init_12 rfl (lv_at hl 0 rfl) ?_
  refine lv_bipush (v := 40) hx hb dX2_init_13 (by decide) ?_
  refine z_newa C G 0 (ty := .int) (N' := 40) (a0 := (40, .inl (fun _ => 0))) rfl z_uint m_ar_int rfl (fun _ => rfl) (by decide) (by decide) (Nat.le_of_ble_eq_true rfl) (Nat.le_of_ble_eq_true rfl) (Nat.le_of_ble_eq_true rfl) dX2_init_15 (fun q_2 H G => ?_)
  have G : zS T A s.heap s [[(h, .inr (2, [.int 0, .ref q_1, .null, .null]))], [(q_1, .inl (T.2 0, 40, .inl (fun _ => 0)))], [(q_2, .inl (T.2 0, 40, .inl (fun _ => 0)))]] _ _ := G
  refine z_putF C G hnm clX2 0 rfl 2 (by decide) m_fl_RX2_15 rfl rfl rfl rfl (Nat.le_of_ble_eq_true rfl) dX2_init_17 (fun H locs G => ?_)
  have G : zS T A s.heap s [[(h, .inr (2, [.int 0, .ref q_1, .ref q_2, .null]))], [(q_1, .inl (T.2 0, 40, .inl (fun _ => 0)))], [(q_2, .inl (T.2 0, 40, .inl (fun _ => 0)))]] _ _ := G
  refine lv_aload_n hx hb dX2_init_20 rfl (lv_at hl 0 rfl) ?_
  refine lv_bipush (v := 40) hx hb dX2_init_21 (by decide) ?_
  refine z_newa C G 0 (ty := .int) (N' := 40) (a0 := (40, .inl (fun _ => 0))) rfl z_uint m_ar_int rfl (fun _ => rfl) (by decide) (by decide) (Nat.le_of_ble_eq_true rfl) (Nat.le_of_ble_eq_true rfl) (Nat.le_of_ble_eq_true rfl) dX2_init_23 (fun q_3 H G => ?_)
  have G : zS T A s.heap s [[(h, .inr (2, [.int 0, .ref q_1, .ref q_2, .null]))], [(q_1, .inl (T.2 0, 40, .inl (fun _ => 0)))], [(q_2, .inl (T.2 0, 40, .inl (fun _ => 0)))], [(q_3, .inl (T.2 0, 40, .inl (fun _ => 0)))]] _ _ := G
  refine z_putF C G hnm clX2 0 rfl 3 (by decide) m_fl_RX2_18 rfl rfl rfl rfl (Nat.le_of_ble_eq_true rfl) dX2_init_25 (fun H locs G => ?_)
  have G : zS T A s.heap s [[(h, .inr (2, [.int 0, .ref q_1, .ref q_2, .ref q_3]))], [(q_1, .inl (T.2 0, 40, .inl (fun _ => 0)))], [(q_2, .inl (T.2 0, 40, .inl (fun _ => 0)))], [(q_3, .inl (T.2 0, 40, .inl (fun _ => 0)))]] _ _ := G
  have hw_4 : bDay T h 0 (fun _ => 0) (fun _ => 0) (fun _ => 0) [(h, .inr (2, [.int 0, .ref q_1, .ref q_2, .ref q_3])), (q_1, .inl (T.2 0, 40, .inl (fun _ => 0))), (q_2, .inl (T.2 0, 40, .inl (fun _ => 0))), (q_3, .inl (T.2 0, 40, .inl (fun _ => 0)))] := ⟨q_1, q_2, q_3, rfl⟩
  have G : zS T A s.heap s [[(h, .inr (2, [.int 0, .ref q_1, .ref q_2, .ref q_3])), (q_1, .inl (T.2 0, 40, .inl (fun _ => 0))), (q_2, .inl (T.2 0, 40, .inl (fun _ => 0))), (q_3, .inl (T.2 0, 40, .inl (fun _ => 0)))]] _ _ := G.re rfl
  exact z_vret C hr hlocks G (Nat.le_of_ble_eq_true rfl) (Nat.le_of_ble_eq_true rfl) dX2_init_28 ⟨([(h, .inr (2, [.int 0, .ref q_1, .ref q_2, .ref q_3])), (q_1, .inl (T.2 0, 40, .inl (fun _ => 0))), (q_2, .inl (T.2 0, 40, .inl (fun _ => 0))), (q_3, .inl (T.2 0, 40, .inl (fun _ => 0)))]), rfl, hw_4⟩
set_option maxHeartbeats 4000000 in
set_option maxRecDepth 100000 in
theorem c_Log_init (l : Launch) (T : zTy) (h : Nat) : zMv l T yX5_init cX5_init 1 1 2 16 [.ref h] [[(h, .inr (5, [.int 0, .null, .null]))]] (fun bs => ∃ (w : va_W), bs = [w] ∧ bLog T h 0 (fun _ => 0) (fun _ => 0) w) := by
  refine zMv_of (own := RX5) (by decide) rfl (Nat.le_of_ble_eq_true rfl) ?_
  intro p e s m args below meth c A ls C hr hlocks hnm hAe G hl
  have hx := C.1
  have hb := C.2.1
  have hl : lv_has ls 1 [(0, .ref h)] := hl
  refine lv_aload_n hx hb dX5_init_0 rfl (lv_at hl 0 rfl) ?_
  refine W.objInit hx hb C.2.2.2.1 (C.2.2.2.2 _ m_ml_RX5_3) (C.2.2.2.2 _ m_im_obj) (C.2.2.2.2 _ m_co_obj) rfl (by rw [C.2.2.1]; exact hl.1) rfl dX5_init_1 (Nat.le_of_ble_eq_true rfl) (Nat.le_of_ble_eq_true rfl) ?_
  refine W.eq (g2 := F0 m 4 ls []) rfl ?_
  refine lv_aload_n hx hb dX5_init_4 rfl (lv_at hl 0 rfl) ?_
  refine lv_bipush (v := 8) hx hb dX5_init_5 (by decide) ?_
  refine z_newa C G 0 (ty := .int) (N' := 8) (a0 := (8, .inl (fun _ => 0))) rfl z_uint m_ar_int rfl (fun _ => rfl) (by decide) (by decide) (Nat.le_of_ble_eq_true rfl) (Nat.le_of_ble_eq_true rfl) (Nat.le_of_ble_eq_true rfl) dX5_init_7 (fun q_1 H G => ?_)
  have G : zS T A s.heap s [[(h, .inr (5, [.int 0, .null, .null]))], [(q_1, .inl (T.2 0, 8, .inl (fun _ => 0)))]] _ _ := G
  refine z_putF C G hnm clX5 0 rfl 1 (by decide) m_fl_RX5_9 rfl rfl rfl rfl (Nat.le_of_ble_eq_true rfl) dX5_init_9 (fun H locs G => ?_)
  have G : zS T A s.heap s [[(h, .inr (5, [.int 0, .ref q_1, .null]))], [(q_1, .inl (T.2 0, 8, .inl (fun _ => 0)))]] _ _ := G
  refine lv_aload_n hx hb dX5_init_12 rfl (lv_at hl 0 rfl) ?_
  refine lv_bipush (v := 8) hx hb dX5_init_13 (by decide) ?_
  refine z_newa C G 0 (ty := .int) (N' := 8) (a0 := (8, .inl (fun _ => 0))) rfl z_uint m_ar_int rfl (fun _ => rfl) (by decide) (by decide) (Nat.le_of_ble_eq_true rfl) (Nat.le_of_ble_eq_true rfl) (Nat.le_of_ble_eq_true rfl) dX5_init_15 (fun q_2 H G => ?_)
  have G : zS T A s.heap s [[(h, .inr (5, [.int 0, .ref q_1, .null]))], [(q_1, .inl (T.2 0, 8, .inl (fun _ => 0)))], [(q_2, .inl (T.2 0, 8, .inl (fun _ => 0)))]] _ _ := G
  refine z_putF C G hnm clX5 0 rfl 2 (by decide) m_fl_RX5_15 rfl rfl rfl rfl (Nat.le_of_ble_eq_true rfl) dX5_init_17 (fun H locs G => ?_)
  have G : zS T A s.heap s [[(h, .inr (5, [.int 0, .ref q_1, .ref q_2]))], [(q_1, .inl (T.2 0, 8, .inl (fun _ => 0)))], [(q_2, .inl (T.2 0, 8, .inl (fun _ => 0)))]] _ _ := G
  have hw_3 : bLog T h 0 (fun _ => 0) (fun _ => 0) [(h, .inr (5, [.int 0, .ref q_1, .ref q_2])), (q_1, .inl (T.2 0, 8, .inl (fun _ => 0))), (q_2, .inl (T.2 0, 8, .inl (fun _ => 0)))] := ⟨q_1, q_2, rfl⟩
  have G : zS T A s.heap s [[(h, .inr (5, [.int 0, .ref q_1, .ref q_2])), (q_1, .inl (T.2 0, 8, .inl (fun _ => 0))), (q_2, .inl (T.2 0, 8, .inl (fun _ => 0)))]] _ _ := G.re rfl
  exact z_vret C hr hlocks G (Nat.le_of_ble_eq_true rfl) (Nat.le_of_ble_eq_true rfl) dX5_init_20 ⟨([(h, .inr (5, [.int 0, .ref q_1, .ref q_2])), (q_1, .inl (T.2 0, 8, .inl (fun _ => 0))), (q_2, .inl (T.2 0, 8, .inl (fun _ => 0)))]), rfl, hw_3⟩
set_option maxHeartbeats 4000000 in
set_option maxRecDepth 100000 in
theorem c_Told_init (l : Launch) (T : zTy) (h : Nat) : zMv l T yX9_init cX9_init 1 3 29 1005 [.ref h] [[(h, .inr (8, [.null, .int 0, .int 0, .int 0, .null, .null, .null, .null]))]] (fun bs => ∃ (w : va_W) (l0 : Nat) (l1 : Nat) (d0 : Nat) (d1 : Nat) (g0 : Nat) (g1 : Nat) (w1 : va_W) (w2 : va_W) (w3 : va_W) (w4 : va_W) (w5 : va_W) (w6 : va_W), bs = [w, w1, w2, w3, w4, w5, w6] ∧ bTold T h l0 l1 d0 d1 g0 g1 0 0 (-1) (fun _ => 0) (fun _ => 0) w ∧ bLand T l0 0 0 (fun _ => 0) (fun _ => 0) (fun _ => 0) (fun _ => 0) w1 ∧ bLand T l1 0 0 (fun _ => 0) (fun _ => 0) (fun _ => 0) (fun _ => 0) w2 ∧ bDay T d0 0 (fun _ => 0) (fun _ => 0) (fun _ => 0) w3 ∧ bDay T d1 0 (fun _ => 0) (fun _ => 0) (fun _ => 0) w4 ∧ bLog T g0 0 (fun _ => 0) (fun _ => 0) w5 ∧ bLog T g1 0 (fun _ => 0) (fun _ => 0) w6) := by
  refine zMv_of (own := RX9) (by decide) rfl (Nat.le_of_ble_eq_true rfl) ?_
  intro p e s m args below meth c A ls C hr hlocks hnm hAe G hl
  have hx := C.1
  have hb := C.2.1
  have hl : lv_has ls 1 [(0, .ref h)] := hl
  refine lv_aload_n hx hb dX9_init_0 rfl (lv_at hl 0 rfl) ?_
  refine W.objInit hx hb C.2.2.2.1 (C.2.2.2.2 _ m_ml_RX9_3) (C.2.2.2.2 _ m_im_obj) (C.2.2.2.2 _ m_co_obj) rfl (by rw [C.2.2.1]; exact hl.1) rfl dX9_init_1 (Nat.le_of_ble_eq_true rfl) (Nat.le_of_ble_eq_true rfl) ?_
  refine W.eq (g2 := F0 m 4 ls []) rfl ?_
  refine lv_aload_n hx hb dX9_init_4 rfl (lv_at hl 0 rfl) ?_
  refine lv_sipush (v := 600) hx hb dX9_init_5 (by decide) ?_
  refine z_newa C G 1 (ty := .byte) (N' := 600) (a0 := (600, .inl (fun _ => 0))) rfl z_ubyte m_ar_byte rfl (fun _ => rfl) (by decide) (by decide) (Nat.le_of_ble_eq_true rfl) (Nat.le_of_ble_eq_true rfl) (Nat.le_of_ble_eq_true rfl) dX9_init_8 (fun q_1 H G => ?_)
  have G : zS T A s.heap s [[(h, .inr (8, [.null, .int 0, .int 0, .int 0, .null, .null, .null, .null]))], [(q_1, .inl (T.2 1, 600, .inl (fun _ => 0)))]] _ _ := G
  refine z_putF C G hnm clX9 0 rfl 0 (by decide) m_fl_RX9_9 rfl rfl rfl rfl (Nat.le_of_ble_eq_true rfl) dX9_init_10 (fun H locs G => ?_)
  have G : zS T A s.heap s [[(h, .inr (8, [.ref q_1, .int 0, .int 0, .int 0, .null, .null, .null, .null]))], [(q_1, .inl (T.2 1, 600, .inl (fun _ => 0)))]] _ _ := G
  refine lv_aload_n hx hb dX9_init_13 rfl (lv_at hl 0 rfl) ?_
  refine lv_iconst (v := (-1)) hx hb dX9_init_14 (by decide) ?_
  refine z_put C G clX9 0 rfl 3 (by decide) m_fl_RX9_15 rfl rfl rfl (Nat.le_of_ble_eq_true rfl) dX9_init_15 (fun H locs G => ?_)
  have G : zS T A s.heap s [[(h, .inr (8, [.ref q_1, .int 0, .int 0, .int (-1), .null, .null, .null, .null]))], [(q_1, .inl (T.2 1, 600, .inl (fun _ => 0)))]] _ _ := G
  refine lv_aload_n hx hb dX9_init_18 rfl (lv_at hl 0 rfl) ?_
  refine lv_iconst (v := 3) hx hb dX9_init_19 (by decide) ?_
  refine z_newa C G 0 (ty := .int) (N' := 3) (a0 := (3, .inl (fun _ => 0))) rfl z_uint m_ar_int rfl (fun _ => rfl) (by decide) (by decide) (Nat.le_of_ble_eq_true rfl) (Nat.le_of_ble_eq_true rfl) (Nat.le_of_ble_eq_true rfl) dX9_init_20 (fun q_2 H G => ?_)
  have G : zS T A s.heap s [[(h, .inr (8, [.ref q_1, .int 0, .int 0, .int (-1), .null, .null, .null, .null]))], [(q_1, .inl (T.2 1, 600, .inl (fun _ => 0)))], [(q_2, .inl (T.2 0, 3, .inl (fun _ => 0)))]] _ _ := G
  refine z_putF C G hnm clX9 0 rfl 4 (by decide) m_fl_RX9_19 rfl rfl rfl rfl (Nat.le_of_ble_eq_true rfl) dX9_init_22 (fun H locs G => ?_)
  have G : zS T A s.heap s [[(h, .inr (8, [.ref q_1, .int 0, .int 0, .int (-1), .ref q_2, .null, .null, .null]))], [(q_1, .inl (T.2 1, 600, .inl (fun _ => 0)))], [(q_2, .inl (T.2 0, 3, .inl (fun _ => 0)))]] _ _ := G
  refine lv_aload_n hx hb dX9_init_25 rfl (lv_at hl 0 rfl) ?_
  refine lv_iconst (v := 2) hx hb dX9_init_26 (by decide) ?_
  refine z_newq C G 3 rfl m_cl_RX9_23 (List.mem_of_getElem? (i := 0) rfl) (N' := 2) (by decide) (by decide) (by decide) (Nat.le_of_ble_eq_true rfl) (Nat.le_of_ble_eq_true rfl) dX9_init_27 (fun q_3 H G => ?_)
  have G : zS T A s.heap s [[(h, .inr (8, [.ref q_1, .int 0, .int 0, .int (-1), .ref q_2, .null, .null, .null]))], [(q_1, .inl (T.2 1, 600, .inl (fun _ => 0)))], [(q_2, .inl (T.2 0, 3, .inl (fun _ => 0)))], [(q_3, .inl (T.2 3, 2, .inr (.inr (.inr (.inr (fun _ => none))))))]] _ _ := G
  refine lv_dup hx hb dX9_init_30 rfl ?_
  refine lv_iconst (v := 0) hx hb dX9_init_31 (by decide) ?_
  refine z_new C G clX4 (fs := [.int 0, .int 0, .null, .null, .null, .null]) m_cl_RX9_23 m_in_RX4 m_ii_RX4 (fun j hj => by match j, hj with | 0, _ => rfl | 1, _ => rfl | 2, _ => rfl | 3, _ => rfl | 4, _ => rfl | 5, _ => rfl | j + 6, h => exact absurd h (by omega)) (Nat.le_of_ble_eq_true rfl) (Nat.le_of_ble_eq_true rfl) dX9_init_32 (fun q_4 H G => ?_)
  have G : zS T A s.heap s [[(h, .inr (8, [.ref q_1, .int 0, .int 0, .int (-1), .ref q_2, .null, .null, .null]))], [(q_1, .inl (T.2 1, 600, .inl (fun _ => 0)))], [(q_2, .inl (T.2 0, 3, .inl (fun _ => 0)))], [(q_3, .inl (T.2 3, 2, .inr (.inr (.inr (.inr (fun _ => none))))))], [(q_4, .inr (4, [.int 0, .int 0, .null, .null, .null, .null]))]] _ _ := G
  refine lv_dup hx hb dX9_init_35 rfl ?_
  refine z_Jv (bc := [[(q_4, .inr (4, [.int 0, .int 0, .null, .null, .null, .null]))]]) (br := [[(h, .inr (8, [.ref q_1, .int 0, .int 0, .int (-1), .ref q_2, .null, .null, .null]))], [(q_1, .inl (T.2 1, 600, .inl (fun _ => 0)))], [(q_2, .inl (T.2 0, 3, .inl (fun _ => 0)))], [(q_3, .inl (T.2 3, 2, .inr (.inr (.inr (.inr (fun _ => none))))))]]) (As := []) (rest := [.ref q_4, .int 0, .ref q_3, .ref q_3, .ref h]) C G (c_Land_init l T q_4) (kJ_RX9_25 G.2.2.2.2.2.1 C.2.2.2.2 (Nat.le_of_ble_eq_true rfl) (Nat.le_of_ble_eq_true rfl)) [4] [0, 1, 2, 3] rfl rfl rfl rfl hl.1 dX9_init_36 (Nat.le_of_ble_eq_true rfl) (Nat.le_of_ble_eq_true rfl) (fun b1 H locs hw G => ?_)
  obtain ⟨w_5, rfl, h_6⟩ := hw
  have G : zS T A s.heap s [[(h, .inr (8, [.ref q_1, .int 0, .int 0, .int (-1), .ref q_2, .null, .null, .null]))], [(q_1, .inl (T.2 1, 600, .inl (fun _ => 0)))], [(q_2, .inl (T.2 0, 3, .inl (fun _ => 0)))], [(q_3, .inl (T.2 3, 2, .inr (.inr (.inr (.inr (fun _ => none))))))], w_5] _ _ := G
  refine z_ast C G 3 3 (ci := 4) (r := (RX4, TX4, 6)) rfl rfl (List.mem_flatten.mpr ⟨_, List.mem_of_getElem? (i := 4) rfl, (bLand_mem h_6).choose_spec⟩) rfl (vp_in_nI (n := 0) (by decide) (by decide)) dX9_init_39 (fun H locs G => ?_)
  have G : zS T A s.heap s [[(h, .inr (8, [.ref q_1, .int 0, .int 0, .int (-1), .ref q_2, .null, .null, .null]))], [(q_1, .inl (T.2 1, 600, .inl (fun _ => 0)))], [(q_2, .inl (T.2 0, 3, .inl (fun _ => 0)))], [(q_3, .inl (T.2 3, 2, .inr (.inr (.inr (.inr (va_up (fun _ => none) 0 (some q_4)))))))], w_5] _ _ := G
  refine lv_dup hx hb dX9_init_40 rfl ?_
  refine lv_iconst (v := 1) hx hb dX9_init_41 (by decide) ?_
  refine z_new C G clX4 (fs := [.int 0, .int 0, .null, .null, .null, .null]) m_cl_RX9_23 m_in_RX4 m_ii_RX4 (fun j hj => by match j, hj with | 0, _ => rfl | 1, _ => rfl | 2, _ => rfl | 3, _ => rfl | 4, _ => rfl | 5, _ => rfl | j + 6, h => exact absurd h (by omega)) (Nat.le_of_ble_eq_true rfl) (Nat.le_of_ble_eq_true rfl) dX9_init_42 (fun q_8 H G => ?_)
  have G : zS T A s.heap s [[(h, .inr (8, [.ref q_1, .int 0, .int 0, .int (-1), .ref q_2, .null, .null, .null]))], [(q_1, .inl (T.2 1, 600, .inl (fun _ => 0)))], [(q_2, .inl (T.2 0, 3, .inl (fun _ => 0)))], [(q_3, .inl (T.2 3, 2, .inr (.inr (.inr (.inr (va_up (fun _ => none) 0 (some q_4)))))))], w_5, [(q_8, .inr (4, [.int 0, .int 0, .null, .null, .null, .null]))]] _ _ := G
  refine lv_dup hx hb dX9_init_45 rfl ?_
  refine z_Jv (bc := [[(q_8, .inr (4, [.int 0, .int 0, .null, .null, .null, .null]))]]) (br := [[(h, .inr (8, [.ref q_1, .int 0, .int 0, .int (-1), .ref q_2, .null, .null, .null]))], [(q_1, .inl (T.2 1, 600, .inl (fun _ => 0)))], [(q_2, .inl (T.2 0, 3, .inl (fun _ => 0)))], [(q_3, .inl (T.2 3, 2, .inr (.inr (.inr (.inr (va_up (fun _ => none) 0 (some q_4)))))))], w_5]) (As := []) (rest := [.ref q_8, .int 1, .ref q_3, .ref q_3, .ref h]) C G (c_Land_init l T q_8) (kJ_RX9_25 G.2.2.2.2.2.1 C.2.2.2.2 (Nat.le_of_ble_eq_true rfl) (Nat.le_of_ble_eq_true rfl)) [5] [0, 1, 2, 3, 4] rfl rfl rfl rfl hl.1 dX9_init_46 (Nat.le_of_ble_eq_true rfl) (Nat.le_of_ble_eq_true rfl) (fun b1 H locs hw G => ?_)
  obtain ⟨w_9, rfl, h_10⟩ := hw
  have G : zS T A s.heap s [[(h, .inr (8, [.ref q_1, .int 0, .int 0, .int (-1), .ref q_2, .null, .null, .null]))], [(q_1, .inl (T.2 1, 600, .inl (fun _ => 0)))], [(q_2, .inl (T.2 0, 3, .inl (fun _ => 0)))], [(q_3, .inl (T.2 3, 2, .inr (.inr (.inr (.inr (va_up (fun _ => none) 0 (some q_4)))))))], w_5, w_9] _ _ := G
  refine z_ast C G 3 3 (ci := 4) (r := (RX4, TX4, 6)) rfl rfl (List.mem_flatten.mpr ⟨_, List.mem_of_getElem? (i := 5) rfl, (bLand_mem h_10).choose_spec⟩) rfl (vp_in_nI (n := 1) (by decide) (by decide)) dX9_init_49 (fun H locs G => ?_)
  have G : zS T A s.heap s [[(h, .inr (8, [.ref q_1, .int 0, .int 0, .int (-1), .ref q_2, .null, .null, .null]))], [(q_1, .inl (T.2 1, 600, .inl (fun _ => 0)))], [(q_2, .inl (T.2 0, 3, .inl (fun _ => 0)))], [(q_3, .inl (T.2 3, 2, .inr (.inr (.inr (.inr (va_up (va_up (fun _ => none) 0 (some q_4)) 1 (some q_8)))))))], w_5, w_9] _ _ := G
  refine z_putF C G hnm clX9 0 rfl 5 (by decide) m_fl_RX9_26 rfl rfl rfl rfl (Nat.le_of_ble_eq_true rfl) dX9_init_50 (fun H locs G => ?_)
  have G : zS T A s.heap s [[(h, .inr (8, [.ref q_1, .int 0, .int 0, .int (-1), .ref q_2, .ref q_3, .null, .null]))], [(q_1, .inl (T.2 1, 600, .inl (fun _ => 0)))], [(q_2, .inl (T.2 0, 3, .inl (fun _ => 0)))], [(q_3, .inl (T.2 3, 2, .inr (.inr (.inr (.inr (va_up (va_up (fun _ => none) 0 (some q_4)) 1 (some q_8)))))))], w_5, w_9] _ _ := G
  refine lv_aload_n hx hb dX9_init_53 rfl (lv_at hl 0 rfl) ?_
  refine lv_iconst (v := 2) hx hb dX9_init_54 (by decide) ?_
  refine z_newq C G 4 rfl m_cl_RX9_30 (List.mem_of_getElem? (i := 1) rfl) (N' := 2) (by decide) (by decide) (by decide) (Nat.le_of_ble_eq_true rfl) (Nat.le_of_ble_eq_true rfl) dX9_init_55 (fun q_12 H G => ?_)
  have G : zS T A s.heap s [[(h, .inr (8, [.ref q_1, .int 0, .int 0, .int (-1), .ref q_2, .ref q_3, .null, .null]))], [(q_1, .inl (T.2 1, 600, .inl (fun _ => 0)))], [(q_2, .inl (T.2 0, 3, .inl (fun _ => 0)))], [(q_3, .inl (T.2 3, 2, .inr (.inr (.inr (.inr (va_up (va_up (fun _ => none) 0 (some q_4)) 1 (some q_8)))))))], w_5, w_9, [(q_12, .inl (T.2 4, 2, .inr (.inr (.inr (.inr (fun _ => none))))))]] _ _ := G
  refine lv_dup hx hb dX9_init_58 rfl ?_
  refine lv_iconst (v := 0) hx hb dX9_init_59 (by decide) ?_
  refine z_new C G clX2 (fs := [.int 0, .null, .null, .null]) m_cl_RX9_30 m_in_RX2 m_ii_RX2 (fun j hj => by match j, hj with | 0, _ => rfl | 1, _ => rfl | 2, _ => rfl | 3, _ => rfl | j + 4, h => exact absurd h (by omega)) (Nat.le_of_ble_eq_true rfl) (Nat.le_of_ble_eq_true rfl) dX9_init_60 (fun q_13 H G => ?_)
  have G : zS T A s.heap s [[(h, .inr (8, [.ref q_1, .int 0, .int 0, .int (-1), .ref q_2, .ref q_3, .null, .null]))], [(q_1, .inl (T.2 1, 600, .inl (fun _ => 0)))], [(q_2, .inl (T.2 0, 3, .inl (fun _ => 0)))], [(q_3, .inl (T.2 3, 2, .inr (.inr (.inr (.inr (va_up (va_up (fun _ => none) 0 (some q_4)) 1 (some q_8)))))))], w_5, w_9, [(q_12, .inl (T.2 4, 2, .inr (.inr (.inr (.inr (fun _ => none))))))], [(q_13, .inr (2, [.int 0, .null, .null, .null]))]] _ _ := G
  refine lv_dup hx hb dX9_init_63 rfl ?_
  refine z_Jv (bc := [[(q_13, .inr (2, [.int 0, .null, .null, .null]))]]) (br := [[(h, .inr (8, [.ref q_1, .int 0, .int 0, .int (-1), .ref q_2, .ref q_3, .null, .null]))], [(q_1, .inl (T.2 1, 600, .inl (fun _ => 0)))], [(q_2, .inl (T.2 0, 3, .inl (fun _ => 0)))], [(q_3, .inl (T.2 3, 2, .inr (.inr (.inr (.inr (va_up (va_up (fun _ => none) 0 (some q_4)) 1 (some q_8)))))))], w_5, w_9, [(q_12, .inl (T.2 4, 2, .inr (.inr (.inr (.inr (fun _ => none))))))]]) (As := []) (rest := [.ref q_13, .int 0, .ref q_12, .ref q_12, .ref h]) C G (c_Day_init l T q_13) (kJ_RX9_32 G.2.2.2.2.2.1 C.2.2.2.2 (Nat.le_of_ble_eq_true rfl) (Nat.le_of_ble_eq_true rfl)) [7] [0, 1, 2, 3, 4, 5, 6] rfl rfl rfl rfl hl.1 dX9_init_64 (Nat.le_of_ble_eq_true rfl) (Nat.le_of_ble_eq_true rfl) (fun b1 H locs hw G => ?_)
  obtain ⟨w_14, rfl, h_15⟩ := hw
  have G : zS T A s.heap s [[(h, .inr (8, [.ref q_1, .int 0, .int 0, .int (-1), .ref q_2, .ref q_3, .null, .null]))], [(q_1, .inl (T.2 1, 600, .inl (fun _ => 0)))], [(q_2, .inl (T.2 0, 3, .inl (fun _ => 0)))], [(q_3, .inl (T.2 3, 2, .inr (.inr (.inr (.inr (va_up (va_up (fun _ => none) 0 (some q_4)) 1 (some q_8)))))))], w_5, w_9, [(q_12, .inl (T.2 4, 2, .inr (.inr (.inr (.inr (fun _ => none))))))], w_14] _ _ := G
  refine z_ast C G 6 4 (ci := 2) (r := (RX2, TX2, 4)) rfl rfl (List.mem_flatten.mpr ⟨_, List.mem_of_getElem? (i := 7) rfl, (bDay_mem h_15).choose_spec⟩) rfl (vp_in_nI (n := 0) (by decide) (by decide)) dX9_init_67 (fun H locs G => ?_)
  have G : zS T A s.heap s [[(h, .inr (8, [.ref q_1, .int 0, .int 0, .int (-1), .ref q_2, .ref q_3, .null, .null]))], [(q_1, .inl (T.2 1, 600, .inl (fun _ => 0)))], [(q_2, .inl (T.2 0, 3, .inl (fun _ => 0)))], [(q_3, .inl (T.2 3, 2, .inr (.inr (.inr (.inr (va_up (va_up (fun _ => none) 0 (some q_4)) 1 (some q_8)))))))], w_5, w_9, [(q_12, .inl (T.2 4, 2, .inr (.inr (.inr (.inr (va_up (fun _ => none) 0 (some q_13)))))))], w_14] _ _ := G
  refine lv_dup hx hb dX9_init_68 rfl ?_
  refine lv_iconst (v := 1) hx hb dX9_init_69 (by decide) ?_
  refine z_new C G clX2 (fs := [.int 0, .null, .null, .null]) m_cl_RX9_30 m_in_RX2 m_ii_RX2 (fun j hj => by match j, hj with | 0, _ => rfl | 1, _ => rfl | 2, _ => rfl | 3, _ => rfl | j + 4, h => exact absurd h (by omega)) (Nat.le_of_ble_eq_true rfl) (Nat.le_of_ble_eq_true rfl) dX9_init_70 (fun q_17 H G => ?_)
  have G : zS T A s.heap s [[(h, .inr (8, [.ref q_1, .int 0, .int 0, .int (-1), .ref q_2, .ref q_3, .null, .null]))], [(q_1, .inl (T.2 1, 600, .inl (fun _ => 0)))], [(q_2, .inl (T.2 0, 3, .inl (fun _ => 0)))], [(q_3, .inl (T.2 3, 2, .inr (.inr (.inr (.inr (va_up (va_up (fun _ => none) 0 (some q_4)) 1 (some q_8)))))))], w_5, w_9, [(q_12, .inl (T.2 4, 2, .inr (.inr (.inr (.inr (va_up (fun _ => none) 0 (some q_13)))))))], w_14, [(q_17, .inr (2, [.int 0, .null, .null, .null]))]] _ _ := G
  refine lv_dup hx hb dX9_init_73 rfl ?_
  refine z_Jv (bc := [[(q_17, .inr (2, [.int 0, .null, .null, .null]))]]) (br := [[(h, .inr (8, [.ref q_1, .int 0, .int 0, .int (-1), .ref q_2, .ref q_3, .null, .null]))], [(q_1, .inl (T.2 1, 600, .inl (fun _ => 0)))], [(q_2, .inl (T.2 0, 3, .inl (fun _ => 0)))], [(q_3, .inl (T.2 3, 2, .inr (.inr (.inr (.inr (va_up (va_up (fun _ => none) 0 (some q_4)) 1 (some q_8)))))))], w_5, w_9, [(q_12, .inl (T.2 4, 2, .inr (.inr (.inr (.inr (va_up (fun _ => none) 0 (some q_13)))))))], w_14]) (As := []) (rest := [.ref q_17, .int 1, .ref q_12, .ref q_12, .ref h]) C G (c_Day_init l T q_17) (kJ_RX9_32 G.2.2.2.2.2.1 C.2.2.2.2 (Nat.le_of_ble_eq_true rfl) (Nat.le_of_ble_eq_true rfl)) [8] [0, 1, 2, 3, 4, 5, 6, 7] rfl rfl rfl rfl hl.1 dX9_init_74 (Nat.le_of_ble_eq_true rfl) (Nat.le_of_ble_eq_true rfl) (fun b1 H locs hw G => ?_)
  obtain ⟨w_18, rfl, h_19⟩ := hw
  have G : zS T A s.heap s [[(h, .inr (8, [.ref q_1, .int 0, .int 0, .int (-1), .ref q_2, .ref q_3, .null, .null]))], [(q_1, .inl (T.2 1, 600, .inl (fun _ => 0)))], [(q_2, .inl (T.2 0, 3, .inl (fun _ => 0)))], [(q_3, .inl (T.2 3, 2, .inr (.inr (.inr (.inr (va_up (va_up (fun _ => none) 0 (some q_4)) 1 (some q_8)))))))], w_5, w_9, [(q_12, .inl (T.2 4, 2, .inr (.inr (.inr (.inr (va_up (fun _ => none) 0 (some q_13)))))))], w_14, w_18] _ _ := G
  refine z_ast C G 6 4 (ci := 2) (r := (RX2, TX2, 4)) rfl rfl (List.mem_flatten.mpr ⟨_, List.mem_of_getElem? (i := 8) rfl, (bDay_mem h_19).choose_spec⟩) rfl (vp_in_nI (n := 1) (by decide) (by decide)) dX9_init_77 (fun H locs G => ?_)
  have G : zS T A s.heap s [[(h, .inr (8, [.ref q_1, .int 0, .int 0, .int (-1), .ref q_2, .ref q_3, .null, .null]))], [(q_1, .inl (T.2 1, 600, .inl (fun _ => 0)))], [(q_2, .inl (T.2 0, 3, .inl (fun _ => 0)))], [(q_3, .inl (T.2 3, 2, .inr (.inr (.inr (.inr (va_up (va_up (fun _ => none) 0 (some q_4)) 1 (some q_8)))))))], w_5, w_9, [(q_12, .inl (T.2 4, 2, .inr (.inr (.inr (.inr (va_up (va_up (fun _ => none) 0 (some q_13)) 1 (some q_17)))))))], w_14, w_18] _ _ := G
  refine z_putF C G hnm clX9 0 rfl 6 (by decide) m_fl_RX9_33 rfl rfl rfl rfl (Nat.le_of_ble_eq_true rfl) dX9_init_78 (fun H locs G => ?_)
  have G : zS T A s.heap s [[(h, .inr (8, [.ref q_1, .int 0, .int 0, .int (-1), .ref q_2, .ref q_3, .ref q_12, .null]))], [(q_1, .inl (T.2 1, 600, .inl (fun _ => 0)))], [(q_2, .inl (T.2 0, 3, .inl (fun _ => 0)))], [(q_3, .inl (T.2 3, 2, .inr (.inr (.inr (.inr (va_up (va_up (fun _ => none) 0 (some q_4)) 1 (some q_8)))))))], w_5, w_9, [(q_12, .inl (T.2 4, 2, .inr (.inr (.inr (.inr (va_up (va_up (fun _ => none) 0 (some q_13)) 1 (some q_17)))))))], w_14, w_18] _ _ := G
  refine lv_aload_n hx hb dX9_init_81 rfl (lv_at hl 0 rfl) ?_
  refine lv_iconst (v := 2) hx hb dX9_init_82 (by decide) ?_
  refine z_newq C G 5 rfl m_cl_RX9_37 (List.mem_of_getElem? (i := 2) rfl) (N' := 2) (by decide) (by decide) (by decide) (Nat.le_of_ble_eq_true rfl) (Nat.le_of_ble_eq_true rfl) dX9_init_83 (fun q_21 H G => ?_)
  have G : zS T A s.heap s [[(h, .inr (8, [.ref q_1, .int 0, .int 0, .int (-1), .ref q_2, .ref q_3, .ref q_12, .null]))], [(q_1, .inl (T.2 1, 600, .inl (fun _ => 0)))], [(q_2, .inl (T.2 0, 3, .inl (fun _ => 0)))], [(q_3, .inl (T.2 3, 2, .inr (.inr (.inr (.inr (va_up (va_up (fun _ => none) 0 (some q_4)) 1 (some q_8)))))))], w_5, w_9, [(q_12, .inl (T.2 4, 2, .inr (.inr (.inr (.inr (va_up (va_up (fun _ => none) 0 (some q_13)) 1 (some q_17)))))))], w_14, w_18, [(q_21, .inl (T.2 5, 2, .inr (.inr (.inr (.inr (fun _ => none))))))]] _ _ := G
  refine lv_dup hx hb dX9_init_86 rfl ?_
  refine lv_iconst (v := 0) hx hb dX9_init_87 (by decide) ?_
  refine z_new C G clX5 (fs := [.int 0, .null, .null]) m_cl_RX9_37 m_in_RX5 m_ii_RX5 (fun j hj => by match j, hj with | 0, _ => rfl | 1, _ => rfl | 2, _ => rfl | j + 3, h => exact absurd h (by omega)) (Nat.le_of_ble_eq_true rfl) (Nat.le_of_ble_eq_true rfl) dX9_init_88 (fun q_22 H G => ?_)
  have G : zS T A s.heap s [[(h, .inr (8, [.ref q_1, .int 0, .int 0, .int (-1), .ref q_2, .ref q_3, .ref q_12, .null]))], [(q_1, .inl (T.2 1, 600, .inl (fun _ => 0)))], [(q_2, .inl (T.2 0, 3, .inl (fun _ => 0)))], [(q_3, .inl (T.2 3, 2, .inr (.inr (.inr (.inr (va_up (va_up (fun _ => none) 0 (some q_4)) 1 (some q_8)))))))], w_5, w_9, [(q_12, .inl (T.2 4, 2, .inr (.inr (.inr (.inr (va_up (va_up (fun _ => none) 0 (some q_13)) 1 (some q_17)))))))], w_14, w_18, [(q_21, .inl (T.2 5, 2, .inr (.inr (.inr (.inr (fun _ => none))))))], [(q_22, .inr (5, [.int 0, .null, .null]))]] _ _ := G
  refine lv_dup hx hb dX9_init_91 rfl ?_
  refine z_Jv (bc := [[(q_22, .inr (5, [.int 0, .null, .null]))]]) (br := [[(h, .inr (8, [.ref q_1, .int 0, .int 0, .int (-1), .ref q_2, .ref q_3, .ref q_12, .null]))], [(q_1, .inl (T.2 1, 600, .inl (fun _ => 0)))], [(q_2, .inl (T.2 0, 3, .inl (fun _ => 0)))], [(q_3, .inl (T.2 3, 2, .inr (.inr (.inr (.inr (va_up (va_up (fun _ => none) 0 (some q_4)) 1 (some q_8)))))))], w_5, w_9, [(q_12, .inl (T.2 4, 2, .inr (.inr (.inr (.inr (va_up (va_up (fun _ => none) 0 (some q_13)) 1 (some q_17)))))))], w_14, w_18, [(q_21, .inl (T.2 5, 2, .inr (.inr (.inr (.inr (fun _ => none))))))]]) (As := []) (rest := [.ref q_22, .int 0, .ref q_21, .ref q_21, .ref h]) C G (c_Log_init l T q_22) (kJ_RX9_39 G.2.2.2.2.2.1 C.2.2.2.2 (Nat.le_of_ble_eq_true rfl) (Nat.le_of_ble_eq_true rfl)) [10] [0, 1, 2, 3, 4, 5, 6, 7, 8, 9] rfl rfl rfl rfl hl.1 dX9_init_92 (Nat.le_of_ble_eq_true rfl) (Nat.le_of_ble_eq_true rfl) (fun b1 H locs hw G => ?_)
  obtain ⟨w_23, rfl, h_24⟩ := hw
  have G : zS T A s.heap s [[(h, .inr (8, [.ref q_1, .int 0, .int 0, .int (-1), .ref q_2, .ref q_3, .ref q_12, .null]))], [(q_1, .inl (T.2 1, 600, .inl (fun _ => 0)))], [(q_2, .inl (T.2 0, 3, .inl (fun _ => 0)))], [(q_3, .inl (T.2 3, 2, .inr (.inr (.inr (.inr (va_up (va_up (fun _ => none) 0 (some q_4)) 1 (some q_8)))))))], w_5, w_9, [(q_12, .inl (T.2 4, 2, .inr (.inr (.inr (.inr (va_up (va_up (fun _ => none) 0 (some q_13)) 1 (some q_17)))))))], w_14, w_18, [(q_21, .inl (T.2 5, 2, .inr (.inr (.inr (.inr (fun _ => none))))))], w_23] _ _ := G
  refine z_ast C G 9 5 (ci := 5) (r := (RX5, TX5, 3)) rfl rfl (List.mem_flatten.mpr ⟨_, List.mem_of_getElem? (i := 10) rfl, (bLog_mem h_24).choose_spec⟩) rfl (vp_in_nI (n := 0) (by decide) (by decide)) dX9_init_95 (fun H locs G => ?_)
  have G : zS T A s.heap s [[(h, .inr (8, [.ref q_1, .int 0, .int 0, .int (-1), .ref q_2, .ref q_3, .ref q_12, .null]))], [(q_1, .inl (T.2 1, 600, .inl (fun _ => 0)))], [(q_2, .inl (T.2 0, 3, .inl (fun _ => 0)))], [(q_3, .inl (T.2 3, 2, .inr (.inr (.inr (.inr (va_up (va_up (fun _ => none) 0 (some q_4)) 1 (some q_8)))))))], w_5, w_9, [(q_12, .inl (T.2 4, 2, .inr (.inr (.inr (.inr (va_up (va_up (fun _ => none) 0 (some q_13)) 1 (some q_17)))))))], w_14, w_18, [(q_21, .inl (T.2 5, 2, .inr (.inr (.inr (.inr (va_up (fun _ => none) 0 (some q_22)))))))], w_23] _ _ := G
  refine lv_dup hx hb dX9_init_96 rfl ?_
  refine lv_iconst (v := 1) hx hb dX9_init_97 (by decide) ?_
  refine z_new C G clX5 (fs := [.int 0, .null, .null]) m_cl_RX9_37 m_in_RX5 m_ii_RX5 (fun j hj => by match j, hj with | 0, _ => rfl | 1, _ => rfl | 2, _ => rfl | j + 3, h => exact absurd h (by omega)) (Nat.le_of_ble_eq_true rfl) (Nat.le_of_ble_eq_true rfl) dX9_init_98 (fun q_26 H G => ?_)
  have G : zS T A s.heap s [[(h, .inr (8, [.ref q_1, .int 0, .int 0, .int (-1), .ref q_2, .ref q_3, .ref q_12, .null]))], [(q_1, .inl (T.2 1, 600, .inl (fun _ => 0)))], [(q_2, .inl (T.2 0, 3, .inl (fun _ => 0)))], [(q_3, .inl (T.2 3, 2, .inr (.inr (.inr (.inr (va_up (va_up (fun _ => none) 0 (some q_4)) 1 (some q_8)))))))], w_5, w_9, [(q_12, .inl (T.2 4, 2, .inr (.inr (.inr (.inr (va_up (va_up (fun _ => none) 0 (some q_13)) 1 (some q_17)))))))], w_14, w_18, [(q_21, .inl (T.2 5, 2, .inr (.inr (.inr (.inr (va_up (fun _ => none) 0 (some q_22)))))))], w_23, [(q_26, .inr (5, [.int 0, .null, .null]))]] _ _ := G
  refine lv_dup hx hb dX9_init_101 rfl ?_
  refine z_Jv (bc := [[(q_26, .inr (5, [.int 0, .null, .null]))]]) (br := [[(h, .inr (8, [.ref q_1, .int 0, .int 0, .int (-1), .ref q_2, .ref q_3, .ref q_12, .null]))], [(q_1, .inl (T.2 1, 600, .inl (fun _ => 0)))], [(q_2, .inl (T.2 0, 3, .inl (fun _ => 0)))], [(q_3, .inl (T.2 3, 2, .inr (.inr (.inr (.inr (va_up (va_up (fun _ => none) 0 (some q_4)) 1 (some q_8)))))))], w_5, w_9, [(q_12, .inl (T.2 4, 2, .inr (.inr (.inr (.inr (va_up (va_up (fun _ => none) 0 (some q_13)) 1 (some q_17)))))))], w_14, w_18, [(q_21, .inl (T.2 5, 2, .inr (.inr (.inr (.inr (va_up (fun _ => none) 0 (some q_22)))))))], w_23]) (As := []) (rest := [.ref q_26, .int 1, .ref q_21, .ref q_21, .ref h]) C G (c_Log_init l T q_26) (kJ_RX9_39 G.2.2.2.2.2.1 C.2.2.2.2 (Nat.le_of_ble_eq_true rfl) (Nat.le_of_ble_eq_true rfl)) [11] [0, 1, 2, 3, 4, 5, 6, 7, 8, 9, 10] rfl rfl rfl rfl hl.1 dX9_init_102 (Nat.le_of_ble_eq_true rfl) (Nat.le_of_ble_eq_true rfl) (fun b1 H locs hw G => ?_)
  obtain ⟨w_27, rfl, h_28⟩ := hw
  have G : zS T A s.heap s [[(h, .inr (8, [.ref q_1, .int 0, .int 0, .int (-1), .ref q_2, .ref q_3, .ref q_12, .null]))], [(q_1, .inl (T.2 1, 600, .inl (fun _ => 0)))], [(q_2, .inl (T.2 0, 3, .inl (fun _ => 0)))], [(q_3, .inl (T.2 3, 2, .inr (.inr (.inr (.inr (va_up (va_up (fun _ => none) 0 (some q_4)) 1 (some q_8)))))))], w_5, w_9, [(q_12, .inl (T.2 4, 2, .inr (.inr (.inr (.inr (va_up (va_up (fun _ => none) 0 (some q_13)) 1 (some q_17)))))))], w_14, w_18, [(q_21, .inl (T.2 5, 2, .inr (.inr (.inr (.inr (va_up (fun _ => none) 0 (some q_22)))))))], w_23, w_27] _ _ := G
  refine z_ast C G 9 5 (ci := 5) (r := (RX5, TX5, 3)) rfl rfl (List.mem_flatten.mpr ⟨_, List.mem_of_getElem? (i := 11) rfl, (bLog_mem h_28).choose_spec⟩) rfl (vp_in_nI (n := 1) (by decide) (by decide)) dX9_init_105 (fun H locs G => ?_)
  have G : zS T A s.heap s [[(h, .inr (8, [.ref q_1, .int 0, .int 0, .int (-1), .ref q_2, .ref q_3, .ref q_12, .null]))], [(q_1, .inl (T.2 1, 600, .inl (fun _ => 0)))], [(q_2, .inl (T.2 0, 3, .inl (fun _ => 0)))], [(q_3, .inl (T.2 3, 2, .inr (.inr (.inr (.inr (va_up (va_up (fun _ => none) 0 (some q_4)) 1 (some q_8)))))))], w_5, w_9, [(q_12, .inl (T.2 4, 2, .inr (.inr (.inr (.inr (va_up (va_up (fun _ => none) 0 (some q_13)) 1 (some q_17)))))))], w_14, w_18, [(q_21, .inl (T.2 5, 2, .inr (.inr (.inr (.inr (va_up (va_up (fun _ => none) 0 (some q_22)) 1 (some q_26)))))))], w_23, w_27] _ _ := G
  refine z_putF C G hnm clX9 0 rfl 7 (by decide) m_fl_RX9_40 rfl rfl rfl rfl (Nat.le_of_ble_eq_true rfl) dX9_init_106 (fun H locs G => ?_)
  have G : zS T A s.heap s [[(h, .inr (8, [.ref q_1, .int 0, .int 0, .int (-1), .ref q_2, .ref q_3, .ref q_12, .ref q_21]))], [(q_1, .inl (T.2 1, 600, .inl (fun _ => 0)))], [(q_2, .inl (T.2 0, 3, .inl (fun _ => 0)))], [(q_3, .inl (T.2 3, 2, .inr (.inr (.inr (.inr (va_up (va_up (fun _ => none) 0 (some q_4)) 1 (some q_8)))))))], w_5, w_9, [(q_12, .inl (T.2 4, 2, .inr (.inr (.inr (.inr (va_up (va_up (fun _ => none) 0 (some q_13)) 1 (some q_17)))))))], w_14, w_18, [(q_21, .inl (T.2 5, 2, .inr (.inr (.inr (.inr (va_up (va_up (fun _ => none) 0 (some q_22)) 1 (some q_26)))))))], w_23, w_27] _ _ := G
  have G := G.sub (bs' := [[(h, .inr (8, [.ref q_1, .int 0, .int 0, .int (-1), .ref q_2, .ref q_3, .ref q_12, .ref q_21]))], [(q_1, .inl (T.2 1, 600, .inl (fun _ => 0)))], [(q_2, .inl (T.2 0, 3, .inl (fun _ => 0)))], [(q_3, .inl (T.2 3, 2, .inr (.inr (.inr (.inr (va_up (va_up (fun _ => none) 0 (some q_4)) 1 (some q_8)))))))], [(q_12, .inl (T.2 4, 2, .inr (.inr (.inr (.inr (va_up (va_up (fun _ => none) 0 (some q_13)) 1 (some q_17)))))))], [(q_21, .inl (T.2 5, 2, .inr (.inr (.inr (.inr (va_up (va_up (fun _ => none) 0 (some q_22)) 1 (some q_26)))))))], w_5, w_9, w_14, w_18, w_23, w_27]) [0, 1, 2, 3, 6, 9, 4, 5, 7, 8, 10, 11] rfl
  have hw_30 : bTold T h q_4 q_8 q_13 q_17 q_22 q_26 0 0 (-1) (fun _ => 0) (fun _ => 0) [(h, .inr (8, [.ref q_1, .int 0, .int 0, .int (-1), .ref q_2, .ref q_3, .ref q_12, .ref q_21])), (q_1, .inl (T.2 1, 600, .inl (fun _ => 0))), (q_2, .inl (T.2 0, 3, .inl (fun _ => 0))), (q_3, .inl (T.2 3, 2, .inr (.inr (.inr (.inr (va_up (va_up (fun _ => none) 0 (some q_4)) 1 (some q_8))))))), (q_12, .inl (T.2 4, 2, .inr (.inr (.inr (.inr (va_up (va_up (fun _ => none) 0 (some q_13)) 1 (some q_17))))))), (q_21, .inl (T.2 5, 2, .inr (.inr (.inr (.inr (va_up (va_up (fun _ => none) 0 (some q_22)) 1 (some q_26)))))))] := ⟨q_1, q_2, q_3, q_12, q_21, (va_up (va_up (fun _ => none) 0 (some q_4)) 1 (some q_8)), (va_up (va_up (fun _ => none) 0 (some q_13)) 1 (some q_17)), (va_up (va_up (fun _ => none) 0 (some q_22)) 1 (some q_26)), rfl, rfl, rfl, rfl, rfl, rfl, rfl⟩
  have G : zS T A s.heap s [[(h, .inr (8, [.ref q_1, .int 0, .int 0, .int (-1), .ref q_2, .ref q_3, .ref q_12, .ref q_21])), (q_1, .inl (T.2 1, 600, .inl (fun _ => 0))), (q_2, .inl (T.2 0, 3, .inl (fun _ => 0))), (q_3, .inl (T.2 3, 2, .inr (.inr (.inr (.inr (va_up (va_up (fun _ => none) 0 (some q_4)) 1 (some q_8))))))), (q_12, .inl (T.2 4, 2, .inr (.inr (.inr (.inr (va_up (va_up (fun _ => none) 0 (some q_13)) 1 (some q_17))))))), (q_21, .inl (T.2 5, 2, .inr (.inr (.inr (.inr (va_up (va_up (fun _ => none) 0 (some q_22)) 1 (some q_26)))))))], w_5, w_9, w_14, w_18, w_23, w_27] _ _ := G.re rfl
  exact z_vret C hr hlocks G (Nat.le_of_ble_eq_true rfl) (Nat.le_of_ble_eq_true rfl) dX9_init_109 ⟨([(h, .inr (8, [.ref q_1, .int 0, .int 0, .int (-1), .ref q_2, .ref q_3, .ref q_12, .ref q_21])), (q_1, .inl (T.2 1, 600, .inl (fun _ => 0))), (q_2, .inl (T.2 0, 3, .inl (fun _ => 0))), (q_3, .inl (T.2 3, 2, .inr (.inr (.inr (.inr (va_up (va_up (fun _ => none) 0 (some q_4)) 1 (some q_8))))))), (q_12, .inl (T.2 4, 2, .inr (.inr (.inr (.inr (va_up (va_up (fun _ => none) 0 (some q_13)) 1 (some q_17))))))), (q_21, .inl (T.2 5, 2, .inr (.inr (.inr (.inr (va_up (va_up (fun _ => none) 0 (some q_22)) 1 (some q_26)))))))]), q_4, q_8, q_13, q_17, q_22, q_26, w_5, w_9, w_14, w_18, w_23, w_27, rfl, hw_30, h_6, h_10, h_15, h_19, h_24, h_28⟩
set_option maxHeartbeats 4000000 in
set_option maxRecDepth 100000 in
theorem c_Posts_init (l : Launch) (T : zTy) (h : Nat) : zMv l T yX6_init cX6_init 1 3 8 76 [.ref h] [[(h, .inr (6, [.null, .null, .null, .int 0, .int 0, .null]))]] (fun bs => ∃ (w : va_W) (la : Nat), bs = [w] ∧ bPosts T h la (fun _ => 0) (fun _ => 0) (fun _ => 0) 0 0 w) := by
  refine zMv_of (own := RX6) (by decide) rfl (Nat.le_of_ble_eq_true rfl) ?_
  intro p e s m args below meth c A ls C hr hlocks hnm hAe G hl
  have hx := C.1
  have hb := C.2.1
  have hl : lv_has ls 1 [(0, .ref h)] := hl
  refine lv_aload_n hx hb dX6_init_0 rfl (lv_at hl 0 rfl) ?_
  refine W.objInit hx hb C.2.2.2.1 (C.2.2.2.2 _ m_ml_RX6_3) (C.2.2.2.2 _ m_im_obj) (C.2.2.2.2 _ m_co_obj) rfl (by rw [C.2.2.1]; exact hl.1) rfl dX6_init_1 (Nat.le_of_ble_eq_true rfl) (Nat.le_of_ble_eq_true rfl) ?_
  refine W.eq (g2 := F0 m 4 ls []) rfl ?_
  refine lv_aload_n hx hb dX6_init_4 rfl (lv_at hl 0 rfl) ?_
  refine z_new C G clX4 (fs := [.int 0, .int 0, .null, .null, .null, .null]) m_cl_RX6_9 m_in_RX4 m_ii_RX4 (fun j hj => by match j, hj with | 0, _ => rfl | 1, _ => rfl | 2, _ => rfl | 3, _ => rfl | 4, _ => rfl | 5, _ => rfl | j + 6, h => exact absurd h (by omega)) (Nat.le_of_ble_eq_true rfl) (Nat.le_of_ble_eq_true rfl) dX6_init_5 (fun q_1 H G => ?_)
  have G : zS T A s.heap s [[(h, .inr (6, [.null, .null, .null, .int 0, .int 0, .null]))], [(q_1, .inr (4, [.int 0, .int 0, .null, .null, .null, .null]))]] _ _ := G
  refine lv_dup hx hb dX6_init_8 rfl ?_
  refine z_Jv (bc := [[(q_1, .inr (4, [.int 0, .int 0, .null, .null, .null, .null]))]]) (br := [[(h, .inr (6, [.null, .null, .null, .int 0, .int 0, .null]))]]) (As := []) (rest := [.ref q_1, .ref h]) C G (c_Land_init l T q_1) (kJ_RX6_11 G.2.2.2.2.2.1 C.2.2.2.2 (Nat.le_of_ble_eq_true rfl) (Nat.le_of_ble_eq_true rfl)) [1] [0] rfl rfl rfl rfl hl.1 dX6_init_9 (Nat.le_of_ble_eq_true rfl) (Nat.le_of_ble_eq_true rfl) (fun b1 H locs hw G => ?_)
  obtain ⟨w_2, rfl, h_3⟩ := hw
  have G : zS T A s.heap s [[(h, .inr (6, [.null, .null, .null, .int 0, .int 0, .null]))], w_2] _ _ := G
  refine z_put C G clX6 0 rfl 0 (by decide) m_fl_RX6_12 rfl rfl rfl (Nat.le_of_ble_eq_true rfl) dX6_init_12 (fun H locs G => ?_)
  have G : zS T A s.heap s [[(h, .inr (6, [.ref q_1, .null, .null, .int 0, .int 0, .null]))], w_2] _ _ := G
  refine lv_aload_n hx hb dX6_init_15 rfl (lv_at hl 0 rfl) ?_
  refine lv_bipush (v := 7) hx hb dX6_init_16 (by decide) ?_
  refine z_newa C G 0 (ty := .int) (N' := 7) (a0 := (7, .inl (fun _ => 0))) rfl z_uint m_ar_int rfl (fun _ => rfl) (by decide) (by decide) (Nat.le_of_ble_eq_true rfl) (Nat.le_of_ble_eq_true rfl) (Nat.le_of_ble_eq_true rfl) dX6_init_18 (fun q_5 H G => ?_)
  have G : zS T A s.heap s [[(h, .inr (6, [.ref q_1, .null, .null, .int 0, .int 0, .null]))], w_2, [(q_5, .inl (T.2 0, 7, .inl (fun _ => 0)))]] _ _ := G
  refine z_putF C G hnm clX6 0 rfl 1 (by decide) m_fl_RX6_18 rfl rfl rfl rfl (Nat.le_of_ble_eq_true rfl) dX6_init_20 (fun H locs G => ?_)
  have G : zS T A s.heap s [[(h, .inr (6, [.ref q_1, .ref q_5, .null, .int 0, .int 0, .null]))], w_2, [(q_5, .inl (T.2 0, 7, .inl (fun _ => 0)))]] _ _ := G
  refine lv_aload_n hx hb dX6_init_23 rfl (lv_at hl 0 rfl) ?_
  refine lv_bipush (v := 7) hx hb dX6_init_24 (by decide) ?_
  refine z_newa C G 0 (ty := .int) (N' := 7) (a0 := (7, .inl (fun _ => 0))) rfl z_uint m_ar_int rfl (fun _ => rfl) (by decide) (by decide) (Nat.le_of_ble_eq_true rfl) (Nat.le_of_ble_eq_true rfl) (Nat.le_of_ble_eq_true rfl) dX6_init_26 (fun q_6 H G => ?_)
  have G : zS T A s.heap s [[(h, .inr (6, [.ref q_1, .ref q_5, .null, .int 0, .int 0, .null]))], w_2, [(q_5, .inl (T.2 0, 7, .inl (fun _ => 0)))], [(q_6, .inl (T.2 0, 7, .inl (fun _ => 0)))]] _ _ := G
  refine z_putF C G hnm clX6 0 rfl 2 (by decide) m_fl_RX6_22 rfl rfl rfl rfl (Nat.le_of_ble_eq_true rfl) dX6_init_28 (fun H locs G => ?_)
  have G : zS T A s.heap s [[(h, .inr (6, [.ref q_1, .ref q_5, .ref q_6, .int 0, .int 0, .null]))], w_2, [(q_5, .inl (T.2 0, 7, .inl (fun _ => 0)))], [(q_6, .inl (T.2 0, 7, .inl (fun _ => 0)))]] _ _ := G
  refine lv_aload_n hx hb dX6_init_31 rfl (lv_at hl 0 rfl) ?_
  refine lv_bipush (v := 7) hx hb dX6_init_32 (by decide) ?_
  refine z_newa C G 0 (ty := .int) (N' := 7) (a0 := (7, .inl (fun _ => 0))) rfl z_uint m_ar_int rfl (fun _ => rfl) (by decide) (by decide) (Nat.le_of_ble_eq_true rfl) (Nat.le_of_ble_eq_true rfl) (Nat.le_of_ble_eq_true rfl) dX6_init_34 (fun q_7 H G => ?_)
  have G : zS T A s.heap s [[(h, .inr (6, [.ref q_1, .ref q_5, .ref q_6, .int 0, .int 0, .null]))], w_2, [(q_5, .inl (T.2 0, 7, .inl (fun _ => 0)))], [(q_6, .inl (T.2 0, 7, .inl (fun _ => 0)))], [(q_7, .inl (T.2 0, 7, .inl (fun _ => 0)))]] _ _ := G
  refine z_putF C G hnm clX6 0 rfl 5 (by decide) m_fl_RX6_25 rfl rfl rfl rfl (Nat.le_of_ble_eq_true rfl) dX6_init_36 (fun H locs G => ?_)
  have G : zS T A s.heap s [[(h, .inr (6, [.ref q_1, .ref q_5, .ref q_6, .int 0, .int 0, .ref q_7]))], w_2, [(q_5, .inl (T.2 0, 7, .inl (fun _ => 0)))], [(q_6, .inl (T.2 0, 7, .inl (fun _ => 0)))], [(q_7, .inl (T.2 0, 7, .inl (fun _ => 0)))]] _ _ := G
  have G := G.sub (bs' := [[(h, .inr (6, [.ref q_1, .ref q_5, .ref q_6, .int 0, .int 0, .ref q_7]))], [(q_5, .inl (T.2 0, 7, .inl (fun _ => 0)))], [(q_6, .inl (T.2 0, 7, .inl (fun _ => 0)))], [(q_7, .inl (T.2 0, 7, .inl (fun _ => 0)))], w_2]) [0, 2, 3, 4, 1] rfl
  have hw_8 : bPosts T h q_1 (fun _ => 0) (fun _ => 0) (fun _ => 0) 0 0 [(h, .inr (6, [.ref q_1, .ref q_5, .ref q_6, .int 0, .int 0, .ref q_7])), (q_5, .inl (T.2 0, 7, .inl (fun _ => 0))), (q_6, .inl (T.2 0, 7, .inl (fun _ => 0))), (q_7, .inl (T.2 0, 7, .inl (fun _ => 0)))] := ⟨q_5, q_6, q_7, rfl⟩
  have G : zS T A s.heap s [[(h, .inr (6, [.ref q_1, .ref q_5, .ref q_6, .int 0, .int 0, .ref q_7])), (q_5, .inl (T.2 0, 7, .inl (fun _ => 0))), (q_6, .inl (T.2 0, 7, .inl (fun _ => 0))), (q_7, .inl (T.2 0, 7, .inl (fun _ => 0)))], w_2] _ _ := G.re rfl
  have G := G.sub (bs' := [[(h, .inr (6, [.ref q_1, .ref q_5, .ref q_6, .int 0, .int 0, .ref q_7])), (q_5, .inl (T.2 0, 7, .inl (fun _ => 0))), (q_6, .inl (T.2 0, 7, .inl (fun _ => 0))), (q_7, .inl (T.2 0, 7, .inl (fun _ => 0)))]]) [0] rfl
  exact z_vret C hr hlocks G (Nat.le_of_ble_eq_true rfl) (Nat.le_of_ble_eq_true rfl) dX6_init_39 ⟨([(h, .inr (6, [.ref q_1, .ref q_5, .ref q_6, .int 0, .int 0, .ref q_7])), (q_5, .inl (T.2 0, 7, .inl (fun _ => 0))), (q_6, .inl (T.2 0, 7, .inl (fun _ => 0))), (q_7, .inl (T.2 0, 7, .inl (fun _ => 0)))]), q_1, rfl, hw_8⟩
set_option maxHeartbeats 4000000 in
set_option maxRecDepth 100000 in
theorem c_Trail_init (l : Launch) (T : zTy) (h : Nat) : zMv l T yX10_init cX10_init 1 5 11 96 [.ref h] [[(h, .inr (9, [.null, .null, .null, .int 0, .int 0, .int 0, .int 0, .int 0]))]] (fun bs => ∃ (w : va_W) (po : Nat) (la : Nat) (w1 : va_W), bs = [w, w1] ∧ bTrail T h po (fun _ => 0) (fun _ => 0) 0 0 0 0 0 w ∧ bPosts T po la (fun _ => 0) (fun _ => 0) (fun _ => 0) 0 0 w1) := by
  refine zMv_of (own := RX10) (by decide) rfl (Nat.le_of_ble_eq_true rfl) ?_
  intro p e s m args below meth c A ls C hr hlocks hnm hAe G hl
  have hx := C.1
  have hb := C.2.1
  have hl : lv_has ls 1 [(0, .ref h)] := hl
  refine lv_aload_n hx hb dX10_init_0 rfl (lv_at hl 0 rfl) ?_
  refine W.objInit hx hb C.2.2.2.1 (C.2.2.2.2 _ m_ml_RX10_3) (C.2.2.2.2 _ m_im_obj) (C.2.2.2.2 _ m_co_obj) rfl (by rw [C.2.2.1]; exact hl.1) rfl dX10_init_1 (Nat.le_of_ble_eq_true rfl) (Nat.le_of_ble_eq_true rfl) ?_
  refine W.eq (g2 := F0 m 4 ls []) rfl ?_
  refine lv_aload_n hx hb dX10_init_4 rfl (lv_at hl 0 rfl) ?_
  refine z_new C G clX6 (fs := [.null, .null, .null, .int 0, .int 0, .null]) m_cl_RX10_9 m_in_RX6 m_ii_RX6 (fun j hj => by match j, hj with | 0, _ => rfl | 1, _ => rfl | 2, _ => rfl | 3, _ => rfl | 4, _ => rfl | 5, _ => rfl | j + 6, h => exact absurd h (by omega)) (Nat.le_of_ble_eq_true rfl) (Nat.le_of_ble_eq_true rfl) dX10_init_5 (fun q_1 H G => ?_)
  have G : zS T A s.heap s [[(h, .inr (9, [.null, .null, .null, .int 0, .int 0, .int 0, .int 0, .int 0]))], [(q_1, .inr (6, [.null, .null, .null, .int 0, .int 0, .null]))]] _ _ := G
  refine lv_dup hx hb dX10_init_8 rfl ?_
  refine z_Jv (bc := [[(q_1, .inr (6, [.null, .null, .null, .int 0, .int 0, .null]))]]) (br := [[(h, .inr (9, [.null, .null, .null, .int 0, .int 0, .int 0, .int 0, .int 0]))]]) (As := []) (rest := [.ref q_1, .ref h]) C G (c_Posts_init l T q_1) (kJ_RX10_11 G.2.2.2.2.2.1 C.2.2.2.2 (Nat.le_of_ble_eq_true rfl) (Nat.le_of_ble_eq_true rfl)) [1] [0] rfl rfl rfl rfl hl.1 dX10_init_9 (Nat.le_of_ble_eq_true rfl) (Nat.le_of_ble_eq_true rfl) (fun b1 H locs hw G => ?_)
  obtain ⟨w_2, la_3, rfl, h_4⟩ := hw
  have G : zS T A s.heap s [[(h, .inr (9, [.null, .null, .null, .int 0, .int 0, .int 0, .int 0, .int 0]))], w_2] _ _ := G
  refine z_putF C G hnm clX10 0 rfl 0 (by decide) m_fl_RX10_12 rfl rfl rfl rfl (Nat.le_of_ble_eq_true rfl) dX10_init_12 (fun H locs G => ?_)
  have G : zS T A s.heap s [[(h, .inr (9, [.ref q_1, .null, .null, .int 0, .int 0, .int 0, .int 0, .int 0]))], w_2] _ _ := G
  refine lv_aload_n hx hb dX10_init_15 rfl (lv_at hl 0 rfl) ?_
  refine lv_bipush (v := 7) hx hb dX10_init_16 (by decide) ?_
  refine z_newa C G 0 (ty := .int) (N' := 7) (a0 := (7, .inl (fun _ => 0))) rfl z_uint m_ar_int rfl (fun _ => rfl) (by decide) (by decide) (Nat.le_of_ble_eq_true rfl) (Nat.le_of_ble_eq_true rfl) (Nat.le_of_ble_eq_true rfl) dX10_init_18 (fun q_6 H G => ?_)
  have G : zS T A s.heap s [[(h, .inr (9, [.ref q_1, .null, .null, .int 0, .int 0, .int 0, .int 0, .int 0]))], w_2, [(q_6, .inl (T.2 0, 7, .inl (fun _ => 0)))]] _ _ := G
  refine z_putF C G hnm clX10 0 rfl 1 (by decide) m_fl_RX10_18 rfl rfl rfl rfl (Nat.le_of_ble_eq_true rfl) dX10_init_20 (fun H locs G => ?_)
  have G : zS T A s.heap s [[(h, .inr (9, [.ref q_1, .ref q_6, .null, .int 0, .int 0, .int 0, .int 0, .int 0]))], w_2, [(q_6, .inl (T.2 0, 7, .inl (fun _ => 0)))]] _ _ := G
  refine lv_aload_n hx hb dX10_init_23 rfl (lv_at hl 0 rfl) ?_
  refine lv_bipush (v := 7) hx hb dX10_init_24 (by decide) ?_
  refine z_newa C G 0 (ty := .int) (N' := 7) (a0 := (7, .inl (fun _ => 0))) rfl z_uint m_ar_int rfl (fun _ => rfl) (by decide) (by decide) (Nat.le_of_ble_eq_true rfl) (Nat.le_of_ble_eq_true rfl) (Nat.le_of_ble_eq_true rfl) dX10_init_26 (fun q_7 H G => ?_)
  have G : zS T A s.heap s [[(h, .inr (9, [.ref q_1, .ref q_6, .null, .int 0, .int 0, .int 0, .int 0, .int 0]))], w_2, [(q_6, .inl (T.2 0, 7, .inl (fun _ => 0)))], [(q_7, .inl (T.2 0, 7, .inl (fun _ => 0)))]] _ _ := G
  refine z_putF C G hnm clX10 0 rfl 2 (by decide) m_fl_RX10_22 rfl rfl rfl rfl (Nat.le_of_ble_eq_true rfl) dX10_init_28 (fun H locs G => ?_)
  have G : zS T A s.heap s [[(h, .inr (9, [.ref q_1, .ref q_6, .ref q_7, .int 0, .int 0, .int 0, .int 0, .int 0]))], w_2, [(q_6, .inl (T.2 0, 7, .inl (fun _ => 0)))], [(q_7, .inl (T.2 0, 7, .inl (fun _ => 0)))]] _ _ := G
  have G := G.sub (bs' := [[(h, .inr (9, [.ref q_1, .ref q_6, .ref q_7, .int 0, .int 0, .int 0, .int 0, .int 0]))], [(q_6, .inl (T.2 0, 7, .inl (fun _ => 0)))], [(q_7, .inl (T.2 0, 7, .inl (fun _ => 0)))], w_2]) [0, 2, 3, 1] rfl
  have hw_8 : bTrail T h q_1 (fun _ => 0) (fun _ => 0) 0 0 0 0 0 [(h, .inr (9, [.ref q_1, .ref q_6, .ref q_7, .int 0, .int 0, .int 0, .int 0, .int 0])), (q_6, .inl (T.2 0, 7, .inl (fun _ => 0))), (q_7, .inl (T.2 0, 7, .inl (fun _ => 0)))] := ⟨q_6, q_7, rfl⟩
  have G : zS T A s.heap s [[(h, .inr (9, [.ref q_1, .ref q_6, .ref q_7, .int 0, .int 0, .int 0, .int 0, .int 0])), (q_6, .inl (T.2 0, 7, .inl (fun _ => 0))), (q_7, .inl (T.2 0, 7, .inl (fun _ => 0)))], w_2] _ _ := G.re rfl
  exact z_vret C hr hlocks G (Nat.le_of_ble_eq_true rfl) (Nat.le_of_ble_eq_true rfl) dX10_init_31 ⟨([(h, .inr (9, [.ref q_1, .ref q_6, .ref q_7, .int 0, .int 0, .int 0, .int 0, .int 0])), (q_6, .inl (T.2 0, 7, .inl (fun _ => 0))), (q_7, .inl (T.2 0, 7, .inl (fun _ => 0)))]), q_1, la_3, w_2, rfl, hw_8, h_4⟩
set_option maxHeartbeats 4000000 in
set_option maxRecDepth 100000 in
theorem c_Course_init (l : Launch) (T : zTy) (h : Nat) : zMv l T yX1_init cX1_init 1 5 15 144 [.ref h] [[(h, .inr (1, [.null, .null, .int 0, .null, .int 0, .int 0, .int 0, .int 0, .int 0, .int 0, .int 0]))]] (fun bs => ∃ (w : va_W) (po : Nat) (lc : Nat) (la : Nat) (w1 : va_W), bs = [w, w1] ∧ bCourse T h po lc (fun _ => 0) 0 0 0 0 0 0 0 0 w ∧ bPosts T po la (fun _ => 0) (fun _ => 0) (fun _ => 0) 0 0 w1) := by
  refine zMv_of (own := RX1) (by decide) rfl (Nat.le_of_ble_eq_true rfl) ?_
  intro p e s m args below meth c A ls C hr hlocks hnm hAe G hl
  have hx := C.1
  have hb := C.2.1
  have hl : lv_has ls 1 [(0, .ref h)] := hl
  refine lv_aload_n hx hb dX1_init_0 rfl (lv_at hl 0 rfl) ?_
  refine W.objInit hx hb C.2.2.2.1 (C.2.2.2.2 _ m_ml_RX1_3) (C.2.2.2.2 _ m_im_obj) (C.2.2.2.2 _ m_co_obj) rfl (by rw [C.2.2.1]; exact hl.1) rfl dX1_init_1 (Nat.le_of_ble_eq_true rfl) (Nat.le_of_ble_eq_true rfl) ?_
  refine W.eq (g2 := F0 m 4 ls []) rfl ?_
  refine lv_aload_n hx hb dX1_init_4 rfl (lv_at hl 0 rfl) ?_
  refine z_new C G clX6 (fs := [.null, .null, .null, .int 0, .int 0, .null]) m_cl_RX1_9 m_in_RX6 m_ii_RX6 (fun j hj => by match j, hj with | 0, _ => rfl | 1, _ => rfl | 2, _ => rfl | 3, _ => rfl | 4, _ => rfl | 5, _ => rfl | j + 6, h => exact absurd h (by omega)) (Nat.le_of_ble_eq_true rfl) (Nat.le_of_ble_eq_true rfl) dX1_init_5 (fun q_1 H G => ?_)
  have G : zS T A s.heap s [[(h, .inr (1, [.null, .null, .int 0, .null, .int 0, .int 0, .int 0, .int 0, .int 0, .int 0, .int 0]))], [(q_1, .inr (6, [.null, .null, .null, .int 0, .int 0, .null]))]] _ _ := G
  refine lv_dup hx hb dX1_init_8 rfl ?_
  refine z_Jv (bc := [[(q_1, .inr (6, [.null, .null, .null, .int 0, .int 0, .null]))]]) (br := [[(h, .inr (1, [.null, .null, .int 0, .null, .int 0, .int 0, .int 0, .int 0, .int 0, .int 0, .int 0]))]]) (As := []) (rest := [.ref q_1, .ref h]) C G (c_Posts_init l T q_1) (kJ_RX1_11 G.2.2.2.2.2.1 C.2.2.2.2 (Nat.le_of_ble_eq_true rfl) (Nat.le_of_ble_eq_true rfl)) [1] [0] rfl rfl rfl rfl hl.1 dX1_init_9 (Nat.le_of_ble_eq_true rfl) (Nat.le_of_ble_eq_true rfl) (fun b1 H locs hw G => ?_)
  obtain ⟨w_2, la_3, rfl, h_4⟩ := hw
  have G : zS T A s.heap s [[(h, .inr (1, [.null, .null, .int 0, .null, .int 0, .int 0, .int 0, .int 0, .int 0, .int 0, .int 0]))], w_2] _ _ := G
  refine z_putF C G hnm clX1 0 rfl 0 (by decide) m_fl_RX1_12 rfl rfl rfl rfl (Nat.le_of_ble_eq_true rfl) dX1_init_12 (fun H locs G => ?_)
  have G : zS T A s.heap s [[(h, .inr (1, [.ref q_1, .null, .int 0, .null, .int 0, .int 0, .int 0, .int 0, .int 0, .int 0, .int 0]))], w_2] _ _ := G
  refine lv_aload_n hx hb dX1_init_15 rfl (lv_at hl 0 rfl) ?_
  refine lv_bipush (v := 7) hx hb dX1_init_16 (by decide) ?_
  refine z_newa C G 0 (ty := .int) (N' := 7) (a0 := (7, .inl (fun _ => 0))) rfl z_uint m_ar_int rfl (fun _ => rfl) (by decide) (by decide) (Nat.le_of_ble_eq_true rfl) (Nat.le_of_ble_eq_true rfl) (Nat.le_of_ble_eq_true rfl) dX1_init_18 (fun q_6 H G => ?_)
  have G : zS T A s.heap s [[(h, .inr (1, [.ref q_1, .null, .int 0, .null, .int 0, .int 0, .int 0, .int 0, .int 0, .int 0, .int 0]))], w_2, [(q_6, .inl (T.2 0, 7, .inl (fun _ => 0)))]] _ _ := G
  refine z_putF C G hnm clX1 0 rfl 1 (by decide) m_fl_RX1_18 rfl rfl rfl rfl (Nat.le_of_ble_eq_true rfl) dX1_init_20 (fun H locs G => ?_)
  have G : zS T A s.heap s [[(h, .inr (1, [.ref q_1, .ref q_6, .int 0, .null, .int 0, .int 0, .int 0, .int 0, .int 0, .int 0, .int 0]))], w_2, [(q_6, .inl (T.2 0, 7, .inl (fun _ => 0)))]] _ _ := G
  refine lv_aload_n hx hb dX1_init_23 rfl (lv_at hl 0 rfl) ?_
  refine z_new C G clX4 (fs := [.int 0, .int 0, .null, .null, .null, .null]) m_cl_RX1_22 m_in_RX4 m_ii_RX4 (fun j hj => by match j, hj with | 0, _ => rfl | 1, _ => rfl | 2, _ => rfl | 3, _ => rfl | 4, _ => rfl | 5, _ => rfl | j + 6, h => exact absurd h (by omega)) (Nat.le_of_ble_eq_true rfl) (Nat.le_of_ble_eq_true rfl) dX1_init_24 (fun q_7 H G => ?_)
  have G : zS T A s.heap s [[(h, .inr (1, [.ref q_1, .ref q_6, .int 0, .null, .int 0, .int 0, .int 0, .int 0, .int 0, .int 0, .int 0]))], w_2, [(q_6, .inl (T.2 0, 7, .inl (fun _ => 0)))], [(q_7, .inr (4, [.int 0, .int 0, .null, .null, .null, .null]))]] _ _ := G
  refine lv_dup hx hb dX1_init_27 rfl ?_
  refine z_Jv (bc := [[(q_7, .inr (4, [.int 0, .int 0, .null, .null, .null, .null]))]]) (br := [[(h, .inr (1, [.ref q_1, .ref q_6, .int 0, .null, .int 0, .int 0, .int 0, .int 0, .int 0, .int 0, .int 0]))], w_2, [(q_6, .inl (T.2 0, 7, .inl (fun _ => 0)))]]) (As := []) (rest := [.ref q_7, .ref h]) C G (c_Land_init l T q_7) (kJ_RX1_24 G.2.2.2.2.2.1 C.2.2.2.2 (Nat.le_of_ble_eq_true rfl) (Nat.le_of_ble_eq_true rfl)) [3] [0, 1, 2] rfl rfl rfl rfl hl.1 dX1_init_28 (Nat.le_of_ble_eq_true rfl) (Nat.le_of_ble_eq_true rfl) (fun b1 H locs hw G => ?_)
  obtain ⟨w_8, rfl, h_9⟩ := hw
  have G : zS T A s.heap s [[(h, .inr (1, [.ref q_1, .ref q_6, .int 0, .null, .int 0, .int 0, .int 0, .int 0, .int 0, .int 0, .int 0]))], w_2, [(q_6, .inl (T.2 0, 7, .inl (fun _ => 0)))], w_8] _ _ := G
  refine z_put C G clX1 0 rfl 3 (by decide) m_fl_RX1_25 rfl rfl rfl (Nat.le_of_ble_eq_true rfl) dX1_init_31 (fun H locs G => ?_)
  have G : zS T A s.heap s [[(h, .inr (1, [.ref q_1, .ref q_6, .int 0, .ref q_7, .int 0, .int 0, .int 0, .int 0, .int 0, .int 0, .int 0]))], w_2, [(q_6, .inl (T.2 0, 7, .inl (fun _ => 0)))], w_8] _ _ := G
  have G := G.sub (bs' := [[(h, .inr (1, [.ref q_1, .ref q_6, .int 0, .ref q_7, .int 0, .int 0, .int 0, .int 0, .int 0, .int 0, .int 0]))], [(q_6, .inl (T.2 0, 7, .inl (fun _ => 0)))], w_2, w_8]) [0, 2, 1, 3] rfl
  have hw_11 : bCourse T h q_1 q_7 (fun _ => 0) 0 0 0 0 0 0 0 0 [(h, .inr (1, [.ref q_1, .ref q_6, .int 0, .ref q_7, .int 0, .int 0, .int 0, .int 0, .int 0, .int 0, .int 0])), (q_6, .inl (T.2 0, 7, .inl (fun _ => 0)))] := ⟨q_6, rfl⟩
  have G : zS T A s.heap s [[(h, .inr (1, [.ref q_1, .ref q_6, .int 0, .ref q_7, .int 0, .int 0, .int 0, .int 0, .int 0, .int 0, .int 0])), (q_6, .inl (T.2 0, 7, .inl (fun _ => 0)))], w_2, w_8] _ _ := G.re rfl
  have G := G.sub (bs' := [[(h, .inr (1, [.ref q_1, .ref q_6, .int 0, .ref q_7, .int 0, .int 0, .int 0, .int 0, .int 0, .int 0, .int 0])), (q_6, .inl (T.2 0, 7, .inl (fun _ => 0)))], w_2]) [0, 1] rfl
  exact z_vret C hr hlocks G (Nat.le_of_ble_eq_true rfl) (Nat.le_of_ble_eq_true rfl) dX1_init_34 ⟨([(h, .inr (1, [.ref q_1, .ref q_6, .int 0, .ref q_7, .int 0, .int 0, .int 0, .int 0, .int 0, .int 0, .int 0])), (q_6, .inl (T.2 0, 7, .inl (fun _ => 0)))]), q_1, q_7, la_3, w_2, rfl, hw_11, h_4⟩
set_option maxHeartbeats 4000000 in
set_option maxRecDepth 100000 in
theorem c_Ways_init (l : Launch) (T : zTy) (h : Nat) : zMv l T yX0_init cX0_init 1 3 11 76 [.ref h] [[(h, .inr (0, [.int 0, .int 0, .null, .int 0, .null, .null, .null, .null, .null, .null]))]] (fun bs => ∃ (w : va_W) (la : Nat), bs = [w] ∧ bWays T h la 0 0 0 (fun _ => 0) (fun _ => 0) (fun _ => 0) (fun _ => 0) (fun _ => 0) (fun _ => 0) 0 w) := by
  refine zMv_of (own := RX0) (by decide) rfl (Nat.le_of_ble_eq_true rfl) ?_
  intro p e s m args below meth c A ls C hr hlocks hnm hAe G hl
  have hx := C.1
  have hb := C.2.1
  have hl : lv_has ls 1 [(0, .ref h)] := hl
  refine lv_aload_n hx hb dX0_init_0 rfl (lv_at hl 0 rfl) ?_
  refine W.objInit hx hb C.2.2.2.1 (C.2.2.2.2 _ m_ml_RX0_5) (C.2.2.2.2 _ m_im_obj) (C.2.2.2.2 _ m_co_obj) rfl (by rw [C.2.2.1]; exact hl.1) rfl dX0_init_1 (Nat.le_of_ble_eq_true rfl) (Nat.le_of_ble_eq_true rfl) ?_
  refine W.eq (g2 := F0 m 4 ls []) rfl ?_
  refine lv_aload_n hx hb dX0_init_4 rfl (lv_at hl 0 rfl) ?_
  refine z_new C G clX4 (fs := [.int 0, .int 0, .null, .null, .null, .null]) m_cl_RX0_11 m_in_RX4 m_ii_RX4 (fun j hj => by match j, hj with | 0, _ => rfl | 1, _ => rfl | 2, _ => rfl | 3, _ => rfl | 4, _ => rfl | 5, _ => rfl | j + 6, h => exact absurd h (by omega)) (Nat.le_of_ble_eq_true rfl) (Nat.le_of_ble_eq_true rfl) dX0_init_5 (fun q_1 H G => ?_)
  have G : zS T A s.heap s [[(h, .inr (0, [.int 0, .int 0, .null, .int 0, .null, .null, .null, .null, .null, .null]))], [(q_1, .inr (4, [.int 0, .int 0, .null, .null, .null, .null]))]] _ _ := G
  refine lv_dup hx hb dX0_init_8 rfl ?_
  refine z_Jv (bc := [[(q_1, .inr (4, [.int 0, .int 0, .null, .null, .null, .null]))]]) (br := [[(h, .inr (0, [.int 0, .int 0, .null, .int 0, .null, .null, .null, .null, .null, .null]))]]) (As := []) (rest := [.ref q_1, .ref h]) C G (c_Land_init l T q_1) (kJ_RX0_13 G.2.2.2.2.2.1 C.2.2.2.2 (Nat.le_of_ble_eq_true rfl) (Nat.le_of_ble_eq_true rfl)) [1] [0] rfl rfl rfl rfl hl.1 dX0_init_9 (Nat.le_of_ble_eq_true rfl) (Nat.le_of_ble_eq_true rfl) (fun b1 H locs hw G => ?_)
  obtain ⟨w_2, rfl, h_3⟩ := hw
  have G : zS T A s.heap s [[(h, .inr (0, [.int 0, .int 0, .null, .int 0, .null, .null, .null, .null, .null, .null]))], w_2] _ _ := G
  refine z_put C G clX0 0 rfl 2 (by decide) m_fl_RX0_14 rfl rfl rfl (Nat.le_of_ble_eq_true rfl) dX0_init_12 (fun H locs G => ?_)
  have G : zS T A s.heap s [[(h, .inr (0, [.int 0, .int 0, .ref q_1, .int 0, .null, .null, .null, .null, .null, .null]))], w_2] _ _ := G
  refine lv_aload_n hx hb dX0_init_15 rfl (lv_at hl 0 rfl) ?_
  refine lv_bipush (v := 7) hx hb dX0_init_16 (by decide) ?_
  refine z_newa C G 0 (ty := .int) (N' := 7) (a0 := (7, .inl (fun _ => 0))) rfl z_uint m_ar_int rfl (fun _ => rfl) (by decide) (by decide) (Nat.le_of_ble_eq_true rfl) (Nat.le_of_ble_eq_true rfl) (Nat.le_of_ble_eq_true rfl) dX0_init_18 (fun q_5 H G => ?_)
  have G : zS T A s.heap s [[(h, .inr (0, [.int 0, .int 0, .ref q_1, .int 0, .null, .null, .null, .null, .null, .null]))], w_2, [(q_5, .inl (T.2 0, 7, .inl (fun _ => 0)))]] _ _ := G
  refine z_putF C G hnm clX0 0 rfl 4 (by decide) m_fl_RX0_18 rfl rfl rfl rfl (Nat.le_of_ble_eq_true rfl) dX0_init_20 (fun H locs G => ?_)
  have G : zS T A s.heap s [[(h, .inr (0, [.int 0, .int 0, .ref q_1, .int 0, .ref q_5, .null, .null, .null, .null, .null]))], w_2, [(q_5, .inl (T.2 0, 7, .inl (fun _ => 0)))]] _ _ := G
  refine lv_aload_n hx hb dX0_init_23 rfl (lv_at hl 0 rfl) ?_
  refine lv_bipush (v := 7) hx hb dX0_init_24 (by decide) ?_
  refine z_newa C G 0 (ty := .int) (N' := 7) (a0 := (7, .inl (fun _ => 0))) rfl z_uint m_ar_int rfl (fun _ => rfl) (by decide) (by decide) (Nat.le_of_ble_eq_true rfl) (Nat.le_of_ble_eq_true rfl) (Nat.le_of_ble_eq_true rfl) dX0_init_26 (fun q_6 H G => ?_)
  have G : zS T A s.heap s [[(h, .inr (0, [.int 0, .int 0, .ref q_1, .int 0, .ref q_5, .null, .null, .null, .null, .null]))], w_2, [(q_5, .inl (T.2 0, 7, .inl (fun _ => 0)))], [(q_6, .inl (T.2 0, 7, .inl (fun _ => 0)))]] _ _ := G
  refine z_putF C G hnm clX0 0 rfl 5 (by decide) m_fl_RX0_22 rfl rfl rfl rfl (Nat.le_of_ble_eq_true rfl) dX0_init_28 (fun H locs G => ?_)
  have G : zS T A s.heap s [[(h, .inr (0, [.int 0, .int 0, .ref q_1, .int 0, .ref q_5, .ref q_6, .null, .null, .null, .null]))], w_2, [(q_5, .inl (T.2 0, 7, .inl (fun _ => 0)))], [(q_6, .inl (T.2 0, 7, .inl (fun _ => 0)))]] _ _ := G
  refine lv_aload_n hx hb dX0_init_31 rfl (lv_at hl 0 rfl) ?_
  refine lv_bipush (v := 7) hx hb dX0_init_32 (by decide) ?_
  refine z_newa C G 0 (ty := .int) (N' := 7) (a0 := (7, .inl (fun _ => 0))) rfl z_uint m_ar_int rfl (fun _ => rfl) (by decide) (by decide) (Nat.le_of_ble_eq_true rfl) (Nat.le_of_ble_eq_true rfl) (Nat.le_of_ble_eq_true rfl) dX0_init_34 (fun q_7 H G => ?_)
  have G : zS T A s.heap s [[(h, .inr (0, [.int 0, .int 0, .ref q_1, .int 0, .ref q_5, .ref q_6, .null, .null, .null, .null]))], w_2, [(q_5, .inl (T.2 0, 7, .inl (fun _ => 0)))], [(q_6, .inl (T.2 0, 7, .inl (fun _ => 0)))], [(q_7, .inl (T.2 0, 7, .inl (fun _ => 0)))]] _ _ := G
  refine z_putF C G hnm clX0 0 rfl 6 (by decide) m_fl_RX0_25 rfl rfl rfl rfl (Nat.le_of_ble_eq_true rfl) dX0_init_36 (fun H locs G => ?_)
  have G : zS T A s.heap s [[(h, .inr (0, [.int 0, .int 0, .ref q_1, .int 0, .ref q_5, .ref q_6, .ref q_7, .null, .null, .null]))], w_2, [(q_5, .inl (T.2 0, 7, .inl (fun _ => 0)))], [(q_6, .inl (T.2 0, 7, .inl (fun _ => 0)))], [(q_7, .inl (T.2 0, 7, .inl (fun _ => 0)))]] _ _ := G
  refine lv_aload_n hx hb dX0_init_39 rfl (lv_at hl 0 rfl) ?_
  refine lv_iconst (v := 0) hx hb dX0_init_40 (by decide) ?_
  refine z_newa C G 0 (ty := .int) (N' := 0) (a0 := (0, .inl (fun _ => 0))) rfl z_uint m_ar_int rfl (fun _ => rfl) (by decide) (by decide) (Nat.le_of_ble_eq_true rfl) (Nat.le_of_ble_eq_true rfl) (Nat.le_of_ble_eq_true rfl) dX0_init_41 (fun q_8 H G => ?_)
  have G : zS T A s.heap s [[(h, .inr (0, [.int 0, .int 0, .ref q_1, .int 0, .ref q_5, .ref q_6, .ref q_7, .null, .null, .null]))], w_2, [(q_5, .inl (T.2 0, 7, .inl (fun _ => 0)))], [(q_6, .inl (T.2 0, 7, .inl (fun _ => 0)))], [(q_7, .inl (T.2 0, 7, .inl (fun _ => 0)))], [(q_8, .inl (T.2 0, 0, .inl (fun _ => 0)))]] _ _ := G
  refine z_put C G clX0 0 rfl 7 (by decide) m_fl_RX0_28 rfl rfl rfl (Nat.le_of_ble_eq_true rfl) dX0_init_43 (fun H locs G => ?_)
  have G : zS T A s.heap s [[(h, .inr (0, [.int 0, .int 0, .ref q_1, .int 0, .ref q_5, .ref q_6, .ref q_7, .ref q_8, .null, .null]))], w_2, [(q_5, .inl (T.2 0, 7, .inl (fun _ => 0)))], [(q_6, .inl (T.2 0, 7, .inl (fun _ => 0)))], [(q_7, .inl (T.2 0, 7, .inl (fun _ => 0)))], [(q_8, .inl (T.2 0, 0, .inl (fun _ => 0)))]] _ _ := G
  refine lv_aload_n hx hb dX0_init_46 rfl (lv_at hl 0 rfl) ?_
  refine lv_iconst (v := 0) hx hb dX0_init_47 (by decide) ?_
  refine z_newa C G 0 (ty := .int) (N' := 0) (a0 := (0, .inl (fun _ => 0))) rfl z_uint m_ar_int rfl (fun _ => rfl) (by decide) (by decide) (Nat.le_of_ble_eq_true rfl) (Nat.le_of_ble_eq_true rfl) (Nat.le_of_ble_eq_true rfl) dX0_init_48 (fun q_9 H G => ?_)
  have G : zS T A s.heap s [[(h, .inr (0, [.int 0, .int 0, .ref q_1, .int 0, .ref q_5, .ref q_6, .ref q_7, .ref q_8, .null, .null]))], w_2, [(q_5, .inl (T.2 0, 7, .inl (fun _ => 0)))], [(q_6, .inl (T.2 0, 7, .inl (fun _ => 0)))], [(q_7, .inl (T.2 0, 7, .inl (fun _ => 0)))], [(q_8, .inl (T.2 0, 0, .inl (fun _ => 0)))], [(q_9, .inl (T.2 0, 0, .inl (fun _ => 0)))]] _ _ := G
  refine z_put C G clX0 0 rfl 8 (by decide) m_fl_RX0_31 rfl rfl rfl (Nat.le_of_ble_eq_true rfl) dX0_init_50 (fun H locs G => ?_)
  have G : zS T A s.heap s [[(h, .inr (0, [.int 0, .int 0, .ref q_1, .int 0, .ref q_5, .ref q_6, .ref q_7, .ref q_8, .ref q_9, .null]))], w_2, [(q_5, .inl (T.2 0, 7, .inl (fun _ => 0)))], [(q_6, .inl (T.2 0, 7, .inl (fun _ => 0)))], [(q_7, .inl (T.2 0, 7, .inl (fun _ => 0)))], [(q_8, .inl (T.2 0, 0, .inl (fun _ => 0)))], [(q_9, .inl (T.2 0, 0, .inl (fun _ => 0)))]] _ _ := G
  refine lv_aload_n hx hb dX0_init_53 rfl (lv_at hl 0 rfl) ?_
  refine lv_iconst (v := 0) hx hb dX0_init_54 (by decide) ?_
  refine z_newa C G 0 (ty := .int) (N' := 0) (a0 := (0, .inl (fun _ => 0))) rfl z_uint m_ar_int rfl (fun _ => rfl) (by decide) (by decide) (Nat.le_of_ble_eq_true rfl) (Nat.le_of_ble_eq_true rfl) (Nat.le_of_ble_eq_true rfl) dX0_init_55 (fun q_10 H G => ?_)
  have G : zS T A s.heap s [[(h, .inr (0, [.int 0, .int 0, .ref q_1, .int 0, .ref q_5, .ref q_6, .ref q_7, .ref q_8, .ref q_9, .null]))], w_2, [(q_5, .inl (T.2 0, 7, .inl (fun _ => 0)))], [(q_6, .inl (T.2 0, 7, .inl (fun _ => 0)))], [(q_7, .inl (T.2 0, 7, .inl (fun _ => 0)))], [(q_8, .inl (T.2 0, 0, .inl (fun _ => 0)))], [(q_9, .inl (T.2 0, 0, .inl (fun _ => 0)))], [(q_10, .inl (T.2 0, 0, .inl (fun _ => 0)))]] _ _ := G
  refine z_put C G clX0 0 rfl 9 (by decide) m_fl_RX0_34 rfl rfl rfl (Nat.le_of_ble_eq_true rfl) dX0_init_57 (fun H locs G => ?_)
  have G : zS T A s.heap s [[(h, .inr (0, [.int 0, .int 0, .ref q_1, .int 0, .ref q_5, .ref q_6, .ref q_7, .ref q_8, .ref q_9, .ref q_10]))], w_2, [(q_5, .inl (T.2 0, 7, .inl (fun _ => 0)))], [(q_6, .inl (T.2 0, 7, .inl (fun _ => 0)))], [(q_7, .inl (T.2 0, 7, .inl (fun _ => 0)))], [(q_8, .inl (T.2 0, 0, .inl (fun _ => 0)))], [(q_9, .inl (T.2 0, 0, .inl (fun _ => 0)))], [(q_10, .inl (T.2 0, 0, .inl (fun _ => 0)))]] _ _ := G
  have G := G.sub (bs' := [[(h, .inr (0, [.int 0, .int 0, .ref q_1, .int 0, .ref q_5, .ref q_6, .ref q_7, .ref q_8, .ref q_9, .ref q_10]))], [(q_5, .inl (T.2 0, 7, .inl (fun _ => 0)))], [(q_6, .inl (T.2 0, 7, .inl (fun _ => 0)))], [(q_7, .inl (T.2 0, 7, .inl (fun _ => 0)))], [(q_8, .inl (T.2 0, 0, .inl (fun _ => 0)))], [(q_9, .inl (T.2 0, 0, .inl (fun _ => 0)))], [(q_10, .inl (T.2 0, 0, .inl (fun _ => 0)))], w_2]) [0, 2, 3, 4, 5, 6, 7, 1] rfl
  have hw_11 : bWays T h q_1 0 0 0 (fun _ => 0) (fun _ => 0) (fun _ => 0) (fun _ => 0) (fun _ => 0) (fun _ => 0) 0 [(h, .inr (0, [.int 0, .int 0, .ref q_1, .int 0, .ref q_5, .ref q_6, .ref q_7, .ref q_8, .ref q_9, .ref q_10])), (q_5, .inl (T.2 0, 7, .inl (fun _ => 0))), (q_6, .inl (T.2 0, 7, .inl (fun _ => 0))), (q_7, .inl (T.2 0, 7, .inl (fun _ => 0))), (q_8, .inl (T.2 0, 0, .inl (fun _ => 0))), (q_9, .inl (T.2 0, 0, .inl (fun _ => 0))), (q_10, .inl (T.2 0, 0, .inl (fun _ => 0)))] := ⟨q_5, q_6, q_7, q_8, q_9, q_10, rfl⟩
  have G : zS T A s.heap s [[(h, .inr (0, [.int 0, .int 0, .ref q_1, .int 0, .ref q_5, .ref q_6, .ref q_7, .ref q_8, .ref q_9, .ref q_10])), (q_5, .inl (T.2 0, 7, .inl (fun _ => 0))), (q_6, .inl (T.2 0, 7, .inl (fun _ => 0))), (q_7, .inl (T.2 0, 7, .inl (fun _ => 0))), (q_8, .inl (T.2 0, 0, .inl (fun _ => 0))), (q_9, .inl (T.2 0, 0, .inl (fun _ => 0))), (q_10, .inl (T.2 0, 0, .inl (fun _ => 0)))], w_2] _ _ := G.re rfl
  have G := G.sub (bs' := [[(h, .inr (0, [.int 0, .int 0, .ref q_1, .int 0, .ref q_5, .ref q_6, .ref q_7, .ref q_8, .ref q_9, .ref q_10])), (q_5, .inl (T.2 0, 7, .inl (fun _ => 0))), (q_6, .inl (T.2 0, 7, .inl (fun _ => 0))), (q_7, .inl (T.2 0, 7, .inl (fun _ => 0))), (q_8, .inl (T.2 0, 0, .inl (fun _ => 0))), (q_9, .inl (T.2 0, 0, .inl (fun _ => 0))), (q_10, .inl (T.2 0, 0, .inl (fun _ => 0)))]]) [0] rfl
  exact z_vret C hr hlocks G (Nat.le_of_ble_eq_true rfl) (Nat.le_of_ble_eq_true rfl) dX0_init_60 ⟨([(h, .inr (0, [.int 0, .int 0, .ref q_1, .int 0, .ref q_5, .ref q_6, .ref q_7, .ref q_8, .ref q_9, .ref q_10])), (q_5, .inl (T.2 0, 7, .inl (fun _ => 0))), (q_6, .inl (T.2 0, 7, .inl (fun _ => 0))), (q_7, .inl (T.2 0, 7, .inl (fun _ => 0))), (q_8, .inl (T.2 0, 0, .inl (fun _ => 0))), (q_9, .inl (T.2 0, 0, .inl (fun _ => 0))), (q_10, .inl (T.2 0, 0, .inl (fun _ => 0)))]), q_1, rfl, hw_11⟩
set_option maxHeartbeats 4000000 in
set_option maxRecDepth 100000 in
theorem c_Fit_init (l : Launch) (T : zTy) (h : Nat) : zMv l T yX3_init cX3_init 1 1 2 7 [.ref h] [[(h, .inr (3, [.int 0, .int 0, .int 0, .int 0, .int 0, .int 0, .null, .null]))]] (fun bs => ∃ (w : va_W), bs = [w] ∧ bFit T h 0 (-1) (-1) 0 0 0 (fun _ => 0) 0 (fun _ => 0) w) := by
  refine zMv_of (own := RX3) (by decide) rfl (Nat.le_of_ble_eq_true rfl) ?_
  intro p e s m args below meth c A ls C hr hlocks hnm hAe G hl
  have hx := C.1
  have hb := C.2.1
  have hl : lv_has ls 1 [(0, .ref h)] := hl
  refine lv_aload_n hx hb dX3_init_0 rfl (lv_at hl 0 rfl) ?_
  refine W.objInit hx hb C.2.2.2.1 (C.2.2.2.2 _ m_ml_RX3_5) (C.2.2.2.2 _ m_im_obj) (C.2.2.2.2 _ m_co_obj) rfl (by rw [C.2.2.1]; exact hl.1) rfl dX3_init_1 (Nat.le_of_ble_eq_true rfl) (Nat.le_of_ble_eq_true rfl) ?_
  refine W.eq (g2 := F0 m 4 ls []) rfl ?_
  refine lv_aload_n hx hb dX3_init_4 rfl (lv_at hl 0 rfl) ?_
  refine lv_iconst (v := (-1)) hx hb dX3_init_5 (by decide) ?_
  refine z_put C G clX3 0 rfl 1 (by decide) m_fl_RX3_11 rfl rfl rfl (Nat.le_of_ble_eq_true rfl) dX3_init_6 (fun H locs G => ?_)
  have G : zS T A s.heap s [[(h, .inr (3, [.int 0, .int (-1), .int 0, .int 0, .int 0, .int 0, .null, .null]))]] _ _ := G
  refine lv_aload_n hx hb dX3_init_9 rfl (lv_at hl 0 rfl) ?_
  refine lv_iconst (v := (-1)) hx hb dX3_init_10 (by decide) ?_
  refine z_put C G clX3 0 rfl 2 (by decide) m_fl_RX3_15 rfl rfl rfl (Nat.le_of_ble_eq_true rfl) dX3_init_11 (fun H locs G => ?_)
  have G : zS T A s.heap s [[(h, .inr (3, [.int 0, .int (-1), .int (-1), .int 0, .int 0, .int 0, .null, .null]))]] _ _ := G
  refine lv_aload_n hx hb dX3_init_14 rfl (lv_at hl 0 rfl) ?_
  refine lv_iconst (v := 0) hx hb dX3_init_15 (by decide) ?_
  refine z_newa C G 0 (ty := .int) (N' := 0) (a0 := (0, .inl (fun _ => 0))) rfl z_uint m_ar_int rfl (fun _ => rfl) (by decide) (by decide) (Nat.le_of_ble_eq_true rfl) (Nat.le_of_ble_eq_true rfl) (Nat.le_of_ble_eq_true rfl) dX3_init_16 (fun q_1 H G => ?_)
  have G : zS T A s.heap s [[(h, .inr (3, [.int 0, .int (-1), .int (-1), .int 0, .int 0, .int 0, .null, .null]))], [(q_1, .inl (T.2 0, 0, .inl (fun _ => 0)))]] _ _ := G
  refine z_put C G clX3 0 rfl 6 (by decide) m_fl_RX3_18 rfl rfl rfl (Nat.le_of_ble_eq_true rfl) dX3_init_18 (fun H locs G => ?_)
  have G : zS T A s.heap s [[(h, .inr (3, [.int 0, .int (-1), .int (-1), .int 0, .int 0, .int 0, .ref q_1, .null]))], [(q_1, .inl (T.2 0, 0, .inl (fun _ => 0)))]] _ _ := G
  refine lv_aload_n hx hb dX3_init_21 rfl (lv_at hl 0 rfl) ?_
  refine lv_bipush (v := 7) hx hb dX3_init_22 (by decide) ?_
  refine z_newa C G 0 (ty := .int) (N' := 7) (a0 := (7, .inl (fun _ => 0))) rfl z_uint m_ar_int rfl (fun _ => rfl) (by decide) (by decide) (Nat.le_of_ble_eq_true rfl) (Nat.le_of_ble_eq_true rfl) (Nat.le_of_ble_eq_true rfl) dX3_init_24 (fun q_2 H G => ?_)
  have G : zS T A s.heap s [[(h, .inr (3, [.int 0, .int (-1), .int (-1), .int 0, .int 0, .int 0, .ref q_1, .null]))], [(q_1, .inl (T.2 0, 0, .inl (fun _ => 0)))], [(q_2, .inl (T.2 0, 7, .inl (fun _ => 0)))]] _ _ := G
  refine z_putF C G hnm clX3 0 rfl 7 (by decide) m_fl_RX3_22 rfl rfl rfl rfl (Nat.le_of_ble_eq_true rfl) dX3_init_26 (fun H locs G => ?_)
  have G : zS T A s.heap s [[(h, .inr (3, [.int 0, .int (-1), .int (-1), .int 0, .int 0, .int 0, .ref q_1, .ref q_2]))], [(q_1, .inl (T.2 0, 0, .inl (fun _ => 0)))], [(q_2, .inl (T.2 0, 7, .inl (fun _ => 0)))]] _ _ := G
  have hw_3 : bFit T h 0 (-1) (-1) 0 0 0 (fun _ => 0) 0 (fun _ => 0) [(h, .inr (3, [.int 0, .int (-1), .int (-1), .int 0, .int 0, .int 0, .ref q_1, .ref q_2])), (q_1, .inl (T.2 0, 0, .inl (fun _ => 0))), (q_2, .inl (T.2 0, 7, .inl (fun _ => 0)))] := ⟨q_1, q_2, rfl⟩
  have G : zS T A s.heap s [[(h, .inr (3, [.int 0, .int (-1), .int (-1), .int 0, .int 0, .int 0, .ref q_1, .ref q_2])), (q_1, .inl (T.2 0, 0, .inl (fun _ => 0))), (q_2, .inl (T.2 0, 7, .inl (fun _ => 0)))]] _ _ := G.re rfl
  exact z_vret C hr hlocks G (Nat.le_of_ble_eq_true rfl) (Nat.le_of_ble_eq_true rfl) dX3_init_29 ⟨([(h, .inr (3, [.int 0, .int (-1), .int (-1), .int 0, .int 0, .int 0, .ref q_1, .ref q_2])), (q_1, .inl (T.2 0, 0, .inl (fun _ => 0))), (q_2, .inl (T.2 0, 7, .inl (fun _ => 0)))]), rfl, hw_3⟩
set_option maxHeartbeats 4000000 in
set_option maxRecDepth 100000 in
theorem c_Reader_init (l : Launch) (T : zTy) (rd : Nat) : zMv l T yX7_init cX7_init 1 3 13 198 [.ref rd] [[(rd, .inr (7, [.null, .null, .null, .int 0, .int 0, .null, .int 0, .int 0, .int 0, .int 0, .int 0, .int 0, .int 0]))]] (fun bs => ∃ (rl : Nat) (rdd : Nat) (rg : Nat) (tp : Nat) (w1 : va_W) (w2 : va_W) (w3 : va_W), bs = [[(rd, .inr (7, [.ref rl, .ref rdd, .ref rg, .int 0, .int 0, .ref tp, .int 0, .int 0, .int 0, .int 0, .int 0, .int 0, .int 0]))], w1, w2, w3] ∧ bLand T rl 0 0 (fun _ => 0) (fun _ => 0) (fun _ => 0) (fun _ => 0) w1 ∧ bDay T rdd 0 (fun _ => 0) (fun _ => 0) (fun _ => 0) w2 ∧ bLog T rg 0 (fun _ => 0) (fun _ => 0) w3) := by
  refine zMv_of (own := RX7) (by decide) rfl (Nat.le_of_ble_eq_true rfl) ?_
  intro p e s m args below meth c A ls C hr hlocks hnm hAe G hl
  have hx := C.1
  have hb := C.2.1
  have hl : lv_has ls 1 [(0, .ref rd)] := hl
  refine lv_aload_n hx hb dX7_init_0 rfl (lv_at hl 0 rfl) ?_
  refine W.objInit hx hb C.2.2.2.1 (C.2.2.2.2 _ m_ml_RX7_3) (C.2.2.2.2 _ m_im_obj) (C.2.2.2.2 _ m_co_obj) rfl (by rw [C.2.2.1]; exact hl.1) rfl dX7_init_1 (Nat.le_of_ble_eq_true rfl) (Nat.le_of_ble_eq_true rfl) ?_
  refine W.eq (g2 := F0 m 4 ls []) rfl ?_
  refine lv_aload_n hx hb dX7_init_4 rfl (lv_at hl 0 rfl) ?_
  refine z_new C G clX4 (fs := [.int 0, .int 0, .null, .null, .null, .null]) m_cl_RX7_9 m_in_RX4 m_ii_RX4 (fun j hj => by match j, hj with | 0, _ => rfl | 1, _ => rfl | 2, _ => rfl | 3, _ => rfl | 4, _ => rfl | 5, _ => rfl | j + 6, h => exact absurd h (by omega)) (Nat.le_of_ble_eq_true rfl) (Nat.le_of_ble_eq_true rfl) dX7_init_5 (fun q_1 H G => ?_)
  have G : zS T A s.heap s [[(rd, .inr (7, [.null, .null, .null, .int 0, .int 0, .null, .int 0, .int 0, .int 0, .int 0, .int 0, .int 0, .int 0]))], [(q_1, .inr (4, [.int 0, .int 0, .null, .null, .null, .null]))]] _ _ := G
  refine lv_dup hx hb dX7_init_8 rfl ?_
  refine z_Jv (bc := [[(q_1, .inr (4, [.int 0, .int 0, .null, .null, .null, .null]))]]) (br := [[(rd, .inr (7, [.null, .null, .null, .int 0, .int 0, .null, .int 0, .int 0, .int 0, .int 0, .int 0, .int 0, .int 0]))]]) (As := []) (rest := [.ref q_1, .ref rd]) C G (c_Land_init l T q_1) (kJ_RX7_11 G.2.2.2.2.2.1 C.2.2.2.2 (Nat.le_of_ble_eq_true rfl) (Nat.le_of_ble_eq_true rfl)) [1] [0] rfl rfl rfl rfl hl.1 dX7_init_9 (Nat.le_of_ble_eq_true rfl) (Nat.le_of_ble_eq_true rfl) (fun b1 H locs hw G => ?_)
  obtain ⟨w_2, rfl, h_3⟩ := hw
  have G : zS T A s.heap s [[(rd, .inr (7, [.null, .null, .null, .int 0, .int 0, .null, .int 0, .int 0, .int 0, .int 0, .int 0, .int 0, .int 0]))], w_2] _ _ := G
  refine z_putF C G hnm clX7 0 rfl 0 (by decide) m_fl_RX7_12 rfl rfl rfl rfl (Nat.le_of_ble_eq_true rfl) dX7_init_12 (fun H locs G => ?_)
  have G : zS T A s.heap s [[(rd, .inr (7, [.ref q_1, .null, .null, .int 0, .int 0, .null, .int 0, .int 0, .int 0, .int 0, .int 0, .int 0, .int 0]))], w_2] _ _ := G
  refine lv_aload_n hx hb dX7_init_15 rfl (lv_at hl 0 rfl) ?_
  refine z_new C G clX2 (fs := [.int 0, .null, .null, .null]) m_cl_RX7_18 m_in_RX2 m_ii_RX2 (fun j hj => by match j, hj with | 0, _ => rfl | 1, _ => rfl | 2, _ => rfl | 3, _ => rfl | j + 4, h => exact absurd h (by omega)) (Nat.le_of_ble_eq_true rfl) (Nat.le_of_ble_eq_true rfl) dX7_init_16 (fun q_5 H G => ?_)
  have G : zS T A s.heap s [[(rd, .inr (7, [.ref q_1, .null, .null, .int 0, .int 0, .null, .int 0, .int 0, .int 0, .int 0, .int 0, .int 0, .int 0]))], w_2, [(q_5, .inr (2, [.int 0, .null, .null, .null]))]] _ _ := G
  refine lv_dup hx hb dX7_init_19 rfl ?_
  refine z_Jv (bc := [[(q_5, .inr (2, [.int 0, .null, .null, .null]))]]) (br := [[(rd, .inr (7, [.ref q_1, .null, .null, .int 0, .int 0, .null, .int 0, .int 0, .int 0, .int 0, .int 0, .int 0, .int 0]))], w_2]) (As := []) (rest := [.ref q_5, .ref rd]) C G (c_Day_init l T q_5) (kJ_RX7_20 G.2.2.2.2.2.1 C.2.2.2.2 (Nat.le_of_ble_eq_true rfl) (Nat.le_of_ble_eq_true rfl)) [2] [0, 1] rfl rfl rfl rfl hl.1 dX7_init_20 (Nat.le_of_ble_eq_true rfl) (Nat.le_of_ble_eq_true rfl) (fun b1 H locs hw G => ?_)
  obtain ⟨w_6, rfl, h_7⟩ := hw
  have G : zS T A s.heap s [[(rd, .inr (7, [.ref q_1, .null, .null, .int 0, .int 0, .null, .int 0, .int 0, .int 0, .int 0, .int 0, .int 0, .int 0]))], w_2, w_6] _ _ := G
  refine z_putF C G hnm clX7 0 rfl 1 (by decide) m_fl_RX7_21 rfl rfl rfl rfl (Nat.le_of_ble_eq_true rfl) dX7_init_23 (fun H locs G => ?_)
  have G : zS T A s.heap s [[(rd, .inr (7, [.ref q_1, .ref q_5, .null, .int 0, .int 0, .null, .int 0, .int 0, .int 0, .int 0, .int 0, .int 0, .int 0]))], w_2, w_6] _ _ := G
  refine lv_aload_n hx hb dX7_init_26 rfl (lv_at hl 0 rfl) ?_
  refine z_new C G clX5 (fs := [.int 0, .null, .null]) m_cl_RX7_25 m_in_RX5 m_ii_RX5 (fun j hj => by match j, hj with | 0, _ => rfl | 1, _ => rfl | 2, _ => rfl | j + 3, h => exact absurd h (by omega)) (Nat.le_of_ble_eq_true rfl) (Nat.le_of_ble_eq_true rfl) dX7_init_27 (fun q_9 H G => ?_)
  have G : zS T A s.heap s [[(rd, .inr (7, [.ref q_1, .ref q_5, .null, .int 0, .int 0, .null, .int 0, .int 0, .int 0, .int 0, .int 0, .int 0, .int 0]))], w_2, w_6, [(q_9, .inr (5, [.int 0, .null, .null]))]] _ _ := G
  refine lv_dup hx hb dX7_init_30 rfl ?_
  refine z_Jv (bc := [[(q_9, .inr (5, [.int 0, .null, .null]))]]) (br := [[(rd, .inr (7, [.ref q_1, .ref q_5, .null, .int 0, .int 0, .null, .int 0, .int 0, .int 0, .int 0, .int 0, .int 0, .int 0]))], w_2, w_6]) (As := []) (rest := [.ref q_9, .ref rd]) C G (c_Log_init l T q_9) (kJ_RX7_27 G.2.2.2.2.2.1 C.2.2.2.2 (Nat.le_of_ble_eq_true rfl) (Nat.le_of_ble_eq_true rfl)) [3] [0, 1, 2] rfl rfl rfl rfl hl.1 dX7_init_31 (Nat.le_of_ble_eq_true rfl) (Nat.le_of_ble_eq_true rfl) (fun b1 H locs hw G => ?_)
  obtain ⟨w_10, rfl, h_11⟩ := hw
  have G : zS T A s.heap s [[(rd, .inr (7, [.ref q_1, .ref q_5, .null, .int 0, .int 0, .null, .int 0, .int 0, .int 0, .int 0, .int 0, .int 0, .int 0]))], w_2, w_6, w_10] _ _ := G
  refine z_putF C G hnm clX7 0 rfl 2 (by decide) m_fl_RX7_28 rfl rfl rfl rfl (Nat.le_of_ble_eq_true rfl) dX7_init_34 (fun H locs G => ?_)
  have G : zS T A s.heap s [[(rd, .inr (7, [.ref q_1, .ref q_5, .ref q_9, .int 0, .int 0, .null, .int 0, .int 0, .int 0, .int 0, .int 0, .int 0, .int 0]))], w_2, w_6, w_10] _ _ := G
  refine lv_aload_n hx hb dX7_init_37 rfl (lv_at hl 0 rfl) ?_
  refine lv_iconst (v := 0) hx hb dX7_init_38 (by decide) ?_
  refine z_newa C G 1 (ty := .byte) (N' := 0) (a0 := (0, .inl (fun _ => 0))) rfl z_ubyte m_ar_byte rfl (fun _ => rfl) (by decide) (by decide) (Nat.le_of_ble_eq_true rfl) (Nat.le_of_ble_eq_true rfl) (Nat.le_of_ble_eq_true rfl) dX7_init_39 (fun q_13 H G => ?_)
  have G : zS T A s.heap s [[(rd, .inr (7, [.ref q_1, .ref q_5, .ref q_9, .int 0, .int 0, .null, .int 0, .int 0, .int 0, .int 0, .int 0, .int 0, .int 0]))], w_2, w_6, w_10, [(q_13, .inl (T.2 1, 0, .inl (fun _ => 0)))]] _ _ := G
  refine z_put C G clX7 0 rfl 5 (by decide) m_fl_RX7_32 rfl rfl rfl (Nat.le_of_ble_eq_true rfl) dX7_init_41 (fun H locs G => ?_)
  have G : zS T A s.heap s [[(rd, .inr (7, [.ref q_1, .ref q_5, .ref q_9, .int 0, .int 0, .ref q_13, .int 0, .int 0, .int 0, .int 0, .int 0, .int 0, .int 0]))], w_2, w_6, w_10, [(q_13, .inl (T.2 1, 0, .inl (fun _ => 0)))]] _ _ := G
  have G := G.sub (bs' := [[(rd, .inr (7, [.ref q_1, .ref q_5, .ref q_9, .int 0, .int 0, .ref q_13, .int 0, .int 0, .int 0, .int 0, .int 0, .int 0, .int 0]))], w_2, w_6, w_10]) [0, 1, 2, 3] rfl
  exact z_vret C hr hlocks G (Nat.le_of_ble_eq_true rfl) (Nat.le_of_ble_eq_true rfl) dX7_init_44 ⟨q_1, q_5, q_9, q_13, w_2, w_6, w_10, rfl, h_3, h_7, h_11⟩


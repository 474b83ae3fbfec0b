section ZLong
variable {p : Program} {l : Launch} {e : Env} {R : Room} {s : State} {m : MethodId} {args : Array Value} {below : List Frame} {meth : Method} {c : Code} {H : Heap} {locs : List Loc} {cells slots : Nat} {Q : State → Prop}
variable {cc : ByteArray} {nL pc : Nat} {ls : Array Slot} {rest st0 : List Value} {T : zTy} {A : Nat → Prop} {bs bc br : List va_W} {H0 : Heap} {own : String}
variable {y : MethodName} {bytes : ByteArray} {maxL index n d mc ms : Nat} {ret : Option FieldType} {As : List Value}
def zMl (l : Launch) (T : zTy) (y : MethodName) (b : ByteArray) (n : Nat) (ret : Option FieldType) (d mc ms : Nat) (av : List Value) (bs : List va_W) (post : Int64 → List va_W → Prop) : Prop :=
  ∀ sz : Nat, Met l y (zW y b n ret) (zR d mc ms) (zPre T av bs sz) (va_Ql post (zB T (va_A bs.flatten sz)) (va_A bs.flatten sz)) mc ms (va_A bs.flatten sz)
theorem zMl_of {y : MethodName} {b : ByteArray} {n : Nat} {ret : Option FieldType} {d : Nat} {av : List Value} {post : Int64 → List va_W → Prop} (hy : plainName y.cls = true) (ho : y.cls = own) (hlen : (lg_sl av).length ≤ n) (k : zBody l T y own b n ret d mc ms av bs (fun A => va_Ql post (zB T A) A)) : zMl l T y b n ret d mc ms av bs post := z_body (Qc := fun A => va_Ql post (zB T A) A) hy ho hlen k
theorem z_lret {post : Int64 → List va_W → Prop} {v : Int64} (C : CallFix p m c cc nL s args zT own) (hr : meth.sig.returnType = some .long) (hlocks : meth.locks = false) (G : zS T A s.heap s bs H locs) (h1 : cells ≤ mc) (h2 : slots ≤ ms) (hdg : decode cc pc = .ok (.lreturn, 1)) (hp : post v bs) : W p l e R s m args below meth c H locs cells slots (MQ below (va_Ql post (zB T A) A) args s mc ms A) (F0 m pc ls [.long v]) :=
  W.widen h1 h2 (W.lret C.1 C.2.1 hr (fun t ht hW => ⟨⟨v, bs, rfl, hp, by rw [ht]; exact G.2.1, va_K.moved hW.alike G.1, G.2.2.1⟩, G.2.2.2.1.F ht⟩) G.2.2.2.1.2.2 hdg hlocks)
theorem z_Sl (C : CallFix p m c cc nL s args zT own) (G : zS T A H0 s bs H locs) {post : Int64 → List va_W → Prop} (hM : zMl l T y bytes maxL ret d mc ms As bc post) (cw : CallB R s args own index y bytes maxL ret (zW y bytes maxL ret) (zR d mc ms) mc ms n ∧ (Cond.static y).before args s = true) (isC gs : List Nat) (hC : isC.map (fun i => bs[i]?) = bc.map some) (hR9 : zGp gs bs = br) (hn : As.length = n) (hst : st0 = As.reverse ++ rest) (hls : ls.size = nL) (hdg : decode cc pc = .ok (.invokestatic index, 3)) (hf1 : cells + mc ≤ R.cells) (hf2 : slots + ms ≤ R.slots)
    (kk : ∀ (r : Int64) (b1 : List va_W) (H1 : Heap) (locs1 : List Loc), post r b1 → zS T A H0 s (br ++ b1) H1 locs1 → W p l e R s m args below meth c H1 locs1 (cells + mc) (slots + ms) Q (F0 m (pc + 3) ls (.long r :: rest)))
    (hW : (rest.map fun v => v.category).sum ≤ 8 := by exact Nat.le_of_ble_eq_true rfl) (hk9 : zCk isC gs = true := by decide +kernel) : W p l e R s m args below meth c H locs cells slots Q (F0 m pc ls st0) := by
  subst hst
  obtain ⟨hnC, hck⟩ := zCk_s hk9
  obtain ⟨isR, hnR, hR, hds⟩ := zGp_is bs gs
  rw [hR9] at hR
  have hdis : ∀ i ∈ isR, i ∉ isC := fun i h1 h2 => hds i h1 (hck i h2)
  refine va_calll (va_runS (As := As) (rest := rest) ⟨C.1, C.2.1, C.2.2.1, C.2.2.2.1, C.2.2.2.2⟩ (hM H.size) cw (z_pre G isC hC hnC As) rfl hn hls rfl (lv_room hW) hdg ⟨hf1, hf2⟩) G.2.2.2.1 (fun q _ h => z_freeF G isC hC hnC q h) (z_freeF G isC hC hnC) (fun r b1 t H1 locs1 ht hvm hp hB hz hk hS => ?_)
  obtain ⟨hP1, hK1, hD1⟩ := hB
  rw [ht] at hP1
  exact kk r b1 H1 locs1 hp (z_join G isC isR hC hR hnC hnR hdis hk hP1 hD1 hS)
theorem z_lcne (hexec : p.tables.exec = Jvm.exec) (hb : c.code = cc) {x y : Int64} {off : Int} {tgt : Nat} (hd1 : decode cc pc = .ok (.lcmp, 1)) (hd2 : decode cc (pc + 1) = .ok (.ifCond .ne off, 3)) (ht : ((pc + 1 : Nat) : Int) + off = (tgt : Int))
    (kt : ¬ x = y → W p l e R s m args below meth c H locs cells slots Q (F0 m tgt ls rest)) (kf : x = y → W p l e R s m args below meth c H locs cells slots Q (F0 m (pc + 1 + 3) ls rest)) : W p l e R s m args below meth c H locs cells slots Q (F0 m pc ls (.long y :: .long x :: rest)) := by
  have step : ∀ v : Int32, (x > y ∧ v = 1) ∨ (¬ x > y ∧ x = y ∧ v = 0) ∨ (¬ x > y ∧ ¬ x = y ∧ v = -1) → W p l e R s m args below meth c H locs cells slots Q (F0 m (pc + 1) ls (.int v :: rest)) → W p l e R s m args below meth c H locs cells slots Q (F0 m pc ls (.long y :: .long x :: rest)) := by
    intro v hv k
    intro T hT X
    obtain ⟨t, a, b⟩ := k T hT X
    refine ⟨t, ?_, b⟩
    rcases hv with ⟨c1, rfl⟩ | ⟨c1, c2, rfl⟩ | ⟨c1, c2, rfl⟩
    · jvm_step X.here [X.here.top, hexec, hb, hd1, c1]
      exact a
    · subst c2
      jvm_step X.here [X.here.top, hexec, hb, hd1, c1]
      exact a
    · jvm_step X.here [X.here.top, hexec, hb, hd1, c1, c2]
      exact a
  by_cases c1 : x > y
  · exact step 1 (Or.inl ⟨c1, rfl⟩) (lv_if_ne hexec hb hd2 ht (fun _ => kt (fun q => absurd c1 (by rw [q]; exact Int64.lt_irrefl))) (fun q => absurd q (by decide)))
  · by_cases c2 : x = y
    · exact step 0 (Or.inr (Or.inl ⟨c1, c2, rfl⟩)) (lv_if_ne hexec hb hd2 ht (fun q => absurd rfl q) (fun _ => kf c2))
    · exact step (-1) (Or.inr (Or.inr ⟨c1, c2, rfl⟩)) (lv_if_ne hexec hb hd2 ht (fun _ => kt c2) (fun q => absurd q (by decide)))
end ZLong
def zFour (a b c d : Int32) : Int64 := (((a * 32 + b) * 32 + c) * 32 + d).toInt64
def zEight (a b c d e f g h : Int32) : Int64 := zFour a b c d * 1048576 + zFour e f g h
def zWord (v : Int64) : Int32 := if v = zEight 0 0 0 3 18 15 19 19 then 1 else if v = zFour 16 15 19 20 then 2 else if v = zEight 0 23 1 12 11 5 18 19 then 3 else if v = zFour 0 9 14 14 then 4 else if v = zFour 0 0 7 15 then 5 else if v = zFour 0 18 21 14 then 6 else if v = zFour 20 21 18 14 then 7 else if v = zFour 0 1 4 4 then 8 else if v = zFour 19 8 21 20 then 9 else if v = zFour 15 16 5 14 then 10 else if v = zFour 3 1 13 5 then 11 else if v = zEight 0 0 0 14 5 22 5 18 then 12 else 99
set_option maxHeartbeats 4000000 in
set_option maxRecDepth 100000 in
/-- c_m_four -/
theorem c_m_four (l : Launch) (T : zTy) (a_ : Int32) (b_ : Int32) (c_ : Int32) (d_ : Int32) : zMl l T yX12_four cX12_four 4 (some .long) 1 0 0 [.int a_, .int b_, .int c_, .int d_] [] (fun (r : Int64) bs => bs = [] ∧ r = zFour a_ b_ c_ d_) := by
  refine zMl_of (own := RX12) (by decide) rfl (Nat.le_of_ble_eq_true rfl) ?_
  intro p e s m args below meth c A ls C hr hlocks hnm hAe G hl
  refine zHide (fun Q9 hQ9 => ?_)
  have hx := C.1
  have hb := C.2.1
  have hl : lv_has ls 4 [(0, .int a_), (1, .int b_), (2, .int c_), (3, .int d_)] := hl
  refine lv_iload_n hx hb dX12_four_0 rfl (lv_at hl 0 rfl) ?_
  refine lv_bipush (v := 32) hx hb dX12_four_1 (by decide) ?_
  refine lv_imul hx hb dX12_four_3 ?_
  refine lv_iload_n hx hb dX12_four_4 rfl (lv_at hl 1 rfl) ?_
  refine lv_iadd hx hb dX12_four_5 ?_
  refine lv_bipush (v := 32) hx hb dX12_four_6 (by decide) ?_
  refine lv_imul hx hb dX12_four_8 ?_
  refine lv_iload_n hx hb dX12_four_9 rfl (lv_at hl 2 rfl) ?_
  refine lv_iadd hx hb dX12_four_10 ?_
  refine lv_bipush (v := 32) hx hb dX12_four_11 (by decide) ?_
  refine lv_imul hx hb dX12_four_13 ?_
  refine lv_iload_n hx hb dX12_four_14 rfl (lv_at hl 3 rfl) ?_
  refine lv_iadd hx hb dX12_four_15 ?_
  refine lv_i2l hx hb dX12_four_16 rfl ?_
  exact z_back hQ9 (z_lret C hr hlocks G (Nat.le_of_ble_eq_true rfl) (Nat.le_of_ble_eq_true rfl) dX12_four_17 ⟨rfl, rfl⟩)
set_option maxHeartbeats 4000000 in
set_option maxRecDepth 100000 in
/-- c_m_eight -/
theorem c_m_eight (l : Launch) (T : zTy) (a_ : Int32) (b_ : Int32) (c_ : Int32) (d_ : Int32) (e_ : Int32) (f_ : Int32) (g_ : Int32) (h_ : Int32) : zMl l T yX12_eight cX12_eight 8 (some .long) 2 0 0 [.int a_, .int b_, .int c_, .int d_, .int e_, .int f_, .int g_, .int h_] [] (fun (r : Int64) bs => bs = [] ∧ r = zEight a_ b_ c_ d_ e_ f_ g_ h_) := by
  refine zMl_of (own := RX12) (by decide) rfl (Nat.le_of_ble_eq_true rfl) ?_
  intro p e s m args below meth c A ls C hr hlocks hnm hAe G hl
  refine zHide (fun Q9 hQ9 => ?_)
  have hx := C.1
  have hb := C.2.1
  have hl : lv_has ls 8 [(0, .int a_), (1, .int b_), (2, .int c_), (3, .int d_), (4, .int e_), (5, .int f_), (6, .int g_), (7, .int h_)] := hl
  refine lv_iload_n hx hb dX12_eight_0 rfl (lv_at hl 0 rfl) ?_
  refine lv_iload_n hx hb dX12_eight_1 rfl (lv_at hl 1 rfl) ?_
  refine lv_iload_n hx hb dX12_eight_2 rfl (lv_at hl 2 rfl) ?_
  refine lv_iload_n hx hb dX12_eight_3 rfl (lv_at hl 3 rfl) ?_
  refine z_Sl (bc := []) (br := []) (As := [.int a_, .int b_, .int c_, .int d_]) (rest := []) C G (c_m_four l T a_ b_ c_ d_) (kS_RX12_60 C.2.2.2.2 (Nat.le_of_ble_eq_true rfl) (Nat.le_of_ble_eq_true rfl)) [] [] rfl rfl rfl rfl hl.1 dX12_eight_4 (Nat.le_of_ble_eq_true rfl) (Nat.le_of_ble_eq_true rfl) (fun r_2 b1 H locs hw G => ?_)
  refine zAn2 hw ?_
  intro hbs9 h_1
  clear hw
  subst hbs9
  have G : zS T A s.heap s [] _ _ := G
  subst h_1
  refine lv_ldc2 (v := 1048576) hx hb C.2.2.2.1 (C.2.2.2.2 _ m_kl_RX12_64) dX12_eight_7 ?_
  refine lv_lmul hx hb dX12_eight_10 ?_
  refine lv_iload hx hb dX12_eight_11 (lv_at hl 4 rfl) ?_
  refine lv_iload hx hb dX12_eight_13 (lv_at hl 5 rfl) ?_
  refine lv_iload hx hb dX12_eight_15 (lv_at hl 6 rfl) ?_
  refine lv_iload hx hb dX12_eight_17 (lv_at hl 7 rfl) ?_
  refine z_Sl (bc := []) (br := []) (As := [.int e_, .int f_, .int g_, .int h_]) (rest := [.long ((zFour a_ b_ c_ d_) * (1048576 : Int64))]) C G (c_m_four l T e_ f_ g_ h_) (kS_RX12_60 C.2.2.2.2 (Nat.le_of_ble_eq_true rfl) (Nat.le_of_ble_eq_true rfl)) [] [] rfl rfl rfl rfl hl.1 dX12_eight_19 (Nat.le_of_ble_eq_true rfl) (Nat.le_of_ble_eq_true rfl) (fun r_4 b1 H locs hw G => ?_)
  refine zAn2 hw ?_
  intro hbs9 h_3
  clear hw
  subst hbs9
  have G : zS T A s.heap s [] _ _ := G
  subst h_3
  refine lv_ladd hx hb dX12_eight_22 ?_
  exact z_back hQ9 (z_lret C hr hlocks G (Nat.le_of_ble_eq_true rfl) (Nat.le_of_ble_eq_true rfl) dX12_eight_23 ⟨rfl, rfl⟩)
set_option maxHeartbeats 4000000 in
set_option maxRecDepth 100000 in
/-- c_m_wordOf -/
theorem c_m_wordOf (l : Launch) (T : zTy) (v : Int64) : zMi l T yX12_wordOf cX12_wordOf 2 (some .int) 3 0 0 [.long v] [] (fun (r : Int32) bs => bs = [] ∧ r = zWord v) := by
  refine zMi_of (own := RX12) (by decide) rfl (Nat.le_of_ble_eq_true rfl) ?_
  intro p e s m args below meth c A ls C hr hlocks hnm hAe G hl
  refine zHide (fun Q9 hQ9 => ?_)
  have hx := C.1
  have hb := C.2.1
  have hl : lv_has ls 2 [(0, .long v)] := hl
  refine lv_lload_n hx hb dX12_wordOf_0 rfl (lv_at hl 0 rfl) ?_
  refine lv_iconst (v := 0) hx hb dX12_wordOf_1 (by decide) ?_
  refine lv_iconst (v := 0) hx hb dX12_wordOf_2 (by decide) ?_
  refine lv_iconst (v := 0) hx hb dX12_wordOf_3 (by decide) ?_
  refine lv_iconst (v := 3) hx hb dX12_wordOf_4 (by decide) ?_
  refine lv_bipush (v := 18) hx hb dX12_wordOf_5 (by decide) ?_
  refine lv_bipush (v := 15) hx hb dX12_wordOf_7 (by decide) ?_
  refine lv_bipush (v := 19) hx hb dX12_wordOf_9 (by decide) ?_
  refine lv_bipush (v := 19) hx hb dX12_wordOf_11 (by decide) ?_
  refine z_Sl (bc := []) (br := []) (As := [.int 0, .int 0, .int 0, .int 3, .int 18, .int 15, .int 19, .int 19]) (rest := [.long v]) C G (c_m_eight l T 0 0 0 3 18 15 19 19) (kS_RX12_66 C.2.2.2.2 (Nat.le_of_ble_eq_true rfl) (Nat.le_of_ble_eq_true rfl)) [] [] rfl rfl rfl rfl hl.1 dX12_wordOf_13 (Nat.le_of_ble_eq_true rfl) (Nat.le_of_ble_eq_true rfl) (fun r_2 b1 H locs hw G => ?_)
  refine zAn2 hw ?_
  intro hbs9 h_1
  clear hw
  subst hbs9
  have G : zS T A s.heap s [] _ _ := G
  subst h_1
  refine z_lcne (tgt := 22) hx hb dX12_wordOf_16 dX12_wordOf_17 (by decide) (fun c_3 => ?_) (fun c_3 => ?_)
  · have c_3n : ¬ (v = (zEight 0 0 0 3 18 15 19 19)) := c_3
    refine lv_lload_n hx hb dX12_wordOf_22 rfl (lv_at hl 0 rfl) ?_
    refine lv_bipush (v := 16) hx hb dX12_wordOf_23 (by decide) ?_
    refine lv_bipush (v := 15) hx hb dX12_wordOf_25 (by decide) ?_
    refine lv_bipush (v := 19) hx hb dX12_wordOf_27 (by decide) ?_
    refine lv_bipush (v := 20) hx hb dX12_wordOf_29 (by decide) ?_
    refine z_Sl (bc := []) (br := []) (As := [.int 16, .int 15, .int 19, .int 20]) (rest := [.long v]) C G (c_m_four l T 16 15 19 20) (kS_RX12_60 C.2.2.2.2 (Nat.le_of_ble_eq_true rfl) (Nat.le_of_ble_eq_true rfl)) [] [] rfl rfl rfl rfl hl.1 dX12_wordOf_31 (Nat.le_of_ble_eq_true rfl) (Nat.le_of_ble_eq_true rfl) (fun r_5 b1 H locs hw G => ?_)
    refine zAn2 hw ?_
    intro hbs9 h_4
    clear hw
    subst hbs9
    have G : zS T A s.heap s [] _ _ := G
    subst h_4
    refine z_lcne (tgt := 40) hx hb dX12_wordOf_34 dX12_wordOf_35 (by decide) (fun c_6 => ?_) (fun c_6 => ?_)
    · have c_6n : ¬ (v = (zFour 16 15 19 20)) := c_6
      refine lv_lload_n hx hb dX12_wordOf_40 rfl (lv_at hl 0 rfl) ?_
      refine lv_iconst (v := 0) hx hb dX12_wordOf_41 (by decide) ?_
      refine lv_bipush (v := 23) hx hb dX12_wordOf_42 (by decide) ?_
      refine lv_iconst (v := 1) hx hb dX12_wordOf_44 (by decide) ?_
      refine lv_bipush (v := 12) hx hb dX12_wordOf_45 (by decide) ?_
      refine lv_bipush (v := 11) hx hb dX12_wordOf_47 (by decide) ?_
      refine lv_iconst (v := 5) hx hb dX12_wordOf_49 (by decide) ?_
      refine lv_bipush (v := 18) hx hb dX12_wordOf_50 (by decide) ?_
      refine lv_bipush (v := 19) hx hb dX12_wordOf_52 (by decide) ?_
      refine z_Sl (bc := []) (br := []) (As := [.int 0, .int 23, .int 1, .int 12, .int 11, .int 5, .int 18, .int 19]) (rest := [.long v]) C G (c_m_eight l T 0 23 1 12 11 5 18 19) (kS_RX12_66 C.2.2.2.2 (Nat.le_of_ble_eq_true rfl) (Nat.le_of_ble_eq_true rfl)) [] [] rfl rfl rfl rfl hl.1 dX12_wordOf_54 (Nat.le_of_ble_eq_true rfl) (Nat.le_of_ble_eq_true rfl) (fun r_8 b1 H locs hw G => ?_)
      refine zAn2 hw ?_
      intro hbs9 h_7
      clear hw
      subst hbs9
      have G : zS T A s.heap s [] _ _ := G
      subst h_7
      refine z_lcne (tgt := 63) hx hb dX12_wordOf_57 dX12_wordOf_58 (by decide) (fun c_9 => ?_) (fun c_9 => ?_)
      · have c_9n : ¬ (v = (zEight 0 23 1 12 11 5 18 19)) := c_9
        refine lv_lload_n hx hb dX12_wordOf_63 rfl (lv_at hl 0 rfl) ?_
        refine lv_iconst (v := 0) hx hb dX12_wordOf_64 (by decide) ?_
        refine lv_bipush (v := 9) hx hb dX12_wordOf_65 (by decide) ?_
        refine lv_bipush (v := 14) hx hb dX12_wordOf_67 (by decide) ?_
        refine lv_bipush (v := 14) hx hb dX12_wordOf_69 (by decide) ?_
        refine z_Sl (bc := []) (br := []) (As := [.int 0, .int 9, .int 14, .int 14]) (rest := [.long v]) C G (c_m_four l T 0 9 14 14) (kS_RX12_60 C.2.2.2.2 (Nat.le_of_ble_eq_true rfl) (Nat.le_of_ble_eq_true rfl)) [] [] rfl rfl rfl rfl hl.1 dX12_wordOf_71 (Nat.le_of_ble_eq_true rfl) (Nat.le_of_ble_eq_true rfl) (fun r_11 b1 H locs hw G => ?_)
        refine zAn2 hw ?_
        intro hbs9 h_10
        clear hw
        subst hbs9
        have G : zS T A s.heap s [] _ _ := G
        subst h_10
        refine z_lcne (tgt := 80) hx hb dX12_wordOf_74 dX12_wordOf_75 (by decide) (fun c_12 => ?_) (fun c_12 => ?_)
        · have c_12n : ¬ (v = (zFour 0 9 14 14)) := c_12
          refine lv_lload_n hx hb dX12_wordOf_80 rfl (lv_at hl 0 rfl) ?_
          refine lv_iconst (v := 0) hx hb dX12_wordOf_81 (by decide) ?_
          refine lv_iconst (v := 0) hx hb dX12_wordOf_82 (by decide) ?_
          refine lv_bipush (v := 7) hx hb dX12_wordOf_83 (by decide) ?_
          refine lv_bipush (v := 15) hx hb dX12_wordOf_85 (by decide) ?_
          refine z_Sl (bc := []) (br := []) (As := [.int 0, .int 0, .int 7, .int 15]) (rest := [.long v]) C G (c_m_four l T 0 0 7 15) (kS_RX12_60 C.2.2.2.2 (Nat.le_of_ble_eq_true rfl) (Nat.le_of_ble_eq_true rfl)) [] [] rfl rfl rfl rfl hl.1 dX12_wordOf_87 (Nat.le_of_ble_eq_true rfl) (Nat.le_of_ble_eq_true rfl) (fun r_14 b1 H locs hw G => ?_)
          refine zAn2 hw ?_
          intro hbs9 h_13
          clear hw
          subst hbs9
          have G : zS T A s.heap s [] _ _ := G
          subst h_13
          refine z_lcne (tgt := 96) hx hb dX12_wordOf_90 dX12_wordOf_91 (by decide) (fun c_15 => ?_) (fun c_15 => ?_)
          · have c_15n : ¬ (v = (zFour 0 0 7 15)) := c_15
            refine lv_lload_n hx hb dX12_wordOf_96 rfl (lv_at hl 0 rfl) ?_
            refine lv_iconst (v := 0) hx hb dX12_wordOf_97 (by decide) ?_
            refine lv_bipush (v := 18) hx hb dX12_wordOf_98 (by decide) ?_
            refine lv_bipush (v := 21) hx hb dX12_wordOf_100 (by decide) ?_
            refine lv_bipush (v := 14) hx hb dX12_wordOf_102 (by decide) ?_
            refine z_Sl (bc := []) (br := []) (As := [.int 0, .int 18, .int 21, .int 14]) (rest := [.long v]) C G (c_m_four l T 0 18 21 14) (kS_RX12_60 C.2.2.2.2 (Nat.le_of_ble_eq_true rfl) (Nat.le_of_ble_eq_true rfl)) [] [] rfl rfl rfl rfl hl.1 dX12_wordOf_104 (Nat.le_of_ble_eq_true rfl) (Nat.le_of_ble_eq_true rfl) (fun r_17 b1 H locs hw G => ?_)
            refine zAn2 hw ?_
            intro hbs9 h_16
            clear hw
            subst hbs9
            have G : zS T A s.heap s [] _ _ := G
            subst h_16
            refine z_lcne (tgt := 114) hx hb dX12_wordOf_107 dX12_wordOf_108 (by decide) (fun c_18 => ?_) (fun c_18 => ?_)
            · have c_18n : ¬ (v = (zFour 0 18 21 14)) := c_18
              refine lv_lload_n hx hb dX12_wordOf_114 rfl (lv_at hl 0 rfl) ?_
              refine lv_bipush (v := 20) hx hb dX12_wordOf_115 (by decide) ?_
              refine lv_bipush (v := 21) hx hb dX12_wordOf_117 (by decide) ?_
              refine lv_bipush (v := 18) hx hb dX12_wordOf_119 (by decide) ?_
              refine lv_bipush (v := 14) hx hb dX12_wordOf_121 (by decide) ?_
              refine z_Sl (bc := []) (br := []) (As := [.int 20, .int 21, .int 18, .int 14]) (rest := [.long v]) C G (c_m_four l T 20 21 18 14) (kS_RX12_60 C.2.2.2.2 (Nat.le_of_ble_eq_true rfl) (Nat.le_of_ble_eq_true rfl)) [] [] rfl rfl rfl rfl hl.1 dX12_wordOf_123 (Nat.le_of_ble_eq_true rfl) (Nat.le_of_ble_eq_true rfl) (fun r_20 b1 H locs hw G => ?_)
              refine zAn2 hw ?_
              intro hbs9 h_19
              clear hw
              subst hbs9
              have G : zS T A s.heap s [] _ _ := G
              subst h_19
              refine z_lcne (tgt := 133) hx hb dX12_wordOf_126 dX12_wordOf_127 (by decide) (fun c_21 => ?_) (fun c_21 => ?_)
              · have c_21n : ¬ (v = (zFour 20 21 18 14)) := c_21
                refine lv_lload_n hx hb dX12_wordOf_133 rfl (lv_at hl 0 rfl) ?_
                refine lv_iconst (v := 0) hx hb dX12_wordOf_134 (by decide) ?_
                refine lv_iconst (v := 1) hx hb dX12_wordOf_135 (by decide) ?_
                refine lv_iconst (v := 4) hx hb dX12_wordOf_136 (by decide) ?_
                refine lv_iconst (v := 4) hx hb dX12_wordOf_137 (by decide) ?_
                refine z_Sl (bc := []) (br := []) (As := [.int 0, .int 1, .int 4, .int 4]) (rest := [.long v]) C G (c_m_four l T 0 1 4 4) (kS_RX12_60 C.2.2.2.2 (Nat.le_of_ble_eq_true rfl) (Nat.le_of_ble_eq_true rfl)) [] [] rfl rfl rfl rfl hl.1 dX12_wordOf_138 (Nat.le_of_ble_eq_true rfl) (Nat.le_of_ble_eq_true rfl) (fun r_23 b1 H locs hw G => ?_)
                refine zAn2 hw ?_
                intro hbs9 h_22
                clear hw
                subst hbs9
                have G : zS T A s.heap s [] _ _ := G
                subst h_22
                refine z_lcne (tgt := 148) hx hb dX12_wordOf_141 dX12_wordOf_142 (by decide) (fun c_24 => ?_) (fun c_24 => ?_)
                · have c_24n : ¬ (v = (zFour 0 1 4 4)) := c_24
                  refine lv_lload_n hx hb dX12_wordOf_148 rfl (lv_at hl 0 rfl) ?_
                  refine lv_bipush (v := 19) hx hb dX12_wordOf_149 (by decide) ?_
                  refine lv_bipush (v := 8) hx hb dX12_wordOf_151 (by decide) ?_
                  refine lv_bipush (v := 21) hx hb dX12_wordOf_153 (by decide) ?_
                  refine lv_bipush (v := 20) hx hb dX12_wordOf_155 (by decide) ?_
                  refine z_Sl (bc := []) (br := []) (As := [.int 19, .int 8, .int 21, .int 20]) (rest := [.long v]) C G (c_m_four l T 19 8 21 20) (kS_RX12_60 C.2.2.2.2 (Nat.le_of_ble_eq_true rfl) (Nat.le_of_ble_eq_true rfl)) [] [] rfl rfl rfl rfl hl.1 dX12_wordOf_157 (Nat.le_of_ble_eq_true rfl) (Nat.le_of_ble_eq_true rfl) (fun r_26 b1 H locs hw G => ?_)
                  refine zAn2 hw ?_
                  intro hbs9 h_25
                  clear hw
                  subst hbs9
                  have G : zS T A s.heap s [] _ _ := G
                  subst h_25
                  refine z_lcne (tgt := 167) hx hb dX12_wordOf_160 dX12_wordOf_161 (by decide) (fun c_27 => ?_) (fun c_27 => ?_)
                  · have c_27n : ¬ (v = (zFour 19 8 21 20)) := c_27
                    refine lv_lload_n hx hb dX12_wordOf_167 rfl (lv_at hl 0 rfl) ?_
                    refine lv_bipush (v := 15) hx hb dX12_wordOf_168 (by decide) ?_
                    refine lv_bipush (v := 16) hx hb dX12_wordOf_170 (by decide) ?_
                    refine lv_iconst (v := 5) hx hb dX12_wordOf_172 (by decide) ?_
                    refine lv_bipush (v := 14) hx hb dX12_wordOf_173 (by decide) ?_
                    refine z_Sl (bc := []) (br := []) (As := [.int 15, .int 16, .int 5, .int 14]) (rest := [.long v]) C G (c_m_four l T 15 16 5 14) (kS_RX12_60 C.2.2.2.2 (Nat.le_of_ble_eq_true rfl) (Nat.le_of_ble_eq_true rfl)) [] [] rfl rfl rfl rfl hl.1 dX12_wordOf_175 (Nat.le_of_ble_eq_true rfl) (Nat.le_of_ble_eq_true rfl) (fun r_29 b1 H locs hw G => ?_)
                    refine zAn2 hw ?_
                    intro hbs9 h_28
                    clear hw
                    subst hbs9
                    have G : zS T A s.heap s [] _ _ := G
                    subst h_28
                    refine z_lcne (tgt := 185) hx hb dX12_wordOf_178 dX12_wordOf_179 (by decide) (fun c_30 => ?_) (fun c_30 => ?_)
                    · have c_30n : ¬ (v = (zFour 15 16 5 14)) := c_30
                      refine lv_lload_n hx hb dX12_wordOf_185 rfl (lv_at hl 0 rfl) ?_
                      refine lv_iconst (v := 3) hx hb dX12_wordOf_186 (by decide) ?_
                      refine lv_iconst (v := 1) hx hb dX12_wordOf_187 (by decide) ?_
                      refine lv_bipush (v := 13) hx hb dX12_wordOf_188 (by decide) ?_
                      refine lv_iconst (v := 5) hx hb dX12_wordOf_190 (by decide) ?_
                      refine z_Sl (bc := []) (br := []) (As := [.int 3, .int 1, .int 13, .int 5]) (rest := [.long v]) C G (c_m_four l T 3 1 13 5) (kS_RX12_60 C.2.2.2.2 (Nat.le_of_ble_eq_true rfl) (Nat.le_of_ble_eq_true rfl)) [] [] rfl rfl rfl rfl hl.1 dX12_wordOf_191 (Nat.le_of_ble_eq_true rfl) (Nat.le_of_ble_eq_true rfl) (fun r_32 b1 H locs hw G => ?_)
                      refine zAn2 hw ?_
                      intro hbs9 h_31
                      clear hw
                      subst hbs9
                      have G : zS T A s.heap s [] _ _ := G
                      subst h_31
                      refine z_lcne (tgt := 201) hx hb dX12_wordOf_194 dX12_wordOf_195 (by decide) (fun c_33 => ?_) (fun c_33 => ?_)
                      · have c_33n : ¬ (v = (zFour 3 1 13 5)) := c_33
                        refine lv_lload_n hx hb dX12_wordOf_201 rfl (lv_at hl 0 rfl) ?_
                        refine lv_iconst (v := 0) hx hb dX12_wordOf_202 (by decide) ?_
                        refine lv_iconst (v := 0) hx hb dX12_wordOf_203 (by decide) ?_
                        refine lv_iconst (v := 0) hx hb dX12_wordOf_204 (by decide) ?_
                        refine lv_bipush (v := 14) hx hb dX12_wordOf_205 (by decide) ?_
                        refine lv_iconst (v := 5) hx hb dX12_wordOf_207 (by decide) ?_
                        refine lv_bipush (v := 22) hx hb dX12_wordOf_208 (by decide) ?_
                        refine lv_iconst (v := 5) hx hb dX12_wordOf_210 (by decide) ?_
                        refine lv_bipush (v := 18) hx hb dX12_wordOf_211 (by decide) ?_
                        refine z_Sl (bc := []) (br := []) (As := [.int 0, .int 0, .int 0, .int 14, .int 5, .int 22, .int 5, .int 18]) (rest := [.long v]) C G (c_m_eight l T 0 0 0 14 5 22 5 18) (kS_RX12_66 C.2.2.2.2 (Nat.le_of_ble_eq_true rfl) (Nat.le_of_ble_eq_true rfl)) [] [] rfl rfl rfl rfl hl.1 dX12_wordOf_213 (Nat.le_of_ble_eq_true rfl) (Nat.le_of_ble_eq_true rfl) (fun r_35 b1 H locs hw G => ?_)
                        refine zAn2 hw ?_
                        intro hbs9 h_34
                        clear hw
                        subst hbs9
                        have G : zS T A s.heap s [] _ _ := G
                        subst h_34
                        refine z_lcne (tgt := 225) hx hb dX12_wordOf_216 dX12_wordOf_217 (by decide) (fun c_36 => ?_) (fun c_36 => ?_)
                        · have c_36n : ¬ (v = (zEight 0 0 0 14 5 22 5 18)) := c_36
                          refine lv_bipush (v := 99) hx hb dX12_wordOf_225 (by decide) ?_
                          exact z_back hQ9 (z_iret C hr hlocks G (Nat.le_of_ble_eq_true rfl) (Nat.le_of_ble_eq_true rfl) dX12_wordOf_227 ⟨rfl, (by unfold zWord; rw [if_neg c_3, if_neg c_6, if_neg c_9, if_neg c_12, if_neg c_15, if_neg c_18, if_neg c_21, if_neg c_24, if_neg c_27, if_neg c_30, if_neg c_33, if_neg c_36])⟩)
                        · have c_36n : v = (zEight 0 0 0 14 5 22 5 18) := c_36
                          refine lv_bipush (v := 12) hx hb dX12_wordOf_220 (by decide) ?_
                          refine lv_goto (tgt := 227) hx hb dX12_wordOf_222 (by decide) ?_
                          exact z_back hQ9 (z_iret C hr hlocks G (Nat.le_of_ble_eq_true rfl) (Nat.le_of_ble_eq_true rfl) dX12_wordOf_227 ⟨rfl, (by unfold zWord; rw [if_neg c_3, if_neg c_6, if_neg c_9, if_neg c_12, if_neg c_15, if_neg c_18, if_neg c_21, if_neg c_24, if_neg c_27, if_neg c_30, if_neg c_33, if_pos c_36])⟩)
                      · have c_33n : v = (zFour 3 1 13 5) := c_33
                        refine lv_bipush (v := 11) hx hb dX12_wordOf_198 (by decide) ?_
                        exact z_back hQ9 (z_iret C hr hlocks G (Nat.le_of_ble_eq_true rfl) (Nat.le_of_ble_eq_true rfl) dX12_wordOf_200 ⟨rfl, (by unfold zWord; rw [if_neg c_3, if_neg c_6, if_neg c_9, if_neg c_12, if_neg c_15, if_neg c_18, if_neg c_21, if_neg c_24, if_neg c_27, if_neg c_30, if_pos c_33])⟩)
                    · have c_30n : v = (zFour 15 16 5 14) := c_30
                      refine lv_bipush (v := 10) hx hb dX12_wordOf_182 (by decide) ?_
                      exact z_back hQ9 (z_iret C hr hlocks G (Nat.le_of_ble_eq_true rfl) (Nat.le_of_ble_eq_true rfl) dX12_wordOf_184 ⟨rfl, (by unfold zWord; rw [if_neg c_3, if_neg c_6, if_neg c_9, if_neg c_12, if_neg c_15, if_neg c_18, if_neg c_21, if_neg c_24, if_neg c_27, if_pos c_30])⟩)
                  · have c_27n : v = (zFour 19 8 21 20) := c_27
                    refine lv_bipush (v := 9) hx hb dX12_wordOf_164 (by decide) ?_
                    exact z_back hQ9 (z_iret C hr hlocks G (Nat.le_of_ble_eq_true rfl) (Nat.le_of_ble_eq_true rfl) dX12_wordOf_166 ⟨rfl, (by unfold zWord; rw [if_neg c_3, if_neg c_6, if_neg c_9, if_neg c_12, if_neg c_15, if_neg c_18, if_neg c_21, if_neg c_24, if_pos c_27])⟩)
                · have c_24n : v = (zFour 0 1 4 4) := c_24
                  refine lv_bipush (v := 8) hx hb dX12_wordOf_145 (by decide) ?_
                  exact z_back hQ9 (z_iret C hr hlocks G (Nat.le_of_ble_eq_true rfl) (Nat.le_of_ble_eq_true rfl) dX12_wordOf_147 ⟨rfl, (by unfold zWord; rw [if_neg c_3, if_neg c_6, if_neg c_9, if_neg c_12, if_neg c_15, if_neg c_18, if_neg c_21, if_pos c_24])⟩)
              · have c_21n : v = (zFour 20 21 18 14) := c_21
                refine lv_bipush (v := 7) hx hb dX12_wordOf_130 (by decide) ?_
                exact z_back hQ9 (z_iret C hr hlocks G (Nat.le_of_ble_eq_true rfl) (Nat.le_of_ble_eq_true rfl) dX12_wordOf_132 ⟨rfl, (by unfold zWord; rw [if_neg c_3, if_neg c_6, if_neg c_9, if_neg c_12, if_neg c_15, if_neg c_18, if_pos c_21])⟩)
            · have c_18n : v = (zFour 0 18 21 14) := c_18
              refine lv_bipush (v := 6) hx hb dX12_wordOf_111 (by decide) ?_
              exact z_back hQ9 (z_iret C hr hlocks G (Nat.le_of_ble_eq_true rfl) (Nat.le_of_ble_eq_true rfl) dX12_wordOf_113 ⟨rfl, (by unfold zWord; rw [if_neg c_3, if_neg c_6, if_neg c_9, if_neg c_12, if_neg c_15, if_pos c_18])⟩)
          · have c_15n : v = (zFour 0 0 7 15) := c_15
            refine lv_iconst (v := 5) hx hb dX12_wordOf_94 (by decide) ?_
            exact z_back hQ9 (z_iret C hr hlocks G (Nat.le_of_ble_eq_true rfl) (Nat.le_of_ble_eq_true rfl) dX12_wordOf_95 ⟨rfl, (by unfold zWord; rw [if_neg c_3, if_neg c_6, if_neg c_9, if_neg c_12, if_pos c_15])⟩)
        · have c_12n : v = (zFour 0 9 14 14) := c_12
          refine lv_iconst (v := 4) hx hb dX12_wordOf_78 (by decide) ?_
          exact z_back hQ9 (z_iret C hr hlocks G (Nat.le_of_ble_eq_true rfl) (Nat.le_of_ble_eq_true rfl) dX12_wordOf_79 ⟨rfl, (by unfold zWord; rw [if_neg c_3, if_neg c_6, if_neg c_9, if_pos c_12])⟩)
      · have c_9n : v = (zEight 0 23 1 12 11 5 18 19) := c_9
        refine lv_iconst (v := 3) hx hb dX12_wordOf_61 (by decide) ?_
        exact z_back hQ9 (z_iret C hr hlocks G (Nat.le_of_ble_eq_true rfl) (Nat.le_of_ble_eq_true rfl) dX12_wordOf_62 ⟨rfl, (by unfold zWord; rw [if_neg c_3, if_neg c_6, if_pos c_9])⟩)
    · have c_6n : v = (zFour 16 15 19 20) := c_6
      refine lv_iconst (v := 2) hx hb dX12_wordOf_38 (by decide) ?_
      exact z_back hQ9 (z_iret C hr hlocks G (Nat.le_of_ble_eq_true rfl) (Nat.le_of_ble_eq_true rfl) dX12_wordOf_39 ⟨rfl, (by unfold zWord; rw [if_neg c_3, if_pos c_6])⟩)
  · have c_3n : v = (zEight 0 0 0 3 18 15 19 19) := c_3
    refine lv_iconst (v := 1) hx hb dX12_wordOf_20 (by decide) ?_
    exact z_back hQ9 (z_iret C hr hlocks G (Nat.le_of_ble_eq_true rfl) (Nat.le_of_ble_eq_true rfl) dX12_wordOf_21 ⟨rfl, (by unfold zWord; rw [if_pos c_3])⟩)
theorem m_fl_RX12_70 : Cond.fieldLink RX12 70 (TX12 3).1 (TX12 3).2.1 (TX12 3).2.2.1 ∈ zT := zmem1 zsub_5 238 rfl rfl
theorem m_co_X12_byteAt : Cond.code yX12_byteAt cX12_byteAt 2 (some .int) ∈ zT := zmem1 zsub_6 151 rfl rfl
theorem m_ml_RX12_73 : Cond.methodLink RX12 73 yX12_byteAt ∈ zT := zmem1 zsub_6 148 rfl rfl
theorem m_im_X12_byteAt : Cond.instanceMethod yX12_byteAt ∈ zT := zmem1 zsub_6 150 rfl rfl
theorem m_se_X12_byteAt : Cond.selects RX12 yX12_byteAt yX12_byteAt ∈ zT := zmem 47 rfl rfl
theorem m_fl_RX12_77 : Cond.fieldLink RX12 77 (TX12 4).1 (TX12 4).2.1 (TX12 4).2.2.1 ∈ zT := zmem1 zsub_5 239 rfl rfl
theorem m_co_X12_isLetter : Cond.code yX12_isLetter cX12_isLetter 1 (some .boolean) ∈ zT := zmem1 zsub_6 154 rfl rfl
theorem m_ml_RX12_83 : Cond.methodLink RX12 83 yX12_isLetter ∈ zT := zmem1 zsub_6 152 rfl rfl
theorem m_st_X12_isLetter : Cond.static yX12_isLetter ∈ zT := zmem1 zsub_6 153 rfl rfl
theorem m_kl_RX12_87 : Cond.constantLong RX12 87 32 ∈ zT := zmem1 zsub_6 155 rfl rfl
theorem m_kl_RX12_89 : Cond.constantLong RX12 89 96 ∈ zT := zmem1 zsub_6 156 rfl rfl
theorem m_co_X12_wordOf : Cond.code yX12_wordOf cX12_wordOf 2 (some .int) ∈ zT := zmem1 zsub_6 159 rfl rfl
theorem m_ml_RX12_91 : Cond.methodLink RX12 91 yX12_wordOf ∈ zT := zmem1 zsub_6 157 rfl rfl
theorem m_st_X12_wordOf : Cond.static yX12_wordOf ∈ zT := zmem1 zsub_6 158 rfl rfl
theorem m_fl_RX12_95 : Cond.fieldLink RX12 95 (TX12 7).1 (TX12 7).2.1 (TX12 7).2.2.1 ∈ zT := zmem1 zsub_6 2 rfl rfl
theorem m_fl_RX12_80 : Cond.fieldLink RX12 80 (TX12 5).1 (TX12 5).2.1 (TX12 5).2.2.1 ∈ zT := zmem1 zsub_6 0 rfl rfl
theorem m_co_X12_isDigit : Cond.code yX12_isDigit cX12_isDigit 1 (some .boolean) ∈ zT := zmem1 zsub_6 169 rfl rfl
theorem m_ml_RX12_98 : Cond.methodLink RX12 98 yX12_isDigit ∈ zT := zmem1 zsub_6 167 rfl rfl
theorem m_st_X12_isDigit : Cond.static yX12_isDigit ∈ zT := zmem1 zsub_6 168 rfl rfl
theorem m_fl_RX12_101 : Cond.fieldLink RX12 101 (TX12 6).1 (TX12 6).2.1 (TX12 6).2.2.1 ∈ zT := zmem1 zsub_6 1 rfl rfl
theorem kV_RX12_73 {R : Room} {s : State} {args : Array Value} {d mc ms : Nat} (hts : ∀ w ∈ zT, w.before args s = true) (h1 : d + 1 ≤ R.frames) (h2 : 8 + (2 + 11) + 40 * d ≤ R.locals) : CallW R s args RX12 RX12 73 yX12_byteAt cX12_byteAt 2 (some .int) (zW yX12_byteAt cX12_byteAt 2 (some .int)) (zR d mc ms) mc ms 1 := z_cwV hts m_co_X12_byteAt m_ml_RX12_73 m_im_X12_byteAt m_se_X12_byteAt m_ii_RX12 (by decide +kernel) h1 h2
theorem kS_RX12_83 {R : Room} {s : State} {args : Array Value} {d mc ms : Nat} (hts : ∀ w ∈ zT, w.before args s = true) (h1 : d + 1 ≤ R.frames) (h2 : 8 + (1 + 11) + 40 * d ≤ R.locals) : CallB R s args RX12 83 yX12_isLetter cX12_isLetter 1 (some .boolean) (zW yX12_isLetter cX12_isLetter 1 (some .boolean)) (zR d mc ms) mc ms 1 ∧ (Cond.static yX12_isLetter).before args s = true := z_cwS hts m_co_X12_isLetter m_ml_RX12_83 m_st_X12_isLetter m_ii_RX12 (by decide +kernel) h1 h2
theorem kS_RX12_91 {R : Room} {s : State} {args : Array Value} {d mc ms : Nat} (hts : ∀ w ∈ zT, w.before args s = true) (h1 : d + 1 ≤ R.frames) (h2 : 8 + (2 + 11) + 40 * d ≤ R.locals) : CallB R s args RX12 91 yX12_wordOf cX12_wordOf 2 (some .int) (zW yX12_wordOf cX12_wordOf 2 (some .int)) (zR d mc ms) mc ms 1 ∧ (Cond.static yX12_wordOf).before args s = true := z_cwS hts m_co_X12_wordOf m_ml_RX12_91 m_st_X12_wordOf m_ii_RX12 (by decide +kernel) h1 h2
theorem kS_RX12_98 {R : Room} {s : State} {args : Array Value} {d mc ms : Nat} (hts : ∀ w ∈ zT, w.before args s = true) (h1 : d + 1 ≤ R.frames) (h2 : 8 + (1 + 11) + 40 * d ≤ R.locals) : CallB R s args RX12 98 yX12_isDigit cX12_isDigit 1 (some .boolean) (zW yX12_isDigit cX12_isDigit 1 (some .boolean)) (zR d mc ms) mc ms 1 ∧ (Cond.static yX12_isDigit).before args s = true := z_cwS hts m_co_X12_isDigit m_ml_RX12_98 m_st_X12_isDigit m_ii_RX12 (by decide +kernel) h1 h2
theorem dX12_advance_0 : decode cX12_advance 0 = .ok (.aload_n 0, 1) := zo_42 (by decide +kernel)
theorem dX12_advance_1 : decode cX12_advance 1 = .ok (.aload_n 0, 1) := zo_42 (by decide +kernel)
theorem dX12_advance_2 : decode cX12_advance 2 = .ok (.getfield 70, 3) := zo_180 (by decide +kernel)
theorem dX12_advance_5 : decode cX12_advance 5 = .ok (.invokevirtual 73, 3) := zo_182 (by decide +kernel)
theorem dX12_advance_8 : decode cX12_advance 8 = .ok (.bipush 10, 2) := zo_16 (by decide +kernel)
theorem dX12_advance_10 : decode cX12_advance 10 = .ok (.if_icmp .eq 16, 3) := zo_159 (by decide +kernel)
theorem dX12_advance_13 : decode cX12_advance 13 = .ok (.aload_n 0, 1) := zo_42 (by decide +kernel)
theorem dX12_advance_14 : decode cX12_advance 14 = .ok (.aload_n 0, 1) := zo_42 (by decide +kernel)
theorem dX12_advance_15 : decode cX12_advance 15 = .ok (.getfield 70, 3) := zo_180 (by decide +kernel)
theorem dX12_advance_18 : decode cX12_advance 18 = .ok (.invokevirtual 73, 3) := zo_182 (by decide +kernel)
theorem dX12_advance_21 : decode cX12_advance 21 = .ok (.bipush 32, 2) := zo_16 (by decide +kernel)
theorem dX12_advance_23 : decode cX12_advance 23 = .ok (.if_icmp .ne 16, 3) := zo_160 (by decide +kernel)
theorem dX12_advance_26 : decode cX12_advance 26 = .ok (.aload_n 0, 1) := zo_42 (by decide +kernel)
theorem dX12_advance_27 : decode cX12_advance 27 = .ok (.dup, 1) := zo_89 (by decide +kernel)
theorem dX12_advance_28 : decode cX12_advance 28 = .ok (.getfield 70, 3) := zo_180 (by decide +kernel)
theorem dX12_advance_31 : decode cX12_advance 31 = .ok (.iconst 1, 1) := zo_4 (by decide +kernel)
theorem dX12_advance_32 : decode cX12_advance 32 = .ok (.iadd, 1) := zo_96 (by decide +kernel)
theorem dX12_advance_33 : decode cX12_advance 33 = .ok (.putfield 70, 3) := zo_181 (by decide +kernel)
theorem dX12_advance_36 : decode cX12_advance 36 = .ok (.goto (-36), 3) := zo_167 (by decide +kernel)
theorem dX12_advance_39 : decode cX12_advance 39 = .ok (.aload_n 0, 1) := zo_42 (by decide +kernel)
theorem dX12_advance_40 : decode cX12_advance 40 = .ok (.aload_n 0, 1) := zo_42 (by decide +kernel)
theorem dX12_advance_41 : decode cX12_advance 41 = .ok (.getfield 70, 3) := zo_180 (by decide +kernel)
theorem dX12_advance_44 : decode cX12_advance 44 = .ok (.putfield 77, 3) := zo_181 (by decide +kernel)
theorem dX12_advance_47 : decode cX12_advance 47 = .ok (.aload_n 0, 1) := zo_42 (by decide +kernel)
theorem dX12_advance_48 : decode cX12_advance 48 = .ok (.aload_n 0, 1) := zo_42 (by decide +kernel)
theorem dX12_advance_49 : decode cX12_advance 49 = .ok (.getfield 70, 3) := zo_180 (by decide +kernel)
theorem dX12_advance_52 : decode cX12_advance 52 = .ok (.invokevirtual 73, 3) := zo_182 (by decide +kernel)
theorem dX12_advance_55 : decode cX12_advance 55 = .ok (.istore_n 1, 1) := zo_60 (by decide +kernel)
theorem dX12_advance_56 : decode cX12_advance 56 = .ok (.iload_n 1, 1) := zo_27 (by decide +kernel)
theorem dX12_advance_57 : decode cX12_advance 57 = .ok (.ifCond .ge 11, 3) := zo_156 (by decide +kernel)
theorem dX12_advance_60 : decode cX12_advance 60 = .ok (.aload_n 0, 1) := zo_42 (by decide +kernel)
theorem dX12_advance_61 : decode cX12_advance 61 = .ok (.iconst 0, 1) := zo_3 (by decide +kernel)
theorem dX12_advance_62 : decode cX12_advance 62 = .ok (.putfield 80, 3) := zo_181 (by decide +kernel)
theorem dX12_advance_65 : decode cX12_advance 65 = .ok (.goto 246, 3) := zo_167 (by decide +kernel)
theorem dX12_advance_68 : decode cX12_advance 68 = .ok (.iload_n 1, 1) := zo_27 (by decide +kernel)
theorem dX12_advance_69 : decode cX12_advance 69 = .ok (.invokestatic 83, 3) := zo_184 (by decide +kernel)
theorem dX12_advance_72 : decode cX12_advance 72 = .ok (.ifCond .eq 114, 3) := zo_153 (by decide +kernel)
theorem dX12_advance_75 : decode cX12_advance 75 = .ok (.lconst 0, 1) := zo_9 (by decide +kernel)
theorem dX12_advance_76 : decode cX12_advance 76 = .ok (.lstore_n 2, 1) := zo_65 (by decide +kernel)
theorem dX12_advance_77 : decode cX12_advance 77 = .ok (.aload_n 0, 1) := zo_42 (by decide +kernel)
theorem dX12_advance_78 : decode cX12_advance 78 = .ok (.aload_n 0, 1) := zo_42 (by decide +kernel)
theorem dX12_advance_79 : decode cX12_advance 79 = .ok (.getfield 70, 3) := zo_180 (by decide +kernel)
theorem dX12_advance_82 : decode cX12_advance 82 = .ok (.invokevirtual 73, 3) := zo_182 (by decide +kernel)
theorem dX12_advance_85 : decode cX12_advance 85 = .ok (.invokestatic 83, 3) := zo_184 (by decide +kernel)
theorem dX12_advance_88 : decode cX12_advance 88 = .ok (.ifCond .eq 50, 3) := zo_153 (by decide +kernel)
theorem dX12_advance_91 : decode cX12_advance 91 = .ok (.aload_n 0, 1) := zo_42 (by decide +kernel)
theorem dX12_advance_92 : decode cX12_advance 92 = .ok (.getfield 70, 3) := zo_180 (by decide +kernel)
theorem dX12_advance_95 : decode cX12_advance 95 = .ok (.aload_n 0, 1) := zo_42 (by decide +kernel)
theorem dX12_advance_96 : decode cX12_advance 96 = .ok (.getfield 77, 3) := zo_180 (by decide +kernel)
theorem dX12_advance_99 : decode cX12_advance 99 = .ok (.isub, 1) := zo_100 (by decide +kernel)
theorem dX12_advance_100 : decode cX12_advance 100 = .ok (.bipush 8, 2) := zo_16 (by decide +kernel)
theorem dX12_advance_102 : decode cX12_advance 102 = .ok (.if_icmp .ge 23, 3) := zo_162 (by decide +kernel)
theorem dX12_advance_105 : decode cX12_advance 105 = .ok (.ldc2_w 87, 3) := zo_20 (by decide +kernel)
theorem dX12_advance_108 : decode cX12_advance 108 = .ok (.lload_n 2, 1) := zo_32 (by decide +kernel)
theorem dX12_advance_109 : decode cX12_advance 109 = .ok (.lmul, 1) := zo_105 (by decide +kernel)
theorem dX12_advance_110 : decode cX12_advance 110 = .ok (.aload_n 0, 1) := zo_42 (by decide +kernel)
theorem dX12_advance_111 : decode cX12_advance 111 = .ok (.aload_n 0, 1) := zo_42 (by decide +kernel)
theorem dX12_advance_112 : decode cX12_advance 112 = .ok (.getfield 70, 3) := zo_180 (by decide +kernel)
theorem dX12_advance_115 : decode cX12_advance 115 = .ok (.invokevirtual 73, 3) := zo_182 (by decide +kernel)
theorem dX12_advance_118 : decode cX12_advance 118 = .ok (.i2l, 1) := zo_133 (by decide +kernel)
theorem dX12_advance_119 : decode cX12_advance 119 = .ok (.ladd, 1) := zo_97 (by decide +kernel)
theorem dX12_advance_120 : decode cX12_advance 120 = .ok (.ldc2_w 89, 3) := zo_20 (by decide +kernel)
theorem dX12_advance_123 : decode cX12_advance 123 = .ok (.lsub, 1) := zo_101 (by decide +kernel)
theorem dX12_advance_124 : decode cX12_advance 124 = .ok (.lstore_n 2, 1) := zo_65 (by decide +kernel)
theorem dX12_advance_125 : decode cX12_advance 125 = .ok (.aload_n 0, 1) := zo_42 (by decide +kernel)
theorem dX12_advance_126 : decode cX12_advance 126 = .ok (.dup, 1) := zo_89 (by decide +kernel)
theorem dX12_advance_127 : decode cX12_advance 127 = .ok (.getfield 70, 3) := zo_180 (by decide +kernel)
theorem dX12_advance_130 : decode cX12_advance 130 = .ok (.iconst 1, 1) := zo_4 (by decide +kernel)
theorem dX12_advance_131 : decode cX12_advance 131 = .ok (.iadd, 1) := zo_96 (by decide +kernel)
theorem dX12_advance_132 : decode cX12_advance 132 = .ok (.putfield 70, 3) := zo_181 (by decide +kernel)
theorem dX12_advance_135 : decode cX12_advance 135 = .ok (.goto (-58), 3) := zo_167 (by decide +kernel)
theorem dX12_advance_138 : decode cX12_advance 138 = .ok (.aload_n 0, 1) := zo_42 (by decide +kernel)
theorem dX12_advance_139 : decode cX12_advance 139 = .ok (.aload_n 0, 1) := zo_42 (by decide +kernel)
theorem dX12_advance_140 : decode cX12_advance 140 = .ok (.getfield 70, 3) := zo_180 (by decide +kernel)
theorem dX12_advance_143 : decode cX12_advance 143 = .ok (.aload_n 0, 1) := zo_42 (by decide +kernel)
theorem dX12_advance_144 : decode cX12_advance 144 = .ok (.getfield 77, 3) := zo_180 (by decide +kernel)
theorem dX12_advance_147 : decode cX12_advance 147 = .ok (.isub, 1) := zo_100 (by decide +kernel)
theorem dX12_advance_148 : decode cX12_advance 148 = .ok (.bipush 8, 2) := zo_16 (by decide +kernel)
theorem dX12_advance_150 : decode cX12_advance 150 = .ok (.if_icmp .le 8, 3) := zo_164 (by decide +kernel)
theorem dX12_advance_153 : decode cX12_advance 153 = .ok (.bipush 99, 2) := zo_16 (by decide +kernel)
theorem dX12_advance_155 : decode cX12_advance 155 = .ok (.goto 7, 3) := zo_167 (by decide +kernel)
theorem dX12_advance_158 : decode cX12_advance 158 = .ok (.lload_n 2, 1) := zo_32 (by decide +kernel)
theorem dX12_advance_159 : decode cX12_advance 159 = .ok (.invokestatic 91, 3) := zo_184 (by decide +kernel)
theorem dX12_advance_162 : decode cX12_advance 162 = .ok (.putfield 95, 3) := zo_181 (by decide +kernel)
theorem dX12_advance_165 : decode cX12_advance 165 = .ok (.aload_n 0, 1) := zo_42 (by decide +kernel)
theorem dX12_advance_166 : decode cX12_advance 166 = .ok (.aload_n 0, 1) := zo_42 (by decide +kernel)
theorem dX12_advance_167 : decode cX12_advance 167 = .ok (.getfield 95, 3) := zo_180 (by decide +kernel)
theorem dX12_advance_170 : decode cX12_advance 170 = .ok (.bipush 99, 2) := zo_16 (by decide +kernel)
theorem dX12_advance_172 : decode cX12_advance 172 = .ok (.if_icmp .ne 7, 3) := zo_160 (by decide +kernel)
theorem dX12_advance_175 : decode cX12_advance 175 = .ok (.iconst 4, 1) := zo_7 (by decide +kernel)
theorem dX12_advance_176 : decode cX12_advance 176 = .ok (.goto 4, 3) := zo_167 (by decide +kernel)
theorem dX12_advance_179 : decode cX12_advance 179 = .ok (.iconst 3, 1) := zo_6 (by decide +kernel)
theorem dX12_advance_180 : decode cX12_advance 180 = .ok (.putfield 80, 3) := zo_181 (by decide +kernel)
theorem dX12_advance_183 : decode cX12_advance 183 = .ok (.goto 128, 3) := zo_167 (by decide +kernel)
theorem dX12_advance_186 : decode cX12_advance 186 = .ok (.iload_n 1, 1) := zo_27 (by decide +kernel)
theorem dX12_advance_187 : decode cX12_advance 187 = .ok (.invokestatic 98, 3) := zo_184 (by decide +kernel)
theorem dX12_advance_190 : decode cX12_advance 190 = .ok (.ifCond .eq 96, 3) := zo_153 (by decide +kernel)
theorem dX12_advance_193 : decode cX12_advance 193 = .ok (.aload_n 0, 1) := zo_42 (by decide +kernel)
theorem dX12_advance_194 : decode cX12_advance 194 = .ok (.iconst 0, 1) := zo_3 (by decide +kernel)
theorem dX12_advance_195 : decode cX12_advance 195 = .ok (.putfield 101, 3) := zo_181 (by decide +kernel)
theorem dX12_advance_198 : decode cX12_advance 198 = .ok (.aload_n 0, 1) := zo_42 (by decide +kernel)
theorem dX12_advance_199 : decode cX12_advance 199 = .ok (.aload_n 0, 1) := zo_42 (by decide +kernel)
theorem dX12_advance_200 : decode cX12_advance 200 = .ok (.getfield 70, 3) := zo_180 (by decide +kernel)
theorem dX12_advance_203 : decode cX12_advance 203 = .ok (.invokevirtual 73, 3) := zo_182 (by decide +kernel)
theorem dX12_advance_206 : decode cX12_advance 206 = .ok (.invokestatic 98, 3) := zo_184 (by decide +kernel)
theorem dX12_advance_209 : decode cX12_advance 209 = .ok (.ifCond .eq 52, 3) := zo_153 (by decide +kernel)
theorem dX12_advance_212 : decode cX12_advance 212 = .ok (.aload_n 0, 1) := zo_42 (by decide +kernel)
theorem dX12_advance_213 : decode cX12_advance 213 = .ok (.getfield 70, 3) := zo_180 (by decide +kernel)
theorem dX12_advance_216 : decode cX12_advance 216 = .ok (.aload_n 0, 1) := zo_42 (by decide +kernel)
theorem dX12_advance_217 : decode cX12_advance 217 = .ok (.getfield 77, 3) := zo_180 (by decide +kernel)
theorem dX12_advance_220 : decode cX12_advance 220 = .ok (.isub, 1) := zo_100 (by decide +kernel)
theorem dX12_advance_221 : decode cX12_advance 221 = .ok (.iconst 2, 1) := zo_5 (by decide +kernel)
theorem dX12_advance_222 : decode cX12_advance 222 = .ok (.if_icmp .ge 26, 3) := zo_162 (by decide +kernel)
theorem dX12_advance_225 : decode cX12_advance 225 = .ok (.aload_n 0, 1) := zo_42 (by decide +kernel)
theorem dX12_advance_226 : decode cX12_advance 226 = .ok (.bipush 10, 2) := zo_16 (by decide +kernel)
theorem dX12_advance_228 : decode cX12_advance 228 = .ok (.aload_n 0, 1) := zo_42 (by decide +kernel)
theorem dX12_advance_229 : decode cX12_advance 229 = .ok (.getfield 101, 3) := zo_180 (by decide +kernel)
theorem dX12_advance_232 : decode cX12_advance 232 = .ok (.imul, 1) := zo_104 (by decide +kernel)
theorem dX12_advance_233 : decode cX12_advance 233 = .ok (.aload_n 0, 1) := zo_42 (by decide +kernel)
theorem dX12_advance_234 : decode cX12_advance 234 = .ok (.aload_n 0, 1) := zo_42 (by decide +kernel)
theorem dX12_advance_235 : decode cX12_advance 235 = .ok (.getfield 70, 3) := zo_180 (by decide +kernel)
theorem dX12_advance_238 : decode cX12_advance 238 = .ok (.invokevirtual 73, 3) := zo_182 (by decide +kernel)
theorem dX12_advance_241 : decode cX12_advance 241 = .ok (.iadd, 1) := zo_96 (by decide +kernel)
theorem dX12_advance_242 : decode cX12_advance 242 = .ok (.bipush 48, 2) := zo_16 (by decide +kernel)
theorem dX12_advance_244 : decode cX12_advance 244 = .ok (.isub, 1) := zo_100 (by decide +kernel)
theorem dX12_advance_245 : decode cX12_advance 245 = .ok (.putfield 101, 3) := zo_181 (by decide +kernel)
theorem dX12_advance_248 : decode cX12_advance 248 = .ok (.aload_n 0, 1) := zo_42 (by decide +kernel)
theorem dX12_advance_249 : decode cX12_advance 249 = .ok (.dup, 1) := zo_89 (by decide +kernel)
theorem dX12_advance_250 : decode cX12_advance 250 = .ok (.getfield 70, 3) := zo_180 (by decide +kernel)
theorem dX12_advance_253 : decode cX12_advance 253 = .ok (.iconst 1, 1) := zo_4 (by decide +kernel)
theorem dX12_advance_254 : decode cX12_advance 254 = .ok (.iadd, 1) := zo_96 (by decide +kernel)
theorem dX12_advance_255 : decode cX12_advance 255 = .ok (.putfield 70, 3) := zo_181 (by decide +kernel)
theorem dX12_advance_258 : decode cX12_advance 258 = .ok (.goto (-60), 3) := zo_167 (by decide +kernel)
theorem dX12_advance_261 : decode cX12_advance 261 = .ok (.aload_n 0, 1) := zo_42 (by decide +kernel)
theorem dX12_advance_262 : decode cX12_advance 262 = .ok (.aload_n 0, 1) := zo_42 (by decide +kernel)
theorem dX12_advance_263 : decode cX12_advance 263 = .ok (.getfield 70, 3) := zo_180 (by decide +kernel)
theorem dX12_advance_266 : decode cX12_advance 266 = .ok (.aload_n 0, 1) := zo_42 (by decide +kernel)
theorem dX12_advance_267 : decode cX12_advance 267 = .ok (.getfield 77, 3) := zo_180 (by decide +kernel)
theorem dX12_advance_270 : decode cX12_advance 270 = .ok (.isub, 1) := zo_100 (by decide +kernel)
theorem dX12_advance_271 : decode cX12_advance 271 = .ok (.iconst 2, 1) := zo_5 (by decide +kernel)
theorem dX12_advance_272 : decode cX12_advance 272 = .ok (.if_icmp .le 7, 3) := zo_164 (by decide +kernel)
theorem dX12_advance_275 : decode cX12_advance 275 = .ok (.iconst 4, 1) := zo_7 (by decide +kernel)
theorem dX12_advance_276 : decode cX12_advance 276 = .ok (.goto 4, 3) := zo_167 (by decide +kernel)
theorem dX12_advance_279 : decode cX12_advance 279 = .ok (.iconst 1, 1) := zo_4 (by decide +kernel)
theorem dX12_advance_280 : decode cX12_advance 280 = .ok (.putfield 80, 3) := zo_181 (by decide +kernel)
theorem dX12_advance_283 : decode cX12_advance 283 = .ok (.goto 28, 3) := zo_167 (by decide +kernel)
theorem dX12_advance_286 : decode cX12_advance 286 = .ok (.aload_n 0, 1) := zo_42 (by decide +kernel)
theorem dX12_advance_287 : decode cX12_advance 287 = .ok (.dup, 1) := zo_89 (by decide +kernel)
theorem dX12_advance_288 : decode cX12_advance 288 = .ok (.getfield 70, 3) := zo_180 (by decide +kernel)
theorem dX12_advance_291 : decode cX12_advance 291 = .ok (.iconst 1, 1) := zo_4 (by decide +kernel)
theorem dX12_advance_292 : decode cX12_advance 292 = .ok (.iadd, 1) := zo_96 (by decide +kernel)
theorem dX12_advance_293 : decode cX12_advance 293 = .ok (.putfield 70, 3) := zo_181 (by decide +kernel)
theorem dX12_advance_296 : decode cX12_advance 296 = .ok (.aload_n 0, 1) := zo_42 (by decide +kernel)
theorem dX12_advance_297 : decode cX12_advance 297 = .ok (.iload_n 1, 1) := zo_27 (by decide +kernel)
theorem dX12_advance_298 : decode cX12_advance 298 = .ok (.bipush 59, 2) := zo_16 (by decide +kernel)
theorem dX12_advance_300 : decode cX12_advance 300 = .ok (.if_icmp .ne 7, 3) := zo_160 (by decide +kernel)
theorem dX12_advance_303 : decode cX12_advance 303 = .ok (.iconst 2, 1) := zo_5 (by decide +kernel)
theorem dX12_advance_304 : decode cX12_advance 304 = .ok (.goto 4, 3) := zo_167 (by decide +kernel)
theorem dX12_advance_307 : decode cX12_advance 307 = .ok (.iconst 4, 1) := zo_7 (by decide +kernel)
theorem dX12_advance_308 : decode cX12_advance 308 = .ok (.putfield 80, 3) := zo_181 (by decide +kernel)
theorem dX12_advance_311 : decode cX12_advance 311 = .ok (.return_, 1) := zo_177 (by decide +kernel)
theorem m_fl_RX12_104 : Cond.fieldLink RX12 104 (TX12 8).1 (TX12 8).2.1 (TX12 8).2.2.1 ∈ zT := zmem1 zsub_6 3 rfl rfl
theorem m_co_X12_ends : Cond.code yX12_ends cX12_ends 1 none ∈ zT := zmem1 zsub_6 181 rfl rfl
theorem m_ml_RX12_108 : Cond.methodLink RX12 108 yX12_ends ∈ zT := zmem1 zsub_6 178 rfl rfl
theorem m_im_X12_ends : Cond.instanceMethod yX12_ends ∈ zT := zmem1 zsub_6 180 rfl rfl
theorem m_se_X12_ends : Cond.selects RX12 yX12_ends yX12_ends ∈ zT := zmem 50 rfl rfl
theorem m_co_X12_advance : Cond.code yX12_advance cX12_advance 4 none ∈ zT := zmem1 zsub_6 147 rfl rfl
theorem m_ml_RX12_119 : Cond.methodLink RX12 119 yX12_advance ∈ zT := zmem1 zsub_6 144 rfl rfl
theorem m_im_X12_advance : Cond.instanceMethod yX12_advance ∈ zT := zmem1 zsub_6 146 rfl rfl
theorem m_se_X12_advance : Cond.selects RX12 yX12_advance yX12_advance ∈ zT := zmem 46 rfl rfl
theorem m_co_X12_also : Cond.code yX12_also cX12_also 3 none ∈ zT := zmem1 zsub_6 189 rfl rfl
theorem m_ml_RX12_115 : Cond.methodLink RX12 115 yX12_also ∈ zT := zmem1 zsub_6 186 rfl rfl
theorem m_im_X12_also : Cond.instanceMethod yX12_also ∈ zT := zmem1 zsub_6 188 rfl rfl
theorem m_se_X12_also : Cond.selects RX12 yX12_also yX12_also ∈ zT := zmem 52 rfl rfl
theorem m_co_X12_numbered : Cond.code yX12_numbered cX12_numbered 4 (some .int) ∈ zT := zmem1 zsub_6 197 rfl rfl
theorem m_ml_RX12_122 : Cond.methodLink RX12 122 yX12_numbered ∈ zT := zmem1 zsub_6 194 rfl rfl
theorem m_im_X12_numbered : Cond.instanceMethod yX12_numbered ∈ zT := zmem1 zsub_6 196 rfl rfl
theorem m_se_X12_numbered : Cond.selects RX12 yX12_numbered yX12_numbered ∈ zT := zmem 54 rfl rfl
theorem m_fl_RX12_126 : Cond.fieldLink RX12 126 (TX12 9).1 (TX12 9).2.1 (TX12 9).2.2.1 ∈ zT := zmem1 zsub_6 4 rfl rfl
theorem kV_RX12_108 {R : Room} {s : State} {args : Array Value} {d mc ms : Nat} (hts : ∀ w ∈ zT, w.before args s = true) (h1 : d + 1 ≤ R.frames) (h2 : 8 + (1 + 11) + 40 * d ≤ R.locals) : CallW R s args RX12 RX12 108 yX12_ends cX12_ends 1 none (zW yX12_ends cX12_ends 1 none) (zR d mc ms) mc ms 0 := z_cwV hts m_co_X12_ends m_ml_RX12_108 m_im_X12_ends m_se_X12_ends m_ii_RX12 (by decide +kernel) h1 h2
theorem kV_RX12_119 {R : Room} {s : State} {args : Array Value} {d mc ms : Nat} (hts : ∀ w ∈ zT, w.before args s = true) (h1 : d + 1 ≤ R.frames) (h2 : 8 + (4 + 11) + 40 * d ≤ R.locals) : CallW R s args RX12 RX12 119 yX12_advance cX12_advance 4 none (zW yX12_advance cX12_advance 4 none) (zR d mc ms) mc ms 0 := z_cwV hts m_co_X12_advance m_ml_RX12_119 m_im_X12_advance m_se_X12_advance m_ii_RX12 (by decide +kernel) h1 h2
theorem kV_RX12_115 {R : Room} {s : State} {args : Array Value} {d mc ms : Nat} (hts : ∀ w ∈ zT, w.before args s = true) (h1 : d + 1 ≤ R.frames) (h2 : 8 + (3 + 11) + 40 * d ≤ R.locals) : CallW R s args RX12 RX12 115 yX12_also cX12_also 3 none (zW yX12_also cX12_also 3 none) (zR d mc ms) mc ms 2 := z_cwV hts m_co_X12_also m_ml_RX12_115 m_im_X12_also m_se_X12_also m_ii_RX12 (by decide +kernel) h1 h2
theorem kV_RX12_122 {R : Room} {s : State} {args : Array Value} {d mc ms : Nat} (hts : ∀ w ∈ zT, w.before args s = true) (h1 : d + 1 ≤ R.frames) (h2 : 8 + (4 + 11) + 40 * d ≤ R.locals) : CallW R s args RX12 RX12 122 yX12_numbered cX12_numbered 4 (some .int) (zW yX12_numbered cX12_numbered 4 (some .int)) (zR d mc ms) mc ms 2 := z_cwV hts m_co_X12_numbered m_ml_RX12_122 m_im_X12_numbered m_se_X12_numbered m_ii_RX12 (by decide +kernel) h1 h2
theorem dX12_ends_0 : decode cX12_ends 0 = .ok (.aload_n 0, 1) := zo_42 (by decide +kernel)
theorem dX12_ends_1 : decode cX12_ends 1 = .ok (.getfield 104, 3) := zo_180 (by decide +kernel)
theorem dX12_ends_4 : decode cX12_ends 4 = .ok (.ifCond .eq 4, 3) := zo_153 (by decide +kernel)
theorem dX12_ends_7 : decode cX12_ends 7 = .ok (.return_, 1) := zo_177 (by decide +kernel)
theorem dX12_ends_8 : decode cX12_ends 8 = .ok (.aload_n 0, 1) := zo_42 (by decide +kernel)
theorem dX12_ends_9 : decode cX12_ends 9 = .ok (.iconst 1, 1) := zo_4 (by decide +kernel)
theorem dX12_ends_10 : decode cX12_ends 10 = .ok (.putfield 104, 3) := zo_181 (by decide +kernel)
theorem dX12_ends_13 : decode cX12_ends 13 = .ok (.aload_n 0, 1) := zo_42 (by decide +kernel)
theorem dX12_ends_14 : decode cX12_ends 14 = .ok (.getfield 7, 3) := zo_180 (by decide +kernel)
theorem dX12_ends_17 : decode cX12_ends 17 = .ok (.iconst 5, 1) := zo_8 (by decide +kernel)
theorem dX12_ends_18 : decode cX12_ends 18 = .ok (.iconst 1, 1) := zo_4 (by decide +kernel)
theorem dX12_ends_19 : decode cX12_ends 19 = .ok (.iastore, 1) := zo_79 (by decide +kernel)
theorem dX12_ends_20 : decode cX12_ends 20 = .ok (.aload_n 0, 1) := zo_42 (by decide +kernel)
theorem dX12_ends_21 : decode cX12_ends 21 = .ok (.getfield 7, 3) := zo_180 (by decide +kernel)
theorem dX12_ends_24 : decode cX12_ends 24 = .ok (.bipush 6, 2) := zo_16 (by decide +kernel)
theorem dX12_ends_26 : decode cX12_ends 26 = .ok (.aload_n 0, 1) := zo_42 (by decide +kernel)
theorem dX12_ends_27 : decode cX12_ends 27 = .ok (.getfield 77, 3) := zo_180 (by decide +kernel)
theorem dX12_ends_30 : decode cX12_ends 30 = .ok (.iastore, 1) := zo_79 (by decide +kernel)
theorem dX12_ends_31 : decode cX12_ends 31 = .ok (.return_, 1) := zo_177 (by decide +kernel)
theorem dX12_also_0 : decode cX12_also 0 = .ok (.aload_n 0, 1) := zo_42 (by decide +kernel)
theorem dX12_also_1 : decode cX12_also 1 = .ok (.getfield 104, 3) := zo_180 (by decide +kernel)
theorem dX12_also_4 : decode cX12_also 4 = .ok (.ifCond .ne 44, 3) := zo_154 (by decide +kernel)
theorem dX12_also_7 : decode cX12_also 7 = .ok (.aload_n 0, 1) := zo_42 (by decide +kernel)
theorem dX12_also_8 : decode cX12_also 8 = .ok (.getfield 7, 3) := zo_180 (by decide +kernel)
theorem dX12_also_11 : decode cX12_also 11 = .ok (.iconst 5, 1) := zo_8 (by decide +kernel)
theorem dX12_also_12 : decode cX12_also 12 = .ok (.iaload, 1) := zo_46 (by decide +kernel)
theorem dX12_also_13 : decode cX12_also 13 = .ok (.ifCond .eq 36, 3) := zo_153 (by decide +kernel)
theorem dX12_also_16 : decode cX12_also 16 = .ok (.aload_n 0, 1) := zo_42 (by decide +kernel)
theorem dX12_also_17 : decode cX12_also 17 = .ok (.getfield 7, 3) := zo_180 (by decide +kernel)
theorem dX12_also_20 : decode cX12_also 20 = .ok (.bipush 6, 2) := zo_16 (by decide +kernel)
theorem dX12_also_22 : decode cX12_also 22 = .ok (.iaload, 1) := zo_46 (by decide +kernel)
theorem dX12_also_23 : decode cX12_also 23 = .ok (.iload_n 2, 1) := zo_28 (by decide +kernel)
theorem dX12_also_24 : decode cX12_also 24 = .ok (.if_icmp .lt 24, 3) := zo_161 (by decide +kernel)
theorem dX12_also_27 : decode cX12_also 27 = .ok (.aload_n 0, 1) := zo_42 (by decide +kernel)
theorem dX12_also_28 : decode cX12_also 28 = .ok (.getfield 7, 3) := zo_180 (by decide +kernel)
theorem dX12_also_31 : decode cX12_also 31 = .ok (.bipush 6, 2) := zo_16 (by decide +kernel)
theorem dX12_also_33 : decode cX12_also 33 = .ok (.iaload, 1) := zo_46 (by decide +kernel)
theorem dX12_also_34 : decode cX12_also 34 = .ok (.iload_n 2, 1) := zo_28 (by decide +kernel)
theorem dX12_also_35 : decode cX12_also 35 = .ok (.if_icmp .ne 14, 3) := zo_160 (by decide +kernel)
theorem dX12_also_38 : decode cX12_also 38 = .ok (.aload_n 0, 1) := zo_42 (by decide +kernel)
theorem dX12_also_39 : decode cX12_also 39 = .ok (.getfield 7, 3) := zo_180 (by decide +kernel)
theorem dX12_also_42 : decode cX12_also 42 = .ok (.iconst 5, 1) := zo_8 (by decide +kernel)
theorem dX12_also_43 : decode cX12_also 43 = .ok (.iaload, 1) := zo_46 (by decide +kernel)
theorem dX12_also_44 : decode cX12_also 44 = .ok (.iload_n 1, 1) := zo_27 (by decide +kernel)
theorem dX12_also_45 : decode cX12_also 45 = .ok (.if_icmp .gt 4, 3) := zo_163 (by decide +kernel)
theorem dX12_also_48 : decode cX12_also 48 = .ok (.return_, 1) := zo_177 (by decide +kernel)
theorem dX12_also_49 : decode cX12_also 49 = .ok (.aload_n 0, 1) := zo_42 (by decide +kernel)
theorem dX12_also_50 : decode cX12_also 50 = .ok (.getfield 7, 3) := zo_180 (by decide +kernel)
theorem dX12_also_53 : decode cX12_also 53 = .ok (.iconst 5, 1) := zo_8 (by decide +kernel)
theorem dX12_also_54 : decode cX12_also 54 = .ok (.iload_n 1, 1) := zo_27 (by decide +kernel)
theorem dX12_also_55 : decode cX12_also 55 = .ok (.iastore, 1) := zo_79 (by decide +kernel)
theorem dX12_also_56 : decode cX12_also 56 = .ok (.aload_n 0, 1) := zo_42 (by decide +kernel)
theorem dX12_also_57 : decode cX12_also 57 = .ok (.getfield 7, 3) := zo_180 (by decide +kernel)
theorem dX12_also_60 : decode cX12_also 60 = .ok (.bipush 6, 2) := zo_16 (by decide +kernel)
theorem dX12_also_62 : decode cX12_also 62 = .ok (.iload_n 2, 1) := zo_28 (by decide +kernel)
theorem dX12_also_63 : decode cX12_also 63 = .ok (.iastore, 1) := zo_79 (by decide +kernel)
theorem dX12_also_64 : decode cX12_also 64 = .ok (.return_, 1) := zo_177 (by decide +kernel)
theorem dX12_numbered_0 : decode cX12_numbered 0 = .ok (.aload_n 0, 1) := zo_42 (by decide +kernel)
theorem dX12_numbered_1 : decode cX12_numbered 1 = .ok (.getfield 104, 3) := zo_180 (by decide +kernel)
theorem dX12_numbered_4 : decode cX12_numbered 4 = .ok (.ifCond .ne 11, 3) := zo_154 (by decide +kernel)
theorem dX12_numbered_7 : decode cX12_numbered 7 = .ok (.aload_n 0, 1) := zo_42 (by decide +kernel)
theorem dX12_numbered_8 : decode cX12_numbered 8 = .ok (.getfield 80, 3) := zo_180 (by decide +kernel)
theorem dX12_numbered_11 : decode cX12_numbered 11 = .ok (.iconst 1, 1) := zo_4 (by decide +kernel)
theorem dX12_numbered_12 : decode cX12_numbered 12 = .ok (.if_icmp .eq 9, 3) := zo_159 (by decide +kernel)
theorem dX12_numbered_15 : decode cX12_numbered 15 = .ok (.aload_n 0, 1) := zo_42 (by decide +kernel)
theorem dX12_numbered_16 : decode cX12_numbered 16 = .ok (.invokevirtual 108, 3) := zo_182 (by decide +kernel)
theorem dX12_numbered_19 : decode cX12_numbered 19 = .ok (.iload_n 1, 1) := zo_27 (by decide +kernel)
theorem dX12_numbered_20 : decode cX12_numbered 20 = .ok (.ireturn, 1) := zo_172 (by decide +kernel)
theorem dX12_numbered_21 : decode cX12_numbered 21 = .ok (.aload_n 0, 1) := zo_42 (by decide +kernel)
theorem dX12_numbered_22 : decode cX12_numbered 22 = .ok (.getfield 101, 3) := zo_180 (by decide +kernel)
theorem dX12_numbered_25 : decode cX12_numbered 25 = .ok (.istore_n 3, 1) := zo_62 (by decide +kernel)
theorem dX12_numbered_26 : decode cX12_numbered 26 = .ok (.iload_n 3, 1) := zo_29 (by decide +kernel)
theorem dX12_numbered_27 : decode cX12_numbered 27 = .ok (.iload_n 1, 1) := zo_27 (by decide +kernel)
theorem dX12_numbered_28 : decode cX12_numbered 28 = .ok (.iload_n 2, 1) := zo_28 (by decide +kernel)
theorem dX12_numbered_29 : decode cX12_numbered 29 = .ok (.invokestatic 111, 3) := zo_184 (by decide +kernel)
theorem dX12_numbered_32 : decode cX12_numbered 32 = .ok (.ifCond .ne 12, 3) := zo_154 (by decide +kernel)
theorem dX12_numbered_35 : decode cX12_numbered 35 = .ok (.aload_n 0, 1) := zo_42 (by decide +kernel)
theorem dX12_numbered_36 : decode cX12_numbered 36 = .ok (.iconst 2, 1) := zo_5 (by decide +kernel)
theorem dX12_numbered_37 : decode cX12_numbered 37 = .ok (.aload_n 0, 1) := zo_42 (by decide +kernel)
theorem dX12_numbered_38 : decode cX12_numbered 38 = .ok (.getfield 77, 3) := zo_180 (by decide +kernel)
theorem dX12_numbered_41 : decode cX12_numbered 41 = .ok (.invokevirtual 115, 3) := zo_182 (by decide +kernel)
theorem dX12_numbered_44 : decode cX12_numbered 44 = .ok (.aload_n 0, 1) := zo_42 (by decide +kernel)
theorem dX12_numbered_45 : decode cX12_numbered 45 = .ok (.invokevirtual 119, 3) := zo_182 (by decide +kernel)
theorem dX12_numbered_48 : decode cX12_numbered 48 = .ok (.iload_n 3, 1) := zo_29 (by decide +kernel)
theorem dX12_numbered_49 : decode cX12_numbered 49 = .ok (.iload_n 1, 1) := zo_27 (by decide +kernel)
theorem dX12_numbered_50 : decode cX12_numbered 50 = .ok (.iload_n 2, 1) := zo_28 (by decide +kernel)
theorem dX12_numbered_51 : decode cX12_numbered 51 = .ok (.invokestatic 111, 3) := zo_184 (by decide +kernel)
theorem dX12_numbered_54 : decode cX12_numbered 54 = .ok (.ifCond .eq 7, 3) := zo_153 (by decide +kernel)
theorem dX12_numbered_57 : decode cX12_numbered 57 = .ok (.iload_n 3, 1) := zo_29 (by decide +kernel)
theorem dX12_numbered_58 : decode cX12_numbered 58 = .ok (.goto 4, 3) := zo_167 (by decide +kernel)
theorem dX12_numbered_61 : decode cX12_numbered 61 = .ok (.iload_n 1, 1) := zo_27 (by decide +kernel)
theorem dX12_numbered_62 : decode cX12_numbered 62 = .ok (.ireturn, 1) := zo_172 (by decide +kernel)
theorem dX12_wordIn_0 : decode cX12_wordIn 0 = .ok (.aload_n 0, 1) := zo_42 (by decide +kernel)
theorem dX12_wordIn_1 : decode cX12_wordIn 1 = .ok (.getfield 104, 3) := zo_180 (by decide +kernel)
theorem dX12_wordIn_4 : decode cX12_wordIn 4 = .ok (.ifCond .ne 23, 3) := zo_154 (by decide +kernel)
theorem dX12_wordIn_7 : decode cX12_wordIn 7 = .ok (.aload_n 0, 1) := zo_42 (by decide +kernel)
theorem dX12_wordIn_8 : decode cX12_wordIn 8 = .ok (.getfield 80, 3) := zo_180 (by decide +kernel)
theorem dX12_wordIn_11 : decode cX12_wordIn 11 = .ok (.iconst 3, 1) := zo_6 (by decide +kernel)
theorem dX12_wordIn_12 : decode cX12_wordIn 12 = .ok (.if_icmp .ne 15, 3) := zo_160 (by decide +kernel)
theorem dX12_wordIn_15 : decode cX12_wordIn 15 = .ok (.aload_n 0, 1) := zo_42 (by decide +kernel)
theorem dX12_wordIn_16 : decode cX12_wordIn 16 = .ok (.getfield 95, 3) := zo_180 (by decide +kernel)
theorem dX12_wordIn_19 : decode cX12_wordIn 19 = .ok (.iload_n 1, 1) := zo_27 (by decide +kernel)
theorem dX12_wordIn_20 : decode cX12_wordIn 20 = .ok (.iload_n 2, 1) := zo_28 (by decide +kernel)
theorem dX12_wordIn_21 : decode cX12_wordIn 21 = .ok (.invokestatic 111, 3) := zo_184 (by decide +kernel)
theorem dX12_wordIn_24 : decode cX12_wordIn 24 = .ok (.ifCond .ne 9, 3) := zo_154 (by decide +kernel)
theorem dX12_wordIn_27 : decode cX12_wordIn 27 = .ok (.aload_n 0, 1) := zo_42 (by decide +kernel)
theorem dX12_wordIn_28 : decode cX12_wordIn 28 = .ok (.invokevirtual 108, 3) := zo_182 (by decide +kernel)
theorem dX12_wordIn_31 : decode cX12_wordIn 31 = .ok (.iconst 0, 1) := zo_3 (by decide +kernel)
theorem dX12_wordIn_32 : decode cX12_wordIn 32 = .ok (.ireturn, 1) := zo_172 (by decide +kernel)
theorem dX12_wordIn_33 : decode cX12_wordIn 33 = .ok (.aload_n 0, 1) := zo_42 (by decide +kernel)
theorem dX12_wordIn_34 : decode cX12_wordIn 34 = .ok (.getfield 95, 3) := zo_180 (by decide +kernel)
theorem dX12_wordIn_37 : decode cX12_wordIn 37 = .ok (.istore_n 3, 1) := zo_62 (by decide +kernel)
theorem dX12_wordIn_38 : decode cX12_wordIn 38 = .ok (.aload_n 0, 1) := zo_42 (by decide +kernel)
theorem dX12_wordIn_39 : decode cX12_wordIn 39 = .ok (.invokevirtual 119, 3) := zo_182 (by decide +kernel)
theorem dX12_wordIn_42 : decode cX12_wordIn 42 = .ok (.iload_n 3, 1) := zo_29 (by decide +kernel)
theorem dX12_wordIn_43 : decode cX12_wordIn 43 = .ok (.ireturn, 1) := zo_172 (by decide +kernel)
theorem dX12_endsLine_0 : decode cX12_endsLine 0 = .ok (.aload_n 0, 1) := zo_42 (by decide +kernel)
theorem dX12_endsLine_1 : decode cX12_endsLine 1 = .ok (.getfield 104, 3) := zo_180 (by decide +kernel)
theorem dX12_endsLine_4 : decode cX12_endsLine 4 = .ok (.ifCond .ne 18, 3) := zo_154 (by decide +kernel)
theorem dX12_endsLine_7 : decode cX12_endsLine 7 = .ok (.aload_n 0, 1) := zo_42 (by decide +kernel)
theorem dX12_endsLine_8 : decode cX12_endsLine 8 = .ok (.getfield 80, 3) := zo_180 (by decide +kernel)
theorem dX12_endsLine_11 : decode cX12_endsLine 11 = .ok (.iconst 2, 1) := zo_5 (by decide +kernel)
theorem dX12_endsLine_12 : decode cX12_endsLine 12 = .ok (.if_icmp .ne 10, 3) := zo_160 (by decide +kernel)
theorem dX12_endsLine_15 : decode cX12_endsLine 15 = .ok (.aload_n 0, 1) := zo_42 (by decide +kernel)
theorem dX12_endsLine_16 : decode cX12_endsLine 16 = .ok (.invokevirtual 119, 3) := zo_182 (by decide +kernel)
theorem dX12_endsLine_19 : decode cX12_endsLine 19 = .ok (.goto 7, 3) := zo_167 (by decide +kernel)
theorem dX12_endsLine_22 : decode cX12_endsLine 22 = .ok (.aload_n 0, 1) := zo_42 (by decide +kernel)
theorem dX12_endsLine_23 : decode cX12_endsLine 23 = .ok (.invokevirtual 108, 3) := zo_182 (by decide +kernel)
theorem dX12_endsLine_26 : decode cX12_endsLine 26 = .ok (.return_, 1) := zo_177 (by decide +kernel)
theorem dX12_crossingTold_0 : decode cX12_crossingTold 0 = .ok (.aload_n 0, 1) := zo_42 (by decide +kernel)
theorem dX12_crossingTold_1 : decode cX12_crossingTold 1 = .ok (.iconst 0, 1) := zo_3 (by decide +kernel)
theorem dX12_crossingTold_2 : decode cX12_crossingTold 2 = .ok (.bipush 6, 2) := zo_16 (by decide +kernel)
theorem dX12_crossingTold_4 : decode cX12_crossingTold 4 = .ok (.invokevirtual 122, 3) := zo_182 (by decide +kernel)
theorem dX12_crossingTold_7 : decode cX12_crossingTold 7 = .ok (.istore_n 1, 1) := zo_60 (by decide +kernel)
theorem dX12_crossingTold_8 : decode cX12_crossingTold 8 = .ok (.aload_n 0, 1) := zo_42 (by decide +kernel)
theorem dX12_crossingTold_9 : decode cX12_crossingTold 9 = .ok (.iload_n 1, 1) := zo_27 (by decide +kernel)
theorem dX12_crossingTold_10 : decode cX12_crossingTold 10 = .ok (.aload_n 0, 1) := zo_42 (by decide +kernel)
theorem dX12_crossingTold_11 : decode cX12_crossingTold 11 = .ok (.getfield 126, 3) := zo_180 (by decide +kernel)
theorem dX12_crossingTold_14 : decode cX12_crossingTold 14 = .ok (.if_icmp .le 7, 3) := zo_164 (by decide +kernel)
theorem dX12_crossingTold_17 : decode cX12_crossingTold 17 = .ok (.iload_n 1, 1) := zo_27 (by decide +kernel)
theorem dX12_crossingTold_18 : decode cX12_crossingTold 18 = .ok (.goto 7, 3) := zo_167 (by decide +kernel)
theorem dX12_crossingTold_21 : decode cX12_crossingTold 21 = .ok (.aload_n 0, 1) := zo_42 (by decide +kernel)
theorem dX12_crossingTold_22 : decode cX12_crossingTold 22 = .ok (.getfield 126, 3) := zo_180 (by decide +kernel)
theorem dX12_crossingTold_25 : decode cX12_crossingTold 25 = .ok (.putfield 126, 3) := zo_181 (by decide +kernel)
theorem dX12_crossingTold_28 : decode cX12_crossingTold 28 = .ok (.iload_n 1, 1) := zo_27 (by decide +kernel)
theorem dX12_crossingTold_29 : decode cX12_crossingTold 29 = .ok (.ireturn, 1) := zo_172 (by decide +kernel)
def zPal (f g : Nat → Int32) : Prop := ∀ j, j ≠ 5 → j ≠ 6 → g j = f j
theorem zPal_rf (f : Nat → Int32) : zPal f f := fun _ _ _ => rfl
theorem zPal.tr {f g h : Nat → Int32} (a : zPal f g) (b : zPal g h) : zPal f h := fun j h1 h2 => (b j h1 h2).trans (a j h1 h2)
theorem zPal_u5 {f g : Nat → Int32} {v : Int32} (a : zPal f g) : zPal f (upd g 5 v) := fun j h1 h2 => (show upd g 5 v j = g j by unfold upd; rw [if_neg h1]).trans (a j h1 h2)
theorem zPal_u6 {f g : Nat → Int32} {v : Int32} (a : zPal f g) : zPal f (upd g 6 v) := fun j h1 h2 => (show upd g 6 v j = g j by unfold upd; rw [if_neg h2]).trans (a j h1 h2)
def zLF (f : Nat → Int32) : Prop := (0 ≤ (f 0).toInt ∧ (f 0).toInt ≤ 7) ∧ (∀ c, c < 7 → (0 ≤ (f (2 + c)).toInt ∧ (f (2 + c)).toInt ≤ 4) ∧ (0 ≤ (f (9 + c)).toInt ∧ (f (9 + c)).toInt ≤ 3) ∧ 0 ≤ (f (16 + c)).toInt ∧ (f (16 + c)).toInt ≤ 9) ∧ ∀ j, j < 28 → 0 ≤ (f (23 + j)).toInt ∧ (f (23 + j)).toInt ≤ 6
def zCF (m : Int) (f : Nat → Int32) : Prop := 0 ≤ (f 0).toInt ∧ (f 0).toInt ≤ m
theorem zLF_upd {f : Nat → Int32} {k : Nat} {v : Int32} (h : zLF f) (c0 : k = 0 → 0 ≤ v.toInt ∧ v.toInt ≤ 7) (c1 : 2 ≤ k ∧ k < 9 → 0 ≤ v.toInt ∧ v.toInt ≤ 4) (c2 : 9 ≤ k ∧ k < 16 → 0 ≤ v.toInt ∧ v.toInt ≤ 3) (c3 : 16 ≤ k ∧ k < 23 → 0 ≤ v.toInt ∧ v.toInt ≤ 9) (c4 : 23 ≤ k ∧ k < 51 → 0 ≤ v.toInt ∧ v.toInt ≤ 6) : zLF (upd f k v) := by
  have g : ∀ (i : Nat) (lo hi : Int), (i = k → lo ≤ v.toInt ∧ v.toInt ≤ hi) → lo ≤ (f i).toInt ∧ (f i).toInt ≤ hi → lo ≤ (upd f k v i).toInt ∧ (upd f k v i).toInt ≤ hi := by
    intro i lo hi a b
    unfold upd
    split
    · exact a (by assumption)
    · exact b
  exact ⟨g 0 0 7 (fun e => c0 e.symm) h.1, fun c hc => ⟨g _ 0 4 (fun e => c1 (by omega)) (h.2.1 c hc).1, g _ 0 3 (fun e => c2 (by omega)) (h.2.1 c hc).2.1, g _ 0 9 (fun e => c3 (by omega)) (h.2.1 c hc).2.2⟩, fun j hj => g _ 0 6 (fun e => c4 (by omega)) (h.2.2 j hj)⟩
theorem zCF_upd {m : Int} {f : Nat → Int32} {k : Nat} {v : Int32} (h : zCF m f) (c0 : k = 0 → 0 ≤ v.toInt ∧ v.toInt ≤ m) : zCF m (upd f k v) := by
  unfold zCF upd
  split
  · exact c0 (by omega)
  · exact h
def zMu (w t n sz : Int32) : Nat := if w.toInt = 0 then (if t.toInt = 0 then 1 else (sz.toInt - n.toInt).toNat + 2) else 0
theorem zMu_lt {w t n w' t' n' sz : Int32} (h1 : w.toInt = 0) (h2 : ¬ t.toInt = 0) (h3 : n'.toInt ≤ sz.toInt) (h4 : ¬ w'.toInt = 0 ∨ n.toInt < n'.toInt ∨ t'.toInt = 0) : zMu w' t' n' sz < zMu w t n sz := by
  have a : zMu w t n sz = (sz.toInt - n.toInt).toNat + 2 := by unfold zMu; rw [if_pos h1, if_neg h2]
  rw [a]
  unfold zMu
  split
  · split
    · omega
    · omega
  · omega
theorem m_co_X12_crossingTold : Cond.code yX12_crossingTold cX12_crossingTold 2 (some .int) ∈ zT := zmem1 zsub_6 193 rfl rfl
theorem m_ml_RX12_129 : Cond.methodLink RX12 129 yX12_crossingTold ∈ zT := zmem1 zsub_6 190 rfl rfl
theorem m_im_X12_crossingTold : Cond.instanceMethod yX12_crossingTold ∈ zT := zmem1 zsub_6 192 rfl rfl
theorem m_se_X12_crossingTold : Cond.selects RX12 yX12_crossingTold yX12_crossingTold ∈ zT := zmem 53 rfl rfl
theorem m_co_X12_wordIn : Cond.code yX12_wordIn cX12_wordIn 4 (some .int) ∈ zT := zmem1 zsub_6 177 rfl rfl
theorem m_ml_RX12_133 : Cond.methodLink RX12 133 yX12_wordIn ∈ zT := zmem1 zsub_6 174 rfl rfl
theorem m_im_X12_wordIn : Cond.instanceMethod yX12_wordIn ∈ zT := zmem1 zsub_6 176 rfl rfl
theorem m_se_X12_wordIn : Cond.selects RX12 yX12_wordIn yX12_wordIn ∈ zT := zmem 49 rfl rfl
theorem m_co_X12_endsLine : Cond.code yX12_endsLine cX12_endsLine 1 none ∈ zT := zmem1 zsub_6 201 rfl rfl
theorem m_ml_RX12_140 : Cond.methodLink RX12 140 yX12_endsLine ∈ zT := zmem1 zsub_6 198 rfl rfl
theorem m_im_X12_endsLine : Cond.instanceMethod yX12_endsLine ∈ zT := zmem1 zsub_6 200 rfl rfl
theorem m_se_X12_endsLine : Cond.selects RX12 yX12_endsLine yX12_endsLine ∈ zT := zmem 55 rfl rfl
theorem m_co_X12_crossTold : Cond.code yX12_crossTold cX12_crossTold 4 none ∈ zT := zmem1 zsub_6 185 rfl rfl
theorem m_ml_RX12_136 : Cond.methodLink RX12 136 yX12_crossTold ∈ zT := zmem1 zsub_6 182 rfl rfl
theorem m_im_X12_crossTold : Cond.instanceMethod yX12_crossTold ∈ zT := zmem1 zsub_6 184 rfl rfl
theorem m_se_X12_crossTold : Cond.selects RX12 yX12_crossTold yX12_crossTold ∈ zT := zmem 51 rfl rfl
theorem kV_RX12_129 {R : Room} {s : State} {args : Array Value} {d mc ms : Nat} (hts : ∀ w ∈ zT, w.before args s = true) (h1 : d + 1 ≤ R.frames) (h2 : 8 + (2 + 11) + 40 * d ≤ R.locals) : CallW R s args RX12 RX12 129 yX12_crossingTold cX12_crossingTold 2 (some .int) (zW yX12_crossingTold cX12_crossingTold 2 (some .int)) (zR d mc ms) mc ms 0 := z_cwV hts m_co_X12_crossingTold m_ml_RX12_129 m_im_X12_crossingTold m_se_X12_crossingTold m_ii_RX12 (by decide +kernel) h1 h2
theorem kV_RX12_133 {R : Room} {s : State} {args : Array Value} {d mc ms : Nat} (hts : ∀ w ∈ zT, w.before args s = true) (h1 : d + 1 ≤ R.frames) (h2 : 8 + (4 + 11) + 40 * d ≤ R.locals) : CallW R s args RX12 RX12 133 yX12_wordIn cX12_wordIn 4 (some .int) (zW yX12_wordIn cX12_wordIn 4 (some .int)) (zR d mc ms) mc ms 2 := z_cwV hts m_co_X12_wordIn m_ml_RX12_133 m_im_X12_wordIn m_se_X12_wordIn m_ii_RX12 (by decide +kernel) h1 h2
theorem kV_RX12_140 {R : Room} {s : State} {args : Array Value} {d mc ms : Nat} (hts : ∀ w ∈ zT, w.before args s = true) (h1 : d + 1 ≤ R.frames) (h2 : 8 + (1 + 11) + 40 * d ≤ R.locals) : CallW R s args RX12 RX12 140 yX12_endsLine cX12_endsLine 1 none (zW yX12_endsLine cX12_endsLine 1 none) (zR d mc ms) mc ms 0 := z_cwV hts m_co_X12_endsLine m_ml_RX12_140 m_im_X12_endsLine m_se_X12_endsLine m_ii_RX12 (by decide +kernel) h1 h2
theorem kV_RX12_136 {R : Room} {s : State} {args : Array Value} {d mc ms : Nat} (hts : ∀ w ∈ zT, w.before args s = true) (h1 : d + 1 ≤ R.frames) (h2 : 8 + (4 + 11) + 40 * d ≤ R.locals) : CallW R s args RX12 RX12 136 yX12_crossTold cX12_crossTold 4 none (zW yX12_crossTold cX12_crossTold 4 none) (zR d mc ms) mc ms 1 := z_cwV hts m_co_X12_crossTold m_ml_RX12_136 m_im_X12_crossTold m_se_X12_crossTold m_ii_RX12 (by decide +kernel) h1 h2
theorem dX12_crossTold_0 : decode cX12_crossTold 0 = .ok (.aload_n 0, 1) := zo_42 (by decide +kernel)
theorem dX12_crossTold_1 : decode cX12_crossTold 1 = .ok (.getfield 17, 3) := zo_180 (by decide +kernel)
theorem dX12_crossTold_4 : decode cX12_crossTold 4 = .ok (.iconst 0, 1) := zo_3 (by decide +kernel)
theorem dX12_crossTold_5 : decode cX12_crossTold 5 = .ok (.iaload, 1) := zo_46 (by decide +kernel)
theorem dX12_crossTold_6 : decode cX12_crossTold 6 = .ok (.bipush 7, 2) := zo_16 (by decide +kernel)
theorem dX12_crossTold_8 : decode cX12_crossTold 8 = .ok (.if_icmp .lt 9, 3) := zo_161 (by decide +kernel)
theorem dX12_crossTold_11 : decode cX12_crossTold 11 = .ok (.aload_n 0, 1) := zo_42 (by decide +kernel)
theorem dX12_crossTold_12 : decode cX12_crossTold 12 = .ok (.iconst 3, 1) := zo_6 (by decide +kernel)
theorem dX12_crossTold_13 : decode cX12_crossTold 13 = .ok (.iload_n 1, 1) := zo_27 (by decide +kernel)
theorem dX12_crossTold_14 : decode cX12_crossTold 14 = .ok (.invokevirtual 115, 3) := zo_182 (by decide +kernel)
theorem dX12_crossTold_17 : decode cX12_crossTold 17 = .ok (.iconst 0, 1) := zo_3 (by decide +kernel)
theorem dX12_crossTold_18 : decode cX12_crossTold 18 = .ok (.istore_n 2, 1) := zo_61 (by decide +kernel)
theorem dX12_crossTold_19 : decode cX12_crossTold 19 = .ok (.aload_n 0, 1) := zo_42 (by decide +kernel)
theorem dX12_crossTold_20 : decode cX12_crossTold 20 = .ok (.getfield 104, 3) := zo_180 (by decide +kernel)
theorem dX12_crossTold_23 : decode cX12_crossTold 23 = .ok (.ifCond .ne 81, 3) := zo_154 (by decide +kernel)
theorem dX12_crossTold_26 : decode cX12_crossTold 26 = .ok (.aload_n 0, 1) := zo_42 (by decide +kernel)
theorem dX12_crossTold_27 : decode cX12_crossTold 27 = .ok (.getfield 80, 3) := zo_180 (by decide +kernel)
theorem dX12_crossTold_30 : decode cX12_crossTold 30 = .ok (.iconst 1, 1) := zo_4 (by decide +kernel)
theorem dX12_crossTold_31 : decode cX12_crossTold 31 = .ok (.if_icmp .ne 73, 3) := zo_160 (by decide +kernel)
theorem dX12_crossTold_34 : decode cX12_crossTold 34 = .ok (.iload_n 2, 1) := zo_28 (by decide +kernel)
theorem dX12_crossTold_35 : decode cX12_crossTold 35 = .ok (.iconst 4, 1) := zo_7 (by decide +kernel)
theorem dX12_crossTold_36 : decode cX12_crossTold 36 = .ok (.if_icmp .ne 12, 3) := zo_160 (by decide +kernel)
theorem dX12_crossTold_39 : decode cX12_crossTold 39 = .ok (.aload_n 0, 1) := zo_42 (by decide +kernel)
theorem dX12_crossTold_40 : decode cX12_crossTold 40 = .ok (.iconst 3, 1) := zo_6 (by decide +kernel)
theorem dX12_crossTold_41 : decode cX12_crossTold 41 = .ok (.aload_n 0, 1) := zo_42 (by decide +kernel)
theorem dX12_crossTold_42 : decode cX12_crossTold 42 = .ok (.getfield 77, 3) := zo_180 (by decide +kernel)
theorem dX12_crossTold_45 : decode cX12_crossTold 45 = .ok (.invokevirtual 115, 3) := zo_182 (by decide +kernel)
theorem dX12_crossTold_48 : decode cX12_crossTold 48 = .ok (.aload_n 0, 1) := zo_42 (by decide +kernel)
theorem dX12_crossTold_49 : decode cX12_crossTold 49 = .ok (.invokevirtual 129, 3) := zo_182 (by decide +kernel)
theorem dX12_crossTold_52 : decode cX12_crossTold 52 = .ok (.istore_n 3, 1) := zo_62 (by decide +kernel)
theorem dX12_crossTold_53 : decode cX12_crossTold 53 = .ok (.aload_n 0, 1) := zo_42 (by decide +kernel)
theorem dX12_crossTold_54 : decode cX12_crossTold 54 = .ok (.getfield 17, 3) := zo_180 (by decide +kernel)
theorem dX12_crossTold_57 : decode cX12_crossTold 57 = .ok (.iconst 0, 1) := zo_3 (by decide +kernel)
theorem dX12_crossTold_58 : decode cX12_crossTold 58 = .ok (.iaload, 1) := zo_46 (by decide +kernel)
theorem dX12_crossTold_59 : decode cX12_crossTold 59 = .ok (.bipush 7, 2) := zo_16 (by decide +kernel)
theorem dX12_crossTold_61 : decode cX12_crossTold 61 = .ok (.if_icmp .ge 27, 3) := zo_162 (by decide +kernel)
theorem dX12_crossTold_64 : decode cX12_crossTold 64 = .ok (.iload_n 2, 1) := zo_28 (by decide +kernel)
theorem dX12_crossTold_65 : decode cX12_crossTold 65 = .ok (.iconst 4, 1) := zo_7 (by decide +kernel)
theorem dX12_crossTold_66 : decode cX12_crossTold 66 = .ok (.if_icmp .ge 22, 3) := zo_162 (by decide +kernel)
theorem dX12_crossTold_69 : decode cX12_crossTold 69 = .ok (.aload_n 0, 1) := zo_42 (by decide +kernel)
theorem dX12_crossTold_70 : decode cX12_crossTold 70 = .ok (.getfield 17, 3) := zo_180 (by decide +kernel)
theorem dX12_crossTold_73 : decode cX12_crossTold 73 = .ok (.bipush 23, 2) := zo_16 (by decide +kernel)
theorem dX12_crossTold_75 : decode cX12_crossTold 75 = .ok (.iconst 4, 1) := zo_7 (by decide +kernel)
theorem dX12_crossTold_76 : decode cX12_crossTold 76 = .ok (.aload_n 0, 1) := zo_42 (by decide +kernel)
theorem dX12_crossTold_77 : decode cX12_crossTold 77 = .ok (.getfield 17, 3) := zo_180 (by decide +kernel)
theorem dX12_crossTold_80 : decode cX12_crossTold 80 = .ok (.iconst 0, 1) := zo_3 (by decide +kernel)
theorem dX12_crossTold_81 : decode cX12_crossTold 81 = .ok (.iaload, 1) := zo_46 (by decide +kernel)
theorem dX12_crossTold_82 : decode cX12_crossTold 82 = .ok (.imul, 1) := zo_104 (by decide +kernel)
theorem dX12_crossTold_83 : decode cX12_crossTold 83 = .ok (.iadd, 1) := zo_96 (by decide +kernel)
theorem dX12_crossTold_84 : decode cX12_crossTold 84 = .ok (.iload_n 2, 1) := zo_28 (by decide +kernel)
theorem dX12_crossTold_85 : decode cX12_crossTold 85 = .ok (.iadd, 1) := zo_96 (by decide +kernel)
theorem dX12_crossTold_86 : decode cX12_crossTold 86 = .ok (.iload_n 3, 1) := zo_29 (by decide +kernel)
theorem dX12_crossTold_87 : decode cX12_crossTold 87 = .ok (.iastore, 1) := zo_79 (by decide +kernel)
theorem dX12_crossTold_88 : decode cX12_crossTold 88 = .ok (.iload_n 2, 1) := zo_28 (by decide +kernel)
theorem dX12_crossTold_89 : decode cX12_crossTold 89 = .ok (.iconst 4, 1) := zo_7 (by decide +kernel)
theorem dX12_crossTold_90 : decode cX12_crossTold 90 = .ok (.if_icmp .ge 9, 3) := zo_162 (by decide +kernel)
theorem dX12_crossTold_93 : decode cX12_crossTold 93 = .ok (.iload_n 2, 1) := zo_28 (by decide +kernel)
theorem dX12_crossTold_94 : decode cX12_crossTold 94 = .ok (.iconst 1, 1) := zo_4 (by decide +kernel)
theorem dX12_crossTold_95 : decode cX12_crossTold 95 = .ok (.iadd, 1) := zo_96 (by decide +kernel)
theorem dX12_crossTold_96 : decode cX12_crossTold 96 = .ok (.goto 4, 3) := zo_167 (by decide +kernel)
theorem dX12_crossTold_99 : decode cX12_crossTold 99 = .ok (.iconst 4, 1) := zo_7 (by decide +kernel)
theorem dX12_crossTold_100 : decode cX12_crossTold 100 = .ok (.istore_n 2, 1) := zo_61 (by decide +kernel)
theorem dX12_crossTold_101 : decode cX12_crossTold 101 = .ok (.goto (-82), 3) := zo_167 (by decide +kernel)
theorem dX12_crossTold_104 : decode cX12_crossTold 104 = .ok (.aload_n 0, 1) := zo_42 (by decide +kernel)
theorem dX12_crossTold_105 : decode cX12_crossTold 105 = .ok (.getfield 17, 3) := zo_180 (by decide +kernel)
theorem dX12_crossTold_108 : decode cX12_crossTold 108 = .ok (.iconst 0, 1) := zo_3 (by decide +kernel)
theorem dX12_crossTold_109 : decode cX12_crossTold 109 = .ok (.iaload, 1) := zo_46 (by decide +kernel)
theorem dX12_crossTold_110 : decode cX12_crossTold 110 = .ok (.bipush 7, 2) := zo_16 (by decide +kernel)
theorem dX12_crossTold_112 : decode cX12_crossTold 112 = .ok (.if_icmp .lt 4, 3) := zo_161 (by decide +kernel)
theorem dX12_crossTold_115 : decode cX12_crossTold 115 = .ok (.return_, 1) := zo_177 (by decide +kernel)
theorem dX12_crossTold_116 : decode cX12_crossTold 116 = .ok (.aload_n 0, 1) := zo_42 (by decide +kernel)
theorem dX12_crossTold_117 : decode cX12_crossTold 117 = .ok (.getfield 17, 3) := zo_180 (by decide +kernel)
theorem dX12_crossTold_120 : decode cX12_crossTold 120 = .ok (.iconst 2, 1) := zo_5 (by decide +kernel)
theorem dX12_crossTold_121 : decode cX12_crossTold 121 = .ok (.aload_n 0, 1) := zo_42 (by decide +kernel)
theorem dX12_crossTold_122 : decode cX12_crossTold 122 = .ok (.getfield 17, 3) := zo_180 (by decide +kernel)
theorem dX12_crossTold_125 : decode cX12_crossTold 125 = .ok (.iconst 0, 1) := zo_3 (by decide +kernel)
theorem dX12_crossTold_126 : decode cX12_crossTold 126 = .ok (.iaload, 1) := zo_46 (by decide +kernel)
theorem dX12_crossTold_127 : decode cX12_crossTold 127 = .ok (.iadd, 1) := zo_96 (by decide +kernel)
theorem dX12_crossTold_128 : decode cX12_crossTold 128 = .ok (.iload_n 2, 1) := zo_28 (by decide +kernel)
theorem dX12_crossTold_129 : decode cX12_crossTold 129 = .ok (.iastore, 1) := zo_79 (by decide +kernel)
theorem dX12_crossTold_130 : decode cX12_crossTold 130 = .ok (.aload_n 0, 1) := zo_42 (by decide +kernel)
theorem dX12_crossTold_131 : decode cX12_crossTold 131 = .ok (.getfield 17, 3) := zo_180 (by decide +kernel)
theorem dX12_crossTold_134 : decode cX12_crossTold 134 = .ok (.iconst 0, 1) := zo_3 (by decide +kernel)
theorem dX12_crossTold_135 : decode cX12_crossTold 135 = .ok (.dup2, 1) := zo_92 (by decide +kernel)
theorem dX12_crossTold_136 : decode cX12_crossTold 136 = .ok (.iaload, 1) := zo_46 (by decide +kernel)
theorem dX12_crossTold_137 : decode cX12_crossTold 137 = .ok (.iconst 1, 1) := zo_4 (by decide +kernel)
theorem dX12_crossTold_138 : decode cX12_crossTold 138 = .ok (.iadd, 1) := zo_96 (by decide +kernel)
theorem dX12_crossTold_139 : decode cX12_crossTold 139 = .ok (.iastore, 1) := zo_79 (by decide +kernel)
theorem dX12_crossTold_140 : decode cX12_crossTold 140 = .ok (.return_, 1) := zo_177 (by decide +kernel)
theorem dX12_landLine_0 : decode cX12_landLine 0 = .ok (.aload_n 0, 1) := zo_42 (by decide +kernel)
theorem dX12_landLine_1 : decode cX12_landLine 1 = .ok (.getfield 77, 3) := zo_180 (by decide +kernel)
theorem dX12_landLine_4 : decode cX12_landLine 4 = .ok (.istore_n 1, 1) := zo_60 (by decide +kernel)
theorem dX12_landLine_5 : decode cX12_landLine 5 = .ok (.aload_n 0, 1) := zo_42 (by decide +kernel)
theorem dX12_landLine_6 : decode cX12_landLine 6 = .ok (.iconst 1, 1) := zo_4 (by decide +kernel)
theorem dX12_landLine_7 : decode cX12_landLine 7 = .ok (.iconst 4, 1) := zo_7 (by decide +kernel)
theorem dX12_landLine_8 : decode cX12_landLine 8 = .ok (.invokevirtual 133, 3) := zo_182 (by decide +kernel)
theorem dX12_landLine_11 : decode cX12_landLine 11 = .ok (.istore_n 2, 1) := zo_61 (by decide +kernel)
theorem dX12_landLine_12 : decode cX12_landLine 12 = .ok (.aload_n 0, 1) := zo_42 (by decide +kernel)
theorem dX12_landLine_13 : decode cX12_landLine 13 = .ok (.getfield 104, 3) := zo_180 (by decide +kernel)
theorem dX12_landLine_16 : decode cX12_landLine 16 = .ok (.ifCond .eq 7, 3) := zo_153 (by decide +kernel)
theorem dX12_landLine_19 : decode cX12_landLine 19 = .ok (.iconst 0, 1) := zo_3 (by decide +kernel)
theorem dX12_landLine_20 : decode cX12_landLine 20 = .ok (.goto 4, 3) := zo_167 (by decide +kernel)
theorem dX12_landLine_23 : decode cX12_landLine 23 = .ok (.iload_n 2, 1) := zo_28 (by decide +kernel)
theorem dX12_landLine_24 : decode cX12_landLine 24 = .ok (.tableswitch 105 1 4 #[32, 40, 63, 87], 32) := by decide +kernel
theorem dX12_landLine_56 : decode cX12_landLine 56 = .ok (.aload_n 0, 1) := zo_42 (by decide +kernel)
theorem dX12_landLine_57 : decode cX12_landLine 57 = .ok (.iload_n 1, 1) := zo_27 (by decide +kernel)
theorem dX12_landLine_58 : decode cX12_landLine 58 = .ok (.invokevirtual 136, 3) := zo_182 (by decide +kernel)
theorem dX12_landLine_61 : decode cX12_landLine 61 = .ok (.goto 68, 3) := zo_167 (by decide +kernel)
theorem dX12_landLine_64 : decode cX12_landLine 64 = .ok (.aload_n 0, 1) := zo_42 (by decide +kernel)
theorem dX12_landLine_65 : decode cX12_landLine 65 = .ok (.invokevirtual 129, 3) := zo_182 (by decide +kernel)
theorem dX12_landLine_68 : decode cX12_landLine 68 = .ok (.istore_n 3, 1) := zo_62 (by decide +kernel)
theorem dX12_landLine_69 : decode cX12_landLine 69 = .ok (.aload_n 0, 1) := zo_42 (by decide +kernel)
theorem dX12_landLine_70 : decode cX12_landLine 70 = .ok (.getfield 17, 3) := zo_180 (by decide +kernel)
theorem dX12_landLine_73 : decode cX12_landLine 73 = .ok (.bipush 9, 2) := zo_16 (by decide +kernel)
theorem dX12_landLine_75 : decode cX12_landLine 75 = .ok (.iload_n 3, 1) := zo_29 (by decide +kernel)
theorem dX12_landLine_76 : decode cX12_landLine 76 = .ok (.iadd, 1) := zo_96 (by decide +kernel)
theorem dX12_landLine_77 : decode cX12_landLine 77 = .ok (.aload_n 0, 1) := zo_42 (by decide +kernel)
theorem dX12_landLine_78 : decode cX12_landLine 78 = .ok (.iconst 0, 1) := zo_3 (by decide +kernel)
theorem dX12_landLine_79 : decode cX12_landLine 79 = .ok (.iconst 3, 1) := zo_6 (by decide +kernel)
theorem dX12_landLine_80 : decode cX12_landLine 80 = .ok (.invokevirtual 122, 3) := zo_182 (by decide +kernel)
theorem dX12_landLine_83 : decode cX12_landLine 83 = .ok (.iastore, 1) := zo_79 (by decide +kernel)
theorem dX12_landLine_84 : decode cX12_landLine 84 = .ok (.goto 45, 3) := zo_167 (by decide +kernel)
theorem dX12_landLine_87 : decode cX12_landLine 87 = .ok (.aload_n 0, 1) := zo_42 (by decide +kernel)
theorem dX12_landLine_88 : decode cX12_landLine 88 = .ok (.invokevirtual 129, 3) := zo_182 (by decide +kernel)
theorem dX12_landLine_91 : decode cX12_landLine 91 = .ok (.istore_n 3, 1) := zo_62 (by decide +kernel)
theorem dX12_landLine_92 : decode cX12_landLine 92 = .ok (.aload_n 0, 1) := zo_42 (by decide +kernel)
theorem dX12_landLine_93 : decode cX12_landLine 93 = .ok (.getfield 17, 3) := zo_180 (by decide +kernel)
theorem dX12_landLine_96 : decode cX12_landLine 96 = .ok (.bipush 16, 2) := zo_16 (by decide +kernel)
theorem dX12_landLine_98 : decode cX12_landLine 98 = .ok (.iload_n 3, 1) := zo_29 (by decide +kernel)
theorem dX12_landLine_99 : decode cX12_landLine 99 = .ok (.iadd, 1) := zo_96 (by decide +kernel)
theorem dX12_landLine_100 : decode cX12_landLine 100 = .ok (.aload_n 0, 1) := zo_42 (by decide +kernel)
theorem dX12_landLine_101 : decode cX12_landLine 101 = .ok (.iconst 0, 1) := zo_3 (by decide +kernel)
theorem dX12_landLine_102 : decode cX12_landLine 102 = .ok (.bipush 9, 2) := zo_16 (by decide +kernel)
theorem dX12_landLine_104 : decode cX12_landLine 104 = .ok (.invokevirtual 122, 3) := zo_182 (by decide +kernel)
theorem dX12_landLine_107 : decode cX12_landLine 107 = .ok (.iastore, 1) := zo_79 (by decide +kernel)
theorem dX12_landLine_108 : decode cX12_landLine 108 = .ok (.goto 21, 3) := zo_167 (by decide +kernel)
theorem dX12_landLine_111 : decode cX12_landLine 111 = .ok (.aload_n 0, 1) := zo_42 (by decide +kernel)
theorem dX12_landLine_112 : decode cX12_landLine 112 = .ok (.getfield 17, 3) := zo_180 (by decide +kernel)
theorem dX12_landLine_115 : decode cX12_landLine 115 = .ok (.iconst 1, 1) := zo_4 (by decide +kernel)
theorem dX12_landLine_116 : decode cX12_landLine 116 = .ok (.dup2, 1) := zo_92 (by decide +kernel)
theorem dX12_landLine_117 : decode cX12_landLine 117 = .ok (.iaload, 1) := zo_46 (by decide +kernel)
theorem dX12_landLine_118 : decode cX12_landLine 118 = .ok (.iconst 1, 1) := zo_4 (by decide +kernel)
theorem dX12_landLine_119 : decode cX12_landLine 119 = .ok (.aload_n 0, 1) := zo_42 (by decide +kernel)
theorem dX12_landLine_120 : decode cX12_landLine 120 = .ok (.invokevirtual 129, 3) := zo_182 (by decide +kernel)
theorem dX12_landLine_123 : decode cX12_landLine 123 = .ok (.ishl, 1) := zo_120 (by decide +kernel)
theorem dX12_landLine_124 : decode cX12_landLine 124 = .ok (.ior, 1) := zo_128 (by decide +kernel)
theorem dX12_landLine_125 : decode cX12_landLine 125 = .ok (.iastore, 1) := zo_79 (by decide +kernel)
theorem dX12_landLine_126 : decode cX12_landLine 126 = .ok (.goto 3, 3) := zo_167 (by decide +kernel)
theorem dX12_landLine_129 : decode cX12_landLine 129 = .ok (.aload_n 0, 1) := zo_42 (by decide +kernel)
theorem dX12_landLine_130 : decode cX12_landLine 130 = .ok (.invokevirtual 140, 3) := zo_182 (by decide +kernel)
theorem dX12_landLine_133 : decode cX12_landLine 133 = .ok (.return_, 1) := zo_177 (by decide +kernel)
theorem dX12_dayLine_0 : decode cX12_dayLine 0 = .ok (.aload_n 0, 1) := zo_42 (by decide +kernel)
theorem dX12_dayLine_1 : decode cX12_dayLine 1 = .ok (.getfield 77, 3) := zo_180 (by decide +kernel)
theorem dX12_dayLine_4 : decode cX12_dayLine 4 = .ok (.istore_n 1, 1) := zo_60 (by decide +kernel)
theorem dX12_dayLine_5 : decode cX12_dayLine 5 = .ok (.aload_n 0, 1) := zo_42 (by decide +kernel)
theorem dX12_dayLine_6 : decode cX12_dayLine 6 = .ok (.iconst 5, 1) := zo_8 (by decide +kernel)
theorem dX12_dayLine_7 : decode cX12_dayLine 7 = .ok (.bipush 10, 2) := zo_16 (by decide +kernel)
theorem dX12_dayLine_9 : decode cX12_dayLine 9 = .ok (.invokevirtual 133, 3) := zo_182 (by decide +kernel)
theorem dX12_dayLine_12 : decode cX12_dayLine 12 = .ok (.iconst 5, 1) := zo_8 (by decide +kernel)
theorem dX12_dayLine_13 : decode cX12_dayLine 13 = .ok (.isub, 1) := zo_100 (by decide +kernel)
theorem dX12_dayLine_14 : decode cX12_dayLine 14 = .ok (.istore_n 2, 1) := zo_61 (by decide +kernel)
theorem dX12_dayLine_15 : decode cX12_dayLine 15 = .ok (.aload_n 0, 1) := zo_42 (by decide +kernel)
theorem dX12_dayLine_16 : decode cX12_dayLine 16 = .ok (.getfield 104, 3) := zo_180 (by decide +kernel)
theorem dX12_dayLine_19 : decode cX12_dayLine 19 = .ok (.ifCond .ne 20, 3) := zo_154 (by decide +kernel)
theorem dX12_dayLine_22 : decode cX12_dayLine 22 = .ok (.aload_n 0, 1) := zo_42 (by decide +kernel)
theorem dX12_dayLine_23 : decode cX12_dayLine 23 = .ok (.getfield 17, 3) := zo_180 (by decide +kernel)
theorem dX12_dayLine_26 : decode cX12_dayLine 26 = .ok (.iconst 0, 1) := zo_3 (by decide +kernel)
theorem dX12_dayLine_27 : decode cX12_dayLine 27 = .ok (.iaload, 1) := zo_46 (by decide +kernel)
theorem dX12_dayLine_28 : decode cX12_dayLine 28 = .ok (.bipush 40, 2) := zo_16 (by decide +kernel)
theorem dX12_dayLine_30 : decode cX12_dayLine 30 = .ok (.if_icmp .lt 9, 3) := zo_161 (by decide +kernel)
theorem dX12_dayLine_33 : decode cX12_dayLine 33 = .ok (.aload_n 0, 1) := zo_42 (by decide +kernel)
theorem dX12_dayLine_34 : decode cX12_dayLine 34 = .ok (.iconst 3, 1) := zo_6 (by decide +kernel)
theorem dX12_dayLine_35 : decode cX12_dayLine 35 = .ok (.iload_n 1, 1) := zo_27 (by decide +kernel)
theorem dX12_dayLine_36 : decode cX12_dayLine 36 = .ok (.invokevirtual 115, 3) := zo_182 (by decide +kernel)
theorem dX12_dayLine_39 : decode cX12_dayLine 39 = .ok (.aload_n 0, 1) := zo_42 (by decide +kernel)
theorem dX12_dayLine_40 : decode cX12_dayLine 40 = .ok (.iconst 0, 1) := zo_3 (by decide +kernel)
theorem dX12_dayLine_41 : decode cX12_dayLine 41 = .ok (.bipush 6, 2) := zo_16 (by decide +kernel)
theorem dX12_dayLine_43 : decode cX12_dayLine 43 = .ok (.invokevirtual 122, 3) := zo_182 (by decide +kernel)
theorem dX12_dayLine_46 : decode cX12_dayLine 46 = .ok (.istore_n 3, 1) := zo_62 (by decide +kernel)
theorem dX12_dayLine_47 : decode cX12_dayLine 47 = .ok (.iload_n 2, 1) := zo_28 (by decide +kernel)
theorem dX12_dayLine_48 : decode cX12_dayLine 48 = .ok (.iconst 3, 1) := zo_6 (by decide +kernel)
theorem dX12_dayLine_49 : decode cX12_dayLine 49 = .ok (.if_icmp .le 12, 3) := zo_164 (by decide +kernel)
theorem dX12_dayLine_52 : decode cX12_dayLine 52 = .ok (.aload_n 0, 1) := zo_42 (by decide +kernel)
theorem dX12_dayLine_53 : decode cX12_dayLine 53 = .ok (.iconst 0, 1) := zo_3 (by decide +kernel)
theorem dX12_dayLine_54 : decode cX12_dayLine 54 = .ok (.iconst 3, 1) := zo_6 (by decide +kernel)
theorem dX12_dayLine_55 : decode cX12_dayLine 55 = .ok (.invokevirtual 122, 3) := zo_182 (by decide +kernel)
theorem dX12_dayLine_58 : decode cX12_dayLine 58 = .ok (.goto 4, 3) := zo_167 (by decide +kernel)
theorem dX12_dayLine_61 : decode cX12_dayLine 61 = .ok (.iconst (-1), 1) := zo_2 (by decide +kernel)
theorem dX12_dayLine_62 : decode cX12_dayLine 62 = .ok (.istore 4, 2) := zo_54 (by decide +kernel)
theorem dX12_dayLine_64 : decode cX12_dayLine 64 = .ok (.aload_n 0, 1) := zo_42 (by decide +kernel)
theorem dX12_dayLine_65 : decode cX12_dayLine 65 = .ok (.getfield 17, 3) := zo_180 (by decide +kernel)
theorem dX12_dayLine_68 : decode cX12_dayLine 68 = .ok (.iconst 0, 1) := zo_3 (by decide +kernel)
theorem dX12_dayLine_69 : decode cX12_dayLine 69 = .ok (.iaload, 1) := zo_46 (by decide +kernel)
theorem dX12_dayLine_70 : decode cX12_dayLine 70 = .ok (.bipush 40, 2) := zo_16 (by decide +kernel)
theorem dX12_dayLine_72 : decode cX12_dayLine 72 = .ok (.if_icmp .ge 54, 3) := zo_162 (by decide +kernel)
theorem dX12_dayLine_75 : decode cX12_dayLine 75 = .ok (.iconst 1, 1) := zo_4 (by decide +kernel)
theorem dX12_dayLine_76 : decode cX12_dayLine 76 = .ok (.iconst 3, 1) := zo_6 (by decide +kernel)
theorem dX12_dayLine_77 : decode cX12_dayLine 77 = .ok (.aload_n 0, 1) := zo_42 (by decide +kernel)
theorem dX12_dayLine_78 : decode cX12_dayLine 78 = .ok (.getfield 17, 3) := zo_180 (by decide +kernel)
theorem dX12_dayLine_81 : decode cX12_dayLine 81 = .ok (.iconst 0, 1) := zo_3 (by decide +kernel)
theorem dX12_dayLine_82 : decode cX12_dayLine 82 = .ok (.iaload, 1) := zo_46 (by decide +kernel)
theorem dX12_dayLine_83 : decode cX12_dayLine 83 = .ok (.imul, 1) := zo_104 (by decide +kernel)
theorem dX12_dayLine_84 : decode cX12_dayLine 84 = .ok (.iadd, 1) := zo_96 (by decide +kernel)
theorem dX12_dayLine_85 : decode cX12_dayLine 85 = .ok (.istore 5, 2) := zo_54 (by decide +kernel)
theorem dX12_dayLine_87 : decode cX12_dayLine 87 = .ok (.aload_n 0, 1) := zo_42 (by decide +kernel)
theorem dX12_dayLine_88 : decode cX12_dayLine 88 = .ok (.getfield 17, 3) := zo_180 (by decide +kernel)
theorem dX12_dayLine_91 : decode cX12_dayLine 91 = .ok (.iload 5, 2) := zo_21 (by decide +kernel)
theorem dX12_dayLine_93 : decode cX12_dayLine 93 = .ok (.iload_n 2, 1) := zo_28 (by decide +kernel)
theorem dX12_dayLine_94 : decode cX12_dayLine 94 = .ok (.iastore, 1) := zo_79 (by decide +kernel)
theorem dX12_dayLine_95 : decode cX12_dayLine 95 = .ok (.aload_n 0, 1) := zo_42 (by decide +kernel)
theorem dX12_dayLine_96 : decode cX12_dayLine 96 = .ok (.getfield 17, 3) := zo_180 (by decide +kernel)
theorem dX12_dayLine_99 : decode cX12_dayLine 99 = .ok (.iload 5, 2) := zo_21 (by decide +kernel)
theorem dX12_dayLine_101 : decode cX12_dayLine 101 = .ok (.iconst 1, 1) := zo_4 (by decide +kernel)
theorem dX12_dayLine_102 : decode cX12_dayLine 102 = .ok (.iadd, 1) := zo_96 (by decide +kernel)
theorem dX12_dayLine_103 : decode cX12_dayLine 103 = .ok (.iload_n 3, 1) := zo_29 (by decide +kernel)
theorem dX12_dayLine_104 : decode cX12_dayLine 104 = .ok (.iastore, 1) := zo_79 (by decide +kernel)
theorem dX12_dayLine_105 : decode cX12_dayLine 105 = .ok (.aload_n 0, 1) := zo_42 (by decide +kernel)
theorem dX12_dayLine_106 : decode cX12_dayLine 106 = .ok (.getfield 17, 3) := zo_180 (by decide +kernel)
theorem dX12_dayLine_109 : decode cX12_dayLine 109 = .ok (.iload 5, 2) := zo_21 (by decide +kernel)
theorem dX12_dayLine_111 : decode cX12_dayLine 111 = .ok (.iconst 2, 1) := zo_5 (by decide +kernel)
theorem dX12_dayLine_112 : decode cX12_dayLine 112 = .ok (.iadd, 1) := zo_96 (by decide +kernel)
theorem dX12_dayLine_113 : decode cX12_dayLine 113 = .ok (.iload 4, 2) := zo_21 (by decide +kernel)
theorem dX12_dayLine_115 : decode cX12_dayLine 115 = .ok (.iastore, 1) := zo_79 (by decide +kernel)
theorem dX12_dayLine_116 : decode cX12_dayLine 116 = .ok (.aload_n 0, 1) := zo_42 (by decide +kernel)
theorem dX12_dayLine_117 : decode cX12_dayLine 117 = .ok (.getfield 17, 3) := zo_180 (by decide +kernel)
theorem dX12_dayLine_120 : decode cX12_dayLine 120 = .ok (.iconst 0, 1) := zo_3 (by decide +kernel)
theorem dX12_dayLine_121 : decode cX12_dayLine 121 = .ok (.dup2, 1) := zo_92 (by decide +kernel)
theorem dX12_dayLine_122 : decode cX12_dayLine 122 = .ok (.iaload, 1) := zo_46 (by decide +kernel)
theorem dX12_dayLine_123 : decode cX12_dayLine 123 = .ok (.iconst 1, 1) := zo_4 (by decide +kernel)
theorem dX12_dayLine_124 : decode cX12_dayLine 124 = .ok (.iadd, 1) := zo_96 (by decide +kernel)
theorem dX12_dayLine_125 : decode cX12_dayLine 125 = .ok (.iastore, 1) := zo_79 (by decide +kernel)
theorem dX12_dayLine_126 : decode cX12_dayLine 126 = .ok (.aload_n 0, 1) := zo_42 (by decide +kernel)
theorem dX12_dayLine_127 : decode cX12_dayLine 127 = .ok (.invokevirtual 140, 3) := zo_182 (by decide +kernel)
theorem dX12_dayLine_130 : decode cX12_dayLine 130 = .ok (.return_, 1) := zo_177 (by decide +kernel)
theorem dX12_logLine_0 : decode cX12_logLine 0 = .ok (.aload_n 0, 1) := zo_42 (by decide +kernel)
theorem dX12_logLine_1 : decode cX12_logLine 1 = .ok (.getfield 77, 3) := zo_180 (by decide +kernel)
theorem dX12_logLine_4 : decode cX12_logLine 4 = .ok (.istore_n 1, 1) := zo_60 (by decide +kernel)
theorem dX12_logLine_5 : decode cX12_logLine 5 = .ok (.aload_n 0, 1) := zo_42 (by decide +kernel)
theorem dX12_logLine_6 : decode cX12_logLine 6 = .ok (.bipush 11, 2) := zo_16 (by decide +kernel)
theorem dX12_logLine_8 : decode cX12_logLine 8 = .ok (.bipush 12, 2) := zo_16 (by decide +kernel)
theorem dX12_logLine_10 : decode cX12_logLine 10 = .ok (.invokevirtual 133, 3) := zo_182 (by decide +kernel)
theorem dX12_logLine_13 : decode cX12_logLine 13 = .ok (.bipush 11, 2) := zo_16 (by decide +kernel)
theorem dX12_logLine_15 : decode cX12_logLine 15 = .ok (.if_icmp .ne 7, 3) := zo_160 (by decide +kernel)
theorem dX12_logLine_18 : decode cX12_logLine 18 = .ok (.iconst 1, 1) := zo_4 (by decide +kernel)
theorem dX12_logLine_19 : decode cX12_logLine 19 = .ok (.goto 4, 3) := zo_167 (by decide +kernel)
theorem dX12_logLine_22 : decode cX12_logLine 22 = .ok (.iconst 0, 1) := zo_3 (by decide +kernel)
theorem dX12_logLine_23 : decode cX12_logLine 23 = .ok (.istore_n 2, 1) := zo_61 (by decide +kernel)
theorem dX12_logLine_24 : decode cX12_logLine 24 = .ok (.aload_n 0, 1) := zo_42 (by decide +kernel)
theorem dX12_logLine_25 : decode cX12_logLine 25 = .ok (.getfield 104, 3) := zo_180 (by decide +kernel)
theorem dX12_logLine_28 : decode cX12_logLine 28 = .ok (.ifCond .ne 20, 3) := zo_154 (by decide +kernel)
theorem dX12_logLine_31 : decode cX12_logLine 31 = .ok (.aload_n 0, 1) := zo_42 (by decide +kernel)
theorem dX12_logLine_32 : decode cX12_logLine 32 = .ok (.getfield 17, 3) := zo_180 (by decide +kernel)
theorem dX12_logLine_35 : decode cX12_logLine 35 = .ok (.iconst 0, 1) := zo_3 (by decide +kernel)
theorem dX12_logLine_36 : decode cX12_logLine 36 = .ok (.iaload, 1) := zo_46 (by decide +kernel)
theorem dX12_logLine_37 : decode cX12_logLine 37 = .ok (.bipush 8, 2) := zo_16 (by decide +kernel)
theorem dX12_logLine_39 : decode cX12_logLine 39 = .ok (.if_icmp .lt 9, 3) := zo_161 (by decide +kernel)
theorem dX12_logLine_42 : decode cX12_logLine 42 = .ok (.aload_n 0, 1) := zo_42 (by decide +kernel)
theorem dX12_logLine_43 : decode cX12_logLine 43 = .ok (.iconst 3, 1) := zo_6 (by decide +kernel)
theorem dX12_logLine_44 : decode cX12_logLine 44 = .ok (.iload_n 1, 1) := zo_27 (by decide +kernel)
theorem dX12_logLine_45 : decode cX12_logLine 45 = .ok (.invokevirtual 115, 3) := zo_182 (by decide +kernel)
theorem dX12_logLine_48 : decode cX12_logLine 48 = .ok (.aload_n 0, 1) := zo_42 (by decide +kernel)
theorem dX12_logLine_49 : decode cX12_logLine 49 = .ok (.iconst 0, 1) := zo_3 (by decide +kernel)
theorem dX12_logLine_50 : decode cX12_logLine 50 = .ok (.bipush 6, 2) := zo_16 (by decide +kernel)
theorem dX12_logLine_52 : decode cX12_logLine 52 = .ok (.invokevirtual 122, 3) := zo_182 (by decide +kernel)
theorem dX12_logLine_55 : decode cX12_logLine 55 = .ok (.istore_n 3, 1) := zo_62 (by decide +kernel)
theorem dX12_logLine_56 : decode cX12_logLine 56 = .ok (.iload_n 2, 1) := zo_28 (by decide +kernel)
theorem dX12_logLine_57 : decode cX12_logLine 57 = .ok (.ifCond .eq 13, 3) := zo_153 (by decide +kernel)
theorem dX12_logLine_60 : decode cX12_logLine 60 = .ok (.aload_n 0, 1) := zo_42 (by decide +kernel)
theorem dX12_logLine_61 : decode cX12_logLine 61 = .ok (.iconst 0, 1) := zo_3 (by decide +kernel)
theorem dX12_logLine_62 : decode cX12_logLine 62 = .ok (.bipush 6, 2) := zo_16 (by decide +kernel)
theorem dX12_logLine_64 : decode cX12_logLine 64 = .ok (.invokevirtual 122, 3) := zo_182 (by decide +kernel)
theorem dX12_logLine_67 : decode cX12_logLine 67 = .ok (.goto 4, 3) := zo_167 (by decide +kernel)
theorem dX12_logLine_70 : decode cX12_logLine 70 = .ok (.iconst (-1), 1) := zo_2 (by decide +kernel)
theorem dX12_logLine_71 : decode cX12_logLine 71 = .ok (.istore 4, 2) := zo_54 (by decide +kernel)
theorem dX12_logLine_73 : decode cX12_logLine 73 = .ok (.aload_n 0, 1) := zo_42 (by decide +kernel)
theorem dX12_logLine_74 : decode cX12_logLine 74 = .ok (.getfield 17, 3) := zo_180 (by decide +kernel)
theorem dX12_logLine_77 : decode cX12_logLine 77 = .ok (.iconst 0, 1) := zo_3 (by decide +kernel)
theorem dX12_logLine_78 : decode cX12_logLine 78 = .ok (.iaload, 1) := zo_46 (by decide +kernel)
theorem dX12_logLine_79 : decode cX12_logLine 79 = .ok (.bipush 8, 2) := zo_16 (by decide +kernel)
theorem dX12_logLine_81 : decode cX12_logLine 81 = .ok (.if_icmp .ge 46, 3) := zo_162 (by decide +kernel)
theorem dX12_logLine_84 : decode cX12_logLine 84 = .ok (.aload_n 0, 1) := zo_42 (by decide +kernel)
theorem dX12_logLine_85 : decode cX12_logLine 85 = .ok (.getfield 17, 3) := zo_180 (by decide +kernel)
theorem dX12_logLine_88 : decode cX12_logLine 88 = .ok (.iconst 1, 1) := zo_4 (by decide +kernel)
theorem dX12_logLine_89 : decode cX12_logLine 89 = .ok (.iconst 2, 1) := zo_5 (by decide +kernel)
theorem dX12_logLine_90 : decode cX12_logLine 90 = .ok (.aload_n 0, 1) := zo_42 (by decide +kernel)
theorem dX12_logLine_91 : decode cX12_logLine 91 = .ok (.getfield 17, 3) := zo_180 (by decide +kernel)
theorem dX12_logLine_94 : decode cX12_logLine 94 = .ok (.iconst 0, 1) := zo_3 (by decide +kernel)
theorem dX12_logLine_95 : decode cX12_logLine 95 = .ok (.iaload, 1) := zo_46 (by decide +kernel)
theorem dX12_logLine_96 : decode cX12_logLine 96 = .ok (.imul, 1) := zo_104 (by decide +kernel)
theorem dX12_logLine_97 : decode cX12_logLine 97 = .ok (.iadd, 1) := zo_96 (by decide +kernel)
theorem dX12_logLine_98 : decode cX12_logLine 98 = .ok (.iload_n 3, 1) := zo_29 (by decide +kernel)
theorem dX12_logLine_99 : decode cX12_logLine 99 = .ok (.iastore, 1) := zo_79 (by decide +kernel)
theorem dX12_logLine_100 : decode cX12_logLine 100 = .ok (.aload_n 0, 1) := zo_42 (by decide +kernel)
theorem dX12_logLine_101 : decode cX12_logLine 101 = .ok (.getfield 17, 3) := zo_180 (by decide +kernel)
theorem dX12_logLine_104 : decode cX12_logLine 104 = .ok (.iconst 2, 1) := zo_5 (by decide +kernel)
theorem dX12_logLine_105 : decode cX12_logLine 105 = .ok (.iconst 2, 1) := zo_5 (by decide +kernel)
theorem dX12_logLine_106 : decode cX12_logLine 106 = .ok (.aload_n 0, 1) := zo_42 (by decide +kernel)
theorem dX12_logLine_107 : decode cX12_logLine 107 = .ok (.getfield 17, 3) := zo_180 (by decide +kernel)
theorem dX12_logLine_110 : decode cX12_logLine 110 = .ok (.iconst 0, 1) := zo_3 (by decide +kernel)
theorem dX12_logLine_111 : decode cX12_logLine 111 = .ok (.iaload, 1) := zo_46 (by decide +kernel)
theorem dX12_logLine_112 : decode cX12_logLine 112 = .ok (.imul, 1) := zo_104 (by decide +kernel)
theorem dX12_logLine_113 : decode cX12_logLine 113 = .ok (.iadd, 1) := zo_96 (by decide +kernel)
theorem dX12_logLine_114 : decode cX12_logLine 114 = .ok (.iload 4, 2) := zo_21 (by decide +kernel)
theorem dX12_logLine_116 : decode cX12_logLine 116 = .ok (.iastore, 1) := zo_79 (by decide +kernel)
theorem dX12_logLine_117 : decode cX12_logLine 117 = .ok (.aload_n 0, 1) := zo_42 (by decide +kernel)
theorem dX12_logLine_118 : decode cX12_logLine 118 = .ok (.getfield 17, 3) := zo_180 (by decide +kernel)
theorem dX12_logLine_121 : decode cX12_logLine 121 = .ok (.iconst 0, 1) := zo_3 (by decide +kernel)
theorem dX12_logLine_122 : decode cX12_logLine 122 = .ok (.dup2, 1) := zo_92 (by decide +kernel)
theorem dX12_logLine_123 : decode cX12_logLine 123 = .ok (.iaload, 1) := zo_46 (by decide +kernel)
theorem dX12_logLine_124 : decode cX12_logLine 124 = .ok (.iconst 1, 1) := zo_4 (by decide +kernel)
theorem dX12_logLine_125 : decode cX12_logLine 125 = .ok (.iadd, 1) := zo_96 (by decide +kernel)
theorem dX12_logLine_126 : decode cX12_logLine 126 = .ok (.iastore, 1) := zo_79 (by decide +kernel)
theorem dX12_logLine_127 : decode cX12_logLine 127 = .ok (.aload_n 0, 1) := zo_42 (by decide +kernel)
theorem dX12_logLine_128 : decode cX12_logLine 128 = .ok (.invokevirtual 140, 3) := zo_182 (by decide +kernel)
theorem dX12_logLine_131 : decode cX12_logLine 131 = .ok (.return_, 1) := zo_177 (by decide +kernel)
theorem dX12_placeOf_0 : decode cX12_placeOf 0 = .ok (.iload_n 0, 1) := zo_26 (by decide +kernel)
theorem dX12_placeOf_1 : decode cX12_placeOf 1 = .ok (.ifCond .ne 14, 3) := zo_154 (by decide +kernel)
theorem dX12_placeOf_4 : decode cX12_placeOf 4 = .ok (.sipush 610, 3) := zo_17 (by decide +kernel)
theorem dX12_placeOf_7 : decode cX12_placeOf 7 = .ok (.bipush 51, 2) := zo_16 (by decide +kernel)
theorem dX12_placeOf_9 : decode cX12_placeOf 9 = .ok (.iload_n 1, 1) := zo_27 (by decide +kernel)
theorem dX12_placeOf_10 : decode cX12_placeOf 10 = .ok (.imul, 1) := zo_104 (by decide +kernel)
theorem dX12_placeOf_11 : decode cX12_placeOf 11 = .ok (.iadd, 1) := zo_96 (by decide +kernel)
theorem dX12_placeOf_12 : decode cX12_placeOf 12 = .ok (.goto 27, 3) := zo_167 (by decide +kernel)
theorem dX12_placeOf_15 : decode cX12_placeOf 15 = .ok (.iload_n 0, 1) := zo_26 (by decide +kernel)
theorem dX12_placeOf_16 : decode cX12_placeOf 16 = .ok (.iconst 1, 1) := zo_4 (by decide +kernel)
theorem dX12_placeOf_17 : decode cX12_placeOf 17 = .ok (.if_icmp .ne 14, 3) := zo_160 (by decide +kernel)
theorem dX12_placeOf_20 : decode cX12_placeOf 20 = .ok (.sipush 712, 3) := zo_17 (by decide +kernel)
theorem dX12_placeOf_23 : decode cX12_placeOf 23 = .ok (.bipush 121, 2) := zo_16 (by decide +kernel)
theorem dX12_placeOf_25 : decode cX12_placeOf 25 = .ok (.iload_n 1, 1) := zo_27 (by decide +kernel)
theorem dX12_placeOf_26 : decode cX12_placeOf 26 = .ok (.imul, 1) := zo_104 (by decide +kernel)
theorem dX12_placeOf_27 : decode cX12_placeOf 27 = .ok (.iadd, 1) := zo_96 (by decide +kernel)
theorem dX12_placeOf_28 : decode cX12_placeOf 28 = .ok (.goto 11, 3) := zo_167 (by decide +kernel)
theorem dX12_placeOf_31 : decode cX12_placeOf 31 = .ok (.sipush 954, 3) := zo_17 (by decide +kernel)
theorem dX12_placeOf_34 : decode cX12_placeOf 34 = .ok (.bipush 17, 2) := zo_16 (by decide +kernel)
theorem dX12_placeOf_36 : decode cX12_placeOf 36 = .ok (.iload_n 1, 1) := zo_27 (by decide +kernel)
theorem dX12_placeOf_37 : decode cX12_placeOf 37 = .ok (.imul, 1) := zo_104 (by decide +kernel)
theorem dX12_placeOf_38 : decode cX12_placeOf 38 = .ok (.iadd, 1) := zo_96 (by decide +kernel)
theorem dX12_placeOf_39 : decode cX12_placeOf 39 = .ok (.ireturn, 1) := zo_172 (by decide +kernel)
theorem dX12_sizeOf_0 : decode cX12_sizeOf 0 = .ok (.iload_n 0, 1) := zo_26 (by decide +kernel)
theorem dX12_sizeOf_1 : decode cX12_sizeOf 1 = .ok (.ifCond .ne 8, 3) := zo_154 (by decide +kernel)
theorem dX12_sizeOf_4 : decode cX12_sizeOf 4 = .ok (.bipush 51, 2) := zo_16 (by decide +kernel)
theorem dX12_sizeOf_6 : decode cX12_sizeOf 6 = .ok (.goto 15, 3) := zo_167 (by decide +kernel)
theorem dX12_sizeOf_9 : decode cX12_sizeOf 9 = .ok (.iload_n 0, 1) := zo_26 (by decide +kernel)
theorem dX12_sizeOf_10 : decode cX12_sizeOf 10 = .ok (.iconst 1, 1) := zo_4 (by decide +kernel)
theorem dX12_sizeOf_11 : decode cX12_sizeOf 11 = .ok (.if_icmp .ne 8, 3) := zo_160 (by decide +kernel)
theorem dX12_sizeOf_14 : decode cX12_sizeOf 14 = .ok (.bipush 121, 2) := zo_16 (by decide +kernel)
theorem dX12_sizeOf_16 : decode cX12_sizeOf 16 = .ok (.goto 5, 3) := zo_167 (by decide +kernel)
theorem dX12_sizeOf_19 : decode cX12_sizeOf 19 = .ok (.bipush 17, 2) := zo_16 (by decide +kernel)
theorem dX12_sizeOf_21 : decode cX12_sizeOf 21 = .ok (.ireturn, 1) := zo_172 (by decide +kernel)
theorem dX12_isOf_0 : decode cX12_isOf 0 = .ok (.iload_n 2, 1) := zo_28 (by decide +kernel)
theorem dX12_isOf_1 : decode cX12_isOf 1 = .ok (.iconst 0, 1) := zo_3 (by decide +kernel)
theorem dX12_isOf_2 : decode cX12_isOf 2 = .ok (.aload_n 0, 1) := zo_42 (by decide +kernel)
theorem dX12_isOf_3 : decode cX12_isOf 3 = .ok (.getfield 7, 3) := zo_180 (by decide +kernel)
theorem dX12_isOf_6 : decode cX12_isOf 6 = .ok (.iload_n 1, 1) := zo_27 (by decide +kernel)
theorem dX12_isOf_7 : decode cX12_isOf 7 = .ok (.iaload, 1) := zo_46 (by decide +kernel)
theorem dX12_isOf_8 : decode cX12_isOf 8 = .ok (.iconst 1, 1) := zo_4 (by decide +kernel)
theorem dX12_isOf_9 : decode cX12_isOf 9 = .ok (.isub, 1) := zo_100 (by decide +kernel)
theorem dX12_isOf_10 : decode cX12_isOf 10 = .ok (.invokestatic 111, 3) := zo_184 (by decide +kernel)
theorem dX12_isOf_13 : decode cX12_isOf 13 = .ok (.ireturn, 1) := zo_172 (by decide +kernel)
theorem dX12_postsAreThere_0 : decode cX12_postsAreThere 0 = .ok (.iconst 1, 1) := zo_4 (by decide +kernel)
theorem dX12_postsAreThere_1 : decode cX12_postsAreThere 1 = .ok (.istore_n 1, 1) := zo_60 (by decide +kernel)
theorem dX12_postsAreThere_2 : decode cX12_postsAreThere 2 = .ok (.iconst 0, 1) := zo_3 (by decide +kernel)
theorem dX12_postsAreThere_3 : decode cX12_postsAreThere 3 = .ok (.istore_n 2, 1) := zo_61 (by decide +kernel)
theorem dX12_postsAreThere_4 : decode cX12_postsAreThere 4 = .ok (.iload_n 2, 1) := zo_28 (by decide +kernel)
theorem dX12_postsAreThere_5 : decode cX12_postsAreThere 5 = .ok (.bipush 7, 2) := zo_16 (by decide +kernel)
theorem dX12_postsAreThere_7 : decode cX12_postsAreThere 7 = .ok (.if_icmp .ge 51, 3) := zo_162 (by decide +kernel)
theorem dX12_postsAreThere_10 : decode cX12_postsAreThere 10 = .ok (.iload_n 1, 1) := zo_27 (by decide +kernel)
theorem dX12_postsAreThere_11 : decode cX12_postsAreThere 11 = .ok (.ifCond .eq 39, 3) := zo_153 (by decide +kernel)
theorem dX12_postsAreThere_14 : decode cX12_postsAreThere 14 = .ok (.aload_n 0, 1) := zo_42 (by decide +kernel)
theorem dX12_postsAreThere_15 : decode cX12_postsAreThere 15 = .ok (.getfield 17, 3) := zo_180 (by decide +kernel)
theorem dX12_postsAreThere_18 : decode cX12_postsAreThere 18 = .ok (.bipush 9, 2) := zo_16 (by decide +kernel)
theorem dX12_postsAreThere_20 : decode cX12_postsAreThere 20 = .ok (.iload_n 2, 1) := zo_28 (by decide +kernel)
theorem dX12_postsAreThere_21 : decode cX12_postsAreThere 21 = .ok (.iadd, 1) := zo_96 (by decide +kernel)
theorem dX12_postsAreThere_22 : decode cX12_postsAreThere 22 = .ok (.iaload, 1) := zo_46 (by decide +kernel)
theorem dX12_postsAreThere_23 : decode cX12_postsAreThere 23 = .ok (.ifCond .eq 23, 3) := zo_153 (by decide +kernel)
theorem dX12_postsAreThere_26 : decode cX12_postsAreThere 26 = .ok (.aload_n 0, 1) := zo_42 (by decide +kernel)
theorem dX12_postsAreThere_27 : decode cX12_postsAreThere 27 = .ok (.getfield 17, 3) := zo_180 (by decide +kernel)
theorem dX12_postsAreThere_30 : decode cX12_postsAreThere 30 = .ok (.bipush 9, 2) := zo_16 (by decide +kernel)
theorem dX12_postsAreThere_32 : decode cX12_postsAreThere 32 = .ok (.iload_n 2, 1) := zo_28 (by decide +kernel)
theorem dX12_postsAreThere_33 : decode cX12_postsAreThere 33 = .ok (.iadd, 1) := zo_96 (by decide +kernel)
theorem dX12_postsAreThere_34 : decode cX12_postsAreThere 34 = .ok (.iaload, 1) := zo_46 (by decide +kernel)
theorem dX12_postsAreThere_35 : decode cX12_postsAreThere 35 = .ok (.aload_n 0, 1) := zo_42 (by decide +kernel)
theorem dX12_postsAreThere_36 : decode cX12_postsAreThere 36 = .ok (.getfield 17, 3) := zo_180 (by decide +kernel)
theorem dX12_postsAreThere_39 : decode cX12_postsAreThere 39 = .ok (.iconst 2, 1) := zo_5 (by decide +kernel)
theorem dX12_postsAreThere_40 : decode cX12_postsAreThere 40 = .ok (.iload_n 2, 1) := zo_28 (by decide +kernel)
theorem dX12_postsAreThere_41 : decode cX12_postsAreThere 41 = .ok (.iadd, 1) := zo_96 (by decide +kernel)
theorem dX12_postsAreThere_42 : decode cX12_postsAreThere 42 = .ok (.iaload, 1) := zo_46 (by decide +kernel)
theorem dX12_postsAreThere_43 : decode cX12_postsAreThere 43 = .ok (.if_icmp .ge 7, 3) := zo_162 (by decide +kernel)
theorem dX12_postsAreThere_46 : decode cX12_postsAreThere 46 = .ok (.iconst 1, 1) := zo_4 (by decide +kernel)
theorem dX12_postsAreThere_47 : decode cX12_postsAreThere 47 = .ok (.goto 4, 3) := zo_167 (by decide +kernel)
theorem dX12_postsAreThere_50 : decode cX12_postsAreThere 50 = .ok (.iconst 0, 1) := zo_3 (by decide +kernel)
theorem dX12_postsAreThere_51 : decode cX12_postsAreThere 51 = .ok (.istore_n 1, 1) := zo_60 (by decide +kernel)
theorem dX12_postsAreThere_52 : decode cX12_postsAreThere 52 = .ok (.iinc 2 1, 3) := zo_132 (by decide +kernel)
theorem dX12_postsAreThere_55 : decode cX12_postsAreThere 55 = .ok (.goto (-51), 3) := zo_167 (by decide +kernel)
theorem dX12_postsAreThere_58 : decode cX12_postsAreThere 58 = .ok (.iload_n 1, 1) := zo_27 (by decide +kernel)
theorem dX12_postsAreThere_59 : decode cX12_postsAreThere 59 = .ok (.ireturn, 1) := zo_172 (by decide +kernel)
set_option maxHeartbeats 4000000 in
set_option maxRecDepth 100000 in
/-- c_m_placeOf00 -/
theorem c_m_placeOf00 (l : Launch) (T : zTy) : zMi l T yX12_placeOf cX12_placeOf 2 (some .int) 1 0 0 [.int 0, .int 0] [] (fun (r : Int32) bs => bs = [] ∧ r = 610) := by
  refine zMi_of (own := RX12) (by decide) rfl (Nat.le_of_ble_eq_true rfl) ?_
  intro p e s m args below meth c A ls C hr hlocks hnm hAe G hl
  refine zHide (fun Q9 hQ9 => ?_)
  have hx := C.1
  have hb := C.2.1
  have hl : lv_has ls 2 [(0, .int 0), (1, .int 0)] := hl
  refine lv_iload_n hx hb dX12_placeOf_0 rfl (lv_at hl 0 rfl) ?_
  refine lv_if_ne (tgt := 15) hx hb dX12_placeOf_1 (by decide) (fun q => absurd (by decide) q) (fun _ => ?_)
  refine lv_sipush (v := 610) hx hb dX12_placeOf_4 (by decide) ?_
  refine lv_bipush (v := 51) hx hb dX12_placeOf_7 (by decide) ?_
  refine lv_iload_n hx hb dX12_placeOf_9 rfl (lv_at hl 1 rfl) ?_
  refine lv_imul hx hb dX12_placeOf_10 ?_
  refine lv_topi (fun y_1 ey_1 => ?_)
  obtain rfl : y_1 = 0 := ey_1.trans (by decide)
  refine lv_iadd hx hb dX12_placeOf_11 ?_
  refine lv_topi (fun y_2 ey_2 => ?_)
  obtain rfl : y_2 = 610 := ey_2.trans (by decide)
  refine lv_goto (tgt := 39) hx hb dX12_placeOf_12 (by decide) ?_
  exact z_back hQ9 (z_iret C hr hlocks G (Nat.le_of_ble_eq_true rfl) (Nat.le_of_ble_eq_true rfl) dX12_placeOf_39 ⟨rfl, rfl⟩)
set_option maxHeartbeats 4000000 in
set_option maxRecDepth 100000 in
/-- c_m_placeOf01 -/
theorem c_m_placeOf01 (l : Launch) (T : zTy) : zMi l T yX12_placeOf cX12_placeOf 2 (some .int) 1 0 0 [.int 0, .int 1] [] (fun (r : Int32) bs => bs = [] ∧ r = 661) := by
  refine zMi_of (own := RX12) (by decide) rfl (Nat.le_of_ble_eq_true rfl) ?_
  intro p e s m args below meth c A ls C hr hlocks hnm hAe G hl
  refine zHide (fun Q9 hQ9 => ?_)
  have hx := C.1
  have hb := C.2.1
  have hl : lv_has ls 2 [(0, .int 0), (1, .int 1)] := hl
  refine lv_iload_n hx hb dX12_placeOf_0 rfl (lv_at hl 0 rfl) ?_
  refine lv_if_ne (tgt := 15) hx hb dX12_placeOf_1 (by decide) (fun q => absurd (by decide) q) (fun _ => ?_)
  refine lv_sipush (v := 610) hx hb dX12_placeOf_4 (by decide) ?_
  refine lv_bipush (v := 51) hx hb dX12_placeOf_7 (by decide) ?_
  refine lv_iload_n hx hb dX12_placeOf_9 rfl (lv_at hl 1 rfl) ?_
  refine lv_imul hx hb dX12_placeOf_10 ?_
  refine lv_topi (fun y_1 ey_1 => ?_)
  obtain rfl : y_1 = 51 := ey_1.trans (by decide)
  refine lv_iadd hx hb dX12_placeOf_11 ?_
  refine lv_topi (fun y_2 ey_2 => ?_)
  obtain rfl : y_2 = 661 := ey_2.trans (by decide)
  refine lv_goto (tgt := 39) hx hb dX12_placeOf_12 (by decide) ?_
  exact z_back hQ9 (z_iret C hr hlocks G (Nat.le_of_ble_eq_true rfl) (Nat.le_of_ble_eq_true rfl) dX12_placeOf_39 ⟨rfl, rfl⟩)
set_option maxHeartbeats 4000000 in
set_option maxRecDepth 100000 in
/-- c_m_sizeOf0 -/
theorem c_m_sizeOf0 (l : Launch) (T : zTy) : zMi l T yX12_sizeOf cX12_sizeOf 1 (some .int) 1 0 0 [.int 0] [] (fun (r : Int32) bs => bs = [] ∧ r = 51) := by
  refine zMi_of (own := RX12) (by decide) rfl (Nat.le_of_ble_eq_true rfl) ?_
  intro p e s m args below meth c A ls C hr hlocks hnm hAe G hl
  refine zHide (fun Q9 hQ9 => ?_)
  have hx := C.1
  have hb := C.2.1
  have hl : lv_has ls 1 [(0, .int 0)] := hl
  refine lv_iload_n hx hb dX12_sizeOf_0 rfl (lv_at hl 0 rfl) ?_
  refine lv_if_ne (tgt := 9) hx hb dX12_sizeOf_1 (by decide) (fun q => absurd (by decide) q) (fun _ => ?_)
  refine lv_bipush (v := 51) hx hb dX12_sizeOf_4 (by decide) ?_
  refine lv_goto (tgt := 21) hx hb dX12_sizeOf_6 (by decide) ?_
  exact z_back hQ9 (z_iret C hr hlocks G (Nat.le_of_ble_eq_true rfl) (Nat.le_of_ble_eq_true rfl) dX12_sizeOf_21 ⟨rfl, rfl⟩)
set_option maxHeartbeats 4000000 in
set_option maxRecDepth 100000 in
/-- c_m_placeOf10 -/
theorem c_m_placeOf10 (l : Launch) (T : zTy) : zMi l T yX12_placeOf cX12_placeOf 2 (some .int) 1 0 0 [.int 1, .int 0] [] (fun (r : Int32) bs => bs = [] ∧ r = 712) := by
  refine zMi_of (own := RX12) (by decide) rfl (Nat.le_of_ble_eq_true rfl) ?_
  intro p e s m args below meth c A ls C hr hlocks hnm hAe G hl
  refine zHide (fun Q9 hQ9 => ?_)
  have hx := C.1
  have hb := C.2.1
  have hl : lv_has ls 2 [(0, .int 1), (1, .int 0)] := hl
  refine lv_iload_n hx hb dX12_placeOf_0 rfl (lv_at hl 0 rfl) ?_
  refine lv_if_ne (tgt := 15) hx hb dX12_placeOf_1 (by decide) (fun _ => ?_) (fun q => absurd q (by decide))
  refine lv_iload_n hx hb dX12_placeOf_15 rfl (lv_at hl 0 rfl) ?_
  refine lv_iconst (v := 1) hx hb dX12_placeOf_16 (by decide) ?_
  refine lv_icmp_ne (tgt := 31) hx hb dX12_placeOf_17 (by decide) (fun q => absurd (by decide) q) (fun _ => ?_)
  refine lv_sipush (v := 712) hx hb dX12_placeOf_20 (by decide) ?_
  refine lv_bipush (v := 121) hx hb dX12_placeOf_23 (by decide) ?_
  refine lv_iload_n hx hb dX12_placeOf_25 rfl (lv_at hl 1 rfl) ?_
  refine lv_imul hx hb dX12_placeOf_26 ?_
  refine lv_topi (fun y_1 ey_1 => ?_)
  obtain rfl : y_1 = 0 := ey_1.trans (by decide)
  refine lv_iadd hx hb dX12_placeOf_27 ?_
  refine lv_topi (fun y_2 ey_2 => ?_)
  obtain rfl : y_2 = 712 := ey_2.trans (by decide)
  refine lv_goto (tgt := 39) hx hb dX12_placeOf_28 (by decide) ?_
  exact z_back hQ9 (z_iret C hr hlocks G (Nat.le_of_ble_eq_true rfl) (Nat.le_of_ble_eq_true rfl) dX12_placeOf_39 ⟨rfl, rfl⟩)
set_option maxHeartbeats 4000000 in
set_option maxRecDepth 100000 in
/-- c_m_placeOf11 -/
theorem c_m_placeOf11 (l : Launch) (T : zTy) : zMi l T yX12_placeOf cX12_placeOf 2 (some .int) 1 0 0 [.int 1, .int 1] [] (fun (r : Int32) bs => bs = [] ∧ r = 833) := by
  refine zMi_of (own := RX12) (by decide) rfl (Nat.le_of_ble_eq_true rfl) ?_
  intro p e s m args below meth c A ls C hr hlocks hnm hAe G hl
  refine zHide (fun Q9 hQ9 => ?_)
  have hx := C.1
  have hb := C.2.1
  have hl : lv_has ls 2 [(0, .int 1), (1, .int 1)] := hl
  refine lv_iload_n hx hb dX12_placeOf_0 rfl (lv_at hl 0 rfl) ?_
  refine lv_if_ne (tgt := 15) hx hb dX12_placeOf_1 (by decide) (fun _ => ?_) (fun q => absurd q (by decide))
  refine lv_iload_n hx hb dX12_placeOf_15 rfl (lv_at hl 0 rfl) ?_
  refine lv_iconst (v := 1) hx hb dX12_placeOf_16 (by decide) ?_
  refine lv_icmp_ne (tgt := 31) hx hb dX12_placeOf_17 (by decide) (fun q => absurd (by decide) q) (fun _ => ?_)
  refine lv_sipush (v := 712) hx hb dX12_placeOf_20 (by decide) ?_
  refine lv_bipush (v := 121) hx hb dX12_placeOf_23 (by decide) ?_
  refine lv_iload_n hx hb dX12_placeOf_25 rfl (lv_at hl 1 rfl) ?_
  refine lv_imul hx hb dX12_placeOf_26 ?_
  refine lv_topi (fun y_1 ey_1 => ?_)
  obtain rfl : y_1 = 121 := ey_1.trans (by decide)
  refine lv_iadd hx hb dX12_placeOf_27 ?_
  refine lv_topi (fun y_2 ey_2 => ?_)
  obtain rfl : y_2 = 833 := ey_2.trans (by decide)
  refine lv_goto (tgt := 39) hx hb dX12_placeOf_28 (by decide) ?_
  exact z_back hQ9 (z_iret C hr hlocks G (Nat.le_of_ble_eq_true rfl) (Nat.le_of_ble_eq_true rfl) dX12_placeOf_39 ⟨rfl, rfl⟩)
set_option maxHeartbeats 4000000 in
set_option maxRecDepth 100000 in
/-- c_m_sizeOf1 -/
theorem c_m_sizeOf1 (l : Launch) (T : zTy) : zMi l T yX12_sizeOf cX12_sizeOf 1 (some .int) 1 0 0 [.int 1] [] (fun (r : Int32) bs => bs = [] ∧ r = 121) := by
  refine zMi_of (own := RX12) (by decide) rfl (Nat.le_of_ble_eq_true rfl) ?_
  intro p e s m args below meth c A ls C hr hlocks hnm hAe G hl
  refine zHide (fun Q9 hQ9 => ?_)
  have hx := C.1
  have hb := C.2.1
  have hl : lv_has ls 1 [(0, .int 1)] := hl
  refine lv_iload_n hx hb dX12_sizeOf_0 rfl (lv_at hl 0 rfl) ?_
  refine lv_if_ne (tgt := 9) hx hb dX12_sizeOf_1 (by decide) (fun _ => ?_) (fun q => absurd q (by decide))
  refine lv_iload_n hx hb dX12_sizeOf_9 rfl (lv_at hl 0 rfl) ?_
  refine lv_iconst (v := 1) hx hb dX12_sizeOf_10 (by decide) ?_
  refine lv_icmp_ne (tgt := 19) hx hb dX12_sizeOf_11 (by decide) (fun q => absurd (by decide) q) (fun _ => ?_)
  refine lv_bipush (v := 121) hx hb dX12_sizeOf_14 (by decide) ?_
  refine lv_goto (tgt := 21) hx hb dX12_sizeOf_16 (by decide) ?_
  exact z_back hQ9 (z_iret C hr hlocks G (Nat.le_of_ble_eq_true rfl) (Nat.le_of_ble_eq_true rfl) dX12_sizeOf_21 ⟨rfl, rfl⟩)
set_option maxHeartbeats 4000000 in
set_option maxRecDepth 100000 in
/-- c_m_placeOf20 -/
theorem c_m_placeOf20 (l : Launch) (T : zTy) : zMi l T yX12_placeOf cX12_placeOf 2 (some .int) 1 0 0 [.int 2, .int 0] [] (fun (r : Int32) bs => bs = [] ∧ r = 954) := by
  refine zMi_of (own := RX12) (by decide) rfl (Nat.le_of_ble_eq_true rfl) ?_
  intro p e s m args below meth c A ls C hr hlocks hnm hAe G hl
  refine zHide (fun Q9 hQ9 => ?_)
  have hx := C.1
  have hb := C.2.1
  have hl : lv_has ls 2 [(0, .int 2), (1, .int 0)] := hl
  refine lv_iload_n hx hb dX12_placeOf_0 rfl (lv_at hl 0 rfl) ?_
  refine lv_if_ne (tgt := 15) hx hb dX12_placeOf_1 (by decide) (fun _ => ?_) (fun q => absurd q (by decide))
  refine lv_iload_n hx hb dX12_placeOf_15 rfl (lv_at hl 0 rfl) ?_
  refine lv_iconst (v := 1) hx hb dX12_placeOf_16 (by decide) ?_
  refine lv_icmp_ne (tgt := 31) hx hb dX12_placeOf_17 (by decide) (fun _ => ?_) (fun q => absurd q (by decide))
  refine lv_sipush (v := 954) hx hb dX12_placeOf_31 (by decide) ?_
  refine lv_bipush (v := 17) hx hb dX12_placeOf_34 (by decide) ?_
  refine lv_iload_n hx hb dX12_placeOf_36 rfl (lv_at hl 1 rfl) ?_
  refine lv_imul hx hb dX12_placeOf_37 ?_
  refine lv_topi (fun y_1 ey_1 => ?_)
  obtain rfl : y_1 = 0 := ey_1.trans (by decide)
  refine lv_iadd hx hb dX12_placeOf_38 ?_
  refine lv_topi (fun y_2 ey_2 => ?_)
  obtain rfl : y_2 = 954 := ey_2.trans (by decide)
  exact z_back hQ9 (z_iret C hr hlocks G (Nat.le_of_ble_eq_true rfl) (Nat.le_of_ble_eq_true rfl) dX12_placeOf_39 ⟨rfl, rfl⟩)
set_option maxHeartbeats 4000000 in
set_option maxRecDepth 100000 in
/-- c_m_placeOf21 -/
theorem c_m_placeOf21 (l : Launch) (T : zTy) : zMi l T yX12_placeOf cX12_placeOf 2 (some .int) 1 0 0 [.int 2, .int 1] [] (fun (r : Int32) bs => bs = [] ∧ r = 971) := by
  refine zMi_of (own := RX12) (by decide) rfl (Nat.le_of_ble_eq_true rfl) ?_
  intro p e s m args below meth c A ls C hr hlocks hnm hAe G hl
  refine zHide (fun Q9 hQ9 => ?_)
  have hx := C.1
  have hb := C.2.1
  have hl : lv_has ls 2 [(0, .int 2), (1, .int 1)] := hl
  refine lv_iload_n hx hb dX12_placeOf_0 rfl (lv_at hl 0 rfl) ?_
  refine lv_if_ne (tgt := 15) hx hb dX12_placeOf_1 (by decide) (fun _ => ?_) (fun q => absurd q (by decide))
  refine lv_iload_n hx hb dX12_placeOf_15 rfl (lv_at hl 0 rfl) ?_
  refine lv_iconst (v := 1) hx hb dX12_placeOf_16 (by decide) ?_
  refine lv_icmp_ne (tgt := 31) hx hb dX12_placeOf_17 (by decide) (fun _ => ?_) (fun q => absurd q (by decide))
  refine lv_sipush (v := 954) hx hb dX12_placeOf_31 (by decide) ?_
  refine lv_bipush (v := 17) hx hb dX12_placeOf_34 (by decide) ?_
  refine lv_iload_n hx hb dX12_placeOf_36 rfl (lv_at hl 1 rfl) ?_
  refine lv_imul hx hb dX12_placeOf_37 ?_
  refine lv_topi (fun y_1 ey_1 => ?_)
  obtain rfl : y_1 = 17 := ey_1.trans (by decide)
  refine lv_iadd hx hb dX12_placeOf_38 ?_
  refine lv_topi (fun y_2 ey_2 => ?_)
  obtain rfl : y_2 = 971 := ey_2.trans (by decide)
  exact z_back hQ9 (z_iret C hr hlocks G (Nat.le_of_ble_eq_true rfl) (Nat.le_of_ble_eq_true rfl) dX12_placeOf_39 ⟨rfl, rfl⟩)
set_option maxHeartbeats 4000000 in
set_option maxRecDepth 100000 in
/-- c_m_sizeOf2 -/
theorem c_m_sizeOf2 (l : Launch) (T : zTy) : zMi l T yX12_sizeOf cX12_sizeOf 1 (some .int) 1 0 0 [.int 2] [] (fun (r : Int32) bs => bs = [] ∧ r = 17) := by
  refine zMi_of (own := RX12) (by decide) rfl (Nat.le_of_ble_eq_true rfl) ?_
  intro p e s m args below meth c A ls C hr hlocks hnm hAe G hl
  refine zHide (fun Q9 hQ9 => ?_)
  have hx := C.1
  have hb := C.2.1
  have hl : lv_has ls 1 [(0, .int 2)] := hl
  refine lv_iload_n hx hb dX12_sizeOf_0 rfl (lv_at hl 0 rfl) ?_
  refine lv_if_ne (tgt := 9) hx hb dX12_sizeOf_1 (by decide) (fun _ => ?_) (fun q => absurd q (by decide))
  refine lv_iload_n hx hb dX12_sizeOf_9 rfl (lv_at hl 0 rfl) ?_
  refine lv_iconst (v := 1) hx hb dX12_sizeOf_10 (by decide) ?_
  refine lv_icmp_ne (tgt := 19) hx hb dX12_sizeOf_11 (by decide) (fun _ => ?_) (fun q => absurd q (by decide))
  refine lv_bipush (v := 17) hx hb dX12_sizeOf_19 (by decide) ?_
  exact z_back hQ9 (z_iret C hr hlocks G (Nat.le_of_ble_eq_true rfl) (Nat.le_of_ble_eq_true rfl) dX12_sizeOf_21 ⟨rfl, rfl⟩)
set_option maxHeartbeats 4000000 in
set_option maxRecDepth 100000 in
/-- isOf 0 -/
theorem c_m_isOf0 (l : Launch) (T : zTy) (mo : Nat) (m_all : Nat) (m_has : Nat) (i_size : Int32) (i_next : Int32) (i_where : Int32) (i_token : Int32) (i_number : Int32) (i_word : Int32) (i_wrong : Int32) (i_farCrossing : Int32) (m_read : Nat) (i_z0 : Int32) (i_crossings : Int32) (i_inns : Int32) (m_posts : Nat) (m_shut : Nat) (m_here : Nat) (i_steps : Int32) (i_done : Int32) (i_at : Int32) (i_gone : Int32) (m_was : Nat) (m_came : Nat) (m_seenAt : Nat) (m_rowWorth : Nat) (m_farBy : Nat) (m_used : Nat) (i_everywhere : Int32) (i_again0 : Int32) (i_d0 : Int32) (i_never : Int32) (i_firstCame : Int32) (i_longRun : Int32) (i_moved : Int32) (i_crowd : Int32) (i_l0 : Int32) (i_fitMany : Int32) (i_fitLeast : Int32) (i_fitMost : Int32) (m_fitPost : Nat) (m_fitEnd : Nat) (m_keptPosts : Nat) (i_x0 : Int32) (f_all : Nat → Int32) (k_ : Int32) (hc : 0 ≤ (f_all 0).toInt ∧ (f_all 0).toInt ≤ 2) : zMi l T yX12_isOf cX12_isOf 3 (some .boolean) 2 0 0 [.ref mo, .int 0, .int k_] [[zO11 mo m_all m_has i_size i_next i_where i_token i_number i_word i_wrong i_farCrossing m_read i_z0 i_crossings i_inns m_posts m_shut m_here i_steps i_done i_at i_gone m_was m_came m_seenAt m_rowWorth m_farBy m_used i_everywhere i_again0 i_d0 i_never i_firstCame i_longRun i_moved i_crowd i_l0 i_fitMany i_fitLeast i_fitMost m_fitPost m_fitEnd m_keptPosts i_x0], [zAr T 0 m_all 3952 f_all]] (fun (r : Int32) bs => bs = [[zO11 mo m_all m_has i_size i_next i_where i_token i_number i_word i_wrong i_farCrossing m_read i_z0 i_crossings i_inns m_posts m_shut m_here i_steps i_done i_at i_gone m_was m_came m_seenAt m_rowWorth m_farBy m_used i_everywhere i_again0 i_d0 i_never i_firstCame i_longRun i_moved i_crowd i_l0 i_fitMany i_fitLeast i_fitMost m_fitPost m_fitEnd m_keptPosts i_x0], [zAr T 0 m_all 3952 f_all]] ∧ ((r = 1 ∧ 0 ≤ k_.toInt ∧ k_.toInt < (f_all 0).toInt) ∨ (r = 0 ∧ (k_.toInt < 0 ∨ (f_all 0).toInt ≤ k_.toInt)))) := by
  refine zMi_of (own := RX12) (by decide) rfl (Nat.le_of_ble_eq_true rfl) ?_
  intro p e s m args below meth c A ls C hr hlocks hnm hAe G hl
  refine zHide (fun Q9 hQ9 => ?_)
  have hx := C.1
  have hb := C.2.1
  have hl : lv_has ls 3 [(0, .ref mo), (1, .int 0), (2, .int k_)] := hl
  refine lv_iload_n hx hb dX12_isOf_0 rfl (lv_at hl 2 rfl) ?_
  refine lv_iconst (v := 0) hx hb dX12_isOf_1 (by decide) ?_
  refine lv_aload_n hx hb dX12_isOf_2 rfl (lv_at hl 0 rfl) ?_
  refine z_get C G clX12 0 rfl 0 (by decide) m_fl_RX12_7 rfl dX12_isOf_3 ?_
  refine lv_iload_n hx hb dX12_isOf_6 rfl (lv_at hl 1 rfl) ?_
  refine z_ild C G 1 rfl (vp_in_nI (n := 0) (by decide) (by decide)) dX12_isOf_7 ?_
  refine lv_topi (fun v_1 ev_1 => ?_)
  rw [show ((0 : Int32).toNatClampNeg) = 0 from rfl] at ev_1
  subst ev_1
  refine lv_iconst (v := 1) hx hb dX12_isOf_8 (by decide) ?_
  refine lv_isub hx hb dX12_isOf_9 ?_
  refine lv_topi (fun y_2 ey_2 => ?_)
  have ey_2i : y_2.toInt = (f_all 0).toInt - (1 : Int) := by rw [ey_2]; exact z_isubI (x := (f_all 0)) (y := (1 : Int32)) (by show -2147483648 ≤ (f_all 0).toInt - (1 : Int); omega) (by show (f_all 0).toInt - (1 : Int) < 2147483648; omega)
  refine z_Si (bc := []) (br := [[zO11 mo m_all m_has i_size i_next i_where i_token i_number i_word i_wrong i_farCrossing m_read i_z0 i_crossings i_inns m_posts m_shut m_here i_steps i_done i_at i_gone m_was m_came m_seenAt m_rowWorth m_farBy m_used i_everywhere i_again0 i_d0 i_never i_firstCame i_longRun i_moved i_crowd i_l0 i_fitMany i_fitLeast i_fitMost m_fitPost m_fitEnd m_keptPosts i_x0], [zAr T 0 m_all 3952 f_all]]) (As := [.int k_, .int 0, .int y_2]) (rest := []) C G (c_m_isIn l T k_ 0 y_2) (kS_RX12_111 C.2.2.2.2 (Nat.le_of_ble_eq_true rfl) (Nat.le_of_ble_eq_true rfl)) [] [] rfl rfl rfl rfl hl.1 dX12_isOf_10 (Nat.le_of_ble_eq_true rfl) (Nat.le_of_ble_eq_true rfl) (fun r_4 b1 H locs hw G => ?_)
  refine zAn2 hw ?_
  intro hbs9 hc_3
  clear hw
  subst hbs9
  have G : zS T A s.heap s [[zO11 mo m_all m_has i_size i_next i_where i_token i_number i_word i_wrong i_farCrossing m_read i_z0 i_crossings i_inns m_posts m_shut m_here i_steps i_done i_at i_gone m_was m_came m_seenAt m_rowWorth m_farBy m_used i_everywhere i_again0 i_d0 i_never i_firstCame i_longRun i_moved i_crowd i_l0 i_fitMany i_fitLeast i_fitMost m_fitPost m_fitEnd m_keptPosts i_x0], [zAr T 0 m_all 3952 f_all]] _ _ := G
  rcases hc_3 with ⟨rfl, h_5, h_6⟩ | ⟨rfl, h_7⟩
  · have h_5 : (0 : Int) ≤ k_.toInt := h_5
    have h_6 : k_.toInt ≤ y_2.toInt := h_6
    exact z_back hQ9 (z_zret C hr hlocks G (Nat.le_of_ble_eq_true rfl) (Nat.le_of_ble_eq_true rfl) dX12_isOf_13 rfl ⟨rfl, (Or.inl (⟨rfl, (by first | with_reducible assumption | omega | assumption), (by first | with_reducible assumption | omega | assumption)⟩))⟩)
  · have h_7 : (k_.toInt < (0 : Int) ∨ y_2.toInt < k_.toInt) := h_7
    exact z_back hQ9 (z_zret C hr hlocks G (Nat.le_of_ble_eq_true rfl) (Nat.le_of_ble_eq_true rfl) dX12_isOf_13 rfl ⟨rfl, (Or.inr (⟨rfl, (by first | with_reducible assumption | omega | assumption)⟩))⟩)
set_option maxHeartbeats 4000000 in
set_option maxRecDepth 100000 in
/-- isOf 1 -/
theorem c_m_isOf1 (l : Launch) (T : zTy) (mo : Nat) (m_all : Nat) (m_has : Nat) (i_size : Int32) (i_next : Int32) (i_where : Int32) (i_token : Int32) (i_number : Int32) (i_word : Int32) (i_wrong : Int32) (i_farCrossing : Int32) (m_read : Nat) (i_z0 : Int32) (i_crossings : Int32) (i_inns : Int32) (m_posts : Nat) (m_shut : Nat) (m_here : Nat) (i_steps : Int32) (i_done : Int32) (i_at : Int32) (i_gone : Int32) (m_was : Nat) (m_came : Nat) (m_seenAt : Nat) (m_rowWorth : Nat) (m_farBy : Nat) (m_used : Nat) (i_everywhere : Int32) (i_again0 : Int32) (i_d0 : Int32) (i_never : Int32) (i_firstCame : Int32) (i_longRun : Int32) (i_moved : Int32) (i_crowd : Int32) (i_l0 : Int32) (i_fitMany : Int32) (i_fitLeast : Int32) (i_fitMost : Int32) (m_fitPost : Nat) (m_fitEnd : Nat) (m_keptPosts : Nat) (i_x0 : Int32) (f_all : Nat → Int32) (k_ : Int32) (hc : 0 ≤ (f_all 1).toInt ∧ (f_all 1).toInt ≤ 2) : zMi l T yX12_isOf cX12_isOf 3 (some .boolean) 2 0 0 [.ref mo, .int 1, .int k_] [[zO11 mo m_all m_has i_size i_next i_where i_token i_number i_word i_wrong i_farCrossing m_read i_z0 i_crossings i_inns m_posts m_shut m_here i_steps i_done i_at i_gone m_was m_came m_seenAt m_rowWorth m_farBy m_used i_everywhere i_again0 i_d0 i_never i_firstCame i_longRun i_moved i_crowd i_l0 i_fitMany i_fitLeast i_fitMost m_fitPost m_fitEnd m_keptPosts i_x0], [zAr T 0 m_all 3952 f_all]] (fun (r : Int32) bs => bs = [[zO11 mo m_all m_has i_size i_next i_where i_token i_number i_word i_wrong i_farCrossing m_read i_z0 i_crossings i_inns m_posts m_shut m_here i_steps i_done i_at i_gone m_was m_came m_seenAt m_rowWorth m_farBy m_used i_everywhere i_again0 i_d0 i_never i_firstCame i_longRun i_moved i_crowd i_l0 i_fitMany i_fitLeast i_fitMost m_fitPost m_fitEnd m_keptPosts i_x0], [zAr T 0 m_all 3952 f_all]] ∧ ((r = 1 ∧ 0 ≤ k_.toInt ∧ k_.toInt < (f_all 1).toInt) ∨ (r = 0 ∧ (k_.toInt < 0 ∨ (f_all 1).toInt ≤ k_.toInt)))) := by
  refine zMi_of (own := RX12) (by decide) rfl (Nat.le_of_ble_eq_true rfl) ?_
  intro p e s m args below meth c A ls C hr hlocks hnm hAe G hl
  refine zHide (fun Q9 hQ9 => ?_)
  have hx := C.1
  have hb := C.2.1
  have hl : lv_has ls 3 [(0, .ref mo), (1, .int 1), (2, .int k_)] := hl
  refine lv_iload_n hx hb dX12_isOf_0 rfl (lv_at hl 2 rfl) ?_
  refine lv_iconst (v := 0) hx hb dX12_isOf_1 (by decide) ?_
  refine lv_aload_n hx hb dX12_isOf_2 rfl (lv_at hl 0 rfl) ?_
  refine z_get C G clX12 0 rfl 0 (by decide) m_fl_RX12_7 rfl dX12_isOf_3 ?_
  refine lv_iload_n hx hb dX12_isOf_6 rfl (lv_at hl 1 rfl) ?_
  refine z_ild C G 1 rfl (vp_in_nI (n := 1) (by decide) (by decide)) dX12_isOf_7 ?_
  refine lv_topi (fun v_1 ev_1 => ?_)
  rw [show ((1 : Int32).toNatClampNeg) = 1 from rfl] at ev_1
  subst ev_1
  refine lv_iconst (v := 1) hx hb dX12_isOf_8 (by decide) ?_
  refine lv_isub hx hb dX12_isOf_9 ?_
  refine lv_topi (fun y_2 ey_2 => ?_)
  have ey_2i : y_2.toInt = (f_all 1).toInt - (1 : Int) := by rw [ey_2]; exact z_isubI (x := (f_all 1)) (y := (1 : Int32)) (by show -2147483648 ≤ (f_all 1).toInt - (1 : Int); omega) (by show (f_all 1).toInt - (1 : Int) < 2147483648; omega)
  refine z_Si (bc := []) (br := [[zO11 mo m_all m_has i_size i_next i_where i_token i_number i_word i_wrong i_farCrossing m_read i_z0 i_crossings i_inns m_posts m_shut m_here i_steps i_done i_at i_gone m_was m_came m_seenAt m_rowWorth m_farBy m_used i_everywhere i_again0 i_d0 i_never i_firstCame i_longRun i_moved i_crowd i_l0 i_fitMany i_fitLeast i_fitMost m_fitPost m_fitEnd m_keptPosts i_x0], [zAr T 0 m_all 3952 f_all]]) (As := [.int k_, .int 0, .int y_2]) (rest := []) C G (c_m_isIn l T k_ 0 y_2) (kS_RX12_111 C.2.2.2.2 (Nat.le_of_ble_eq_true rfl) (Nat.le_of_ble_eq_true rfl)) [] [] rfl rfl rfl rfl hl.1 dX12_isOf_10 (Nat.le_of_ble_eq_true rfl) (Nat.le_of_ble_eq_true rfl) (fun r_4 b1 H locs hw G => ?_)
  refine zAn2 hw ?_
  intro hbs9 hc_3
  clear hw
  subst hbs9
  have G : zS T A s.heap s [[zO11 mo m_all m_has i_size i_next i_where i_token i_number i_word i_wrong i_farCrossing m_read i_z0 i_crossings i_inns m_posts m_shut m_here i_steps i_done i_at i_gone m_was m_came m_seenAt m_rowWorth m_farBy m_used i_everywhere i_again0 i_d0 i_never i_firstCame i_longRun i_moved i_crowd i_l0 i_fitMany i_fitLeast i_fitMost m_fitPost m_fitEnd m_keptPosts i_x0], [zAr T 0 m_all 3952 f_all]] _ _ := G
  rcases hc_3 with ⟨rfl, h_5, h_6⟩ | ⟨rfl, h_7⟩
  · have h_5 : (0 : Int) ≤ k_.toInt := h_5
    have h_6 : k_.toInt ≤ y_2.toInt := h_6
    exact z_back hQ9 (z_zret C hr hlocks G (Nat.le_of_ble_eq_true rfl) (Nat.le_of_ble_eq_true rfl) dX12_isOf_13 rfl ⟨rfl, (Or.inl (⟨rfl, (by first | with_reducible assumption | omega | assumption), (by first | with_reducible assumption | omega | assumption)⟩))⟩)
  · have h_7 : (k_.toInt < (0 : Int) ∨ y_2.toInt < k_.toInt) := h_7
    exact z_back hQ9 (z_zret C hr hlocks G (Nat.le_of_ble_eq_true rfl) (Nat.le_of_ble_eq_true rfl) dX12_isOf_13 rfl ⟨rfl, (Or.inr (⟨rfl, (by first | with_reducible assumption | omega | assumption)⟩))⟩)
set_option maxHeartbeats 4000000 in
set_option maxRecDepth 100000 in
/-- isOf 2 -/
theorem c_m_isOf2 (l : Launch) (T : zTy) (mo : Nat) (m_all : Nat) (m_has : Nat) (i_size : Int32) (i_next : Int32) (i_where : Int32) (i_token : Int32) (i_number : Int32) (i_word : Int32) (i_wrong : Int32) (i_farCrossing : Int32) (m_read : Nat) (i_z0 : Int32) (i_crossings : Int32) (i_inns : Int32) (m_posts : Nat) (m_shut : Nat) (m_here : Nat) (i_steps : Int32) (i_done : Int32) (i_at : Int32) (i_gone : Int32) (m_was : Nat) (m_came : Nat) (m_seenAt : Nat) (m_rowWorth : Nat) (m_farBy : Nat) (m_used : Nat) (i_everywhere : Int32) (i_again0 : Int32) (i_d0 : Int32) (i_never : Int32) (i_firstCame : Int32) (i_longRun : Int32) (i_moved : Int32) (i_crowd : Int32) (i_l0 : Int32) (i_fitMany : Int32) (i_fitLeast : Int32) (i_fitMost : Int32) (m_fitPost : Nat) (m_fitEnd : Nat) (m_keptPosts : Nat) (i_x0 : Int32) (f_all : Nat → Int32) (k_ : Int32) (hc : 0 ≤ (f_all 2).toInt ∧ (f_all 2).toInt ≤ 2) : zMi l T yX12_isOf cX12_isOf 3 (some .boolean) 2 0 0 [.ref mo, .int 2, .int k_] [[zO11 mo m_all m_has i_size i_next i_where i_token i_number i_word i_wrong i_farCrossing m_read i_z0 i_crossings i_inns m_posts m_shut m_here i_steps i_done i_at i_gone m_was m_came m_seenAt m_rowWorth m_farBy m_used i_everywhere i_again0 i_d0 i_never i_firstCame i_longRun i_moved i_crowd i_l0 i_fitMany i_fitLeast i_fitMost m_fitPost m_fitEnd m_keptPosts i_x0], [zAr T 0 m_all 3952 f_all]] (fun (r : Int32) bs => bs = [[zO11 mo m_all m_has i_size i_next i_where i_token i_number i_word i_wrong i_farCrossing m_read i_z0 i_crossings i_inns m_posts m_shut m_here i_steps i_done i_at i_gone m_was m_came m_seenAt m_rowWorth m_farBy m_used i_everywhere i_again0 i_d0 i_never i_firstCame i_longRun i_moved i_crowd i_l0 i_fitMany i_fitLeast i_fitMost m_fitPost m_fitEnd m_keptPosts i_x0], [zAr T 0 m_all 3952 f_all]] ∧ ((r = 1 ∧ 0 ≤ k_.toInt ∧ k_.toInt < (f_all 2).toInt) ∨ (r = 0 ∧ (k_.toInt < 0 ∨ (f_all 2).toInt ≤ k_.toInt)))) := by
  refine zMi_of (own := RX12) (by decide) rfl (Nat.le_of_ble_eq_true rfl) ?_
  intro p e s m args below meth c A ls C hr hlocks hnm hAe G hl
  refine zHide (fun Q9 hQ9 => ?_)
  have hx := C.1
  have hb := C.2.1
  have hl : lv_has ls 3 [(0, .ref mo), (1, .int 2), (2, .int k_)] := hl
  refine lv_iload_n hx hb dX12_isOf_0 rfl (lv_at hl 2 rfl) ?_
  refine lv_iconst (v := 0) hx hb dX12_isOf_1 (by decide) ?_
  refine lv_aload_n hx hb dX12_isOf_2 rfl (lv_at hl 0 rfl) ?_
  refine z_get C G clX12 0 rfl 0 (by decide) m_fl_RX12_7 rfl dX12_isOf_3 ?_
  refine lv_iload_n hx hb dX12_isOf_6 rfl (lv_at hl 1 rfl) ?_
  refine z_ild C G 1 rfl (vp_in_nI (n := 2) (by decide) (by decide)) dX12_isOf_7 ?_
  refine lv_topi (fun v_1 ev_1 => ?_)
  rw [show ((2 : Int32).toNatClampNeg) = 2 from rfl] at ev_1
  subst ev_1
  refine lv_iconst (v := 1) hx hb dX12_isOf_8 (by decide) ?_
  refine lv_isub hx hb dX12_isOf_9 ?_
  refine lv_topi (fun y_2 ey_2 => ?_)
  have ey_2i : y_2.toInt = (f_all 2).toInt - (1 : Int) := by rw [ey_2]; exact z_isubI (x := (f_all 2)) (y := (1 : Int32)) (by show -2147483648 ≤ (f_all 2).toInt - (1 : Int); omega) (by show (f_all 2).toInt - (1 : Int) < 2147483648; omega)
  refine z_Si (bc := []) (br := [[zO11 mo m_all m_has i_size i_next i_where i_token i_number i_word i_wrong i_farCrossing m_read i_z0 i_crossings i_inns m_posts m_shut m_here i_steps i_done i_at i_gone m_was m_came m_seenAt m_rowWorth m_farBy m_used i_everywhere i_again0 i_d0 i_never i_firstCame i_longRun i_moved i_crowd i_l0 i_fitMany i_fitLeast i_fitMost m_fitPost m_fitEnd m_keptPosts i_x0], [zAr T 0 m_all 3952 f_all]]) (As := [.int k_, .int 0, .int y_2]) (rest := []) C G (c_m_isIn l T k_ 0 y_2) (kS_RX12_111 C.2.2.2.2 (Nat.le_of_ble_eq_true rfl) (Nat.le_of_ble_eq_true rfl)) [] [] rfl rfl rfl rfl hl.1 dX12_isOf_10 (Nat.le_of_ble_eq_true rfl) (Nat.le_of_ble_eq_true rfl) (fun r_4 b1 H locs hw G => ?_)
  refine zAn2 hw ?_
  intro hbs9 hc_3
  clear hw
  subst hbs9
  have G : zS T A s.heap s [[zO11 mo m_all m_has i_size i_next i_where i_token i_number i_word i_wrong i_farCrossing m_read i_z0 i_crossings i_inns m_posts m_shut m_here i_steps i_done i_at i_gone m_was m_came m_seenAt m_rowWorth m_farBy m_used i_everywhere i_again0 i_d0 i_never i_firstCame i_longRun i_moved i_crowd i_l0 i_fitMany i_fitLeast i_fitMost m_fitPost m_fitEnd m_keptPosts i_x0], [zAr T 0 m_all 3952 f_all]] _ _ := G
  rcases hc_3 with ⟨rfl, h_5, h_6⟩ | ⟨rfl, h_7⟩
  · have h_5 : (0 : Int) ≤ k_.toInt := h_5
    have h_6 : k_.toInt ≤ y_2.toInt := h_6
    exact z_back hQ9 (z_zret C hr hlocks G (Nat.le_of_ble_eq_true rfl) (Nat.le_of_ble_eq_true rfl) dX12_isOf_13 rfl ⟨rfl, (Or.inl (⟨rfl, (by first | with_reducible assumption | omega | assumption), (by first | with_reducible assumption | omega | assumption)⟩))⟩)
  · have h_7 : (k_.toInt < (0 : Int) ∨ y_2.toInt < k_.toInt) := h_7
    exact z_back hQ9 (z_zret C hr hlocks G (Nat.le_of_ble_eq_true rfl) (Nat.le_of_ble_eq_true rfl) dX12_isOf_13 rfl ⟨rfl, (Or.inr (⟨rfl, (by first | with_reducible assumption | omega | assumption)⟩))⟩)

section ZLong
variable {p : Program} {l : Launch} {e : Env} {R : Room} {s : State} {m : MethodId} {args : Array Value} {below : List Frame} {meth : Method} {c : Code} {H : Heap} {locs : List Loc} {cells slots : Nat} {Q : State → Prop}
variable {cc : ByteArray} {nL pc : Nat} {ls : Array Slot} {rest st0 : List Value} {T : zTy} {A : Nat → Prop} {bs bc br : List va_W} {H0 : Heap} {own : String}
variable {y : MethodName} {bytes : ByteArray} {maxL index n d mc ms : Nat} {ret : Option FieldType} {As : List Value}
def zMl (l : Launch) (T : zTy) (y : MethodName) (b : ByteArray) (n : Nat) (ret : Option FieldType) (d mc ms : Nat) (av : List Value) (bs : List va_W) (post : Int64 → List va_W → Prop) : Prop :=
  ∀ sz : Nat, Met l y (zW y b n ret) (zR d mc ms) (zPre T av bs sz) (va_Ql post (zB T (va_A bs.flatten sz)) (va_A bs.flatten sz)) mc ms (va_A bs.flatten sz)
theorem zMl_of {y : MethodName} {b : ByteArray} {n : Nat} {ret : Option FieldType} {d : Nat} {av : List Value} {post : Int64 → List va_W → Prop} (hy : plainName y.cls = true) (ho : y.cls = own) (hlen : (lg_sl av).length ≤ n) (k : zBody l T y own b n ret d mc ms av bs (fun A => va_Ql post (zB T A) A)) : zMl l T y b n ret d mc ms av bs post := z_body (Qc := fun A => va_Ql post (zB T A) A) hy ho hlen k
theorem z_lret {post : Int64 → List va_W → Prop} {v : Int64} (C : CallFix p m c cc nL s args zT own) (hr : meth.sig.returnType = some .long) (hlocks : meth.locks = false) (G : zS T A s.heap s bs H locs) (h1 : cells ≤ mc) (h2 : slots ≤ ms) (hdg : decode cc pc = .ok (.lreturn, 1)) (hp : post v bs) : W p l e R s m args below meth c H locs cells slots (MQ below (va_Ql post (zB T A) A) args s mc ms A) (F0 m pc ls [.long v]) :=
  W.widen h1 h2 (W.lret C.1 C.2.1 hr (fun t ht hW => ⟨⟨v, bs, rfl, hp, by rw [ht]; exact G.2.1, va_K.moved hW.alike G.1, G.2.2.1⟩, G.2.2.2.1.F ht⟩) G.2.2.2.1.2.2 hdg hlocks)
theorem z_Sl (C : CallFix p m c cc nL s args zT own) (G : zS T A H0 s bs H locs) {post : Int64 → List va_W → Prop} (hM : zMl l T y bytes maxL ret d mc ms As bc post) (cw : CallB R s args own index y bytes maxL ret (zW y bytes maxL ret) (zR d mc ms) mc ms n ∧ (Cond.static y).before args s = true) (isC gs : List Nat) (hC : isC.map (fun i => bs[i]?) = bc.map some) (hR9 : zGp gs bs = br) (hn : As.length = n) (hst : st0 = As.reverse ++ rest) (hls : ls.size = nL) (hdg : decode cc pc = .ok (.invokestatic index, 3)) (hf1 : cells + mc ≤ R.cells) (hf2 : slots + ms ≤ R.slots)
    (kk : ∀ (r : Int64) (b1 : List va_W) (H1 : Heap) (locs1 : List Loc), post r b1 → zS T A H0 s (br ++ b1) H1 locs1 → W p l e R s m args below meth c H1 locs1 (cells + mc) (slots + ms) Q (F0 m (pc + 3) ls (.long r :: rest)))
    (hW : (rest.map fun v => v.category).sum ≤ 8 := by exact Nat.le_of_ble_eq_true rfl) (hk9 : zCk isC gs = true := by decide +kernel) : W p l e R s m args below meth c H locs cells slots Q (F0 m pc ls st0) := by
  subst hst
  obtain ⟨hnC, hck⟩ := zCk_s hk9
  obtain ⟨isR, hnR, hR, hds⟩ := zGp_is bs gs
  rw [hR9] at hR
  have hdis : ∀ i ∈ isR, i ∉ isC := fun i h1 h2 => hds i h1 (hck i h2)
  refine va_calll (va_runS (As := As) (rest := rest) ⟨C.1, C.2.1, C.2.2.1, C.2.2.2.1, C.2.2.2.2⟩ (hM H.size) cw (z_pre G isC hC hnC As) rfl hn hls rfl (lv_room hW) hdg ⟨hf1, hf2⟩) G.2.2.2.1 (fun q _ h => z_freeF G isC hC hnC q h) (z_freeF G isC hC hnC) (fun r b1 t H1 locs1 ht hvm hp hB hz hk hS => ?_)
  obtain ⟨hP1, hK1, hD1⟩ := hB
  rw [ht] at hP1
  exact kk r b1 H1 locs1 hp (z_join G isC isR hC hR hnC hnR hdis hk hP1 hD1 hS)
theorem z_lcne (hexec : p.tables.exec = Jvm.exec) (hb : c.code = cc) {x y : Int64} {off : Int} {tgt : Nat} (hd1 : decode cc pc = .ok (.lcmp, 1)) (hd2 : decode cc (pc + 1) = .ok (.ifCond .ne off, 3)) (ht : ((pc + 1 : Nat) : Int) + off = (tgt : Int))
    (kt : ¬ x = y → W p l e R s m args below meth c H locs cells slots Q (F0 m tgt ls rest)) (kf : x = y → W p l e R s m args below meth c H locs cells slots Q (F0 m (pc + 1 + 3) ls rest)) : W p l e R s m args below meth c H locs cells slots Q (F0 m pc ls (.long y :: .long x :: rest)) := by
  have step : ∀ v : Int32, (x > y ∧ v = 1) ∨ (¬ x > y ∧ x = y ∧ v = 0) ∨ (¬ x > y ∧ ¬ x = y ∧ v = -1) → W p l e R s m args below meth c H locs cells slots Q (F0 m (pc + 1) ls (.int v :: rest)) → W p l e R s m args below meth c H locs cells slots Q (F0 m pc ls (.long y :: .long x :: rest)) := by
    intro v hv k
    intro T hT X
    obtain ⟨t, a, b⟩ := k T hT X
    refine ⟨t, ?_, b⟩
    rcases hv with ⟨c1, rfl⟩ | ⟨c1, c2, rfl⟩ | ⟨c1, c2, rfl⟩
    · jvm_step X.here [X.here.top, hexec, hb, hd1, c1]
      exact a
    · subst c2
      jvm_step X.here [X.here.top, hexec, hb, hd1, c1]
      exact a
    · jvm_step X.here [X.here.top, hexec, hb, hd1, c1, c2]
      exact a
  by_cases c1 : x > y
  · exact step 1 (Or.inl ⟨c1, rfl⟩) (lv_if_ne hexec hb hd2 ht (fun _ => kt (fun q => absurd c1 (by rw [q]; exact Int64.lt_irrefl))) (fun q => absurd q (by decide)))
  · by_cases c2 : x = y
    · exact step 0 (Or.inr (Or.inl ⟨c1, c2, rfl⟩)) (lv_if_ne hexec hb hd2 ht (fun q => absurd rfl q) (fun _ => kf c2))
    · exact step (-1) (Or.inr (Or.inr ⟨c1, c2, rfl⟩)) (lv_if_ne hexec hb hd2 ht (fun _ => kt c2) (fun q => absurd q (by decide)))
end ZLong
def zFour (a b c d : Int32) : Int64 := (((a * 32 + b) * 32 + c) * 32 + d).toInt64
def zEight (a b c d e f g h : Int32) : Int64 := zFour a b c d * 1048576 + zFour e f g h
def zWord (v : Int64) : Int32 := if v = zEight 0 0 0 3 18 15 19 19 then 1 else if v = zFour 16 15 19 20 then 2 else if v = zEight 0 23 1 12 11 5 18 19 then 3 else if v = zFour 0 9 14 14 then 4 else if v = zFour 0 0 7 15 then 5 else if v = zFour 0 18 21 14 then 6 else if v = zFour 20 21 18 14 then 7 else if v = zFour 0 1 4 4 then 8 else if v = zFour 19 8 21 20 then 9 else if v = zFour 15 16 5 14 then 10 else if v = zFour 3 1 13 5 then 11 else if v = zEight 0 0 0 14 5 22 5 18 then 12 else 99
set_option maxHeartbeats 4000000 in
set_option maxRecDepth 100000 in
/-- c_m_four -/
theorem c_m_four (l : Launch) (T : zTy) (a_ : Int32) (b_ : Int32) (c_ : Int32) (d_ : Int32) : zMl l T yX12_four cX12_four 4 (some .long) 1 0 0 [.int a_, .int b_, .int c_, .int d_] [] (fun (r : Int64) bs => bs = [] ∧ r = zFour a_ b_ c_ d_) := by
  refine zMl_of (own := RX12) (by decide) rfl (Nat.le_of_ble_eq_true rfl) ?_
  intro p e s m args below meth c A ls C hr hlocks hnm hAe G hl
  refine zHide (fun Qz_ hQz_ => ?_)
  have hx := C.1
  have hb := C.2.1
  have hl : lv_has ls 4 [(0, .int a_), (1, .int b_), (2, .int c_), (3, .int d_)] := hl
  refine lv_iload_n hx hb dX12_four_0 rfl (lv_at hl 0 rfl) ?_
  refine lv_bipush (v := 32) hx hb dX12_four_1 (by decide) ?_
  refine lv_imul hx hb dX12_four_3 ?_
  refine lv_iload_n hx hb dX12_four_4 rfl (lv_at hl 1 rfl) ?_
  refine lv_iadd hx hb dX12_four_5 ?_
  refine lv_bipush (v := 32) hx hb dX12_four_6 (by decide) ?_
  refine lv_imul hx hb dX12_four_8 ?_
  refine lv_iload_n hx hb dX12_four_9 rfl (lv_at hl 2 rfl) ?_
  refine lv_iadd hx hb dX12_four_10 ?_
  refine lv_bipush (v := 32) hx hb dX12_four_11 (by decide) ?_
  refine lv_imul hx hb dX12_four_13 ?_
  refine lv_iload_n hx hb dX12_four_14 rfl (lv_at hl 3 rfl) ?_
  refine lv_iadd hx hb dX12_four_15 ?_
  refine lv_i2l hx hb dX12_four_16 rfl ?_
  exact z_back hQz_ (z_lret C hr hlocks G (Nat.le_of_ble_eq_true rfl) (Nat.le_of_ble_eq_true rfl) dX12_four_17 ⟨rfl, rfl⟩)
set_option maxHeartbeats 4000000 in
set_option maxRecDepth 100000 in
/-- c_m_eight -/
theorem c_m_eight (l : Launch) (T : zTy) (a_ : Int32) (b_ : Int32) (c_ : Int32) (d_ : Int32) (e_ : Int32) (f_ : Int32) (g_ : Int32) (h_ : Int32) : zMl l T yX12_eight cX12_eight 8 (some .long) 2 0 0 [.int a_, .int b_, .int c_, .int d_, .int e_, .int f_, .int g_, .int h_] [] (fun (r : Int64) bs => bs = [] ∧ r = zEight a_ b_ c_ d_ e_ f_ g_ h_) := by
  refine zMl_of (own := RX12) (by decide) rfl (Nat.le_of_ble_eq_true rfl) ?_
  intro p e s m args below meth c A ls C hr hlocks hnm hAe G hl
  refine zHide (fun Qz_ hQz_ => ?_)
  have hx := C.1
  have hb := C.2.1
  have hl : lv_has ls 8 [(0, .int a_), (1, .int b_), (2, .int c_), (3, .int d_), (4, .int e_), (5, .int f_), (6, .int g_), (7, .int h_)] := hl
  refine lv_iload_n hx hb dX12_eight_0 rfl (lv_at hl 0 rfl) ?_
  refine lv_iload_n hx hb dX12_eight_1 rfl (lv_at hl 1 rfl) ?_
  refine lv_iload_n hx hb dX12_eight_2 rfl (lv_at hl 2 rfl) ?_
  refine lv_iload_n hx hb dX12_eight_3 rfl (lv_at hl 3 rfl) ?_
  refine z_Sl (bc := []) (br := []) (As := [.int a_, .int b_, .int c_, .int d_]) (rest := []) C G (c_m_four l T a_ b_ c_ d_) (kS_RX12_60 C.2.2.2.2 (Nat.le_of_ble_eq_true rfl) (Nat.le_of_ble_eq_true rfl)) [] [] rfl rfl rfl rfl hl.1 dX12_eight_4 (Nat.le_of_ble_eq_true rfl) (Nat.le_of_ble_eq_true rfl) (fun r_2 b1 H locs hw G => ?_)
  refine zAn2 hw ?_
  intro hbs9 h_1
  clear hw
  subst hbs9
  have G : zS T A s.heap s [] _ _ := G
  subst h_1
  refine lv_ldc2 (v := 1048576) hx hb C.2.2.2.1 (C.2.2.2.2 _ m_kl_RX12_64) dX12_eight_7 ?_
  refine lv_lmul hx hb dX12_eight_10 ?_
  refine lv_iload hx hb dX12_eight_11 (lv_at hl 4 rfl) ?_
  refine lv_iload hx hb dX12_eight_13 (lv_at hl 5 rfl) ?_
  refine lv_iload hx hb dX12_eight_15 (lv_at hl 6 rfl) ?_
  refine lv_iload hx hb dX12_eight_17 (lv_at hl 7 rfl) ?_
  refine z_Sl (bc := []) (br := []) (As := [.int e_, .int f_, .int g_, .int h_]) (rest := [.long ((zFour a_ b_ c_ d_) * (1048576 : Int64))]) C G (c_m_four l T e_ f_ g_ h_) (kS_RX12_60 C.2.2.2.2 (Nat.le_of_ble_eq_true rfl) (Nat.le_of_ble_eq_true rfl)) [] [] rfl rfl rfl rfl hl.1 dX12_eight_19 (Nat.le_of_ble_eq_true rfl) (Nat.le_of_ble_eq_true rfl) (fun r_4 b1 H locs hw G => ?_)
  refine zAn2 hw ?_
  intro hbs9 h_3
  clear hw
  subst hbs9
  have G : zS T A s.heap s [] _ _ := G
  subst h_3
  refine lv_ladd hx hb dX12_eight_22 ?_
  exact z_back hQz_ (z_lret C hr hlocks G (Nat.le_of_ble_eq_true rfl) (Nat.le_of_ble_eq_true rfl) dX12_eight_23 ⟨rfl, rfl⟩)
set_option maxHeartbeats 4000000 in
set_option maxRecDepth 100000 in
/-- c_m_wordOf -/
theorem c_m_wordOf (l : Launch) (T : zTy) (v : Int64) : zMi l T yX12_wordOf cX12_wordOf 2 (some .int) 3 0 0 [.long v] [] (fun (r : Int32) bs => bs = [] ∧ r = zWord v) := by
  refine zMi_of (own := RX12) (by decide) rfl (Nat.le_of_ble_eq_true rfl) ?_
  intro p e s m args below meth c A ls C hr hlocks hnm hAe G hl
  refine zHide (fun Qz_ hQz_ => ?_)
  have hx := C.1
  have hb := C.2.1
  have hl : lv_has ls 2 [(0, .long v)] := hl
  refine lv_lload_n hx hb dX12_wordOf_0 rfl (lv_at hl 0 rfl) ?_
  refine lv_iconst (v := 0) hx hb dX12_wordOf_1 (by decide) ?_
  refine lv_iconst (v := 0) hx hb dX12_wordOf_2 (by decide) ?_
  refine lv_iconst (v := 0) hx hb dX12_wordOf_3 (by decide) ?_
  refine lv_iconst (v := 3) hx hb dX12_wordOf_4 (by decide) ?_
  refine lv_bipush (v := 18) hx hb dX12_wordOf_5 (by decide) ?_
  refine lv_bipush (v := 15) hx hb dX12_wordOf_7 (by decide) ?_
  refine lv_bipush (v := 19) hx hb dX12_wordOf_9 (by decide) ?_
  refine lv_bipush (v := 19) hx hb dX12_wordOf_11 (by decide) ?_
  refine z_Sl (bc := []) (br := []) (As := [.int 0, .int 0, .int 0, .int 3, .int 18, .int 15, .int 19, .int 19]) (rest := [.long v]) C G (c_m_eight l T 0 0 0 3 18 15 19 19) (kS_RX12_66 C.2.2.2.2 (Nat.le_of_ble_eq_true rfl) (Nat.le_of_ble_eq_true rfl)) [] [] rfl rfl rfl rfl hl.1 dX12_wordOf_13 (Nat.le_of_ble_eq_true rfl) (Nat.le_of_ble_eq_true rfl) (fun r_2 b1 H locs hw G => ?_)
  refine zAn2 hw ?_
  intro hbs9 h_1
  clear hw
  subst hbs9
  have G : zS T A s.heap s [] _ _ := G
  subst h_1
  refine z_lcne (tgt := 22) hx hb dX12_wordOf_16 dX12_wordOf_17 (by decide) (fun c_3 => ?_) (fun c_3 => ?_)
  · have c_3n : ¬ (v = (zEight 0 0 0 3 18 15 19 19)) := c_3
    refine lv_lload_n hx hb dX12_wordOf_22 rfl (lv_at hl 0 rfl) ?_
    refine lv_bipush (v := 16) hx hb dX12_wordOf_23 (by decide) ?_
    refine lv_bipush (v := 15) hx hb dX12_wordOf_25 (by decide) ?_
    refine lv_bipush (v := 19) hx hb dX12_wordOf_27 (by decide) ?_
    refine lv_bipush (v := 20) hx hb dX12_wordOf_29 (by decide) ?_
    refine z_Sl (bc := []) (br := []) (As := [.int 16, .int 15, .int 19, .int 20]) (rest := [.long v]) C G (c_m_four l T 16 15 19 20) (kS_RX12_60 C.2.2.2.2 (Nat.le_of_ble_eq_true rfl) (Nat.le_of_ble_eq_true rfl)) [] [] rfl rfl rfl rfl hl.1 dX12_wordOf_31 (Nat.le_of_ble_eq_true rfl) (Nat.le_of_ble_eq_true rfl) (fun r_5 b1 H locs hw G => ?_)
    refine zAn2 hw ?_
    intro hbs9 h_4
    clear hw
    subst hbs9
    have G : zS T A s.heap s [] _ _ := G
    subst h_4
    refine z_lcne (tgt := 40) hx hb dX12_wordOf_34 dX12_wordOf_35 (by decide) (fun c_6 => ?_) (fun c_6 => ?_)
    · have c_6n : ¬ (v = (zFour 16 15 19 20)) := c_6
      refine lv_lload_n hx hb dX12_wordOf_40 rfl (lv_at hl 0 rfl) ?_
      refine lv_iconst (v := 0) hx hb dX12_wordOf_41 (by decide) ?_
      refine lv_bipush (v := 23) hx hb dX12_wordOf_42 (by decide) ?_
      refine lv_iconst (v := 1) hx hb dX12_wordOf_44 (by decide) ?_
      refine lv_bipush (v := 12) hx hb dX12_wordOf_45 (by decide) ?_
      refine lv_bipush (v := 11) hx hb dX12_wordOf_47 (by decide) ?_
      refine lv_iconst (v := 5) hx hb dX12_wordOf_49 (by decide) ?_
      refine lv_bipush (v := 18) hx hb dX12_wordOf_50 (by decide) ?_
      refine lv_bipush (v := 19) hx hb dX12_wordOf_52 (by decide) ?_
      refine z_Sl (bc := []) (br := []) (As := [.int 0, .int 23, .int 1, .int 12, .int 11, .int 5, .int 18, .int 19]) (rest := [.long v]) C G (c_m_eight l T 0 23 1 12 11 5 18 19) (kS_RX12_66 C.2.2.2.2 (Nat.le_of_ble_eq_true rfl) (Nat.le_of_ble_eq_true rfl)) [] [] rfl rfl rfl rfl hl.1 dX12_wordOf_54 (Nat.le_of_ble_eq_true rfl) (Nat.le_of_ble_eq_true rfl) (fun r_8 b1 H locs hw G => ?_)
      refine zAn2 hw ?_
      intro hbs9 h_7
      clear hw
      subst hbs9
      have G : zS T A s.heap s [] _ _ := G
      subst h_7
      refine z_lcne (tgt := 63) hx hb dX12_wordOf_57 dX12_wordOf_58 (by decide) (fun c_9 => ?_) (fun c_9 => ?_)
      · have c_9n : ¬ (v = (zEight 0 23 1 12 11 5 18 19)) := c_9
        refine lv_lload_n hx hb dX12_wordOf_63 rfl (lv_at hl 0 rfl) ?_
        refine lv_iconst (v := 0) hx hb dX12_wordOf_64 (by decide) ?_
        refine lv_bipush (v := 9) hx hb dX12_wordOf_65 (by decide) ?_
        refine lv_bipush (v := 14) hx hb dX12_wordOf_67 (by decide) ?_
        refine lv_bipush (v := 14) hx hb dX12_wordOf_69 (by decide) ?_
        refine z_Sl (bc := []) (br := []) (As := [.int 0, .int 9, .int 14, .int 14]) (rest := [.long v]) C G (c_m_four l T 0 9 14 14) (kS_RX12_60 C.2.2.2.2 (Nat.le_of_ble_eq_true rfl) (Nat.le_of_ble_eq_true rfl)) [] [] rfl rfl rfl rfl hl.1 dX12_wordOf_71 (Nat.le_of_ble_eq_true rfl) (Nat.le_of_ble_eq_true rfl) (fun r_11 b1 H locs hw G => ?_)
        refine zAn2 hw ?_
        intro hbs9 h_10
        clear hw
        subst hbs9
        have G : zS T A s.heap s [] _ _ := G
        subst h_10
        refine z_lcne (tgt := 80) hx hb dX12_wordOf_74 dX12_wordOf_75 (by decide) (fun c_12 => ?_) (fun c_12 => ?_)
        · have c_12n : ¬ (v = (zFour 0 9 14 14)) := c_12
          refine lv_lload_n hx hb dX12_wordOf_80 rfl (lv_at hl 0 rfl) ?_
          refine lv_iconst (v := 0) hx hb dX12_wordOf_81 (by decide) ?_
          refine lv_iconst (v := 0) hx hb dX12_wordOf_82 (by decide) ?_
          refine lv_bipush (v := 7) hx hb dX12_wordOf_83 (by decide) ?_
          refine lv_bipush (v := 15) hx hb dX12_wordOf_85 (by decide) ?_
          refine z_Sl (bc := []) (br := []) (As := [.int 0, .int 0, .int 7, .int 15]) (rest := [.long v]) C G (c_m_four l T 0 0 7 15) (kS_RX12_60 C.2.2.2.2 (Nat.le_of_ble_eq_true rfl) (Nat.le_of_ble_eq_true rfl)) [] [] rfl rfl rfl rfl hl.1 dX12_wordOf_87 (Nat.le_of_ble_eq_true rfl) (Nat.le_of_ble_eq_true rfl) (fun r_14 b1 H locs hw G => ?_)
          refine zAn2 hw ?_
          intro hbs9 h_13
          clear hw
          subst hbs9
          have G : zS T A s.heap s [] _ _ := G
          subst h_13
          refine z_lcne (tgt := 96) hx hb dX12_wordOf_90 dX12_wordOf_91 (by decide) (fun c_15 => ?_) (fun c_15 => ?_)
          · have c_15n : ¬ (v = (zFour 0 0 7 15)) := c_15
            refine lv_lload_n hx hb dX12_wordOf_96 rfl (lv_at hl 0 rfl) ?_
            refine lv_iconst (v := 0) hx hb dX12_wordOf_97 (by decide) ?_
            refine lv_bipush (v := 18) hx hb dX12_wordOf_98 (by decide) ?_
            refine lv_bipush (v := 21) hx hb dX12_wordOf_100 (by decide) ?_
            refine lv_bipush (v := 14) hx hb dX12_wordOf_102 (by decide) ?_
            refine z_Sl (bc := []) (br := []) (As := [.int 0, .int 18, .int 21, .int 14]) (rest := [.long v]) C G (c_m_four l T 0 18 21 14) (kS_RX12_60 C.2.2.2.2 (Nat.le_of_ble_eq_true rfl) (Nat.le_of_ble_eq_true rfl)) [] [] rfl rfl rfl rfl hl.1 dX12_wordOf_104 (Nat.le_of_ble_eq_true rfl) (Nat.le_of_ble_eq_true rfl) (fun r_17 b1 H locs hw G => ?_)
            refine zAn2 hw ?_
            intro hbs9 h_16
            clear hw
            subst hbs9
            have G : zS T A s.heap s [] _ _ := G
            subst h_16
            refine z_lcne (tgt := 114) hx hb dX12_wordOf_107 dX12_wordOf_108 (by decide) (fun c_18 => ?_) (fun c_18 => ?_)
            · have c_18n : ¬ (v = (zFour 0 18 21 14)) := c_18
              refine lv_lload_n hx hb dX12_wordOf_114 rfl (lv_at hl 0 rfl) ?_
              refine lv_bipush (v := 20) hx hb dX12_wordOf_115 (by decide) ?_
              refine lv_bipush (v := 21) hx hb dX12_wordOf_117 (by decide) ?_
              refine lv_bipush (v := 18) hx hb dX12_wordOf_119 (by decide) ?_
              refine lv_bipush (v := 14) hx hb dX12_wordOf_121 (by decide) ?_
              refine z_Sl (bc := []) (br := []) (As := [.int 20, .int 21, .int 18, .int 14]) (rest := [.long v]) C G (c_m_four l T 20 21 18 14) (kS_RX12_60 C.2.2.2.2 (Nat.le_of_ble_eq_true rfl) (Nat.le_of_ble_eq_true rfl)) [] [] rfl rfl rfl rfl hl.1 dX12_wordOf_123 (Nat.le_of_ble_eq_true rfl) (Nat.le_of_ble_eq_true rfl) (fun r_20 b1 H locs hw G => ?_)
              refine zAn2 hw ?_
              intro hbs9 h_19
              clear hw
              subst hbs9
              have G : zS T A s.heap s [] _ _ := G
              subst h_19
              refine z_lcne (tgt := 133) hx hb dX12_wordOf_126 dX12_wordOf_127 (by decide) (fun c_21 => ?_) (fun c_21 => ?_)
              · have c_21n : ¬ (v = (zFour 20 21 18 14)) := c_21
                refine lv_lload_n hx hb dX12_wordOf_133 rfl (lv_at hl 0 rfl) ?_
                refine lv_iconst (v := 0) hx hb dX12_wordOf_134 (by decide) ?_
                refine lv_iconst (v := 1) hx hb dX12_wordOf_135 (by decide) ?_
                refine lv_iconst (v := 4) hx hb dX12_wordOf_136 (by decide) ?_
                refine lv_iconst (v := 4) hx hb dX12_wordOf_137 (by decide) ?_
                refine z_Sl (bc := []) (br := []) (As := [.int 0, .int 1, .int 4, .int 4]) (rest := [.long v]) C G (c_m_four l T 0 1 4 4) (kS_RX12_60 C.2.2.2.2 (Nat.le_of_ble_eq_true rfl) (Nat.le_of_ble_eq_true rfl)) [] [] rfl rfl rfl rfl hl.1 dX12_wordOf_138 (Nat.le_of_ble_eq_true rfl) (Nat.le_of_ble_eq_true rfl) (fun r_23 b1 H locs hw G => ?_)
                refine zAn2 hw ?_
                intro hbs9 h_22
                clear hw
                subst hbs9
                have G : zS T A s.heap s [] _ _ := G
                subst h_22
                refine z_lcne (tgt := 148) hx hb dX12_wordOf_141 dX12_wordOf_142 (by decide) (fun c_24 => ?_) (fun c_24 => ?_)
                · have c_24n : ¬ (v = (zFour 0 1 4 4)) := c_24
                  refine lv_lload_n hx hb dX12_wordOf_148 rfl (lv_at hl 0 rfl) ?_
                  refine lv_bipush (v := 19) hx hb dX12_wordOf_149 (by decide) ?_
                  refine lv_bipush (v := 8) hx hb dX12_wordOf_151 (by decide) ?_
                  refine lv_bipush (v := 21) hx hb dX12_wordOf_153 (by decide) ?_
                  refine lv_bipush (v := 20) hx hb dX12_wordOf_155 (by decide) ?_
                  refine z_Sl (bc := []) (br := []) (As := [.int 19, .int 8, .int 21, .int 20]) (rest := [.long v]) C G (c_m_four l T 19 8 21 20) (kS_RX12_60 C.2.2.2.2 (Nat.le_of_ble_eq_true rfl) (Nat.le_of_ble_eq_true rfl)) [] [] rfl rfl rfl rfl hl.1 dX12_wordOf_157 (Nat.le_of_ble_eq_true rfl) (Nat.le_of_ble_eq_true rfl) (fun r_26 b1 H locs hw G => ?_)
                  refine zAn2 hw ?_
                  intro hbs9 h_25
                  clear hw
                  subst hbs9
                  have G : zS T A s.heap s [] _ _ := G
                  subst h_25
                  refine z_lcne (tgt := 167) hx hb dX12_wordOf_160 dX12_wordOf_161 (by decide) (fun c_27 => ?_) (fun c_27 => ?_)
                  · have c_27n : ¬ (v = (zFour 19 8 21 20)) := c_27
                    refine lv_lload_n hx hb dX12_wordOf_167 rfl (lv_at hl 0 rfl) ?_
                    refine lv_bipush (v := 15) hx hb dX12_wordOf_168 (by decide) ?_
                    refine lv_bipush (v := 16) hx hb dX12_wordOf_170 (by decide) ?_
                    refine lv_iconst (v := 5) hx hb dX12_wordOf_172 (by decide) ?_
                    refine lv_bipush (v := 14) hx hb dX12_wordOf_173 (by decide) ?_
                    refine z_Sl (bc := []) (br := []) (As := [.int 15, .int 16, .int 5, .int 14]) (rest := [.long v]) C G (c_m_four l T 15 16 5 14) (kS_RX12_60 C.2.2.2.2 (Nat.le_of_ble_eq_true rfl) (Nat.le_of_ble_eq_true rfl)) [] [] rfl rfl rfl rfl hl.1 dX12_wordOf_175 (Nat.le_of_ble_eq_true rfl) (Nat.le_of_ble_eq_true rfl) (fun r_29 b1 H locs hw G => ?_)
                    refine zAn2 hw ?_
                    intro hbs9 h_28
                    clear hw
                    subst hbs9
                    have G : zS T A s.heap s [] _ _ := G
                    subst h_28
                    refine z_lcne (tgt := 185) hx hb dX12_wordOf_178 dX12_wordOf_179 (by decide) (fun c_30 => ?_) (fun c_30 => ?_)
                    · have c_30n : ¬ (v = (zFour 15 16 5 14)) := c_30
                      refine lv_lload_n hx hb dX12_wordOf_185 rfl (lv_at hl 0 rfl) ?_
                      refine lv_iconst (v := 3) hx hb dX12_wordOf_186 (by decide) ?_
                      refine lv_iconst (v := 1) hx hb dX12_wordOf_187 (by decide) ?_
                      refine lv_bipush (v := 13) hx hb dX12_wordOf_188 (by decide) ?_
                      refine lv_iconst (v := 5) hx hb dX12_wordOf_190 (by decide) ?_
                      refine z_Sl (bc := []) (br := []) (As := [.int 3, .int 1, .int 13, .int 5]) (rest := [.long v]) C G (c_m_four l T 3 1 13 5) (kS_RX12_60 C.2.2.2.2 (Nat.le_of_ble_eq_true rfl) (Nat.le_of_ble_eq_true rfl)) [] [] rfl rfl rfl rfl hl.1 dX12_wordOf_191 (Nat.le_of_ble_eq_true rfl) (Nat.le_of_ble_eq_true rfl) (fun r_32 b1 H locs hw G => ?_)
                      refine zAn2 hw ?_
                      intro hbs9 h_31
                      clear hw
                      subst hbs9
                      have G : zS T A s.heap s [] _ _ := G
                      subst h_31
                      refine z_lcne (tgt := 201) hx hb dX12_wordOf_194 dX12_wordOf_195 (by decide) (fun c_33 => ?_) (fun c_33 => ?_)
                      · have c_33n : ¬ (v = (zFour 3 1 13 5)) := c_33
                        refine lv_lload_n hx hb dX12_wordOf_201 rfl (lv_at hl 0 rfl) ?_
                        refine lv_iconst (v := 0) hx hb dX12_wordOf_202 (by decide) ?_
                        refine lv_iconst (v := 0) hx hb dX12_wordOf_203 (by decide) ?_
                        refine lv_iconst (v := 0) hx hb dX12_wordOf_204 (by decide) ?_
                        refine lv_bipush (v := 14) hx hb dX12_wordOf_205 (by decide) ?_
                        refine lv_iconst (v := 5) hx hb dX12_wordOf_207 (by decide) ?_
                        refine lv_bipush (v := 22) hx hb dX12_wordOf_208 (by decide) ?_
                        refine lv_iconst (v := 5) hx hb dX12_wordOf_210 (by decide) ?_
                        refine lv_bipush (v := 18) hx hb dX12_wordOf_211 (by decide) ?_
                        refine z_Sl (bc := []) (br := []) (As := [.int 0, .int 0, .int 0, .int 14, .int 5, .int 22, .int 5, .int 18]) (rest := [.long v]) C G (c_m_eight l T 0 0 0 14 5 22 5 18) (kS_RX12_66 C.2.2.2.2 (Nat.le_of_ble_eq_true rfl) (Nat.le_of_ble_eq_true rfl)) [] [] rfl rfl rfl rfl hl.1 dX12_wordOf_213 (Nat.le_of_ble_eq_true rfl) (Nat.le_of_ble_eq_true rfl) (fun r_35 b1 H locs hw G => ?_)
                        refine zAn2 hw ?_
                        intro hbs9 h_34
                        clear hw
                        subst hbs9
                        have G : zS T A s.heap s [] _ _ := G
                        subst h_34
                        refine z_lcne (tgt := 225) hx hb dX12_wordOf_216 dX12_wordOf_217 (by decide) (fun c_36 => ?_) (fun c_36 => ?_)
                        · have c_36n : ¬ (v = (zEight 0 0 0 14 5 22 5 18)) := c_36
                          refine lv_bipush (v := 99) hx hb dX12_wordOf_225 (by decide) ?_
                          exact z_back hQz_ (z_iret C hr hlocks G (Nat.le_of_ble_eq_true rfl) (Nat.le_of_ble_eq_true rfl) dX12_wordOf_227 ⟨rfl, (by unfold zWord; rw [if_neg c_3, if_neg c_6, if_neg c_9, if_neg c_12, if_neg c_15, if_neg c_18, if_neg c_21, if_neg c_24, if_neg c_27, if_neg c_30, if_neg c_33, if_neg c_36])⟩)
                        · have c_36n : v = (zEight 0 0 0 14 5 22 5 18) := c_36
                          refine lv_bipush (v := 12) hx hb dX12_wordOf_220 (by decide) ?_
                          refine lv_goto (tgt := 227) hx hb dX12_wordOf_222 (by decide) ?_
                          exact z_back hQz_ (z_iret C hr hlocks G (Nat.le_of_ble_eq_true rfl) (Nat.le_of_ble_eq_true rfl) dX12_wordOf_227 ⟨rfl, (by unfold zWord; rw [if_neg c_3, if_neg c_6, if_neg c_9, if_neg c_12, if_neg c_15, if_neg c_18, if_neg c_21, if_neg c_24, if_neg c_27, if_neg c_30, if_neg c_33, if_pos c_36])⟩)
                      · have c_33n : v = (zFour 3 1 13 5) := c_33
                        refine lv_bipush (v := 11) hx hb dX12_wordOf_198 (by decide) ?_
                        exact z_back hQz_ (z_iret C hr hlocks G (Nat.le_of_ble_eq_true rfl) (Nat.le_of_ble_eq_true rfl) dX12_wordOf_200 ⟨rfl, (by unfold zWord; rw [if_neg c_3, if_neg c_6, if_neg c_9, if_neg c_12, if_neg c_15, if_neg c_18, if_neg c_21, if_neg c_24, if_neg c_27, if_neg c_30, if_pos c_33])⟩)
                    · have c_30n : v = (zFour 15 16 5 14) := c_30
                      refine lv_bipush (v := 10) hx hb dX12_wordOf_182 (by decide) ?_
                      exact z_back hQz_ (z_iret C hr hlocks G (Nat.le_of_ble_eq_true rfl) (Nat.le_of_ble_eq_true rfl) dX12_wordOf_184 ⟨rfl, (by unfold zWord; rw [if_neg c_3, if_neg c_6, if_neg c_9, if_neg c_12, if_neg c_15, if_neg c_18, if_neg c_21, if_neg c_24, if_neg c_27, if_pos c_30])⟩)
                  · have c_27n : v = (zFour 19 8 21 20) := c_27
                    refine lv_bipush (v := 9) hx hb dX12_wordOf_164 (by decide) ?_
                    exact z_back hQz_ (z_iret C hr hlocks G (Nat.le_of_ble_eq_true rfl) (Nat.le_of_ble_eq_true rfl) dX12_wordOf_166 ⟨rfl, (by unfold zWord; rw [if_neg c_3, if_neg c_6, if_neg c_9, if_neg c_12, if_neg c_15, if_neg c_18, if_neg c_21, if_neg c_24, if_pos c_27])⟩)
                · have c_24n : v = (zFour 0 1 4 4) := c_24
                  refine lv_bipush (v := 8) hx hb dX12_wordOf_145 (by decide) ?_
                  exact z_back hQz_ (z_iret C hr hlocks G (Nat.le_of_ble_eq_true rfl) (Nat.le_of_ble_eq_true rfl) dX12_wordOf_147 ⟨rfl, (by unfold zWord; rw [if_neg c_3, if_neg c_6, if_neg c_9, if_neg c_12, if_neg c_15, if_neg c_18, if_neg c_21, if_pos c_24])⟩)
              · have c_21n : v = (zFour 20 21 18 14) := c_21
                refine lv_bipush (v := 7) hx hb dX12_wordOf_130 (by decide) ?_
                exact z_back hQz_ (z_iret C hr hlocks G (Nat.le_of_ble_eq_true rfl) (Nat.le_of_ble_eq_true rfl) dX12_wordOf_132 ⟨rfl, (by unfold zWord; rw [if_neg c_3, if_neg c_6, if_neg c_9, if_neg c_12, if_neg c_15, if_neg c_18, if_pos c_21])⟩)
            · have c_18n : v = (zFour 0 18 21 14) := c_18
              refine lv_bipush (v := 6) hx hb dX12_wordOf_111 (by decide) ?_
              exact z_back hQz_ (z_iret C hr hlocks G (Nat.le_of_ble_eq_true rfl) (Nat.le_of_ble_eq_true rfl) dX12_wordOf_113 ⟨rfl, (by unfold zWord; rw [if_neg c_3, if_neg c_6, if_neg c_9, if_neg c_12, if_neg c_15, if_pos c_18])⟩)
          · have c_15n : v = (zFour 0 0 7 15) := c_15
            refine lv_iconst (v := 5) hx hb dX12_wordOf_94 (by decide) ?_
            exact z_back hQz_ (z_iret C hr hlocks G (Nat.le_of_ble_eq_true rfl) (Nat.le_of_ble_eq_true rfl) dX12_wordOf_95 ⟨rfl, (by unfold zWord; rw [if_neg c_3, if_neg c_6, if_neg c_9, if_neg c_12, if_pos c_15])⟩)
        · have c_12n : v = (zFour 0 9 14 14) := c_12
          refine lv_iconst (v := 4) hx hb dX12_wordOf_78 (by decide) ?_
          exact z_back hQz_ (z_iret C hr hlocks G (Nat.le_of_ble_eq_true rfl) (Nat.le_of_ble_eq_true rfl) dX12_wordOf_79 ⟨rfl, (by unfold zWord; rw [if_neg c_3, if_neg c_6, if_neg c_9, if_pos c_12])⟩)
      · have c_9n : v = (zEight 0 23 1 12 11 5 18 19) := c_9
        refine lv_iconst (v := 3) hx hb dX12_wordOf_61 (by decide) ?_
        exact z_back hQz_ (z_iret C hr hlocks G (Nat.le_of_ble_eq_true rfl) (Nat.le_of_ble_eq_true rfl) dX12_wordOf_62 ⟨rfl, (by unfold zWord; rw [if_neg c_3, if_neg c_6, if_pos c_9])⟩)
    · have c_6n : v = (zFour 16 15 19 20) := c_6
      refine lv_iconst (v := 2) hx hb dX12_wordOf_38 (by decide) ?_
      exact z_back hQz_ (z_iret C hr hlocks G (Nat.le_of_ble_eq_true rfl) (Nat.le_of_ble_eq_true rfl) dX12_wordOf_39 ⟨rfl, (by unfold zWord; rw [if_neg c_3, if_pos c_6])⟩)
  · have c_3n : v = (zEight 0 0 0 3 18 15 19 19) := c_3
    refine lv_iconst (v := 1) hx hb dX12_wordOf_20 (by decide) ?_
    exact z_back hQz_ (z_iret C hr hlocks G (Nat.le_of_ble_eq_true rfl) (Nat.le_of_ble_eq_true rfl) dX12_wordOf_21 ⟨rfl, (by unfold zWord; rw [if_pos c_3])⟩)
theorem m_fl_RX12_70 : Cond.fieldLink RX12 70 (TX12 3).1 (TX12 3).2.1 (TX12 3).2.2.1 ∈ zT := zmem1 zsub_5 238 rfl rfl
theorem m_co_X12_byteAt : Cond.code yX12_byteAt cX12_byteAt 2 (some .int) ∈ zT := zmem1 zsub_6 151 rfl rfl
theorem m_ml_RX12_73 : Cond.methodLink RX12 73 yX12_byteAt ∈ zT := zmem1 zsub_6 148 rfl rfl
theorem m_im_X12_byteAt : Cond.instanceMethod yX12_byteAt ∈ zT := zmem1 zsub_6 150 rfl rfl
theorem m_se_X12_byteAt : Cond.selects RX12 yX12_byteAt yX12_byteAt ∈ zT := zmem 47 rfl rfl
theorem m_fl_RX12_77 : Cond.fieldLink RX12 77 (TX12 4).1 (TX12 4).2.1 (TX12 4).2.2.1 ∈ zT := zmem1 zsub_5 239 rfl rfl
theorem m_co_X12_isLetter : Cond.code yX12_isLetter cX12_isLetter 1 (some .boolean) ∈ zT := zmem1 zsub_6 154 rfl rfl
theorem m_ml_RX12_83 : Cond.methodLink RX12 83 yX12_isLetter ∈ zT := zmem1 zsub_6 152 rfl rfl
theorem m_st_X12_isLetter : Cond.static yX12_isLetter ∈ zT := zmem1 zsub_6 153 rfl rfl
theorem m_kl_RX12_87 : Cond.constantLong RX12 87 32 ∈ zT := zmem1 zsub_6 155 rfl rfl
theorem m_kl_RX12_89 : Cond.constantLong RX12 89 96 ∈ zT := zmem1 zsub_6 156 rfl rfl
theorem m_co_X12_wordOf : Cond.code yX12_wordOf cX12_wordOf 2 (some .int) ∈ zT := zmem1 zsub_6 159 rfl rfl
theorem m_ml_RX12_91 : Cond.methodLink RX12 91 yX12_wordOf ∈ zT := zmem1 zsub_6 157 rfl rfl
theorem m_st_X12_wordOf : Cond.static yX12_wordOf ∈ zT := zmem1 zsub_6 158 rfl rfl
theorem m_fl_RX12_95 : Cond.fieldLink RX12 95 (TX12 7).1 (TX12 7).2.1 (TX12 7).2.2.1 ∈ zT := zmem1 zsub_6 2 rfl rfl
theorem m_fl_RX12_80 : Cond.fieldLink RX12 80 (TX12 5).1 (TX12 5).2.1 (TX12 5).2.2.1 ∈ zT := zmem1 zsub_6 0 rfl rfl
theorem m_co_X12_isDigit : Cond.code yX12_isDigit cX12_isDigit 1 (some .boolean) ∈ zT := zmem1 zsub_6 169 rfl rfl
theorem m_ml_RX12_98 : Cond.methodLink RX12 98 yX12_isDigit ∈ zT := zmem1 zsub_6 167 rfl rfl
theorem m_st_X12_isDigit : Cond.static yX12_isDigit ∈ zT := zmem1 zsub_6 168 rfl rfl
theorem m_fl_RX12_101 : Cond.fieldLink RX12 101 (TX12 6).1 (TX12 6).2.1 (TX12 6).2.2.1 ∈ zT := zmem1 zsub_6 1 rfl rfl
theorem kV_RX12_73 {R : Room} {s : State} {args : Array Value} {d mc ms : Nat} (hts : ∀ w ∈ zT, w.before args s = true) (h1 : d + 1 ≤ R.frames) (h2 : 8 + (2 + 11) + 40 * d ≤ R.locals) : CallW R s args RX12 RX12 73 yX12_byteAt cX12_byteAt 2 (some .int) (zW yX12_byteAt cX12_byteAt 2 (some .int)) (zR d mc ms) mc ms 1 := z_cwV hts m_co_X12_byteAt m_ml_RX12_73 m_im_X12_byteAt m_se_X12_byteAt m_ii_RX12 (by decide +kernel) h1 h2
theorem kS_RX12_83 {R : Room} {s : State} {args : Array Value} {d mc ms : Nat} (hts : ∀ w ∈ zT, w.before args s = true) (h1 : d + 1 ≤ R.frames) (h2 : 8 + (1 + 11) + 40 * d ≤ R.locals) : CallB R s args RX12 83 yX12_isLetter cX12_isLetter 1 (some .boolean) (zW yX12_isLetter cX12_isLetter 1 (some .boolean)) (zR d mc ms) mc ms 1 ∧ (Cond.static yX12_isLetter).before args s = true := z_cwS hts m_co_X12_isLetter m_ml_RX12_83 m_st_X12_isLetter m_ii_RX12 (by decide +kernel) h1 h2
theorem kS_RX12_91 {R : Room} {s : State} {args : Array Value} {d mc ms : Nat} (hts : ∀ w ∈ zT, w.before args s = true) (h1 : d + 1 ≤ R.frames) (h2 : 8 + (2 + 11) + 40 * d ≤ R.locals) : CallB R s args RX12 91 yX12_wordOf cX12_wordOf 2 (some .int) (zW yX12_wordOf cX12_wordOf 2 (some .int)) (zR d mc ms) mc ms 1 ∧ (Cond.static yX12_wordOf).before args s = true := z_cwS hts m_co_X12_wordOf m_ml_RX12_91 m_st_X12_wordOf m_ii_RX12 (by decide +kernel) h1 h2
theorem kS_RX12_98 {R : Room} {s : State} {args : Array Value} {d mc ms : Nat} (hts : ∀ w ∈ zT, w.before args s = true) (h1 : d + 1 ≤ R.frames) (h2 : 8 + (1 + 11) + 40 * d ≤ R.locals) : CallB R s args RX12 98 yX12_isDigit cX12_isDigit 1 (some .boolean) (zW yX12_isDigit cX12_isDigit 1 (some .boolean)) (zR d mc ms) mc ms 1 ∧ (Cond.static yX12_isDigit).before args s = true := z_cwS hts m_co_X12_isDigit m_ml_RX12_98 m_st_X12_isDigit m_ii_RX12 (by decide +kernel) h1 h2
theorem dX12_advance_0 : decode cX12_advance 0 = .ok (.aload_n 0, 1) := zo_42 (by decide +kernel)
theorem dX12_advance_1 : decode cX12_advance 1 = .ok (.aload_n 0, 1) := zo_42 (by decide +kernel)
theorem dX12_advance_2 : decode cX12_advance 2 = .ok (.getfield 70, 3) := zo_180 (by decide +kernel)
theorem dX12_advance_5 : decode cX12_advance 5 = .ok (.invokevirtual 73, 3) := zo_182 (by decide +kernel)
theorem dX12_advance_8 : decode cX12_advance 8 = .ok (.bipush 10, 2) := zo_16 (by decide +kernel)
theorem dX12_advance_10 : decode cX12_advance 10 = .ok (.if_icmp .eq 16, 3) := zo_159 (by decide +kernel)
theorem dX12_advance_13 : decode cX12_advance 13 = .ok (.aload_n 0, 1) := zo_42 (by decide +kernel)
theorem dX12_advance_14 : decode cX12_advance 14 = .ok (.aload_n 0, 1) := zo_42 (by decide +kernel)
theorem dX12_advance_15 : decode cX12_advance 15 = .ok (.getfield 70, 3) := zo_180 (by decide +kernel)
theorem dX12_advance_18 : decode cX12_advance 18 = .ok (.invokevirtual 73, 3) := zo_182 (by decide +kernel)
theorem dX12_advance_21 : decode cX12_advance 21 = .ok (.bipush 32, 2) := zo_16 (by decide +kernel)
theorem dX12_advance_23 : decode cX12_advance 23 = .ok (.if_icmp .ne 16, 3) := zo_160 (by decide +kernel)
theorem dX12_advance_26 : decode cX12_advance 26 = .ok (.aload_n 0, 1) := zo_42 (by decide +kernel)
theorem dX12_advance_27 : decode cX12_advance 27 = .ok (.dup, 1) := zo_89 (by decide +kernel)
theorem dX12_advance_28 : decode cX12_advance 28 = .ok (.getfield 70, 3) := zo_180 (by decide +kernel)
theorem dX12_advance_31 : decode cX12_advance 31 = .ok (.iconst 1, 1) := zo_4 (by decide +kernel)
theorem dX12_advance_32 : decode cX12_advance 32 = .ok (.iadd, 1) := zo_96 (by decide +kernel)
theorem dX12_advance_33 : decode cX12_advance 33 = .ok (.putfield 70, 3) := zo_181 (by decide +kernel)
theorem dX12_advance_36 : decode cX12_advance 36 = .ok (.goto (-36), 3) := zo_167 (by decide +kernel)
theorem dX12_advance_39 : decode cX12_advance 39 = .ok (.aload_n 0, 1) := zo_42 (by decide +kernel)
theorem dX12_advance_40 : decode cX12_advance 40 = .ok (.aload_n 0, 1) := zo_42 (by decide +kernel)
theorem dX12_advance_41 : decode cX12_advance 41 = .ok (.getfield 70, 3) := zo_180 (by decide +kernel)
theorem dX12_advance_44 : decode cX12_advance 44 = .ok (.putfield 77, 3) := zo_181 (by decide +kernel)
theorem dX12_advance_47 : decode cX12_advance 47 = .ok (.aload_n 0, 1) := zo_42 (by decide +kernel)
theorem dX12_advance_48 : decode cX12_advance 48 = .ok (.aload_n 0, 1) := zo_42 (by decide +kernel)
theorem dX12_advance_49 : decode cX12_advance 49 = .ok (.getfield 70, 3) := zo_180 (by decide +kernel)
theorem dX12_advance_52 : decode cX12_advance 52 = .ok (.invokevirtual 73, 3) := zo_182 (by decide +kernel)
theorem dX12_advance_55 : decode cX12_advance 55 = .ok (.istore_n 1, 1) := zo_60 (by decide +kernel)
theorem dX12_advance_56 : decode cX12_advance 56 = .ok (.iload_n 1, 1) := zo_27 (by decide +kernel)
theorem dX12_advance_57 : decode cX12_advance 57 = .ok (.ifCond .ge 11, 3) := zo_156 (by decide +kernel)
theorem dX12_advance_60 : decode cX12_advance 60 = .ok (.aload_n 0, 1) := zo_42 (by decide +kernel)
theorem dX12_advance_61 : decode cX12_advance 61 = .ok (.iconst 0, 1) := zo_3 (by decide +kernel)
theorem dX12_advance_62 : decode cX12_advance 62 = .ok (.putfield 80, 3) := zo_181 (by decide +kernel)
theorem dX12_advance_65 : decode cX12_advance 65 = .ok (.goto 246, 3) := zo_167 (by decide +kernel)
theorem dX12_advance_68 : decode cX12_advance 68 = .ok (.iload_n 1, 1) := zo_27 (by decide +kernel)
theorem dX12_advance_69 : decode cX12_advance 69 = .ok (.invokestatic 83, 3) := zo_184 (by decide +kernel)
theorem dX12_advance_72 : decode cX12_advance 72 = .ok (.ifCond .eq 114, 3) := zo_153 (by decide +kernel)
theorem dX12_advance_75 : decode cX12_advance 75 = .ok (.lconst 0, 1) := zo_9 (by decide +kernel)
theorem dX12_advance_76 : decode cX12_advance 76 = .ok (.lstore_n 2, 1) := zo_65 (by decide +kernel)
theorem dX12_advance_77 : decode cX12_advance 77 = .ok (.aload_n 0, 1) := zo_42 (by decide +kernel)
theorem dX12_advance_78 : decode cX12_advance 78 = .ok (.aload_n 0, 1) := zo_42 (by decide +kernel)
theorem dX12_advance_79 : decode cX12_advance 79 = .ok (.getfield 70, 3) := zo_180 (by decide +kernel)
theorem dX12_advance_82 : decode cX12_advance 82 = .ok (.invokevirtual 73, 3) := zo_182 (by decide +kernel)
theorem dX12_advance_85 : decode cX12_advance 85 = .ok (.invokestatic 83, 3) := zo_184 (by decide +kernel)
theorem dX12_advance_88 : decode cX12_advance 88 = .ok (.ifCond .eq 50, 3) := zo_153 (by decide +kernel)
theorem dX12_advance_91 : decode cX12_advance 91 = .ok (.aload_n 0, 1) := zo_42 (by decide +kernel)
theorem dX12_advance_92 : decode cX12_advance 92 = .ok (.getfield 70, 3) := zo_180 (by decide +kernel)
theorem dX12_advance_95 : decode cX12_advance 95 = .ok (.aload_n 0, 1) := zo_42 (by decide +kernel)
theorem dX12_advance_96 : decode cX12_advance 96 = .ok (.getfield 77, 3) := zo_180 (by decide +kernel)
theorem dX12_advance_99 : decode cX12_advance 99 = .ok (.isub, 1) := zo_100 (by decide +kernel)
theorem dX12_advance_100 : decode cX12_advance 100 = .ok (.bipush 8, 2) := zo_16 (by decide +kernel)
theorem dX12_advance_102 : decode cX12_advance 102 = .ok (.if_icmp .ge 23, 3) := zo_162 (by decide +kernel)
theorem dX12_advance_105 : decode cX12_advance 105 = .ok (.ldc2_w 87, 3) := zo_20 (by decide +kernel)
theorem dX12_advance_108 : decode cX12_advance 108 = .ok (.lload_n 2, 1) := zo_32 (by decide +kernel)
theorem dX12_advance_109 : decode cX12_advance 109 = .ok (.lmul, 1) := zo_105 (by decide +kernel)
theorem dX12_advance_110 : decode cX12_advance 110 = .ok (.aload_n 0, 1) := zo_42 (by decide +kernel)
theorem dX12_advance_111 : decode cX12_advance 111 = .ok (.aload_n 0, 1) := zo_42 (by decide +kernel)
theorem dX12_advance_112 : decode cX12_advance 112 = .ok (.getfield 70, 3) := zo_180 (by decide +kernel)
theorem dX12_advance_115 : decode cX12_advance 115 = .ok (.invokevirtual 73, 3) := zo_182 (by decide +kernel)
theorem dX12_advance_118 : decode cX12_advance 118 = .ok (.i2l, 1) := zo_133 (by decide +kernel)
theorem dX12_advance_119 : decode cX12_advance 119 = .ok (.ladd, 1) := zo_97 (by decide +kernel)
theorem dX12_advance_120 : decode cX12_advance 120 = .ok (.ldc2_w 89, 3) := zo_20 (by decide +kernel)
theorem dX12_advance_123 : decode cX12_advance 123 = .ok (.lsub, 1) := zo_101 (by decide +kernel)
theorem dX12_advance_124 : decode cX12_advance 124 = .ok (.lstore_n 2, 1) := zo_65 (by decide +kernel)
theorem dX12_advance_125 : decode cX12_advance 125 = .ok (.aload_n 0, 1) := zo_42 (by decide +kernel)
theorem dX12_advance_126 : decode cX12_advance 126 = .ok (.dup, 1) := zo_89 (by decide +kernel)
theorem dX12_advance_127 : decode cX12_advance 127 = .ok (.getfield 70, 3) := zo_180 (by decide +kernel)
theorem dX12_advance_130 : decode cX12_advance 130 = .ok (.iconst 1, 1) := zo_4 (by decide +kernel)
theorem dX12_advance_131 : decode cX12_advance 131 = .ok (.iadd, 1) := zo_96 (by decide +kernel)
theorem dX12_advance_132 : decode cX12_advance 132 = .ok (.putfield 70, 3) := zo_181 (by decide +kernel)
theorem dX12_advance_135 : decode cX12_advance 135 = .ok (.goto (-58), 3) := zo_167 (by decide +kernel)
theorem dX12_advance_138 : decode cX12_advance 138 = .ok (.aload_n 0, 1) := zo_42 (by decide +kernel)
theorem dX12_advance_139 : decode cX12_advance 139 = .ok (.aload_n 0, 1) := zo_42 (by decide +kernel)
theorem dX12_advance_140 : decode cX12_advance 140 = .ok (.getfield 70, 3) := zo_180 (by decide +kernel)
theorem dX12_advance_143 : decode cX12_advance 143 = .ok (.aload_n 0, 1) := zo_42 (by decide +kernel)
theorem dX12_advance_144 : decode cX12_advance 144 = .ok (.getfield 77, 3) := zo_180 (by decide +kernel)
theorem dX12_advance_147 : decode cX12_advance 147 = .ok (.isub, 1) := zo_100 (by decide +kernel)
theorem dX12_advance_148 : decode cX12_advance 148 = .ok (.bipush 8, 2) := zo_16 (by decide +kernel)
theorem dX12_advance_150 : decode cX12_advance 150 = .ok (.if_icmp .le 8, 3) := zo_164 (by decide +kernel)
theorem dX12_advance_153 : decode cX12_advance 153 = .ok (.bipush 99, 2) := zo_16 (by decide +kernel)
theorem dX12_advance_155 : decode cX12_advance 155 = .ok (.goto 7, 3) := zo_167 (by decide +kernel)
theorem dX12_advance_158 : decode cX12_advance 158 = .ok (.lload_n 2, 1) := zo_32 (by decide +kernel)
theorem dX12_advance_159 : decode cX12_advance 159 = .ok (.invokestatic 91, 3) := zo_184 (by decide +kernel)
theorem dX12_advance_162 : decode cX12_advance 162 = .ok (.putfield 95, 3) := zo_181 (by decide +kernel)
theorem dX12_advance_165 : decode cX12_advance 165 = .ok (.aload_n 0, 1) := zo_42 (by decide +kernel)
theorem dX12_advance_166 : decode cX12_advance 166 = .ok (.aload_n 0, 1) := zo_42 (by decide +kernel)
theorem dX12_advance_167 : decode cX12_advance 167 = .ok (.getfield 95, 3) := zo_180 (by decide +kernel)
theorem dX12_advance_170 : decode cX12_advance 170 = .ok (.bipush 99, 2) := zo_16 (by decide +kernel)
theorem dX12_advance_172 : decode cX12_advance 172 = .ok (.if_icmp .ne 7, 3) := zo_160 (by decide +kernel)
theorem dX12_advance_175 : decode cX12_advance 175 = .ok (.iconst 4, 1) := zo_7 (by decide +kernel)
theorem dX12_advance_176 : decode cX12_advance 176 = .ok (.goto 4, 3) := zo_167 (by decide +kernel)
theorem dX12_advance_179 : decode cX12_advance 179 = .ok (.iconst 3, 1) := zo_6 (by decide +kernel)
theorem dX12_advance_180 : decode cX12_advance 180 = .ok (.putfield 80, 3) := zo_181 (by decide +kernel)
theorem dX12_advance_183 : decode cX12_advance 183 = .ok (.goto 128, 3) := zo_167 (by decide +kernel)
theorem dX12_advance_186 : decode cX12_advance 186 = .ok (.iload_n 1, 1) := zo_27 (by decide +kernel)
theorem dX12_advance_187 : decode cX12_advance 187 = .ok (.invokestatic 98, 3) := zo_184 (by decide +kernel)
theorem dX12_advance_190 : decode cX12_advance 190 = .ok (.ifCond .eq 96, 3) := zo_153 (by decide +kernel)
theorem dX12_advance_193 : decode cX12_advance 193 = .ok (.aload_n 0, 1) := zo_42 (by decide +kernel)
theorem dX12_advance_194 : decode cX12_advance 194 = .ok (.iconst 0, 1) := zo_3 (by decide +kernel)
theorem dX12_advance_195 : decode cX12_advance 195 = .ok (.putfield 101, 3) := zo_181 (by decide +kernel)
theorem dX12_advance_198 : decode cX12_advance 198 = .ok (.aload_n 0, 1) := zo_42 (by decide +kernel)
theorem dX12_advance_199 : decode cX12_advance 199 = .ok (.aload_n 0, 1) := zo_42 (by decide +kernel)
theorem dX12_advance_200 : decode cX12_advance 200 = .ok (.getfield 70, 3) := zo_180 (by decide +kernel)
theorem dX12_advance_203 : decode cX12_advance 203 = .ok (.invokevirtual 73, 3) := zo_182 (by decide +kernel)
theorem dX12_advance_206 : decode cX12_advance 206 = .ok (.invokestatic 98, 3) := zo_184 (by decide +kernel)
theorem dX12_advance_209 : decode cX12_advance 209 = .ok (.ifCond .eq 52, 3) := zo_153 (by decide +kernel)
theorem dX12_advance_212 : decode cX12_advance 212 = .ok (.aload_n 0, 1) := zo_42 (by decide +kernel)
theorem dX12_advance_213 : decode cX12_advance 213 = .ok (.getfield 70, 3) := zo_180 (by decide +kernel)
theorem dX12_advance_216 : decode cX12_advance 216 = .ok (.aload_n 0, 1) := zo_42 (by decide +kernel)
theorem dX12_advance_217 : decode cX12_advance 217 = .ok (.getfield 77, 3) := zo_180 (by decide +kernel)
theorem dX12_advance_220 : decode cX12_advance 220 = .ok (.isub, 1) := zo_100 (by decide +kernel)
theorem dX12_advance_221 : decode cX12_advance 221 = .ok (.iconst 2, 1) := zo_5 (by decide +kernel)
theorem dX12_advance_222 : decode cX12_advance 222 = .ok (.if_icmp .ge 26, 3) := zo_162 (by decide +kernel)
theorem dX12_advance_225 : decode cX12_advance 225 = .ok (.aload_n 0, 1) := zo_42 (by decide +kernel)
theorem dX12_advance_226 : decode cX12_advance 226 = .ok (.bipush 10, 2) := zo_16 (by decide +kernel)
theorem dX12_advance_228 : decode cX12_advance 228 = .ok (.aload_n 0, 1) := zo_42 (by decide +kernel)
theorem dX12_advance_229 : decode cX12_advance 229 = .ok (.getfield 101, 3) := zo_180 (by decide +kernel)
theorem dX12_advance_232 : decode cX12_advance 232 = .ok (.imul, 1) := zo_104 (by decide +kernel)
theorem dX12_advance_233 : decode cX12_advance 233 = .ok (.aload_n 0, 1) := zo_42 (by decide +kernel)
theorem dX12_advance_234 : decode cX12_advance 234 = .ok (.aload_n 0, 1) := zo_42 (by decide +kernel)
theorem dX12_advance_235 : decode cX12_advance 235 = .ok (.getfield 70, 3) := zo_180 (by decide +kernel)
theorem dX12_advance_238 : decode cX12_advance 238 = .ok (.invokevirtual 73, 3) := zo_182 (by decide +kernel)
theorem dX12_advance_241 : decode cX12_advance 241 = .ok (.iadd, 1) := zo_96 (by decide +kernel)
theorem dX12_advance_242 : decode cX12_advance 242 = .ok (.bipush 48, 2) := zo_16 (by decide +kernel)
theorem dX12_advance_244 : decode cX12_advance 244 = .ok (.isub, 1) := zo_100 (by decide +kernel)
theorem dX12_advance_245 : decode cX12_advance 245 = .ok (.putfield 101, 3) := zo_181 (by decide +kernel)
theorem dX12_advance_248 : decode cX12_advance 248 = .ok (.aload_n 0, 1) := zo_42 (by decide +kernel)
theorem dX12_advance_249 : decode cX12_advance 249 = .ok (.dup, 1) := zo_89 (by decide +kernel)
theorem dX12_advance_250 : decode cX12_advance 250 = .ok (.getfield 70, 3) := zo_180 (by decide +kernel)
theorem dX12_advance_253 : decode cX12_advance 253 = .ok (.iconst 1, 1) := zo_4 (by decide +kernel)
theorem dX12_advance_254 : decode cX12_advance 254 = .ok (.iadd, 1) := zo_96 (by decide +kernel)
theorem dX12_advance_255 : decode cX12_advance 255 = .ok (.putfield 70, 3) := zo_181 (by decide +kernel)
theorem dX12_advance_258 : decode cX12_advance 258 = .ok (.goto (-60), 3) := zo_167 (by decide +kernel)
theorem dX12_advance_261 : decode cX12_advance 261 = .ok (.aload_n 0, 1) := zo_42 (by decide +kernel)
theorem dX12_advance_262 : decode cX12_advance 262 = .ok (.aload_n 0, 1) := zo_42 (by decide +kernel)
theorem dX12_advance_263 : decode cX12_advance 263 = .ok (.getfield 70, 3) := zo_180 (by decide +kernel)
theorem dX12_advance_266 : decode cX12_advance 266 = .ok (.aload_n 0, 1) := zo_42 (by decide +kernel)
theorem dX12_advance_267 : decode cX12_advance 267 = .ok (.getfield 77, 3) := zo_180 (by decide +kernel)
theorem dX12_advance_270 : decode cX12_advance 270 = .ok (.isub, 1) := zo_100 (by decide +kernel)
theorem dX12_advance_271 : decode cX12_advance 271 = .ok (.iconst 2, 1) := zo_5 (by decide +kernel)
theorem dX12_advance_272 : decode cX12_advance 272 = .ok (.if_icmp .le 7, 3) := zo_164 (by decide +kernel)
theorem dX12_advance_275 : decode cX12_advance 275 = .ok (.iconst 4, 1) := zo_7 (by decide +kernel)
theorem dX12_advance_276 : decode cX12_advance 276 = .ok (.goto 4, 3) := zo_167 (by decide +kernel)
theorem dX12_advance_279 : decode cX12_advance 279 = .ok (.iconst 1, 1) := zo_4 (by decide +kernel)
theorem dX12_advance_280 : decode cX12_advance 280 = .ok (.putfield 80, 3) := zo_181 (by decide +kernel)
theorem dX12_advance_283 : decode cX12_advance 283 = .ok (.goto 28, 3) := zo_167 (by decide +kernel)
theorem dX12_advance_286 : decode cX12_advance 286 = .ok (.aload_n 0, 1) := zo_42 (by decide +kernel)
theorem dX12_advance_287 : decode cX12_advance 287 = .ok (.dup, 1) := zo_89 (by decide +kernel)
theorem dX12_advance_288 : decode cX12_advance 288 = .ok (.getfield 70, 3) := zo_180 (by decide +kernel)
theorem dX12_advance_291 : decode cX12_advance 291 = .ok (.iconst 1, 1) := zo_4 (by decide +kernel)
theorem dX12_advance_292 : decode cX12_advance 292 = .ok (.iadd, 1) := zo_96 (by decide +kernel)
theorem dX12_advance_293 : decode cX12_advance 293 = .ok (.putfield 70, 3) := zo_181 (by decide +kernel)
theorem dX12_advance_296 : decode cX12_advance 296 = .ok (.aload_n 0, 1) := zo_42 (by decide +kernel)
theorem dX12_advance_297 : decode cX12_advance 297 = .ok (.iload_n 1, 1) := zo_27 (by decide +kernel)
theorem dX12_advance_298 : decode cX12_advance 298 = .ok (.bipush 59, 2) := zo_16 (by decide +kernel)
theorem dX12_advance_300 : decode cX12_advance 300 = .ok (.if_icmp .ne 7, 3) := zo_160 (by decide +kernel)
theorem dX12_advance_303 : decode cX12_advance 303 = .ok (.iconst 2, 1) := zo_5 (by decide +kernel)
theorem dX12_advance_304 : decode cX12_advance 304 = .ok (.goto 4, 3) := zo_167 (by decide +kernel)
theorem dX12_advance_307 : decode cX12_advance 307 = .ok (.iconst 4, 1) := zo_7 (by decide +kernel)
theorem dX12_advance_308 : decode cX12_advance 308 = .ok (.putfield 80, 3) := zo_181 (by decide +kernel)
theorem dX12_advance_311 : decode cX12_advance 311 = .ok (.return_, 1) := zo_177 (by decide +kernel)
theorem m_fl_RX12_104 : Cond.fieldLink RX12 104 (TX12 8).1 (TX12 8).2.1 (TX12 8).2.2.1 ∈ zT := zmem1 zsub_6 3 rfl rfl
theorem m_co_X12_ends : Cond.code yX12_ends cX12_ends 1 none ∈ zT := zmem1 zsub_6 181 rfl rfl
theorem m_ml_RX12_108 : Cond.methodLink RX12 108 yX12_ends ∈ zT := zmem1 zsub_6 178 rfl rfl
theorem m_im_X12_ends : Cond.instanceMethod yX12_ends ∈ zT := zmem1 zsub_6 180 rfl rfl
theorem m_se_X12_ends : Cond.selects RX12 yX12_ends yX12_ends ∈ zT := zmem 50 rfl rfl
theorem m_co_X12_advance : Cond.code yX12_advance cX12_advance 4 none ∈ zT := zmem1 zsub_6 147 rfl rfl
theorem m_ml_RX12_119 : Cond.methodLink RX12 119 yX12_advance ∈ zT := zmem1 zsub_6 144 rfl rfl
theorem m_im_X12_advance : Cond.instanceMethod yX12_advance ∈ zT := zmem1 zsub_6 146 rfl rfl
theorem m_se_X12_advance : Cond.selects RX12 yX12_advance yX12_advance ∈ zT := zmem 46 rfl rfl
theorem m_co_X12_also : Cond.code yX12_also cX12_also 3 none ∈ zT := zmem1 zsub_6 189 rfl rfl
theorem m_ml_RX12_115 : Cond.methodLink RX12 115 yX12_also ∈ zT := zmem1 zsub_6 186 rfl rfl
theorem m_im_X12_also : Cond.instanceMethod yX12_also ∈ zT := zmem1 zsub_6 188 rfl rfl
theorem m_se_X12_also : Cond.selects RX12 yX12_also yX12_also ∈ zT := zmem 52 rfl rfl
theorem m_co_X12_numbered : Cond.code yX12_numbered cX12_numbered 4 (some .int) ∈ zT := zmem1 zsub_6 197 rfl rfl
theorem m_ml_RX12_122 : Cond.methodLink RX12 122 yX12_numbered ∈ zT := zmem1 zsub_6 194 rfl rfl
theorem m_im_X12_numbered : Cond.instanceMethod yX12_numbered ∈ zT := zmem1 zsub_6 196 rfl rfl
theorem m_se_X12_numbered : Cond.selects RX12 yX12_numbered yX12_numbered ∈ zT := zmem 54 rfl rfl
theorem m_fl_RX12_126 : Cond.fieldLink RX12 126 (TX12 9).1 (TX12 9).2.1 (TX12 9).2.2.1 ∈ zT := zmem1 zsub_6 4 rfl rfl
theorem kV_RX12_108 {R : Room} {s : State} {args : Array Value} {d mc ms : Nat} (hts : ∀ w ∈ zT, w.before args s = true) (h1 : d + 1 ≤ R.frames) (h2 : 8 + (1 + 11) + 40 * d ≤ R.locals) : CallW R s args RX12 RX12 108 yX12_ends cX12_ends 1 none (zW yX12_ends cX12_ends 1 none) (zR d mc ms) mc ms 0 := z_cwV hts m_co_X12_ends m_ml_RX12_108 m_im_X12_ends m_se_X12_ends m_ii_RX12 (by decide +kernel) h1 h2
theorem kV_RX12_119 {R : Room} {s : State} {args : Array Value} {d mc ms : Nat} (hts : ∀ w ∈ zT, w.before args s = true) (h1 : d + 1 ≤ R.frames) (h2 : 8 + (4 + 11) + 40 * d ≤ R.locals) : CallW R s args RX12 RX12 119 yX12_advance cX12_advance 4 none (zW yX12_advance cX12_advance 4 none) (zR d mc ms) mc ms 0 := z_cwV hts m_co_X12_advance m_ml_RX12_119 m_im_X12_advance m_se_X12_advance m_ii_RX12 (by decide +kernel) h1 h2
theorem kV_RX12_115 {R : Room} {s : State} {args : Array Value} {d mc ms : Nat} (hts : ∀ w ∈ zT, w.before args s = true) (h1 : d + 1 ≤ R.frames) (h2 : 8 + (3 + 11) + 40 * d ≤ R.locals) : CallW R s args RX12 RX12 115 yX12_also cX12_also 3 none (zW yX12_also cX12_also 3 none) (zR d mc ms) mc ms 2 := z_cwV hts m_co_X12_also m_ml_RX12_115 m_im_X12_also m_se_X12_also m_ii_RX12 (by decide +kernel) h1 h2
theorem kV_RX12_122 {R : Room} {s : State} {args : Array Value} {d mc ms : Nat} (hts : ∀ w ∈ zT, w.before args s = true) (h1 : d + 1 ≤ R.frames) (h2 : 8 + (4 + 11) + 40 * d ≤ R.locals) : CallW R s args RX12 RX12 122 yX12_numbered cX12_numbered 4 (some .int) (zW yX12_numbered cX12_numbered 4 (some .int)) (zR d mc ms) mc ms 2 := z_cwV hts m_co_X12_numbered m_ml_RX12_122 m_im_X12_numbered m_se_X12_numbered m_ii_RX12 (by decide +kernel) h1 h2
theorem dX12_ends_0 : decode cX12_ends 0 = .ok (.aload_n 0, 1) := zo_42 (by decide +kernel)
theorem dX12_ends_1 : decode cX12_ends 1 = .ok (.getfield 104, 3) := zo_180 (by decide +kernel)
theorem dX12_ends_4 : decode cX12_ends 4 = .ok (.ifCond .eq 4, 3) := zo_153 (by decide +kernel)
theorem dX12_ends_7 : decode cX12_ends 7 = .ok (.return_, 1) := zo_177 (by decide +kernel)
theorem dX12_ends_8 : decode cX12_ends 8 = .ok (.aload_n 0, 1) := zo_42 (by decide +kernel)
theorem dX12_ends_9 : decode cX12_ends 9 = .ok (.iconst 1, 1) := zo_4 (by decide +kernel)
theorem dX12_ends_10 : decode cX12_ends 10 = .ok (.putfield 104, 3) := zo_181 (by decide +kernel)
theorem dX12_ends_13 : decode cX12_ends 13 = .ok (.aload_n 0, 1) := zo_42 (by decide +kernel)
theorem dX12_ends_14 : decode cX12_ends 14 = .ok (.getfield 7, 3) := zo_180 (by decide +kernel)
theorem dX12_ends_17 : decode cX12_ends 17 = .ok (.iconst 5, 1) := zo_8 (by decide +kernel)
theorem dX12_ends_18 : decode cX12_ends 18 = .ok (.iconst 1, 1) := zo_4 (by decide +kernel)
theorem dX12_ends_19 : decode cX12_ends 19 = .ok (.iastore, 1) := zo_79 (by decide +kernel)
theorem dX12_ends_20 : decode cX12_ends 20 = .ok (.aload_n 0, 1) := zo_42 (by decide +kernel)
theorem dX12_ends_21 : decode cX12_ends 21 = .ok (.getfield 7, 3) := zo_180 (by decide +kernel)
theorem dX12_ends_24 : decode cX12_ends 24 = .ok (.bipush 6, 2) := zo_16 (by decide +kernel)
theorem dX12_ends_26 : decode cX12_ends 26 = .ok (.aload_n 0, 1) := zo_42 (by decide +kernel)
theorem dX12_ends_27 : decode cX12_ends 27 = .ok (.getfield 77, 3) := zo_180 (by decide +kernel)
theorem dX12_ends_30 : decode cX12_ends 30 = .ok (.iastore, 1) := zo_79 (by decide +kernel)
theorem dX12_ends_31 : decode cX12_ends 31 = .ok (.return_, 1) := zo_177 (by decide +kernel)
theorem dX12_also_0 : decode cX12_also 0 = .ok (.aload_n 0, 1) := zo_42 (by decide +kernel)
theorem dX12_also_1 : decode cX12_also 1 = .ok (.getfield 104, 3) := zo_180 (by decide +kernel)
theorem dX12_also_4 : decode cX12_also 4 = .ok (.ifCond .ne 44, 3) := zo_154 (by decide +kernel)
theorem dX12_also_7 : decode cX12_also 7 = .ok (.aload_n 0, 1) := zo_42 (by decide +kernel)
theorem dX12_also_8 : decode cX12_also 8 = .ok (.getfield 7, 3) := zo_180 (by decide +kernel)
theorem dX12_also_11 : decode cX12_also 11 = .ok (.iconst 5, 1) := zo_8 (by decide +kernel)
theorem dX12_also_12 : decode cX12_also 12 = .ok (.iaload, 1) := zo_46 (by decide +kernel)
theorem dX12_also_13 : decode cX12_also 13 = .ok (.ifCond .eq 36, 3) := zo_153 (by decide +kernel)
theorem dX12_also_16 : decode cX12_also 16 = .ok (.aload_n 0, 1) := zo_42 (by decide +kernel)
theorem dX12_also_17 : decode cX12_also 17 = .ok (.getfield 7, 3) := zo_180 (by decide +kernel)
theorem dX12_also_20 : decode cX12_also 20 = .ok (.bipush 6, 2) := zo_16 (by decide +kernel)
theorem dX12_also_22 : decode cX12_also 22 = .ok (.iaload, 1) := zo_46 (by decide +kernel)
theorem dX12_also_23 : decode cX12_also 23 = .ok (.iload_n 2, 1) := zo_28 (by decide +kernel)
theorem dX12_also_24 : decode cX12_also 24 = .ok (.if_icmp .lt 24, 3) := zo_161 (by decide +kernel)
theorem dX12_also_27 : decode cX12_also 27 = .ok (.aload_n 0, 1) := zo_42 (by decide +kernel)
theorem dX12_also_28 : decode cX12_also 28 = .ok (.getfield 7, 3) := zo_180 (by decide +kernel)
theorem dX12_also_31 : decode cX12_also 31 = .ok (.bipush 6, 2) := zo_16 (by decide +kernel)
theorem dX12_also_33 : decode cX12_also 33 = .ok (.iaload, 1) := zo_46 (by decide +kernel)
theorem dX12_also_34 : decode cX12_also 34 = .ok (.iload_n 2, 1) := zo_28 (by decide +kernel)
theorem dX12_also_35 : decode cX12_also 35 = .ok (.if_icmp .ne 14, 3) := zo_160 (by decide +kernel)
theorem dX12_also_38 : decode cX12_also 38 = .ok (.aload_n 0, 1) := zo_42 (by decide +kernel)
theorem dX12_also_39 : decode cX12_also 39 = .ok (.getfield 7, 3) := zo_180 (by decide +kernel)
theorem dX12_also_42 : decode cX12_also 42 = .ok (.iconst 5, 1) := zo_8 (by decide +kernel)
theorem dX12_also_43 : decode cX12_also 43 = .ok (.iaload, 1) := zo_46 (by decide +kernel)
theorem dX12_also_44 : decode cX12_also 44 = .ok (.iload_n 1, 1) := zo_27 (by decide +kernel)
theorem dX12_also_45 : decode cX12_also 45 = .ok (.if_icmp .gt 4, 3) := zo_163 (by decide +kernel)
theorem dX12_also_48 : decode cX12_also 48 = .ok (.return_, 1) := zo_177 (by decide +kernel)
theorem dX12_also_49 : decode cX12_also 49 = .ok (.aload_n 0, 1) := zo_42 (by decide +kernel)
theorem dX12_also_50 : decode cX12_also 50 = .ok (.getfield 7, 3) := zo_180 (by decide +kernel)
theorem dX12_also_53 : decode cX12_also 53 = .ok (.iconst 5, 1) := zo_8 (by decide +kernel)
theorem dX12_also_54 : decode cX12_also 54 = .ok (.iload_n 1, 1) := zo_27 (by decide +kernel)
theorem dX12_also_55 : decode cX12_also 55 = .ok (.iastore, 1) := zo_79 (by decide +kernel)
theorem dX12_also_56 : decode cX12_also 56 = .ok (.aload_n 0, 1) := zo_42 (by decide +kernel)
theorem dX12_also_57 : decode cX12_also 57 = .ok (.getfield 7, 3) := zo_180 (by decide +kernel)
theorem dX12_also_60 : decode cX12_also 60 = .ok (.bipush 6, 2) := zo_16 (by decide +kernel)
theorem dX12_also_62 : decode cX12_also 62 = .ok (.iload_n 2, 1) := zo_28 (by decide +kernel)
theorem dX12_also_63 : decode cX12_also 63 = .ok (.iastore, 1) := zo_79 (by decide +kernel)
theorem dX12_also_64 : decode cX12_also 64 = .ok (.return_, 1) := zo_177 (by decide +kernel)
theorem dX12_numbered_0 : decode cX12_numbered 0 = .ok (.aload_n 0, 1) := zo_42 (by decide +kernel)
theorem dX12_numbered_1 : decode cX12_numbered 1 = .ok (.getfield 104, 3) := zo_180 (by decide +kernel)
theorem dX12_numbered_4 : decode cX12_numbered 4 = .ok (.ifCond .ne 11, 3) := zo_154 (by decide +kernel)
theorem dX12_numbered_7 : decode cX12_numbered 7 = .ok (.aload_n 0, 1) := zo_42 (by decide +kernel)
theorem dX12_numbered_8 : decode cX12_numbered 8 = .ok (.getfield 80, 3) := zo_180 (by decide +kernel)
theorem dX12_numbered_11 : decode cX12_numbered 11 = .ok (.iconst 1, 1) := zo_4 (by decide +kernel)
theorem dX12_numbered_12 : decode cX12_numbered 12 = .ok (.if_icmp .eq 9, 3) := zo_159 (by decide +kernel)
theorem dX12_numbered_15 : decode cX12_numbered 15 = .ok (.aload_n 0, 1) := zo_42 (by decide +kernel)
theorem dX12_numbered_16 : decode cX12_numbered 16 = .ok (.invokevirtual 108, 3) := zo_182 (by decide +kernel)
theorem dX12_numbered_19 : decode cX12_numbered 19 = .ok (.iload_n 1, 1) := zo_27 (by decide +kernel)
theorem dX12_numbered_20 : decode cX12_numbered 20 = .ok (.ireturn, 1) := zo_172 (by decide +kernel)
theorem dX12_numbered_21 : decode cX12_numbered 21 = .ok (.aload_n 0, 1) := zo_42 (by decide +kernel)
theorem dX12_numbered_22 : decode cX12_numbered 22 = .ok (.getfield 101, 3) := zo_180 (by decide +kernel)
theorem dX12_numbered_25 : decode cX12_numbered 25 = .ok (.istore_n 3, 1) := zo_62 (by decide +kernel)
theorem dX12_numbered_26 : decode cX12_numbered 26 = .ok (.iload_n 3, 1) := zo_29 (by decide +kernel)
theorem dX12_numbered_27 : decode cX12_numbered 27 = .ok (.iload_n 1, 1) := zo_27 (by decide +kernel)
theorem dX12_numbered_28 : decode cX12_numbered 28 = .ok (.iload_n 2, 1) := zo_28 (by decide +kernel)
theorem dX12_numbered_29 : decode cX12_numbered 29 = .ok (.invokestatic 111, 3) := zo_184 (by decide +kernel)
theorem dX12_numbered_32 : decode cX12_numbered 32 = .ok (.ifCond .ne 12, 3) := zo_154 (by decide +kernel)
theorem dX12_numbered_35 : decode cX12_numbered 35 = .ok (.aload_n 0, 1) := zo_42 (by decide +kernel)
theorem dX12_numbered_36 : decode cX12_numbered 36 = .ok (.iconst 2, 1) := zo_5 (by decide +kernel)
theorem dX12_numbered_37 : decode cX12_numbered 37 = .ok (.aload_n 0, 1) := zo_42 (by decide +kernel)
theorem dX12_numbered_38 : decode cX12_numbered 38 = .ok (.getfield 77, 3) := zo_180 (by decide +kernel)
theorem dX12_numbered_41 : decode cX12_numbered 41 = .ok (.invokevirtual 115, 3) := zo_182 (by decide +kernel)
theorem dX12_numbered_44 : decode cX12_numbered 44 = .ok (.aload_n 0, 1) := zo_42 (by decide +kernel)
theorem dX12_numbered_45 : decode cX12_numbered 45 = .ok (.invokevirtual 119, 3) := zo_182 (by decide +kernel)
theorem dX12_numbered_48 : decode cX12_numbered 48 = .ok (.iload_n 3, 1) := zo_29 (by decide +kernel)
theorem dX12_numbered_49 : decode cX12_numbered 49 = .ok (.iload_n 1, 1) := zo_27 (by decide +kernel)
theorem dX12_numbered_50 : decode cX12_numbered 50 = .ok (.iload_n 2, 1) := zo_28 (by decide +kernel)
theorem dX12_numbered_51 : decode cX12_numbered 51 = .ok (.invokestatic 111, 3) := zo_184 (by decide +kernel)
theorem dX12_numbered_54 : decode cX12_numbered 54 = .ok (.ifCond .eq 7, 3) := zo_153 (by decide +kernel)
theorem dX12_numbered_57 : decode cX12_numbered 57 = .ok (.iload_n 3, 1) := zo_29 (by decide +kernel)
theorem dX12_numbered_58 : decode cX12_numbered 58 = .ok (.goto 4, 3) := zo_167 (by decide +kernel)
theorem dX12_numbered_61 : decode cX12_numbered 61 = .ok (.iload_n 1, 1) := zo_27 (by decide +kernel)
theorem dX12_numbered_62 : decode cX12_numbered 62 = .ok (.ireturn, 1) := zo_172 (by decide +kernel)
theorem dX12_wordIn_0 : decode cX12_wordIn 0 = .ok (.aload_n 0, 1) := zo_42 (by decide +kernel)
theorem dX12_wordIn_1 : decode cX12_wordIn 1 = .ok (.getfield 104, 3) := zo_180 (by decide +kernel)
theorem dX12_wordIn_4 : decode cX12_wordIn 4 = .ok (.ifCond .ne 23, 3) := zo_154 (by decide +kernel)
theorem dX12_wordIn_7 : decode cX12_wordIn 7 = .ok (.aload_n 0, 1) := zo_42 (by decide +kernel)
theorem dX12_wordIn_8 : decode cX12_wordIn 8 = .ok (.getfield 80, 3) := zo_180 (by decide +kernel)
theorem dX12_wordIn_11 : decode cX12_wordIn 11 = .ok (.iconst 3, 1) := zo_6 (by decide +kernel)
theorem dX12_wordIn_12 : decode cX12_wordIn 12 = .ok (.if_icmp .ne 15, 3) := zo_160 (by decide +kernel)
theorem dX12_wordIn_15 : decode cX12_wordIn 15 = .ok (.aload_n 0, 1) := zo_42 (by decide +kernel)
theorem dX12_wordIn_16 : decode cX12_wordIn 16 = .ok (.getfield 95, 3) := zo_180 (by decide +kernel)
theorem dX12_wordIn_19 : decode cX12_wordIn 19 = .ok (.iload_n 1, 1) := zo_27 (by decide +kernel)
theorem dX12_wordIn_20 : decode cX12_wordIn 20 = .ok (.iload_n 2, 1) := zo_28 (by decide +kernel)
theorem dX12_wordIn_21 : decode cX12_wordIn 21 = .ok (.invokestatic 111, 3) := zo_184 (by decide +kernel)
theorem dX12_wordIn_24 : decode cX12_wordIn 24 = .ok (.ifCond .ne 9, 3) := zo_154 (by decide +kernel)
theorem dX12_wordIn_27 : decode cX12_wordIn 27 = .ok (.aload_n 0, 1) := zo_42 (by decide +kernel)
theorem dX12_wordIn_28 : decode cX12_wordIn 28 = .ok (.invokevirtual 108, 3) := zo_182 (by decide +kernel)
theorem dX12_wordIn_31 : decode cX12_wordIn 31 = .ok (.iconst 0, 1) := zo_3 (by decide +kernel)
theorem dX12_wordIn_32 : decode cX12_wordIn 32 = .ok (.ireturn, 1) := zo_172 (by decide +kernel)
theorem dX12_wordIn_33 : decode cX12_wordIn 33 = .ok (.aload_n 0, 1) := zo_42 (by decide +kernel)
theorem dX12_wordIn_34 : decode cX12_wordIn 34 = .ok (.getfield 95, 3) := zo_180 (by decide +kernel)
theorem dX12_wordIn_37 : decode cX12_wordIn 37 = .ok (.istore_n 3, 1) := zo_62 (by decide +kernel)
theorem dX12_wordIn_38 : decode cX12_wordIn 38 = .ok (.aload_n 0, 1) := zo_42 (by decide +kernel)
theorem dX12_wordIn_39 : decode cX12_wordIn 39 = .ok (.invokevirtual 119, 3) := zo_182 (by decide +kernel)
theorem dX12_wordIn_42 : decode cX12_wordIn 42 = .ok (.iload_n 3, 1) := zo_29 (by decide +kernel)
theorem dX12_wordIn_43 : decode cX12_wordIn 43 = .ok (.ireturn, 1) := zo_172 (by decide +kernel)
theorem dX12_endsLine_0 : decode cX12_endsLine 0 = .ok (.aload_n 0, 1) := zo_42 (by decide +kernel)
theorem dX12_endsLine_1 : decode cX12_endsLine 1 = .ok (.getfield 104, 3) := zo_180 (by decide +kernel)
theorem dX12_endsLine_4 : decode cX12_endsLine 4 = .ok (.ifCond .ne 18, 3) := zo_154 (by decide +kernel)
theorem dX12_endsLine_7 : decode cX12_endsLine 7 = .ok (.aload_n 0, 1) := zo_42 (by decide +kernel)
theorem dX12_endsLine_8 : decode cX12_endsLine 8 = .ok (.getfield 80, 3) := zo_180 (by decide +kernel)
theorem dX12_endsLine_11 : decode cX12_endsLine 11 = .ok (.iconst 2, 1) := zo_5 (by decide +kernel)
theorem dX12_endsLine_12 : decode cX12_endsLine 12 = .ok (.if_icmp .ne 10, 3) := zo_160 (by decide +kernel)
theorem dX12_endsLine_15 : decode cX12_endsLine 15 = .ok (.aload_n 0, 1) := zo_42 (by decide +kernel)
theorem dX12_endsLine_16 : decode cX12_endsLine 16 = .ok (.invokevirtual 119, 3) := zo_182 (by decide +kernel)
theorem dX12_endsLine_19 : decode cX12_endsLine 19 = .ok (.goto 7, 3) := zo_167 (by decide +kernel)
theorem dX12_endsLine_22 : decode cX12_endsLine 22 = .ok (.aload_n 0, 1) := zo_42 (by decide +kernel)
theorem dX12_endsLine_23 : decode cX12_endsLine 23 = .ok (.invokevirtual 108, 3) := zo_182 (by decide +kernel)
theorem dX12_endsLine_26 : decode cX12_endsLine 26 = .ok (.return_, 1) := zo_177 (by decide +kernel)
theorem dX12_crossingTold_0 : decode cX12_crossingTold 0 = .ok (.aload_n 0, 1) := zo_42 (by decide +kernel)
theorem dX12_crossingTold_1 : decode cX12_crossingTold 1 = .ok (.iconst 0, 1) := zo_3 (by decide +kernel)
theorem dX12_crossingTold_2 : decode cX12_crossingTold 2 = .ok (.bipush 6, 2) := zo_16 (by decide +kernel)
theorem dX12_crossingTold_4 : decode cX12_crossingTold 4 = .ok (.invokevirtual 122, 3) := zo_182 (by decide +kernel)
theorem dX12_crossingTold_7 : decode cX12_crossingTold 7 = .ok (.istore_n 1, 1) := zo_60 (by decide +kernel)
theorem dX12_crossingTold_8 : decode cX12_crossingTold 8 = .ok (.aload_n 0, 1) := zo_42 (by decide +kernel)
theorem dX12_crossingTold_9 : decode cX12_crossingTold 9 = .ok (.iload_n 1, 1) := zo_27 (by decide +kernel)
theorem dX12_crossingTold_10 : decode cX12_crossingTold 10 = .ok (.aload_n 0, 1) := zo_42 (by decide +kernel)
theorem dX12_crossingTold_11 : decode cX12_crossingTold 11 = .ok (.getfield 126, 3) := zo_180 (by decide +kernel)
theorem dX12_crossingTold_14 : decode cX12_crossingTold 14 = .ok (.if_icmp .le 7, 3) := zo_164 (by decide +kernel)
theorem dX12_crossingTold_17 : decode cX12_crossingTold 17 = .ok (.iload_n 1, 1) := zo_27 (by decide +kernel)
theorem dX12_crossingTold_18 : decode cX12_crossingTold 18 = .ok (.goto 7, 3) := zo_167 (by decide +kernel)
theorem dX12_crossingTold_21 : decode cX12_crossingTold 21 = .ok (.aload_n 0, 1) := zo_42 (by decide +kernel)
theorem dX12_crossingTold_22 : decode cX12_crossingTold 22 = .ok (.getfield 126, 3) := zo_180 (by decide +kernel)
theorem dX12_crossingTold_25 : decode cX12_crossingTold 25 = .ok (.putfield 126, 3) := zo_181 (by decide +kernel)
theorem dX12_crossingTold_28 : decode cX12_crossingTold 28 = .ok (.iload_n 1, 1) := zo_27 (by decide +kernel)
theorem dX12_crossingTold_29 : decode cX12_crossingTold 29 = .ok (.ireturn, 1) := zo_172 (by decide +kernel)
def zPal (f g : Nat → Int32) : Prop := ∀ j, j ≠ 5 → j ≠ 6 → g j = f j
theorem zPal_rf (f : Nat → Int32) : zPal f f := fun _ _ _ => rfl
theorem zPal.tr {f g h : Nat → Int32} (a : zPal f g) (b : zPal g h) : zPal f h := fun j h1 h2 => (b j h1 h2).trans (a j h1 h2)
theorem zPal_u5 {f g : Nat → Int32} {v : Int32} (a : zPal f g) : zPal f (upd g 5 v) := fun j h1 h2 => (show upd g 5 v j = g j by unfold upd; rw [if_neg h1]).trans (a j h1 h2)
theorem zPal_u6 {f g : Nat → Int32} {v : Int32} (a : zPal f g) : zPal f (upd g 6 v) := fun j h1 h2 => (show upd g 6 v j = g j by unfold upd; rw [if_neg h2]).trans (a j h1 h2)
def zLF (f : Nat → Int32) : Prop := (0 ≤ (f 0).toInt ∧ (f 0).toInt ≤ 7) ∧ (∀ c, c < 7 → (0 ≤ (f (2 + c)).toInt ∧ (f (2 + c)).toInt ≤ 4) ∧ (0 ≤ (f (9 + c)).toInt ∧ (f (9 + c)).toInt ≤ 3) ∧ 0 ≤ (f (16 + c)).toInt ∧ (f (16 + c)).toInt ≤ 9) ∧ ∀ j, j < 28 → 0 ≤ (f (23 + j)).toInt ∧ (f (23 + j)).toInt ≤ 6
def zCF (m : Int) (f : Nat → Int32) : Prop := 0 ≤ (f 0).toInt ∧ (f 0).toInt ≤ m
theorem zLF_upd {f : Nat → Int32} {k : Nat} {v : Int32} (h : zLF f) (c0 : k = 0 → 0 ≤ v.toInt ∧ v.toInt ≤ 7) (c1 : 2 ≤ k ∧ k < 9 → 0 ≤ v.toInt ∧ v.toInt ≤ 4) (c2 : 9 ≤ k ∧ k < 16 → 0 ≤ v.toInt ∧ v.toInt ≤ 3) (c3 : 16 ≤ k ∧ k < 23 → 0 ≤ v.toInt ∧ v.toInt ≤ 9) (c4 : 23 ≤ k ∧ k < 51 → 0 ≤ v.toInt ∧ v.toInt ≤ 6) : zLF (upd f k v) := by
  have g : ∀ (i : Nat) (lo hi : Int), (i = k → lo ≤ v.toInt ∧ v.toInt ≤ hi) → lo ≤ (f i).toInt ∧ (f i).toInt ≤ hi → lo ≤ (upd f k v i).toInt ∧ (upd f k v i).toInt ≤ hi := by
    intro i lo hi a b
    unfold upd
    split
    · exact a (by first | with_reducible assumption | assumption)
    · exact b
  exact ⟨g 0 0 7 (fun e => c0 e.symm) h.1, fun c hc => ⟨g _ 0 4 (fun e => c1 (by omega)) (h.2.1 c hc).1, g _ 0 3 (fun e => c2 (by omega)) (h.2.1 c hc).2.1, g _ 0 9 (fun e => c3 (by omega)) (h.2.1 c hc).2.2⟩, fun j hj => g _ 0 6 (fun e => c4 (by omega)) (h.2.2 j hj)⟩
theorem zCF_upd {m : Int} {f : Nat → Int32} {k : Nat} {v : Int32} (h : zCF m f) (c0 : k = 0 → 0 ≤ v.toInt ∧ v.toInt ≤ m) : zCF m (upd f k v) := by
  unfold zCF upd
  split
  · exact c0 (by omega)
  · exact h
def zMu (w t n sz : Int32) : Nat := if w.toInt = 0 then (if t.toInt = 0 then 1 else (sz.toInt - n.toInt).toNat + 2) else 0
theorem zMu_lt {w t n w' t' n' sz : Int32} (h1 : w.toInt = 0) (h2 : ¬ t.toInt = 0) (h3 : n'.toInt ≤ sz.toInt) (h4 : ¬ w'.toInt = 0 ∨ n.toInt < n'.toInt ∨ t'.toInt = 0) : zMu w' t' n' sz < zMu w t n sz := by
  have a : zMu w t n sz = (sz.toInt - n.toInt).toNat + 2 := by unfold zMu; rw [if_pos h1, if_neg h2]
  rw [a]
  unfold zMu
  split
  · split
    · omega
    · omega
  · omega
theorem m_co_X12_crossingTold : Cond.code yX12_crossingTold cX12_crossingTold 2 (some .int) ∈ zT := zmem1 zsub_6 193 rfl rfl
theorem m_ml_RX12_129 : Cond.methodLink RX12 129 yX12_crossingTold ∈ zT := zmem1 zsub_6 190 rfl rfl
theorem m_im_X12_crossingTold : Cond.instanceMethod yX12_crossingTold ∈ zT := zmem1 zsub_6 192 rfl rfl
theorem m_se_X12_crossingTold : Cond.selects RX12 yX12_crossingTold yX12_crossingTold ∈ zT := zmem 53 rfl rfl
theorem m_co_X12_wordIn : Cond.code yX12_wordIn cX12_wordIn 4 (some .int) ∈ zT := zmem1 zsub_6 177 rfl rfl
theorem m_ml_RX12_133 : Cond.methodLink RX12 133 yX12_wordIn ∈ zT := zmem1 zsub_6 174 rfl rfl
theorem m_im_X12_wordIn : Cond.instanceMethod yX12_wordIn ∈ zT := zmem1 zsub_6 176 rfl rfl
theorem m_se_X12_wordIn : Cond.selects RX12 yX12_wordIn yX12_wordIn ∈ zT := zmem 49 rfl rfl
theorem m_co_X12_endsLine : Cond.code yX12_endsLine cX12_endsLine 1 none ∈ zT := zmem1 zsub_6 201 rfl rfl
theorem m_ml_RX12_140 : Cond.methodLink RX12 140 yX12_endsLine ∈ zT := zmem1 zsub_6 198 rfl rfl
theorem m_im_X12_endsLine : Cond.instanceMethod yX12_endsLine ∈ zT := zmem1 zsub_6 200 rfl rfl
theorem m_se_X12_endsLine : Cond.selects RX12 yX12_endsLine yX12_endsLine ∈ zT := zmem 55 rfl rfl
theorem m_co_X12_crossTold : Cond.code yX12_crossTold cX12_crossTold 4 none ∈ zT := zmem1 zsub_6 185 rfl rfl
theorem m_ml_RX12_136 : Cond.methodLink RX12 136 yX12_crossTold ∈ zT := zmem1 zsub_6 182 rfl rfl
theorem m_im_X12_crossTold : Cond.instanceMethod yX12_crossTold ∈ zT := zmem1 zsub_6 184 rfl rfl
theorem m_se_X12_crossTold : Cond.selects RX12 yX12_crossTold yX12_crossTold ∈ zT := zmem 51 rfl rfl
theorem kV_RX12_129 {R : Room} {s : State} {args : Array Value} {d mc ms : Nat} (hts : ∀ w ∈ zT, w.before args s = true) (h1 : d + 1 ≤ R.frames) (h2 : 8 + (2 + 11) + 40 * d ≤ R.locals) : CallW R s args RX12 RX12 129 yX12_crossingTold cX12_crossingTold 2 (some .int) (zW yX12_crossingTold cX12_crossingTold 2 (some .int)) (zR d mc ms) mc ms 0 := z_cwV hts m_co_X12_crossingTold m_ml_RX12_129 m_im_X12_crossingTold m_se_X12_crossingTold m_ii_RX12 (by decide +kernel) h1 h2
theorem kV_RX12_133 {R : Room} {s : State} {args : Array Value} {d mc ms : Nat} (hts : ∀ w ∈ zT, w.before args s = true) (h1 : d + 1 ≤ R.frames) (h2 : 8 + (4 + 11) + 40 * d ≤ R.locals) : CallW R s args RX12 RX12 133 yX12_wordIn cX12_wordIn 4 (some .int) (zW yX12_wordIn cX12_wordIn 4 (some .int)) (zR d mc ms) mc ms 2 := z_cwV hts m_co_X12_wordIn m_ml_RX12_133 m_im_X12_wordIn m_se_X12_wordIn m_ii_RX12 (by decide +kernel) h1 h2
theorem kV_RX12_140 {R : Room} {s : State} {args : Array Value} {d mc ms : Nat} (hts : ∀ w ∈ zT, w.before args s = true) (h1 : d + 1 ≤ R.frames) (h2 : 8 + (1 + 11) + 40 * d ≤ R.locals) : CallW R s args RX12 RX12 140 yX12_endsLine cX12_endsLine 1 none (zW yX12_endsLine cX12_endsLine 1 none) (zR d mc ms) mc ms 0 := z_cwV hts m_co_X12_endsLine m_ml_RX12_140 m_im_X12_endsLine m_se_X12_endsLine m_ii_RX12 (by decide +kernel) h1 h2
theorem kV_RX12_136 {R : Room} {s : State} {args : Array Value} {d mc ms : Nat} (hts : ∀ w ∈ zT, w.before args s = true) (h1 : d + 1 ≤ R.frames) (h2 : 8 + (4 + 11) + 40 * d ≤ R.locals) : CallW R s args RX12 RX12 136 yX12_crossTold cX12_crossTold 4 none (zW yX12_crossTold cX12_crossTold 4 none) (zR d mc ms) mc ms 1 := z_cwV hts m_co_X12_crossTold m_ml_RX12_136 m_im_X12_crossTold m_se_X12_crossTold m_ii_RX12 (by decide +kernel) h1 h2
theorem dX12_crossTold_0 : decode cX12_crossTold 0 = .ok (.aload_n 0, 1) := zo_42 (by decide +kernel)
theorem dX12_crossTold_1 : decode cX12_crossTold 1 = .ok (.getfield 17, 3) := zo_180 (by decide +kernel)
theorem dX12_crossTold_4 : decode cX12_crossTold 4 = .ok (.iconst 0, 1) := zo_3 (by decide +kernel)
theorem dX12_crossTold_5 : decode cX12_crossTold 5 = .ok (.iaload, 1) := zo_46 (by decide +kernel)
theorem dX12_crossTold_6 : decode cX12_crossTold 6 = .ok (.bipush 7, 2) := zo_16 (by decide +kernel)
theorem dX12_crossTold_8 : decode cX12_crossTold 8 = .ok (.if_icmp .lt 9, 3) := zo_161 (by decide +kernel)
theorem dX12_crossTold_11 : decode cX12_crossTold 11 = .ok (.aload_n 0, 1) := zo_42 (by decide +kernel)
theorem dX12_crossTold_12 : decode cX12_crossTold 12 = .ok (.iconst 3, 1) := zo_6 (by decide +kernel)
theorem dX12_crossTold_13 : decode cX12_crossTold 13 = .ok (.iload_n 1, 1) := zo_27 (by decide +kernel)
theorem dX12_crossTold_14 : decode cX12_crossTold 14 = .ok (.invokevirtual 115, 3) := zo_182 (by decide +kernel)
theorem dX12_crossTold_17 : decode cX12_crossTold 17 = .ok (.iconst 0, 1) := zo_3 (by decide +kernel)
theorem dX12_crossTold_18 : decode cX12_crossTold 18 = .ok (.istore_n 2, 1) := zo_61 (by decide +kernel)
theorem dX12_crossTold_19 : decode cX12_crossTold 19 = .ok (.aload_n 0, 1) := zo_42 (by decide +kernel)
theorem dX12_crossTold_20 : decode cX12_crossTold 20 = .ok (.getfield 104, 3) := zo_180 (by decide +kernel)
theorem dX12_crossTold_23 : decode cX12_crossTold 23 = .ok (.ifCond .ne 81, 3) := zo_154 (by decide +kernel)
theorem dX12_crossTold_26 : decode cX12_crossTold 26 = .ok (.aload_n 0, 1) := zo_42 (by decide +kernel)
theorem dX12_crossTold_27 : decode cX12_crossTold 27 = .ok (.getfield 80, 3) := zo_180 (by decide +kernel)
theorem dX12_crossTold_30 : decode cX12_crossTold 30 = .ok (.iconst 1, 1) := zo_4 (by decide +kernel)
theorem dX12_crossTold_31 : decode cX12_crossTold 31 = .ok (.if_icmp .ne 73, 3) := zo_160 (by decide +kernel)
theorem dX12_crossTold_34 : decode cX12_crossTold 34 = .ok (.iload_n 2, 1) := zo_28 (by decide +kernel)
theorem dX12_crossTold_35 : decode cX12_crossTold 35 = .ok (.iconst 4, 1) := zo_7 (by decide +kernel)
theorem dX12_crossTold_36 : decode cX12_crossTold 36 = .ok (.if_icmp .ne 12, 3) := zo_160 (by decide +kernel)
theorem dX12_crossTold_39 : decode cX12_crossTold 39 = .ok (.aload_n 0, 1) := zo_42 (by decide +kernel)
theorem dX12_crossTold_40 : decode cX12_crossTold 40 = .ok (.iconst 3, 1) := zo_6 (by decide +kernel)
theorem dX12_crossTold_41 : decode cX12_crossTold 41 = .ok (.aload_n 0, 1) := zo_42 (by decide +kernel)
theorem dX12_crossTold_42 : decode cX12_crossTold 42 = .ok (.getfield 77, 3) := zo_180 (by decide +kernel)
theorem dX12_crossTold_45 : decode cX12_crossTold 45 = .ok (.invokevirtual 115, 3) := zo_182 (by decide +kernel)
theorem dX12_crossTold_48 : decode cX12_crossTold 48 = .ok (.aload_n 0, 1) := zo_42 (by decide +kernel)
theorem dX12_crossTold_49 : decode cX12_crossTold 49 = .ok (.invokevirtual 129, 3) := zo_182 (by decide +kernel)
theorem dX12_crossTold_52 : decode cX12_crossTold 52 = .ok (.istore_n 3, 1) := zo_62 (by decide +kernel)
theorem dX12_crossTold_53 : decode cX12_crossTold 53 = .ok (.aload_n 0, 1) := zo_42 (by decide +kernel)
theorem dX12_crossTold_54 : decode cX12_crossTold 54 = .ok (.getfield 17, 3) := zo_180 (by decide +kernel)
theorem dX12_crossTold_57 : decode cX12_crossTold 57 = .ok (.iconst 0, 1) := zo_3 (by decide +kernel)
theorem dX12_crossTold_58 : decode cX12_crossTold 58 = .ok (.iaload, 1) := zo_46 (by decide +kernel)
theorem dX12_crossTold_59 : decode cX12_crossTold 59 = .ok (.bipush 7, 2) := zo_16 (by decide +kernel)
theorem dX12_crossTold_61 : decode cX12_crossTold 61 = .ok (.if_icmp .ge 27, 3) := zo_162 (by decide +kernel)
theorem dX12_crossTold_64 : decode cX12_crossTold 64 = .ok (.iload_n 2, 1) := zo_28 (by decide +kernel)
theorem dX12_crossTold_65 : decode cX12_crossTold 65 = .ok (.iconst 4, 1) := zo_7 (by decide +kernel)
theorem dX12_crossTold_66 : decode cX12_crossTold 66 = .ok (.if_icmp .ge 22, 3) := zo_162 (by decide +kernel)
theorem dX12_crossTold_69 : decode cX12_crossTold 69 = .ok (.aload_n 0, 1) := zo_42 (by decide +kernel)
theorem dX12_crossTold_70 : decode cX12_crossTold 70 = .ok (.getfield 17, 3) := zo_180 (by decide +kernel)
theorem dX12_crossTold_73 : decode cX12_crossTold 73 = .ok (.bipush 23, 2) := zo_16 (by decide +kernel)
theorem dX12_crossTold_75 : decode cX12_crossTold 75 = .ok (.iconst 4, 1) := zo_7 (by decide +kernel)
theorem dX12_crossTold_76 : decode cX12_crossTold 76 = .ok (.aload_n 0, 1) := zo_42 (by decide +kernel)
theorem dX12_crossTold_77 : decode cX12_crossTold 77 = .ok (.getfield 17, 3) := zo_180 (by decide +kernel)
theorem dX12_crossTold_80 : decode cX12_crossTold 80 = .ok (.iconst 0, 1) := zo_3 (by decide +kernel)
theorem dX12_crossTold_81 : decode cX12_crossTold 81 = .ok (.iaload, 1) := zo_46 (by decide +kernel)
theorem dX12_crossTold_82 : decode cX12_crossTold 82 = .ok (.imul, 1) := zo_104 (by decide +kernel)
theorem dX12_crossTold_83 : decode cX12_crossTold 83 = .ok (.iadd, 1) := zo_96 (by decide +kernel)
theorem dX12_crossTold_84 : decode cX12_crossTold 84 = .ok (.iload_n 2, 1) := zo_28 (by decide +kernel)
theorem dX12_crossTold_85 : decode cX12_crossTold 85 = .ok (.iadd, 1) := zo_96 (by decide +kernel)
theorem dX12_crossTold_86 : decode cX12_crossTold 86 = .ok (.iload_n 3, 1) := zo_29 (by decide +kernel)
theorem dX12_crossTold_87 : decode cX12_crossTold 87 = .ok (.iastore, 1) := zo_79 (by decide +kernel)
theorem dX12_crossTold_88 : decode cX12_crossTold 88 = .ok (.iload_n 2, 1) := zo_28 (by decide +kernel)
theorem dX12_crossTold_89 : decode cX12_crossTold 89 = .ok (.iconst 4, 1) := zo_7 (by decide +kernel)
theorem dX12_crossTold_90 : decode cX12_crossTold 90 = .ok (.if_icmp .ge 9, 3) := zo_162 (by decide +kernel)
theorem dX12_crossTold_93 : decode cX12_crossTold 93 = .ok (.iload_n 2, 1) := zo_28 (by decide +kernel)
theorem dX12_crossTold_94 : decode cX12_crossTold 94 = .ok (.iconst 1, 1) := zo_4 (by decide +kernel)
theorem dX12_crossTold_95 : decode cX12_crossTold 95 = .ok (.iadd, 1) := zo_96 (by decide +kernel)
theorem dX12_crossTold_96 : decode cX12_crossTold 96 = .ok (.goto 4, 3) := zo_167 (by decide +kernel)
theorem dX12_crossTold_99 : decode cX12_crossTold 99 = .ok (.iconst 4, 1) := zo_7 (by decide +kernel)
theorem dX12_crossTold_100 : decode cX12_crossTold 100 = .ok (.istore_n 2, 1) := zo_61 (by decide +kernel)
theorem dX12_crossTold_101 : decode cX12_crossTold 101 = .ok (.goto (-82), 3) := zo_167 (by decide +kernel)
theorem dX12_crossTold_104 : decode cX12_crossTold 104 = .ok (.aload_n 0, 1) := zo_42 (by decide +kernel)
theorem dX12_crossTold_105 : decode cX12_crossTold 105 = .ok (.getfield 17, 3) := zo_180 (by decide +kernel)
theorem dX12_crossTold_108 : decode cX12_crossTold 108 = .ok (.iconst 0, 1) := zo_3 (by decide +kernel)
theorem dX12_crossTold_109 : decode cX12_crossTold 109 = .ok (.iaload, 1) := zo_46 (by decide +kernel)
theorem dX12_crossTold_110 : decode cX12_crossTold 110 = .ok (.bipush 7, 2) := zo_16 (by decide +kernel)
theorem dX12_crossTold_112 : decode cX12_crossTold 112 = .ok (.if_icmp .lt 4, 3) := zo_161 (by decide +kernel)
theorem dX12_crossTold_115 : decode cX12_crossTold 115 = .ok (.return_, 1) := zo_177 (by decide +kernel)
theorem dX12_crossTold_116 : decode cX12_crossTold 116 = .ok (.aload_n 0, 1) := zo_42 (by decide +kernel)
theorem dX12_crossTold_117 : decode cX12_crossTold 117 = .ok (.getfield 17, 3) := zo_180 (by decide +kernel)
theorem dX12_crossTold_120 : decode cX12_crossTold 120 = .ok (.iconst 2, 1) := zo_5 (by decide +kernel)
theorem dX12_crossTold_121 : decode cX12_crossTold 121 = .ok (.aload_n 0, 1) := zo_42 (by decide +kernel)
theorem dX12_crossTold_122 : decode cX12_crossTold 122 = .ok (.getfield 17, 3) := zo_180 (by decide +kernel)
theorem dX12_crossTold_125 : decode cX12_crossTold 125 = .ok (.iconst 0, 1) := zo_3 (by decide +kernel)
theorem dX12_crossTold_126 : decode cX12_crossTold 126 = .ok (.iaload, 1) := zo_46 (by decide +kernel)
theorem dX12_crossTold_127 : decode cX12_crossTold 127 = .ok (.iadd, 1) := zo_96 (by decide +kernel)
theorem dX12_crossTold_128 : decode cX12_crossTold 128 = .ok (.iload_n 2, 1) := zo_28 (by decide +kernel)
theorem dX12_crossTold_129 : decode cX12_crossTold 129 = .ok (.iastore, 1) := zo_79 (by decide +kernel)
theorem dX12_crossTold_130 : decode cX12_crossTold 130 = .ok (.aload_n 0, 1) := zo_42 (by decide +kernel)
theorem dX12_crossTold_131 : decode cX12_crossTold 131 = .ok (.getfield 17, 3) := zo_180 (by decide +kernel)
theorem dX12_crossTold_134 : decode cX12_crossTold 134 = .ok (.iconst 0, 1) := zo_3 (by decide +kernel)
theorem dX12_crossTold_135 : decode cX12_crossTold 135 = .ok (.dup2, 1) := zo_92 (by decide +kernel)
theorem dX12_crossTold_136 : decode cX12_crossTold 136 = .ok (.iaload, 1) := zo_46 (by decide +kernel)
theorem dX12_crossTold_137 : decode cX12_crossTold 137 = .ok (.iconst 1, 1) := zo_4 (by decide +kernel)
theorem dX12_crossTold_138 : decode cX12_crossTold 138 = .ok (.iadd, 1) := zo_96 (by decide +kernel)
theorem dX12_crossTold_139 : decode cX12_crossTold 139 = .ok (.iastore, 1) := zo_79 (by decide +kernel)
theorem dX12_crossTold_140 : decode cX12_crossTold 140 = .ok (.return_, 1) := zo_177 (by decide +kernel)
theorem dX12_landLine_0 : decode cX12_landLine 0 = .ok (.aload_n 0, 1) := zo_42 (by decide +kernel)
theorem dX12_landLine_1 : decode cX12_landLine 1 = .ok (.getfield 77, 3) := zo_180 (by decide +kernel)
theorem dX12_landLine_4 : decode cX12_landLine 4 = .ok (.istore_n 1, 1) := zo_60 (by decide +kernel)
theorem dX12_landLine_5 : decode cX12_landLine 5 = .ok (.aload_n 0, 1) := zo_42 (by decide +kernel)
theorem dX12_landLine_6 : decode cX12_landLine 6 = .ok (.iconst 1, 1) := zo_4 (by decide +kernel)
theorem dX12_landLine_7 : decode cX12_landLine 7 = .ok (.iconst 4, 1) := zo_7 (by decide +kernel)
theorem dX12_landLine_8 : decode cX12_landLine 8 = .ok (.invokevirtual 133, 3) := zo_182 (by decide +kernel)
theorem dX12_landLine_11 : decode cX12_landLine 11 = .ok (.istore_n 2, 1) := zo_61 (by decide +kernel)
theorem dX12_landLine_12 : decode cX12_landLine 12 = .ok (.aload_n 0, 1) := zo_42 (by decide +kernel)
theorem dX12_landLine_13 : decode cX12_landLine 13 = .ok (.getfield 104, 3) := zo_180 (by decide +kernel)
theorem dX12_landLine_16 : decode cX12_landLine 16 = .ok (.ifCond .eq 7, 3) := zo_153 (by decide +kernel)
theorem dX12_landLine_19 : decode cX12_landLine 19 = .ok (.iconst 0, 1) := zo_3 (by decide +kernel)
theorem dX12_landLine_20 : decode cX12_landLine 20 = .ok (.goto 4, 3) := zo_167 (by decide +kernel)
theorem dX12_landLine_23 : decode cX12_landLine 23 = .ok (.iload_n 2, 1) := zo_28 (by decide +kernel)
theorem dX12_landLine_24 : decode cX12_landLine 24 = .ok (.tableswitch 105 1 4 #[32, 40, 63, 87], 32) := by decide +kernel
theorem dX12_landLine_56 : decode cX12_landLine 56 = .ok (.aload_n 0, 1) := zo_42 (by decide +kernel)
theorem dX12_landLine_57 : decode cX12_landLine 57 = .ok (.iload_n 1, 1) := zo_27 (by decide +kernel)
theorem dX12_landLine_58 : decode cX12_landLine 58 = .ok (.invokevirtual 136, 3) := zo_182 (by decide +kernel)
theorem dX12_landLine_61 : decode cX12_landLine 61 = .ok (.goto 68, 3) := zo_167 (by decide +kernel)
theorem dX12_landLine_64 : decode cX12_landLine 64 = .ok (.aload_n 0, 1) := zo_42 (by decide +kernel)
theorem dX12_landLine_65 : decode cX12_landLine 65 = .ok (.invokevirtual 129, 3) := zo_182 (by decide +kernel)
theorem dX12_landLine_68 : decode cX12_landLine 68 = .ok (.istore_n 3, 1) := zo_62 (by decide +kernel)
theorem dX12_landLine_69 : decode cX12_landLine 69 = .ok (.aload_n 0, 1) := zo_42 (by decide +kernel)
theorem dX12_landLine_70 : decode cX12_landLine 70 = .ok (.getfield 17, 3) := zo_180 (by decide +kernel)
theorem dX12_landLine_73 : decode cX12_landLine 73 = .ok (.bipush 9, 2) := zo_16 (by decide +kernel)
theorem dX12_landLine_75 : decode cX12_landLine 75 = .ok (.iload_n 3, 1) := zo_29 (by decide +kernel)
theorem dX12_landLine_76 : decode cX12_landLine 76 = .ok (.iadd, 1) := zo_96 (by decide +kernel)
theorem dX12_landLine_77 : decode cX12_landLine 77 = .ok (.aload_n 0, 1) := zo_42 (by decide +kernel)
theorem dX12_landLine_78 : decode cX12_landLine 78 = .ok (.iconst 0, 1) := zo_3 (by decide +kernel)
theorem dX12_landLine_79 : decode cX12_landLine 79 = .ok (.iconst 3, 1) := zo_6 (by decide +kernel)
theorem dX12_landLine_80 : decode cX12_landLine 80 = .ok (.invokevirtual 122, 3) := zo_182 (by decide +kernel)
theorem dX12_landLine_83 : decode cX12_landLine 83 = .ok (.iastore, 1) := zo_79 (by decide +kernel)
theorem dX12_landLine_84 : decode cX12_landLine 84 = .ok (.goto 45, 3) := zo_167 (by decide +kernel)
theorem dX12_landLine_87 : decode cX12_landLine 87 = .ok (.aload_n 0, 1) := zo_42 (by decide +kernel)
theorem dX12_landLine_88 : decode cX12_landLine 88 = .ok (.invokevirtual 129, 3) := zo_182 (by decide +kernel)
theorem dX12_landLine_91 : decode cX12_landLine 91 = .ok (.istore_n 3, 1) := zo_62 (by decide +kernel)
theorem dX12_landLine_92 : decode cX12_landLine 92 = .ok (.aload_n 0, 1) := zo_42 (by decide +kernel)
theorem dX12_landLine_93 : decode cX12_landLine 93 = .ok (.getfield 17, 3) := zo_180 (by decide +kernel)
theorem dX12_landLine_96 : decode cX12_landLine 96 = .ok (.bipush 16, 2) := zo_16 (by decide +kernel)
theorem dX12_landLine_98 : decode cX12_landLine 98 = .ok (.iload_n 3, 1) := zo_29 (by decide +kernel)
theorem dX12_landLine_99 : decode cX12_landLine 99 = .ok (.iadd, 1) := zo_96 (by decide +kernel)
theorem dX12_landLine_100 : decode cX12_landLine 100 = .ok (.aload_n 0, 1) := zo_42 (by decide +kernel)
theorem dX12_landLine_101 : decode cX12_landLine 101 = .ok (.iconst 0, 1) := zo_3 (by decide +kernel)
theorem dX12_landLine_102 : decode cX12_landLine 102 = .ok (.bipush 9, 2) := zo_16 (by decide +kernel)
theorem dX12_landLine_104 : decode cX12_landLine 104 = .ok (.invokevirtual 122, 3) := zo_182 (by decide +kernel)
theorem dX12_landLine_107 : decode cX12_landLine 107 = .ok (.iastore, 1) := zo_79 (by decide +kernel)
theorem dX12_landLine_108 : decode cX12_landLine 108 = .ok (.goto 21, 3) := zo_167 (by decide +kernel)
theorem dX12_landLine_111 : decode cX12_landLine 111 = .ok (.aload_n 0, 1) := zo_42 (by decide +kernel)
theorem dX12_landLine_112 : decode cX12_landLine 112 = .ok (.getfield 17, 3) := zo_180 (by decide +kernel)
theorem dX12_landLine_115 : decode cX12_landLine 115 = .ok (.iconst 1, 1) := zo_4 (by decide +kernel)
theorem dX12_landLine_116 : decode cX12_landLine 116 = .ok (.dup2, 1) := zo_92 (by decide +kernel)
theorem dX12_landLine_117 : decode cX12_landLine 117 = .ok (.iaload, 1) := zo_46 (by decide +kernel)
theorem dX12_landLine_118 : decode cX12_landLine 118 = .ok (.iconst 1, 1) := zo_4 (by decide +kernel)
theorem dX12_landLine_119 : decode cX12_landLine 119 = .ok (.aload_n 0, 1) := zo_42 (by decide +kernel)
theorem dX12_landLine_120 : decode cX12_landLine 120 = .ok (.invokevirtual 129, 3) := zo_182 (by decide +kernel)
theorem dX12_landLine_123 : decode cX12_landLine 123 = .ok (.ishl, 1) := zo_120 (by decide +kernel)
theorem dX12_landLine_124 : decode cX12_landLine 124 = .ok (.ior, 1) := zo_128 (by decide +kernel)
theorem dX12_landLine_125 : decode cX12_landLine 125 = .ok (.iastore, 1) := zo_79 (by decide +kernel)
theorem dX12_landLine_126 : decode cX12_landLine 126 = .ok (.goto 3, 3) := zo_167 (by decide +kernel)
theorem dX12_landLine_129 : decode cX12_landLine 129 = .ok (.aload_n 0, 1) := zo_42 (by decide +kernel)
theorem dX12_landLine_130 : decode cX12_landLine 130 = .ok (.invokevirtual 140, 3) := zo_182 (by decide +kernel)
theorem dX12_landLine_133 : decode cX12_landLine 133 = .ok (.return_, 1) := zo_177 (by decide +kernel)
theorem dX12_dayLine_0 : decode cX12_dayLine 0 = .ok (.aload_n 0, 1) := zo_42 (by decide +kernel)
theorem dX12_dayLine_1 : decode cX12_dayLine 1 = .ok (.getfield 77, 3) := zo_180 (by decide +kernel)
theorem dX12_dayLine_4 : decode cX12_dayLine 4 = .ok (.istore_n 1, 1) := zo_60 (by decide +kernel)
theorem dX12_dayLine_5 : decode cX12_dayLine 5 = .ok (.aload_n 0, 1) := zo_42 (by decide +kernel)
theorem dX12_dayLine_6 : decode cX12_dayLine 6 = .ok (.iconst 5, 1) := zo_8 (by decide +kernel)
theorem dX12_dayLine_7 : decode cX12_dayLine 7 = .ok (.bipush 10, 2) := zo_16 (by decide +kernel)
theorem dX12_dayLine_9 : decode cX12_dayLine 9 = .ok (.invokevirtual 133, 3) := zo_182 (by decide +kernel)
theorem dX12_dayLine_12 : decode cX12_dayLine 12 = .ok (.iconst 5, 1) := zo_8 (by decide +kernel)
theorem dX12_dayLine_13 : decode cX12_dayLine 13 = .ok (.isub, 1) := zo_100 (by decide +kernel)
theorem dX12_dayLine_14 : decode cX12_dayLine 14 = .ok (.istore_n 2, 1) := zo_61 (by decide +kernel)
theorem dX12_dayLine_15 : decode cX12_dayLine 15 = .ok (.aload_n 0, 1) := zo_42 (by decide +kernel)
theorem dX12_dayLine_16 : decode cX12_dayLine 16 = .ok (.getfield 104, 3) := zo_180 (by decide +kernel)
theorem dX12_dayLine_19 : decode cX12_dayLine 19 = .ok (.ifCond .ne 20, 3) := zo_154 (by decide +kernel)
theorem dX12_dayLine_22 : decode cX12_dayLine 22 = .ok (.aload_n 0, 1) := zo_42 (by decide +kernel)
theorem dX12_dayLine_23 : decode cX12_dayLine 23 = .ok (.getfield 17, 3) := zo_180 (by decide +kernel)
theorem dX12_dayLine_26 : decode cX12_dayLine 26 = .ok (.iconst 0, 1) := zo_3 (by decide +kernel)
theorem dX12_dayLine_27 : decode cX12_dayLine 27 = .ok (.iaload, 1) := zo_46 (by decide +kernel)
theorem dX12_dayLine_28 : decode cX12_dayLine 28 = .ok (.bipush 40, 2) := zo_16 (by decide +kernel)
theorem dX12_dayLine_30 : decode cX12_dayLine 30 = .ok (.if_icmp .lt 9, 3) := zo_161 (by decide +kernel)
theorem dX12_dayLine_33 : decode cX12_dayLine 33 = .ok (.aload_n 0, 1) := zo_42 (by decide +kernel)
theorem dX12_dayLine_34 : decode cX12_dayLine 34 = .ok (.iconst 3, 1) := zo_6 (by decide +kernel)
theorem dX12_dayLine_35 : decode cX12_dayLine 35 = .ok (.iload_n 1, 1) := zo_27 (by decide +kernel)
theorem dX12_dayLine_36 : decode cX12_dayLine 36 = .ok (.invokevirtual 115, 3) := zo_182 (by decide +kernel)
theorem dX12_dayLine_39 : decode cX12_dayLine 39 = .ok (.aload_n 0, 1) := zo_42 (by decide +kernel)
theorem dX12_dayLine_40 : decode cX12_dayLine 40 = .ok (.iconst 0, 1) := zo_3 (by decide +kernel)
theorem dX12_dayLine_41 : decode cX12_dayLine 41 = .ok (.bipush 6, 2) := zo_16 (by decide +kernel)
theorem dX12_dayLine_43 : decode cX12_dayLine 43 = .ok (.invokevirtual 122, 3) := zo_182 (by decide +kernel)
theorem dX12_dayLine_46 : decode cX12_dayLine 46 = .ok (.istore_n 3, 1) := zo_62 (by decide +kernel)
theorem dX12_dayLine_47 : decode cX12_dayLine 47 = .ok (.iload_n 2, 1) := zo_28 (by decide +kernel)
theorem dX12_dayLine_48 : decode cX12_dayLine 48 = .ok (.iconst 3, 1) := zo_6 (by decide +kernel)
theorem dX12_dayLine_49 : decode cX12_dayLine 49 = .ok (.if_icmp .le 12, 3) := zo_164 (by decide +kernel)
theorem dX12_dayLine_52 : decode cX12_dayLine 52 = .ok (.aload_n 0, 1) := zo_42 (by decide +kernel)
theorem dX12_dayLine_53 : decode cX12_dayLine 53 = .ok (.iconst 0, 1) := zo_3 (by decide +kernel)
theorem dX12_dayLine_54 : decode cX12_dayLine 54 = .ok (.iconst 3, 1) := zo_6 (by decide +kernel)
theorem dX12_dayLine_55 : decode cX12_dayLine 55 = .ok (.invokevirtual 122, 3) := zo_182 (by decide +kernel)
theorem dX12_dayLine_58 : decode cX12_dayLine 58 = .ok (.goto 4, 3) := zo_167 (by decide +kernel)
theorem dX12_dayLine_61 : decode cX12_dayLine 61 = .ok (.iconst (-1), 1) := zo_2 (by decide +kernel)
theorem dX12_dayLine_62 : decode cX12_dayLine 62 = .ok (.istore 4, 2) := zo_54 (by decide +kernel)
theorem dX12_dayLine_64 : decode cX12_dayLine 64 = .ok (.aload_n 0, 1) := zo_42 (by decide +kernel)
theorem dX12_dayLine_65 : decode cX12_dayLine 65 = .ok (.getfield 17, 3) := zo_180 (by decide +kernel)
theorem dX12_dayLine_68 : decode cX12_dayLine 68 = .ok (.iconst 0, 1) := zo_3 (by decide +kernel)
theorem dX12_dayLine_69 : decode cX12_dayLine 69 = .ok (.iaload, 1) := zo_46 (by decide +kernel)
theorem dX12_dayLine_70 : decode cX12_dayLine 70 = .ok (.bipush 40, 2) := zo_16 (by decide +kernel)
theorem dX12_dayLine_72 : decode cX12_dayLine 72 = .ok (.if_icmp .ge 54, 3) := zo_162 (by decide +kernel)
theorem dX12_dayLine_75 : decode cX12_dayLine 75 = .ok (.iconst 1, 1) := zo_4 (by decide +kernel)
theorem dX12_dayLine_76 : decode cX12_dayLine 76 = .ok (.iconst 3, 1) := zo_6 (by decide +kernel)
theorem dX12_dayLine_77 : decode cX12_dayLine 77 = .ok (.aload_n 0, 1) := zo_42 (by decide +kernel)
theorem dX12_dayLine_78 : decode cX12_dayLine 78 = .ok (.getfield 17, 3) := zo_180 (by decide +kernel)
theorem dX12_dayLine_81 : decode cX12_dayLine 81 = .ok (.iconst 0, 1) := zo_3 (by decide +kernel)
theorem dX12_dayLine_82 : decode cX12_dayLine 82 = .ok (.iaload, 1) := zo_46 (by decide +kernel)
theorem dX12_dayLine_83 : decode cX12_dayLine 83 = .ok (.imul, 1) := zo_104 (by decide +kernel)
theorem dX12_dayLine_84 : decode cX12_dayLine 84 = .ok (.iadd, 1) := zo_96 (by decide +kernel)
theorem dX12_dayLine_85 : decode cX12_dayLine 85 = .ok (.istore 5, 2) := zo_54 (by decide +kernel)
theorem dX12_dayLine_87 : decode cX12_dayLine 87 = .ok (.aload_n 0, 1) := zo_42 (by decide +kernel)
theorem dX12_dayLine_88 : decode cX12_dayLine 88 = .ok (.getfield 17, 3) := zo_180 (by decide +kernel)
theorem dX12_dayLine_91 : decode cX12_dayLine 91 = .ok (.iload 5, 2) := zo_21 (by decide +kernel)
theorem dX12_dayLine_93 : decode cX12_dayLine 93 = .ok (.iload_n 2, 1) := zo_28 (by decide +kernel)
theorem dX12_dayLine_94 : decode cX12_dayLine 94 = .ok (.iastore, 1) := zo_79 (by decide +kernel)
theorem dX12_dayLine_95 : decode cX12_dayLine 95 = .ok (.aload_n 0, 1) := zo_42 (by decide +kernel)
theorem dX12_dayLine_96 : decode cX12_dayLine 96 = .ok (.getfield 17, 3) := zo_180 (by decide +kernel)
theorem dX12_dayLine_99 : decode cX12_dayLine 99 = .ok (.iload 5, 2) := zo_21 (by decide +kernel)
theorem dX12_dayLine_101 : decode cX12_dayLine 101 = .ok (.iconst 1, 1) := zo_4 (by decide +kernel)
theorem dX12_dayLine_102 : decode cX12_dayLine 102 = .ok (.iadd, 1) := zo_96 (by decide +kernel)
theorem dX12_dayLine_103 : decode cX12_dayLine 103 = .ok (.iload_n 3, 1) := zo_29 (by decide +kernel)
theorem dX12_dayLine_104 : decode cX12_dayLine 104 = .ok (.iastore, 1) := zo_79 (by decide +kernel)
theorem dX12_dayLine_105 : decode cX12_dayLine 105 = .ok (.aload_n 0, 1) := zo_42 (by decide +kernel)
theorem dX12_dayLine_106 : decode cX12_dayLine 106 = .ok (.getfield 17, 3) := zo_180 (by decide +kernel)
theorem dX12_dayLine_109 : decode cX12_dayLine 109 = .ok (.iload 5, 2) := zo_21 (by decide +kernel)
theorem dX12_dayLine_111 : decode cX12_dayLine 111 = .ok (.iconst 2, 1) := zo_5 (by decide +kernel)
theorem dX12_dayLine_112 : decode cX12_dayLine 112 = .ok (.iadd, 1) := zo_96 (by decide +kernel)
theorem dX12_dayLine_113 : decode cX12_dayLine 113 = .ok (.iload 4, 2) := zo_21 (by decide +kernel)
theorem dX12_dayLine_115 : decode cX12_dayLine 115 = .ok (.iastore, 1) := zo_79 (by decide +kernel)
theorem dX12_dayLine_116 : decode cX12_dayLine 116 = .ok (.aload_n 0, 1) := zo_42 (by decide +kernel)
theorem dX12_dayLine_117 : decode cX12_dayLine 117 = .ok (.getfield 17, 3) := zo_180 (by decide +kernel)
theorem dX12_dayLine_120 : decode cX12_dayLine 120 = .ok (.iconst 0, 1) := zo_3 (by decide +kernel)
theorem dX12_dayLine_121 : decode cX12_dayLine 121 = .ok (.dup2, 1) := zo_92 (by decide +kernel)
theorem dX12_dayLine_122 : decode cX12_dayLine 122 = .ok (.iaload, 1) := zo_46 (by decide +kernel)
theorem dX12_dayLine_123 : decode cX12_dayLine 123 = .ok (.iconst 1, 1) := zo_4 (by decide +kernel)
theorem dX12_dayLine_124 : decode cX12_dayLine 124 = .ok (.iadd, 1) := zo_96 (by decide +kernel)
theorem dX12_dayLine_125 : decode cX12_dayLine 125 = .ok (.iastore, 1) := zo_79 (by decide +kernel)
theorem dX12_dayLine_126 : decode cX12_dayLine 126 = .ok (.aload_n 0, 1) := zo_42 (by decide +kernel)
theorem dX12_dayLine_127 : decode cX12_dayLine 127 = .ok (.invokevirtual 140, 3) := zo_182 (by decide +kernel)
theorem dX12_dayLine_130 : decode cX12_dayLine 130 = .ok (.return_, 1) := zo_177 (by decide +kernel)
theorem dX12_logLine_0 : decode cX12_logLine 0 = .ok (.aload_n 0, 1) := zo_42 (by decide +kernel)
theorem dX12_logLine_1 : decode cX12_logLine 1 = .ok (.getfield 77, 3) := zo_180 (by decide +kernel)
theorem dX12_logLine_4 : decode cX12_logLine 4 = .ok (.istore_n 1, 1) := zo_60 (by decide +kernel)
theorem dX12_logLine_5 : decode cX12_logLine 5 = .ok (.aload_n 0, 1) := zo_42 (by decide +kernel)
theorem dX12_logLine_6 : decode cX12_logLine 6 = .ok (.bipush 11, 2) := zo_16 (by decide +kernel)
theorem dX12_logLine_8 : decode cX12_logLine 8 = .ok (.bipush 12, 2) := zo_16 (by decide +kernel)
theorem dX12_logLine_10 : decode cX12_logLine 10 = .ok (.invokevirtual 133, 3) := zo_182 (by decide +kernel)
theorem dX12_logLine_13 : decode cX12_logLine 13 = .ok (.bipush 11, 2) := zo_16 (by decide +kernel)
theorem dX12_logLine_15 : decode cX12_logLine 15 = .ok (.if_icmp .ne 7, 3) := zo_160 (by decide +kernel)
theorem dX12_logLine_18 : decode cX12_logLine 18 = .ok (.iconst 1, 1) := zo_4 (by decide +kernel)
theorem dX12_logLine_19 : decode cX12_logLine 19 = .ok (.goto 4, 3) := zo_167 (by decide +kernel)
theorem dX12_logLine_22 : decode cX12_logLine 22 = .ok (.iconst 0, 1) := zo_3 (by decide +kernel)
theorem dX12_logLine_23 : decode cX12_logLine 23 = .ok (.istore_n 2, 1) := zo_61 (by decide +kernel)
theorem dX12_logLine_24 : decode cX12_logLine 24 = .ok (.aload_n 0, 1) := zo_42 (by decide +kernel)
theorem dX12_logLine_25 : decode cX12_logLine 25 = .ok (.getfield 104, 3) := zo_180 (by decide +kernel)
theorem dX12_logLine_28 : decode cX12_logLine 28 = .ok (.ifCond .ne 20, 3) := zo_154 (by decide +kernel)
theorem dX12_logLine_31 : decode cX12_logLine 31 = .ok (.aload_n 0, 1) := zo_42 (by decide +kernel)
theorem dX12_logLine_32 : decode cX12_logLine 32 = .ok (.getfield 17, 3) := zo_180 (by decide +kernel)
theorem dX12_logLine_35 : decode cX12_logLine 35 = .ok (.iconst 0, 1) := zo_3 (by decide +kernel)
theorem dX12_logLine_36 : decode cX12_logLine 36 = .ok (.iaload, 1) := zo_46 (by decide +kernel)
theorem dX12_logLine_37 : decode cX12_logLine 37 = .ok (.bipush 8, 2) := zo_16 (by decide +kernel)
theorem dX12_logLine_39 : decode cX12_logLine 39 = .ok (.if_icmp .lt 9, 3) := zo_161 (by decide +kernel)
theorem dX12_logLine_42 : decode cX12_logLine 42 = .ok (.aload_n 0, 1) := zo_42 (by decide +kernel)
theorem dX12_logLine_43 : decode cX12_logLine 43 = .ok (.iconst 3, 1) := zo_6 (by decide +kernel)
theorem dX12_logLine_44 : decode cX12_logLine 44 = .ok (.iload_n 1, 1) := zo_27 (by decide +kernel)
theorem dX12_logLine_45 : decode cX12_logLine 45 = .ok (.invokevirtual 115, 3) := zo_182 (by decide +kernel)
theorem dX12_logLine_48 : decode cX12_logLine 48 = .ok (.aload_n 0, 1) := zo_42 (by decide +kernel)
theorem dX12_logLine_49 : decode cX12_logLine 49 = .ok (.iconst 0, 1) := zo_3 (by decide +kernel)
theorem dX12_logLine_50 : decode cX12_logLine 50 = .ok (.bipush 6, 2) := zo_16 (by decide +kernel)
theorem dX12_logLine_52 : decode cX12_logLine 52 = .ok (.invokevirtual 122, 3) := zo_182 (by decide +kernel)
theorem dX12_logLine_55 : decode cX12_logLine 55 = .ok (.istore_n 3, 1) := zo_62 (by decide +kernel)
theorem dX12_logLine_56 : decode cX12_logLine 56 = .ok (.iload_n 2, 1) := zo_28 (by decide +kernel)
theorem dX12_logLine_57 : decode cX12_logLine 57 = .ok (.ifCond .eq 13, 3) := zo_153 (by decide +kernel)
theorem dX12_logLine_60 : decode cX12_logLine 60 = .ok (.aload_n 0, 1) := zo_42 (by decide +kernel)
theorem dX12_logLine_61 : decode cX12_logLine 61 = .ok (.iconst 0, 1) := zo_3 (by decide +kernel)
theorem dX12_logLine_62 : decode cX12_logLine 62 = .ok (.bipush 6, 2) := zo_16 (by decide +kernel)
theorem dX12_logLine_64 : decode cX12_logLine 64 = .ok (.invokevirtual 122, 3) := zo_182 (by decide +kernel)
theorem dX12_logLine_67 : decode cX12_logLine 67 = .ok (.goto 4, 3) := zo_167 (by decide +kernel)
theorem dX12_logLine_70 : decode cX12_logLine 70 = .ok (.iconst (-1), 1) := zo_2 (by decide +kernel)
theorem dX12_logLine_71 : decode cX12_logLine 71 = .ok (.istore 4, 2) := zo_54 (by decide +kernel)
theorem dX12_logLine_73 : decode cX12_logLine 73 = .ok (.aload_n 0, 1) := zo_42 (by decide +kernel)
theorem dX12_logLine_74 : decode cX12_logLine 74 = .ok (.getfield 17, 3) := zo_180 (by decide +kernel)
theorem dX12_logLine_77 : decode cX12_logLine 77 = .ok (.iconst 0, 1) := zo_3 (by decide +kernel)
theorem dX12_logLine_78 : decode cX12_logLine 78 = .ok (.iaload, 1) := zo_46 (by decide +kernel)
theorem dX12_logLine_79 : decode cX12_logLine 79 = .ok (.bipush 8, 2) := zo_16 (by decide +kernel)
theorem dX12_logLine_81 : decode cX12_logLine 81 = .ok (.if_icmp .ge 46, 3) := zo_162 (by decide +kernel)
theorem dX12_logLine_84 : decode cX12_logLine 84 = .ok (.aload_n 0, 1) := zo_42 (by decide +kernel)
theorem dX12_logLine_85 : decode cX12_logLine 85 = .ok (.getfield 17, 3) := zo_180 (by decide +kernel)
theorem dX12_logLine_88 : decode cX12_logLine 88 = .ok (.iconst 1, 1) := zo_4 (by decide +kernel)
theorem dX12_logLine_89 : decode cX12_logLine 89 = .ok (.iconst 2, 1) := zo_5 (by decide +kernel)
theorem dX12_logLine_90 : decode cX12_logLine 90 = .ok (.aload_n 0, 1) := zo_42 (by decide +kernel)
theorem dX12_logLine_91 : decode cX12_logLine 91 = .ok (.getfield 17, 3) := zo_180 (by decide +kernel)
theorem dX12_logLine_94 : decode cX12_logLine 94 = .ok (.iconst 0, 1) := zo_3 (by decide +kernel)
theorem dX12_logLine_95 : decode cX12_logLine 95 = .ok (.iaload, 1) := zo_46 (by decide +kernel)
theorem dX12_logLine_96 : decode cX12_logLine 96 = .ok (.imul, 1) := zo_104 (by decide +kernel)
theorem dX12_logLine_97 : decode cX12_logLine 97 = .ok (.iadd, 1) := zo_96 (by decide +kernel)
theorem dX12_logLine_98 : decode cX12_logLine 98 = .ok (.iload_n 3, 1) := zo_29 (by decide +kernel)
theorem dX12_logLine_99 : decode cX12_logLine 99 = .ok (.iastore, 1) := zo_79 (by decide +kernel)
theorem dX12_logLine_100 : decode cX12_logLine 100 = .ok (.aload_n 0, 1) := zo_42 (by decide +kernel)
theorem dX12_logLine_101 : decode cX12_logLine 101 = .ok (.getfield 17, 3) := zo_180 (by decide +kernel)
theorem dX12_logLine_104 : decode cX12_logLine 104 = .ok (.iconst 2, 1) := zo_5 (by decide +kernel)
theorem dX12_logLine_105 : decode cX12_logLine 105 = .ok (.iconst 2, 1) := zo_5 (by decide +kernel)
theorem dX12_logLine_106 : decode cX12_logLine 106 = .ok (.aload_n 0, 1) := zo_42 (by decide +kernel)
theorem dX12_logLine_107 : decode cX12_logLine 107 = .ok (.getfield 17, 3) := zo_180 (by decide +kernel)
theorem dX12_logLine_110 : decode cX12_logLine 110 = .ok (.iconst 0, 1) := zo_3 (by decide +kernel)
theorem dX12_logLine_111 : decode cX12_logLine 111 = .ok (.iaload, 1) := zo_46 (by decide +kernel)
theorem dX12_logLine_112 : decode cX12_logLine 112 = .ok (.imul, 1) := zo_104 (by decide +kernel)
theorem dX12_logLine_113 : decode cX12_logLine 113 = .ok (.iadd, 1) := zo_96 (by decide +kernel)
theorem dX12_logLine_114 : decode cX12_logLine 114 = .ok (.iload 4, 2) := zo_21 (by decide +kernel)
theorem dX12_logLine_116 : decode cX12_logLine 116 = .ok (.iastore, 1) := zo_79 (by decide +kernel)
theorem dX12_logLine_117 : decode cX12_logLine 117 = .ok (.aload_n 0, 1) := zo_42 (by decide +kernel)
theorem dX12_logLine_118 : decode cX12_logLine 118 = .ok (.getfield 17, 3) := zo_180 (by decide +kernel)
theorem dX12_logLine_121 : decode cX12_logLine 121 = .ok (.iconst 0, 1) := zo_3 (by decide +kernel)
theorem dX12_logLine_122 : decode cX12_logLine 122 = .ok (.dup2, 1) := zo_92 (by decide +kernel)
theorem dX12_logLine_123 : decode cX12_logLine 123 = .ok (.iaload, 1) := zo_46 (by decide +kernel)
theorem dX12_logLine_124 : decode cX12_logLine 124 = .ok (.iconst 1, 1) := zo_4 (by decide +kernel)
theorem dX12_logLine_125 : decode cX12_logLine 125 = .ok (.iadd, 1) := zo_96 (by decide +kernel)
theorem dX12_logLine_126 : decode cX12_logLine 126 = .ok (.iastore, 1) := zo_79 (by decide +kernel)
theorem dX12_logLine_127 : decode cX12_logLine 127 = .ok (.aload_n 0, 1) := zo_42 (by decide +kernel)
theorem dX12_logLine_128 : decode cX12_logLine 128 = .ok (.invokevirtual 140, 3) := zo_182 (by decide +kernel)
theorem dX12_logLine_131 : decode cX12_logLine 131 = .ok (.return_, 1) := zo_177 (by decide +kernel)
theorem dX12_placeOf_0 : decode cX12_placeOf 0 = .ok (.iload_n 0, 1) := zo_26 (by decide +kernel)
theorem dX12_placeOf_1 : decode cX12_placeOf 1 = .ok (.ifCond .ne 14, 3) := zo_154 (by decide +kernel)
theorem dX12_placeOf_4 : decode cX12_placeOf 4 = .ok (.sipush 610, 3) := zo_17 (by decide +kernel)
theorem dX12_placeOf_7 : decode cX12_placeOf 7 = .ok (.bipush 51, 2) := zo_16 (by decide +kernel)
theorem dX12_placeOf_9 : decode cX12_placeOf 9 = .ok (.iload_n 1, 1) := zo_27 (by decide +kernel)
theorem dX12_placeOf_10 : decode cX12_placeOf 10 = .ok (.imul, 1) := zo_104 (by decide +kernel)
theorem dX12_placeOf_11 : decode cX12_placeOf 11 = .ok (.iadd, 1) := zo_96 (by decide +kernel)
theorem dX12_placeOf_12 : decode cX12_placeOf 12 = .ok (.goto 27, 3) := zo_167 (by decide +kernel)
theorem dX12_placeOf_15 : decode cX12_placeOf 15 = .ok (.iload_n 0, 1) := zo_26 (by decide +kernel)
theorem dX12_placeOf_16 : decode cX12_placeOf 16 = .ok (.iconst 1, 1) := zo_4 (by decide +kernel)
theorem dX12_placeOf_17 : decode cX12_placeOf 17 = .ok (.if_icmp .ne 14, 3) := zo_160 (by decide +kernel)
theorem dX12_placeOf_20 : decode cX12_placeOf 20 = .ok (.sipush 712, 3) := zo_17 (by decide +kernel)
theorem dX12_placeOf_23 : decode cX12_placeOf 23 = .ok (.bipush 121, 2) := zo_16 (by decide +kernel)
theorem dX12_placeOf_25 : decode cX12_placeOf 25 = .ok (.iload_n 1, 1) := zo_27 (by decide +kernel)
theorem dX12_placeOf_26 : decode cX12_placeOf 26 = .ok (.imul, 1) := zo_104 (by decide +kernel)
theorem dX12_placeOf_27 : decode cX12_placeOf 27 = .ok (.iadd, 1) := zo_96 (by decide +kernel)
theorem dX12_placeOf_28 : decode cX12_placeOf 28 = .ok (.goto 11, 3) := zo_167 (by decide +kernel)
theorem dX12_placeOf_31 : decode cX12_placeOf 31 = .ok (.sipush 954, 3) := zo_17 (by decide +kernel)
theorem dX12_placeOf_34 : decode cX12_placeOf 34 = .ok (.bipush 17, 2) := zo_16 (by decide +kernel)
theorem dX12_placeOf_36 : decode cX12_placeOf 36 = .ok (.iload_n 1, 1) := zo_27 (by decide +kernel)
theorem dX12_placeOf_37 : decode cX12_placeOf 37 = .ok (.imul, 1) := zo_104 (by decide +kernel)
theorem dX12_placeOf_38 : decode cX12_placeOf 38 = .ok (.iadd, 1) := zo_96 (by decide +kernel)
theorem dX12_placeOf_39 : decode cX12_placeOf 39 = .ok (.ireturn, 1) := zo_172 (by decide +kernel)
theorem dX12_sizeOf_0 : decode cX12_sizeOf 0 = .ok (.iload_n 0, 1) := zo_26 (by decide +kernel)
theorem dX12_sizeOf_1 : decode cX12_sizeOf 1 = .ok (.ifCond .ne 8, 3) := zo_154 (by decide +kernel)
theorem dX12_sizeOf_4 : decode cX12_sizeOf 4 = .ok (.bipush 51, 2) := zo_16 (by decide +kernel)
theorem dX12_sizeOf_6 : decode cX12_sizeOf 6 = .ok (.goto 15, 3) := zo_167 (by decide +kernel)
theorem dX12_sizeOf_9 : decode cX12_sizeOf 9 = .ok (.iload_n 0, 1) := zo_26 (by decide +kernel)
theorem dX12_sizeOf_10 : decode cX12_sizeOf 10 = .ok (.iconst 1, 1) := zo_4 (by decide +kernel)
theorem dX12_sizeOf_11 : decode cX12_sizeOf 11 = .ok (.if_icmp .ne 8, 3) := zo_160 (by decide +kernel)
theorem dX12_sizeOf_14 : decode cX12_sizeOf 14 = .ok (.bipush 121, 2) := zo_16 (by decide +kernel)
theorem dX12_sizeOf_16 : decode cX12_sizeOf 16 = .ok (.goto 5, 3) := zo_167 (by decide +kernel)
theorem dX12_sizeOf_19 : decode cX12_sizeOf 19 = .ok (.bipush 17, 2) := zo_16 (by decide +kernel)
theorem dX12_sizeOf_21 : decode cX12_sizeOf 21 = .ok (.ireturn, 1) := zo_172 (by decide +kernel)
theorem dX12_isOf_0 : decode cX12_isOf 0 = .ok (.iload_n 2, 1) := zo_28 (by decide +kernel)
theorem dX12_isOf_1 : decode cX12_isOf 1 = .ok (.iconst 0, 1) := zo_3 (by decide +kernel)
theorem dX12_isOf_2 : decode cX12_isOf 2 = .ok (.aload_n 0, 1) := zo_42 (by decide +kernel)
theorem dX12_isOf_3 : decode cX12_isOf 3 = .ok (.getfield 7, 3) := zo_180 (by decide +kernel)
theorem dX12_isOf_6 : decode cX12_isOf 6 = .ok (.iload_n 1, 1) := zo_27 (by decide +kernel)
theorem dX12_isOf_7 : decode cX12_isOf 7 = .ok (.iaload, 1) := zo_46 (by decide +kernel)
theorem dX12_isOf_8 : decode cX12_isOf 8 = .ok (.iconst 1, 1) := zo_4 (by decide +kernel)
theorem dX12_isOf_9 : decode cX12_isOf 9 = .ok (.isub, 1) := zo_100 (by decide +kernel)
theorem dX12_isOf_10 : decode cX12_isOf 10 = .ok (.invokestatic 111, 3) := zo_184 (by decide +kernel)
theorem dX12_isOf_13 : decode cX12_isOf 13 = .ok (.ireturn, 1) := zo_172 (by decide +kernel)
theorem dX12_postsAreThere_0 : decode cX12_postsAreThere 0 = .ok (.iconst 1, 1) := zo_4 (by decide +kernel)
theorem dX12_postsAreThere_1 : decode cX12_postsAreThere 1 = .ok (.istore_n 1, 1) := zo_60 (by decide +kernel)
theorem dX12_postsAreThere_2 : decode cX12_postsAreThere 2 = .ok (.iconst 0, 1) := zo_3 (by decide +kernel)
theorem dX12_postsAreThere_3 : decode cX12_postsAreThere 3 = .ok (.istore_n 2, 1) := zo_61 (by decide +kernel)
theorem dX12_postsAreThere_4 : decode cX12_postsAreThere 4 = .ok (.iload_n 2, 1) := zo_28 (by decide +kernel)
theorem dX12_postsAreThere_5 : decode cX12_postsAreThere 5 = .ok (.bipush 7, 2) := zo_16 (by decide +kernel)
theorem dX12_postsAreThere_7 : decode cX12_postsAreThere 7 = .ok (.if_icmp .ge 51, 3) := zo_162 (by decide +kernel)
theorem dX12_postsAreThere_10 : decode cX12_postsAreThere 10 = .ok (.iload_n 1, 1) := zo_27 (by decide +kernel)
theorem dX12_postsAreThere_11 : decode cX12_postsAreThere 11 = .ok (.ifCond .eq 39, 3) := zo_153 (by decide +kernel)
theorem dX12_postsAreThere_14 : decode cX12_postsAreThere 14 = .ok (.aload_n 0, 1) := zo_42 (by decide +kernel)
theorem dX12_postsAreThere_15 : decode cX12_postsAreThere 15 = .ok (.getfield 17, 3) := zo_180 (by decide +kernel)
theorem dX12_postsAreThere_18 : decode cX12_postsAreThere 18 = .ok (.bipush 9, 2) := zo_16 (by decide +kernel)
theorem dX12_postsAreThere_20 : decode cX12_postsAreThere 20 = .ok (.iload_n 2, 1) := zo_28 (by decide +kernel)
theorem dX12_postsAreThere_21 : decode cX12_postsAreThere 21 = .ok (.iadd, 1) := zo_96 (by decide +kernel)
theorem dX12_postsAreThere_22 : decode cX12_postsAreThere 22 = .ok (.iaload, 1) := zo_46 (by decide +kernel)
theorem dX12_postsAreThere_23 : decode cX12_postsAreThere 23 = .ok (.ifCond .eq 23, 3) := zo_153 (by decide +kernel)
theorem dX12_postsAreThere_26 : decode cX12_postsAreThere 26 = .ok (.aload_n 0, 1) := zo_42 (by decide +kernel)
theorem dX12_postsAreThere_27 : decode cX12_postsAreThere 27 = .ok (.getfield 17, 3) := zo_180 (by decide +kernel)
theorem dX12_postsAreThere_30 : decode cX12_postsAreThere 30 = .ok (.bipush 9, 2) := zo_16 (by decide +kernel)
theorem dX12_postsAreThere_32 : decode cX12_postsAreThere 32 = .ok (.iload_n 2, 1) := zo_28 (by decide +kernel)
theorem dX12_postsAreThere_33 : decode cX12_postsAreThere 33 = .ok (.iadd, 1) := zo_96 (by decide +kernel)
theorem dX12_postsAreThere_34 : decode cX12_postsAreThere 34 = .ok (.iaload, 1) := zo_46 (by decide +kernel)
theorem dX12_postsAreThere_35 : decode cX12_postsAreThere 35 = .ok (.aload_n 0, 1) := zo_42 (by decide +kernel)
theorem dX12_postsAreThere_36 : decode cX12_postsAreThere 36 = .ok (.getfield 17, 3) := zo_180 (by decide +kernel)
theorem dX12_postsAreThere_39 : decode cX12_postsAreThere 39 = .ok (.iconst 2, 1) := zo_5 (by decide +kernel)
theorem dX12_postsAreThere_40 : decode cX12_postsAreThere 40 = .ok (.iload_n 2, 1) := zo_28 (by decide +kernel)
theorem dX12_postsAreThere_41 : decode cX12_postsAreThere 41 = .ok (.iadd, 1) := zo_96 (by decide +kernel)
theorem dX12_postsAreThere_42 : decode cX12_postsAreThere 42 = .ok (.iaload, 1) := zo_46 (by decide +kernel)
theorem dX12_postsAreThere_43 : decode cX12_postsAreThere 43 = .ok (.if_icmp .ge 7, 3) := zo_162 (by decide +kernel)
theorem dX12_postsAreThere_46 : decode cX12_postsAreThere 46 = .ok (.iconst 1, 1) := zo_4 (by decide +kernel)
theorem dX12_postsAreThere_47 : decode cX12_postsAreThere 47 = .ok (.goto 4, 3) := zo_167 (by decide +kernel)
theorem dX12_postsAreThere_50 : decode cX12_postsAreThere 50 = .ok (.iconst 0, 1) := zo_3 (by decide +kernel)
theorem dX12_postsAreThere_51 : decode cX12_postsAreThere 51 = .ok (.istore_n 1, 1) := zo_60 (by decide +kernel)
theorem dX12_postsAreThere_52 : decode cX12_postsAreThere 52 = .ok (.iinc 2 1, 3) := zo_132 (by decide +kernel)
theorem dX12_postsAreThere_55 : decode cX12_postsAreThere 55 = .ok (.goto (-51), 3) := zo_167 (by decide +kernel)
theorem dX12_postsAreThere_58 : decode cX12_postsAreThere 58 = .ok (.iload_n 1, 1) := zo_27 (by decide +kernel)
theorem dX12_postsAreThere_59 : decode cX12_postsAreThere 59 = .ok (.ireturn, 1) := zo_172 (by decide +kernel)
set_option maxHeartbeats 4000000 in
set_option maxRecDepth 100000 in
/-- c_m_placeOf00 -/
theorem c_m_placeOf00 (l : Launch) (T : zTy) : zMi l T yX12_placeOf cX12_placeOf 2 (some .int) 1 0 0 [.int 0, .int 0] [] (fun (r : Int32) bs => bs = [] ∧ r = 610) := by
  refine zMi_of (own := RX12) (by decide) rfl (Nat.le_of_ble_eq_true rfl) ?_
  intro p e s m args below meth c A ls C hr hlocks hnm hAe G hl
  refine zHide (fun Qz_ hQz_ => ?_)
  have hx := C.1
  have hb := C.2.1
  have hl : lv_has ls 2 [(0, .int 0), (1, .int 0)] := hl
  refine lv_iload_n hx hb dX12_placeOf_0 rfl (lv_at hl 0 rfl) ?_
  refine lv_if_ne (tgt := 15) hx hb dX12_placeOf_1 (by decide) (fun q => absurd (by decide) q) (fun _ => ?_)
  refine lv_sipush (v := 610) hx hb dX12_placeOf_4 (by decide) ?_
  refine lv_bipush (v := 51) hx hb dX12_placeOf_7 (by decide) ?_
  refine lv_iload_n hx hb dX12_placeOf_9 rfl (lv_at hl 1 rfl) ?_
  refine lv_imul hx hb dX12_placeOf_10 ?_
  refine lv_topi (fun y_1 ey_1 => ?_)
  obtain rfl : y_1 = 0 := ey_1.trans (by decide)
  refine lv_iadd hx hb dX12_placeOf_11 ?_
  refine lv_topi (fun y_2 ey_2 => ?_)
  obtain rfl : y_2 = 610 := ey_2.trans (by decide)
  refine lv_goto (tgt := 39) hx hb dX12_placeOf_12 (by decide) ?_
  exact z_back hQz_ (z_iret C hr hlocks G (Nat.le_of_ble_eq_true rfl) (Nat.le_of_ble_eq_true rfl) dX12_placeOf_39 ⟨rfl, rfl⟩)
set_option maxHeartbeats 4000000 in
set_option maxRecDepth 100000 in
/-- c_m_placeOf01 -/
theorem c_m_placeOf01 (l : Launch) (T : zTy) : zMi l T yX12_placeOf cX12_placeOf 2 (some .int) 1 0 0 [.int 0, .int 1] [] (fun (r : Int32) bs => bs = [] ∧ r = 661) := by
  refine zMi_of (own := RX12) (by decide) rfl (Nat.le_of_ble_eq_true rfl) ?_
  intro p e s m args below meth c A ls C hr hlocks hnm hAe G hl
  refine zHide (fun Qz_ hQz_ => ?_)
  have hx := C.1
  have hb := C.2.1
  have hl : lv_has ls 2 [(0, .int 0), (1, .int 1)] := hl
  refine lv_iload_n hx hb dX12_placeOf_0 rfl (lv_at hl 0 rfl) ?_
  refine lv_if_ne (tgt := 15) hx hb dX12_placeOf_1 (by decide) (fun q => absurd (by decide) q) (fun _ => ?_)
  refine lv_sipush (v := 610) hx hb dX12_placeOf_4 (by decide) ?_
  refine lv_bipush (v := 51) hx hb dX12_placeOf_7 (by decide) ?_
  refine lv_iload_n hx hb dX12_placeOf_9 rfl (lv_at hl 1 rfl) ?_
  refine lv_imul hx hb dX12_placeOf_10 ?_
  refine lv_topi (fun y_1 ey_1 => ?_)
  obtain rfl : y_1 = 51 := ey_1.trans (by decide)
  refine lv_iadd hx hb dX12_placeOf_11 ?_
  refine lv_topi (fun y_2 ey_2 => ?_)
  obtain rfl : y_2 = 661 := ey_2.trans (by decide)
  refine lv_goto (tgt := 39) hx hb dX12_placeOf_12 (by decide) ?_
  exact z_back hQz_ (z_iret C hr hlocks G (Nat.le_of_ble_eq_true rfl) (Nat.le_of_ble_eq_true rfl) dX12_placeOf_39 ⟨rfl, rfl⟩)
set_option maxHeartbeats 4000000 in
set_option maxRecDepth 100000 in
/-- c_m_sizeOf0 -/
theorem c_m_sizeOf0 (l : Launch) (T : zTy) : zMi l T yX12_sizeOf cX12_sizeOf 1 (some .int) 1 0 0 [.int 0] [] (fun (r : Int32) bs => bs = [] ∧ r = 51) := by
  refine zMi_of (own := RX12) (by decide) rfl (Nat.le_of_ble_eq_true rfl) ?_
  intro p e s m args below meth c A ls C hr hlocks hnm hAe G hl
  refine zHide (fun Qz_ hQz_ => ?_)
  have hx := C.1
  have hb := C.2.1
  have hl : lv_has ls 1 [(0, .int 0)] := hl
  refine lv_iload_n hx hb dX12_sizeOf_0 rfl (lv_at hl 0 rfl) ?_
  refine lv_if_ne (tgt := 9) hx hb dX12_sizeOf_1 (by decide) (fun q => absurd (by decide) q) (fun _ => ?_)
  refine lv_bipush (v := 51) hx hb dX12_sizeOf_4 (by decide) ?_
  refine lv_goto (tgt := 21) hx hb dX12_sizeOf_6 (by decide) ?_
  exact z_back hQz_ (z_iret C hr hlocks G (Nat.le_of_ble_eq_true rfl) (Nat.le_of_ble_eq_true rfl) dX12_sizeOf_21 ⟨rfl, rfl⟩)
set_option maxHeartbeats 4000000 in
set_option maxRecDepth 100000 in
/-- c_m_placeOf10 -/
theorem c_m_placeOf10 (l : Launch) (T : zTy) : zMi l T yX12_placeOf cX12_placeOf 2 (some .int) 1 0 0 [.int 1, .int 0] [] (fun (r : Int32) bs => bs = [] ∧ r = 712) := by
  refine zMi_of (own := RX12) (by decide) rfl (Nat.le_of_ble_eq_true rfl) ?_
  intro p e s m args below meth c A ls C hr hlocks hnm hAe G hl
  refine zHide (fun Qz_ hQz_ => ?_)
  have hx := C.1
  have hb := C.2.1
  have hl : lv_has ls 2 [(0, .int 1), (1, .int 0)] := hl
  refine lv_iload_n hx hb dX12_placeOf_0 rfl (lv_at hl 0 rfl) ?_
  refine lv_if_ne (tgt := 15) hx hb dX12_placeOf_1 (by decide) (fun _ => ?_) (fun q => absurd q (by decide))
  refine lv_iload_n hx hb dX12_placeOf_15 rfl (lv_at hl 0 rfl) ?_
  refine lv_iconst (v := 1) hx hb dX12_placeOf_16 (by decide) ?_
  refine lv_icmp_ne (tgt := 31) hx hb dX12_placeOf_17 (by decide) (fun q => absurd (by decide) q) (fun _ => ?_)
  refine lv_sipush (v := 712) hx hb dX12_placeOf_20 (by decide) ?_
  refine lv_bipush (v := 121) hx hb dX12_placeOf_23 (by decide) ?_
  refine lv_iload_n hx hb dX12_placeOf_25 rfl (lv_at hl 1 rfl) ?_
  refine lv_imul hx hb dX12_placeOf_26 ?_
  refine lv_topi (fun y_1 ey_1 => ?_)
  obtain rfl : y_1 = 0 := ey_1.trans (by decide)
  refine lv_iadd hx hb dX12_placeOf_27 ?_
  refine lv_topi (fun y_2 ey_2 => ?_)
  obtain rfl : y_2 = 712 := ey_2.trans (by decide)
  refine lv_goto (tgt := 39) hx hb dX12_placeOf_28 (by decide) ?_
  exact z_back hQz_ (z_iret C hr hlocks G (Nat.le_of_ble_eq_true rfl) (Nat.le_of_ble_eq_true rfl) dX12_placeOf_39 ⟨rfl, rfl⟩)
set_option maxHeartbeats 4000000 in
set_option maxRecDepth 100000 in
/-- c_m_placeOf11 -/
theorem c_m_placeOf11 (l : Launch) (T : zTy) : zMi l T yX12_placeOf cX12_placeOf 2 (some .int) 1 0 0 [.int 1, .int 1] [] (fun (r : Int32) bs => bs = [] ∧ r = 833) := by
  refine zMi_of (own := RX12) (by decide) rfl (Nat.le_of_ble_eq_true rfl) ?_
  intro p e s m args below meth c A ls C hr hlocks hnm hAe G hl
  refine zHide (fun Qz_ hQz_ => ?_)
  have hx := C.1
  have hb := C.2.1
  have hl : lv_has ls 2 [(0, .int 1), (1, .int 1)] := hl
  refine lv_iload_n hx hb dX12_placeOf_0 rfl (lv_at hl 0 rfl) ?_
  refine lv_if_ne (tgt := 15) hx hb dX12_placeOf_1 (by decide) (fun _ => ?_) (fun q => absurd q (by decide))
  refine lv_iload_n hx hb dX12_placeOf_15 rfl (lv_at hl 0 rfl) ?_
  refine lv_iconst (v := 1) hx hb dX12_placeOf_16 (by decide) ?_
  refine lv_icmp_ne (tgt := 31) hx hb dX12_placeOf_17 (by decide) (fun q => absurd (by decide) q) (fun _ => ?_)
  refine lv_sipush (v := 712) hx hb dX12_placeOf_20 (by decide) ?_
  refine lv_bipush (v := 121) hx hb dX12_placeOf_23 (by decide) ?_
  refine lv_iload_n hx hb dX12_placeOf_25 rfl (lv_at hl 1 rfl) ?_
  refine lv_imul hx hb dX12_placeOf_26 ?_
  refine lv_topi (fun y_1 ey_1 => ?_)
  obtain rfl : y_1 = 121 := ey_1.trans (by decide)
  refine lv_iadd hx hb dX12_placeOf_27 ?_
  refine lv_topi (fun y_2 ey_2 => ?_)
  obtain rfl : y_2 = 833 := ey_2.trans (by decide)
  refine lv_goto (tgt := 39) hx hb dX12_placeOf_28 (by decide) ?_
  exact z_back hQz_ (z_iret C hr hlocks G (Nat.le_of_ble_eq_true rfl) (Nat.le_of_ble_eq_true rfl) dX12_placeOf_39 ⟨rfl, rfl⟩)
set_option maxHeartbeats 4000000 in
set_option maxRecDepth 100000 in
/-- c_m_sizeOf1 -/
theorem c_m_sizeOf1 (l : Launch) (T : zTy) : zMi l T yX12_sizeOf cX12_sizeOf 1 (some .int) 1 0 0 [.int 1] [] (fun (r : Int32) bs => bs = [] ∧ r = 121) := by
  refine zMi_of (own := RX12) (by decide) rfl (Nat.le_of_ble_eq_true rfl) ?_
  intro p e s m args below meth c A ls C hr hlocks hnm hAe G hl
  refine zHide (fun Qz_ hQz_ => ?_)
  have hx := C.1
  have hb := C.2.1
  have hl : lv_has ls 1 [(0, .int 1)] := hl
  refine lv_iload_n hx hb dX12_sizeOf_0 rfl (lv_at hl 0 rfl) ?_
  refine lv_if_ne (tgt := 9) hx hb dX12_sizeOf_1 (by decide) (fun _ => ?_) (fun q => absurd q (by decide))
  refine lv_iload_n hx hb dX12_sizeOf_9 rfl (lv_at hl 0 rfl) ?_
  refine lv_iconst (v := 1) hx hb dX12_sizeOf_10 (by decide) ?_
  refine lv_icmp_ne (tgt := 19) hx hb dX12_sizeOf_11 (by decide) (fun q => absurd (by decide) q) (fun _ => ?_)
  refine lv_bipush (v := 121) hx hb dX12_sizeOf_14 (by decide) ?_
  refine lv_goto (tgt := 21) hx hb dX12_sizeOf_16 (by decide) ?_
  exact z_back hQz_ (z_iret C hr hlocks G (Nat.le_of_ble_eq_true rfl) (Nat.le_of_ble_eq_true rfl) dX12_sizeOf_21 ⟨rfl, rfl⟩)
set_option maxHeartbeats 4000000 in
set_option maxRecDepth 100000 in
/-- c_m_placeOf20 -/
theorem c_m_placeOf20 (l : Launch) (T : zTy) : zMi l T yX12_placeOf cX12_placeOf 2 (some .int) 1 0 0 [.int 2, .int 0] [] (fun (r : Int32) bs => bs = [] ∧ r = 954) := by
  refine zMi_of (own := RX12) (by decide) rfl (Nat.le_of_ble_eq_true rfl) ?_
  intro p e s m args below meth c A ls C hr hlocks hnm hAe G hl
  refine zHide (fun Qz_ hQz_ => ?_)
  have hx := C.1
  have hb := C.2.1
  have hl : lv_has ls 2 [(0, .int 2), (1, .int 0)] := hl
  refine lv_iload_n hx hb dX12_placeOf_0 rfl (lv_at hl 0 rfl) ?_
  refine lv_if_ne (tgt := 15) hx hb dX12_placeOf_1 (by decide) (fun _ => ?_) (fun q => absurd q (by decide))
  refine lv_iload_n hx hb dX12_placeOf_15 rfl (lv_at hl 0 rfl) ?_
  refine lv_iconst (v := 1) hx hb dX12_placeOf_16 (by decide) ?_
  refine lv_icmp_ne (tgt := 31) hx hb dX12_placeOf_17 (by decide) (fun _ => ?_) (fun q => absurd q (by decide))
  refine lv_sipush (v := 954) hx hb dX12_placeOf_31 (by decide) ?_
  refine lv_bipush (v := 17) hx hb dX12_placeOf_34 (by decide) ?_
  refine lv_iload_n hx hb dX12_placeOf_36 rfl (lv_at hl 1 rfl) ?_
  refine lv_imul hx hb dX12_placeOf_37 ?_
  refine lv_topi (fun y_1 ey_1 => ?_)
  obtain rfl : y_1 = 0 := ey_1.trans (by decide)
  refine lv_iadd hx hb dX12_placeOf_38 ?_
  refine lv_topi (fun y_2 ey_2 => ?_)
  obtain rfl : y_2 = 954 := ey_2.trans (by decide)
  exact z_back hQz_ (z_iret C hr hlocks G (Nat.le_of_ble_eq_true rfl) (Nat.le_of_ble_eq_true rfl) dX12_placeOf_39 ⟨rfl, rfl⟩)
set_option maxHeartbeats 4000000 in
set_option maxRecDepth 100000 in
/-- c_m_placeOf21 -/
theorem c_m_placeOf21 (l : Launch) (T : zTy) : zMi l T yX12_placeOf cX12_placeOf 2 (some .int) 1 0 0 [.int 2, .int 1] [] (fun (r : Int32) bs => bs = [] ∧ r = 971) := by
  refine zMi_of (own := RX12) (by decide) rfl (Nat.le_of_ble_eq_true rfl) ?_
  intro p e s m args below meth c A ls C hr hlocks hnm hAe G hl
  refine zHide (fun Qz_ hQz_ => ?_)
  have hx := C.1
  have hb := C.2.1
  have hl : lv_has ls 2 [(0, .int 2), (1, .int 1)] := hl
  refine lv_iload_n hx hb dX12_placeOf_0 rfl (lv_at hl 0 rfl) ?_
  refine lv_if_ne (tgt := 15) hx hb dX12_placeOf_1 (by decide) (fun _ => ?_) (fun q => absurd q (by decide))
  refine lv_iload_n hx hb dX12_placeOf_15 rfl (lv_at hl 0 rfl) ?_
  refine lv_iconst (v := 1) hx hb dX12_placeOf_16 (by decide) ?_
  refine lv_icmp_ne (tgt := 31) hx hb dX12_placeOf_17 (by decide) (fun _ => ?_) (fun q => absurd q (by decide))
  refine lv_sipush (v := 954) hx hb dX12_placeOf_31 (by decide) ?_
  refine lv_bipush (v := 17) hx hb dX12_placeOf_34 (by decide) ?_
  refine lv_iload_n hx hb dX12_placeOf_36 rfl (lv_at hl 1 rfl) ?_
  refine lv_imul hx hb dX12_placeOf_37 ?_
  refine lv_topi (fun y_1 ey_1 => ?_)
  obtain rfl : y_1 = 17 := ey_1.trans (by decide)
  refine lv_iadd hx hb dX12_placeOf_38 ?_
  refine lv_topi (fun y_2 ey_2 => ?_)
  obtain rfl : y_2 = 971 := ey_2.trans (by decide)
  exact z_back hQz_ (z_iret C hr hlocks G (Nat.le_of_ble_eq_true rfl) (Nat.le_of_ble_eq_true rfl) dX12_placeOf_39 ⟨rfl, rfl⟩)
set_option maxHeartbeats 4000000 in
set_option maxRecDepth 100000 in
/-- c_m_sizeOf2 -/
theorem c_m_sizeOf2 (l : Launch) (T : zTy) : zMi l T yX12_sizeOf cX12_sizeOf 1 (some .int) 1 0 0 [.int 2] [] (fun (r : Int32) bs => bs = [] ∧ r = 17) := by
  refine zMi_of (own := RX12) (by decide) rfl (Nat.le_of_ble_eq_true rfl) ?_
  intro p e s m args below meth c A ls C hr hlocks hnm hAe G hl
  refine zHide (fun Qz_ hQz_ => ?_)
  have hx := C.1
  have hb := C.2.1
  have hl : lv_has ls 1 [(0, .int 2)] := hl
  refine lv_iload_n hx hb dX12_sizeOf_0 rfl (lv_at hl 0 rfl) ?_
  refine lv_if_ne (tgt := 9) hx hb dX12_sizeOf_1 (by decide) (fun _ => ?_) (fun q => absurd q (by decide))
  refine lv_iload_n hx hb dX12_sizeOf_9 rfl (lv_at hl 0 rfl) ?_
  refine lv_iconst (v := 1) hx hb dX12_sizeOf_10 (by decide) ?_
  refine lv_icmp_ne (tgt := 19) hx hb dX12_sizeOf_11 (by decide) (fun _ => ?_) (fun q => absurd q (by decide))
  refine lv_bipush (v := 17) hx hb dX12_sizeOf_19 (by decide) ?_
  exact z_back hQz_ (z_iret C hr hlocks G (Nat.le_of_ble_eq_true rfl) (Nat.le_of_ble_eq_true rfl) dX12_sizeOf_21 ⟨rfl, rfl⟩)
set_option maxHeartbeats 4000000 in
set_option maxRecDepth 100000 in
/-- isOf 0 -/
theorem c_m_isOf0 (l : Launch) (T : zTy) (mo : Nat) (m_all : Nat) (m_has : Nat) (i_size : Int32) (i_next : Int32) (i_where : Int32) (i_token : Int32) (i_number : Int32) (i_word : Int32) (i_wrong : Int32) (i_farCrossing : Int32) (m_read : Nat) (i_z0 : Int32) (i_crossings : Int32) (i_inns : Int32) (m_posts : Nat) (m_shut : Nat) (m_here : Nat) (i_steps : Int32) (i_done : Int32) (i_at : Int32) (i_gone : Int32) (m_was : Nat) (m_came : Nat) (m_seenAt : Nat) (m_rowWorth : Nat) (m_farBy : Nat) (m_used : Nat) (i_everywhere : Int32) (i_again0 : Int32) (i_d0 : Int32) (i_never : Int32) (i_firstCame : Int32) (i_longRun : Int32) (i_moved : Int32) (i_crowd : Int32) (i_l0 : Int32) (i_fitMany : Int32) (i_fitLeast : Int32) (i_fitMost : Int32) (m_fitPost : Nat) (m_fitEnd : Nat) (m_keptPosts : Nat) (i_x0 : Int32) (f_all : Nat → Int32) (k_ : Int32) (hc : 0 ≤ (f_all 0).toInt ∧ (f_all 0).toInt ≤ 2) : zMi l T yX12_isOf cX12_isOf 3 (some .boolean) 2 0 0 [.ref mo, .int 0, .int k_] [[zO11 mo m_all m_has i_size i_next i_where i_token i_number i_word i_wrong i_farCrossing m_read i_z0 i_crossings i_inns m_posts m_shut m_here i_steps i_done i_at i_gone m_was m_came m_seenAt m_rowWorth m_farBy m_used i_everywhere i_again0 i_d0 i_never i_firstCame i_longRun i_moved i_crowd i_l0 i_fitMany i_fitLeast i_fitMost m_fitPost m_fitEnd m_keptPosts i_x0], [zAr T 0 m_all 3952 f_all]] (fun (r : Int32) bs => bs = [[zO11 mo m_all m_has i_size i_next i_where i_token i_number i_word i_wrong i_farCrossing m_read i_z0 i_crossings i_inns m_posts m_shut m_here i_steps i_done i_at i_gone m_was m_came m_seenAt m_rowWorth m_farBy m_used i_everywhere i_again0 i_d0 i_never i_firstCame i_longRun i_moved i_crowd i_l0 i_fitMany i_fitLeast i_fitMost m_fitPost m_fitEnd m_keptPosts i_x0], [zAr T 0 m_all 3952 f_all]] ∧ ((r = 1 ∧ 0 ≤ k_.toInt ∧ k_.toInt < (f_all 0).toInt) ∨ (r = 0 ∧ (k_.toInt < 0 ∨ (f_all 0).toInt ≤ k_.toInt)))) := by
  refine zMi_of (own := RX12) (by decide) rfl (Nat.le_of_ble_eq_true rfl) ?_
  intro p e s m args below meth c A ls C hr hlocks hnm hAe G hl
  refine zHide (fun Qz_ hQz_ => ?_)
  have hx := C.1
  have hb := C.2.1
  have hl : lv_has ls 3 [(0, .ref mo), (1, .int 0), (2, .int k_)] := hl
  refine lv_iload_n hx hb dX12_isOf_0 rfl (lv_at hl 2 rfl) ?_
  refine lv_iconst (v := 0) hx hb dX12_isOf_1 (by decide) ?_
  refine lv_aload_n hx hb dX12_isOf_2 rfl (lv_at hl 0 rfl) ?_
  refine z_get C G clX12 0 rfl 0 (by decide) m_fl_RX12_7 rfl dX12_isOf_3 ?_
  refine lv_iload_n hx hb dX12_isOf_6 rfl (lv_at hl 1 rfl) ?_
  refine z_ild C G 1 rfl (vp_in_nI (n := 0) (by decide) (by decide)) dX12_isOf_7 ?_
  refine lv_topi (fun v_1 ev_1 => ?_)
  rw [show ((0 : Int32).toNatClampNeg) = 0 from rfl] at ev_1
  subst ev_1
  refine lv_iconst (v := 1) hx hb dX12_isOf_8 (by decide) ?_
  refine lv_isub hx hb dX12_isOf_9 ?_
  refine lv_topi (fun y_2 ey_2 => ?_)
  have ey_2i : y_2.toInt = (f_all 0).toInt - (1 : Int) := by rw [ey_2]; exact z_isubI (x := (f_all 0)) (y := (1 : Int32)) (by show -2147483648 ≤ (f_all 0).toInt - (1 : Int); omega) (by show (f_all 0).toInt - (1 : Int) < 2147483648; omega)
  refine z_Si (bc := []) (br := [[zO11 mo m_all m_has i_size i_next i_where i_token i_number i_word i_wrong i_farCrossing m_read i_z0 i_crossings i_inns m_posts m_shut m_here i_steps i_done i_at i_gone m_was m_came m_seenAt m_rowWorth m_farBy m_used i_everywhere i_again0 i_d0 i_never i_firstCame i_longRun i_moved i_crowd i_l0 i_fitMany i_fitLeast i_fitMost m_fitPost m_fitEnd m_keptPosts i_x0], [zAr T 0 m_all 3952 f_all]]) (As := [.int k_, .int 0, .int y_2]) (rest := []) C G (c_m_isIn l T k_ 0 y_2) (kS_RX12_111 C.2.2.2.2 (Nat.le_of_ble_eq_true rfl) (Nat.le_of_ble_eq_true rfl)) [] [] rfl rfl rfl rfl hl.1 dX12_isOf_10 (Nat.le_of_ble_eq_true rfl) (Nat.le_of_ble_eq_true rfl) (fun r_4 b1 H locs hw G => ?_)
  refine zAn2 hw ?_
  intro hbs9 hc_3
  clear hw
  subst hbs9
  have G : zS T A s.heap s [[zO11 mo m_all m_has i_size i_next i_where i_token i_number i_word i_wrong i_farCrossing m_read i_z0 i_crossings i_inns m_posts m_shut m_here i_steps i_done i_at i_gone m_was m_came m_seenAt m_rowWorth m_farBy m_used i_everywhere i_again0 i_d0 i_never i_firstCame i_longRun i_moved i_crowd i_l0 i_fitMany i_fitLeast i_fitMost m_fitPost m_fitEnd m_keptPosts i_x0], [zAr T 0 m_all 3952 f_all]] _ _ := G
  rcases hc_3 with ⟨rfl, h_5, h_6⟩ | ⟨rfl, h_7⟩
  · have h_5 : (0 : Int) ≤ k_.toInt := h_5
    have h_6 : k_.toInt ≤ y_2.toInt := h_6
    exact z_back hQz_ (z_zret C hr hlocks G (Nat.le_of_ble_eq_true rfl) (Nat.le_of_ble_eq_true rfl) dX12_isOf_13 rfl ⟨rfl, (Or.inl (⟨rfl, (by first | with_reducible assumption | omega | assumption), (by first | with_reducible assumption | omega | assumption)⟩))⟩)
  · have h_7 : (k_.toInt < (0 : Int) ∨ y_2.toInt < k_.toInt) := h_7
    exact z_back hQz_ (z_zret C hr hlocks G (Nat.le_of_ble_eq_true rfl) (Nat.le_of_ble_eq_true rfl) dX12_isOf_13 rfl ⟨rfl, (Or.inr (⟨rfl, (by first | with_reducible assumption | omega | assumption)⟩))⟩)
set_option maxHeartbeats 4000000 in
set_option maxRecDepth 100000 in
/-- isOf 1 -/
theorem c_m_isOf1 (l : Launch) (T : zTy) (mo : Nat) (m_all : Nat) (m_has : Nat) (i_size : Int32) (i_next : Int32) (i_where : Int32) (i_token : Int32) (i_number : Int32) (i_word : Int32) (i_wrong : Int32) (i_farCrossing : Int32) (m_read : Nat) (i_z0 : Int32) (i_crossings : Int32) (i_inns : Int32) (m_posts : Nat) (m_shut : Nat) (m_here : Nat) (i_steps : Int32) (i_done : Int32) (i_at : Int32) (i_gone : Int32) (m_was : Nat) (m_came : Nat) (m_seenAt : Nat) (m_rowWorth : Nat) (m_farBy : Nat) (m_used : Nat) (i_everywhere : Int32) (i_again0 : Int32) (i_d0 : Int32) (i_never : Int32) (i_firstCame : Int32) (i_longRun : Int32) (i_moved : Int32) (i_crowd : Int32) (i_l0 : Int32) (i_fitMany : Int32) (i_fitLeast : Int32) (i_fitMost : Int32) (m_fitPost : Nat) (m_fitEnd : Nat) (m_keptPosts : Nat) (i_x0 : Int32) (f_all : Nat → Int32) (k_ : Int32) (hc : 0 ≤ (f_all 1).toInt ∧ (f_all 1).toInt ≤ 2) : zMi l T yX12_isOf cX12_isOf 3 (some .boolean) 2 0 0 [.ref mo, .int 1, .int k_] [[zO11 mo m_all m_has i_size i_next i_where i_token i_number i_word i_wrong i_farCrossing m_read i_z0 i_crossings i_inns m_posts m_shut m_here i_steps i_done i_at i_gone m_was m_came m_seenAt m_rowWorth m_farBy m_used i_everywhere i_again0 i_d0 i_never i_firstCame i_longRun i_moved i_crowd i_l0 i_fitMany i_fitLeast i_fitMost m_fitPost m_fitEnd m_keptPosts i_x0], [zAr T 0 m_all 3952 f_all]] (fun (r : Int32) bs => bs = [[zO11 mo m_all m_has i_size i_next i_where i_token i_number i_word i_wrong i_farCrossing m_read i_z0 i_crossings i_inns m_posts m_shut m_here i_steps i_done i_at i_gone m_was m_came m_seenAt m_rowWorth m_farBy m_used i_everywhere i_again0 i_d0 i_never i_firstCame i_longRun i_moved i_crowd i_l0 i_fitMany i_fitLeast i_fitMost m_fitPost m_fitEnd m_keptPosts i_x0], [zAr T 0 m_all 3952 f_all]] ∧ ((r = 1 ∧ 0 ≤ k_.toInt ∧ k_.toInt < (f_all 1).toInt) ∨ (r = 0 ∧ (k_.toInt < 0 ∨ (f_all 1).toInt ≤ k_.toInt)))) := by
  refine zMi_of (own := RX12) (by decide) rfl (Nat.le_of_ble_eq_true rfl) ?_
  intro p e s m args below meth c A ls C hr hlocks hnm hAe G hl
  refine zHide (fun Qz_ hQz_ => ?_)
  have hx := C.1
  have hb := C.2.1
  have hl : lv_has ls 3 [(0, .ref mo), (1, .int 1), (2, .int k_)] := hl
  refine lv_iload_n hx hb dX12_isOf_0 rfl (lv_at hl 2 rfl) ?_
  refine lv_iconst (v := 0) hx hb dX12_isOf_1 (by decide) ?_
  refine lv_aload_n hx hb dX12_isOf_2 rfl (lv_at hl 0 rfl) ?_
  refine z_get C G clX12 0 rfl 0 (by decide) m_fl_RX12_7 rfl dX12_isOf_3 ?_
  refine lv_iload_n hx hb dX12_isOf_6 rfl (lv_at hl 1 rfl) ?_
  refine z_ild C G 1 rfl (vp_in_nI (n := 1) (by decide) (by decide)) dX12_isOf_7 ?_
  refine lv_topi (fun v_1 ev_1 => ?_)
  rw [show ((1 : Int32).toNatClampNeg) = 1 from rfl] at ev_1
  subst ev_1
  refine lv_iconst (v := 1) hx hb dX12_isOf_8 (by decide) ?_
  refine lv_isub hx hb dX12_isOf_9 ?_
  refine lv_topi (fun y_2 ey_2 => ?_)
  have ey_2i : y_2.toInt = (f_all 1).toInt - (1 : Int) := by rw [ey_2]; exact z_isubI (x := (f_all 1)) (y := (1 : Int32)) (by show -2147483648 ≤ (f_all 1).toInt - (1 : Int); omega) (by show (f_all 1).toInt - (1 : Int) < 2147483648; omega)
  refine z_Si (bc := []) (br := [[zO11 mo m_all m_has i_size i_next i_where i_token i_number i_word i_wrong i_farCrossing m_read i_z0 i_crossings i_inns m_posts m_shut m_here i_steps i_done i_at i_gone m_was m_came m_seenAt m_rowWorth m_farBy m_used i_everywhere i_again0 i_d0 i_never i_firstCame i_longRun i_moved i_crowd i_l0 i_fitMany i_fitLeast i_fitMost m_fitPost m_fitEnd m_keptPosts i_x0], [zAr T 0 m_all 3952 f_all]]) (As := [.int k_, .int 0, .int y_2]) (rest := []) C G (c_m_isIn l T k_ 0 y_2) (kS_RX12_111 C.2.2.2.2 (Nat.le_of_ble_eq_true rfl) (Nat.le_of_ble_eq_true rfl)) [] [] rfl rfl rfl rfl hl.1 dX12_isOf_10 (Nat.le_of_ble_eq_true rfl) (Nat.le_of_ble_eq_true rfl) (fun r_4 b1 H locs hw G => ?_)
  refine zAn2 hw ?_
  intro hbs9 hc_3
  clear hw
  subst hbs9
  have G : zS T A s.heap s [[zO11 mo m_all m_has i_size i_next i_where i_token i_number i_word i_wrong i_farCrossing m_read i_z0 i_crossings i_inns m_posts m_shut m_here i_steps i_done i_at i_gone m_was m_came m_seenAt m_rowWorth m_farBy m_used i_everywhere i_again0 i_d0 i_never i_firstCame i_longRun i_moved i_crowd i_l0 i_fitMany i_fitLeast i_fitMost m_fitPost m_fitEnd m_keptPosts i_x0], [zAr T 0 m_all 3952 f_all]] _ _ := G
  rcases hc_3 with ⟨rfl, h_5, h_6⟩ | ⟨rfl, h_7⟩
  · have h_5 : (0 : Int) ≤ k_.toInt := h_5
    have h_6 : k_.toInt ≤ y_2.toInt := h_6
    exact z_back hQz_ (z_zret C hr hlocks G (Nat.le_of_ble_eq_true rfl) (Nat.le_of_ble_eq_true rfl) dX12_isOf_13 rfl ⟨rfl, (Or.inl (⟨rfl, (by first | with_reducible assumption | omega | assumption), (by first | with_reducible assumption | omega | assumption)⟩))⟩)
  · have h_7 : (k_.toInt < (0 : Int) ∨ y_2.toInt < k_.toInt) := h_7
    exact z_back hQz_ (z_zret C hr hlocks G (Nat.le_of_ble_eq_true rfl) (Nat.le_of_ble_eq_true rfl) dX12_isOf_13 rfl ⟨rfl, (Or.inr (⟨rfl, (by first | with_reducible assumption | omega | assumption)⟩))⟩)
set_option maxHeartbeats 4000000 in
set_option maxRecDepth 100000 in
/-- isOf 2 -/
theorem c_m_isOf2 (l : Launch) (T : zTy) (mo : Nat) (m_all : Nat) (m_has : Nat) (i_size : Int32) (i_next : Int32) (i_where : Int32) (i_token : Int32) (i_number : Int32) (i_word : Int32) (i_wrong : Int32) (i_farCrossing : Int32) (m_read : Nat) (i_z0 : Int32) (i_crossings : Int32) (i_inns : Int32) (m_posts : Nat) (m_shut : Nat) (m_here : Nat) (i_steps : Int32) (i_done : Int32) (i_at : Int32) (i_gone : Int32) (m_was : Nat) (m_came : Nat) (m_seenAt : Nat) (m_rowWorth : Nat) (m_farBy : Nat) (m_used : Nat) (i_everywhere : Int32) (i_again0 : Int32) (i_d0 : Int32) (i_never : Int32) (i_firstCame : Int32) (i_longRun : Int32) (i_moved : Int32) (i_crowd : Int32) (i_l0 : Int32) (i_fitMany : Int32) (i_fitLeast : Int32) (i_fitMost : Int32) (m_fitPost : Nat) (m_fitEnd : Nat) (m_keptPosts : Nat) (i_x0 : Int32) (f_all : Nat → Int32) (k_ : Int32) (hc : 0 ≤ (f_all 2).toInt ∧ (f_all 2).toInt ≤ 2) : zMi l T yX12_isOf cX12_isOf 3 (some .boolean) 2 0 0 [.ref mo, .int 2, .int k_] [[zO11 mo m_all m_has i_size i_next i_where i_token i_number i_word i_wrong i_farCrossing m_read i_z0 i_crossings i_inns m_posts m_shut m_here i_steps i_done i_at i_gone m_was m_came m_seenAt m_rowWorth m_farBy m_used i_everywhere i_again0 i_d0 i_never i_firstCame i_longRun i_moved i_crowd i_l0 i_fitMany i_fitLeast i_fitMost m_fitPost m_fitEnd m_keptPosts i_x0], [zAr T 0 m_all 3952 f_all]] (fun (r : Int32) bs => bs = [[zO11 mo m_all m_has i_size i_next i_where i_token i_number i_word i_wrong i_farCrossing m_read i_z0 i_crossings i_inns m_posts m_shut m_here i_steps i_done i_at i_gone m_was m_came m_seenAt m_rowWorth m_farBy m_used i_everywhere i_again0 i_d0 i_never i_firstCame i_longRun i_moved i_crowd i_l0 i_fitMany i_fitLeast i_fitMost m_fitPost m_fitEnd m_keptPosts i_x0], [zAr T 0 m_all 3952 f_all]] ∧ ((r = 1 ∧ 0 ≤ k_.toInt ∧ k_.toInt < (f_all 2).toInt) ∨ (r = 0 ∧ (k_.toInt < 0 ∨ (f_all 2).toInt ≤ k_.toInt)))) := by
  refine zMi_of (own := RX12) (by decide) rfl (Nat.le_of_ble_eq_true rfl) ?_
  intro p e s m args below meth c A ls C hr hlocks hnm hAe G hl
  refine zHide (fun Qz_ hQz_ => ?_)
  have hx := C.1
  have hb := C.2.1
  have hl : lv_has ls 3 [(0, .ref mo), (1, .int 2), (2, .int k_)] := hl
  refine lv_iload_n hx hb dX12_isOf_0 rfl (lv_at hl 2 rfl) ?_
  refine lv_iconst (v := 0) hx hb dX12_isOf_1 (by decide) ?_
  refine lv_aload_n hx hb dX12_isOf_2 rfl (lv_at hl 0 rfl) ?_
  refine z_get C G clX12 0 rfl 0 (by decide) m_fl_RX12_7 rfl dX12_isOf_3 ?_
  refine lv_iload_n hx hb dX12_isOf_6 rfl (lv_at hl 1 rfl) ?_
  refine z_ild C G 1 rfl (vp_in_nI (n := 2) (by decide) (by decide)) dX12_isOf_7 ?_
  refine lv_topi (fun v_1 ev_1 => ?_)
  rw [show ((2 : Int32).toNatClampNeg) = 2 from rfl] at ev_1
  subst ev_1
  refine lv_iconst (v := 1) hx hb dX12_isOf_8 (by decide) ?_
  refine lv_isub hx hb dX12_isOf_9 ?_
  refine lv_topi (fun y_2 ey_2 => ?_)
  have ey_2i : y_2.toInt = (f_all 2).toInt - (1 : Int) := by rw [ey_2]; exact z_isubI (x := (f_all 2)) (y := (1 : Int32)) (by show -2147483648 ≤ (f_all 2).toInt - (1 : Int); omega) (by show (f_all 2).toInt - (1 : Int) < 2147483648; omega)
  refine z_Si (bc := []) (br := [[zO11 mo m_all m_has i_size i_next i_where i_token i_number i_word i_wrong i_farCrossing m_read i_z0 i_crossings i_inns m_posts m_shut m_here i_steps i_done i_at i_gone m_was m_came m_seenAt m_rowWorth m_farBy m_used i_everywhere i_again0 i_d0 i_never i_firstCame i_longRun i_moved i_crowd i_l0 i_fitMany i_fitLeast i_fitMost m_fitPost m_fitEnd m_keptPosts i_x0], [zAr T 0 m_all 3952 f_all]]) (As := [.int k_, .int 0, .int y_2]) (rest := []) C G (c_m_isIn l T k_ 0 y_2) (kS_RX12_111 C.2.2.2.2 (Nat.le_of_ble_eq_true rfl) (Nat.le_of_ble_eq_true rfl)) [] [] rfl rfl rfl rfl hl.1 dX12_isOf_10 (Nat.le_of_ble_eq_true rfl) (Nat.le_of_ble_eq_true rfl) (fun r_4 b1 H locs hw G => ?_)
  refine zAn2 hw ?_
  intro hbs9 hc_3
  clear hw
  subst hbs9
  have G : zS T A s.heap s [[zO11 mo m_all m_has i_size i_next i_where i_token i_number i_word i_wrong i_farCrossing m_read i_z0 i_crossings i_inns m_posts m_shut m_here i_steps i_done i_at i_gone m_was m_came m_seenAt m_rowWorth m_farBy m_used i_everywhere i_again0 i_d0 i_never i_firstCame i_longRun i_moved i_crowd i_l0 i_fitMany i_fitLeast i_fitMost m_fitPost m_fitEnd m_keptPosts i_x0], [zAr T 0 m_all 3952 f_all]] _ _ := G
  rcases hc_3 with ⟨rfl, h_5, h_6⟩ | ⟨rfl, h_7⟩
  · have h_5 : (0 : Int) ≤ k_.toInt := h_5
    have h_6 : k_.toInt ≤ y_2.toInt := h_6
    exact z_back hQz_ (z_zret C hr hlocks G (Nat.le_of_ble_eq_true rfl) (Nat.le_of_ble_eq_true rfl) dX12_isOf_13 rfl ⟨rfl, (Or.inl (⟨rfl, (by first | with_reducible assumption | omega | assumption), (by first | with_reducible assumption | omega | assumption)⟩))⟩)
  · have h_7 : (k_.toInt < (0 : Int) ∨ y_2.toInt < k_.toInt) := h_7
    exact z_back hQz_ (z_zret C hr hlocks G (Nat.le_of_ble_eq_true rfl) (Nat.le_of_ble_eq_true rfl) dX12_isOf_13 rfl ⟨rfl, (Or.inr (⟨rfl, (by first | with_reducible assumption | omega | assumption)⟩))⟩)
theorem m_co_X12_postsAreThere : Cond.code yX12_postsAreThere cX12_postsAreThere 3 (some .boolean) ∈ zT := zmem1 zsub_6 213 rfl rfl
theorem m_ml_RX12_156 : Cond.methodLink RX12 156 yX12_postsAreThere ∈ zT := zmem1 zsub_6 210 rfl rfl
theorem m_im_X12_postsAreThere : Cond.instanceMethod yX12_postsAreThere ∈ zT := zmem1 zsub_6 212 rfl rfl
theorem m_se_X12_postsAreThere : Cond.selects RX12 yX12_postsAreThere yX12_postsAreThere ∈ zT := zmem 58 rfl rfl
theorem m_co_X12_sizeOf : Cond.code yX12_sizeOf cX12_sizeOf 1 (some .int) ∈ zT := zmem1 zsub_6 216 rfl rfl
theorem m_ml_RX12_160 : Cond.methodLink RX12 160 yX12_sizeOf ∈ zT := zmem1 zsub_6 214 rfl rfl
theorem m_st_X12_sizeOf : Cond.static yX12_sizeOf ∈ zT := zmem1 zsub_6 215 rfl rfl
theorem m_co_X12_placeOf : Cond.code yX12_placeOf cX12_placeOf 2 (some .int) ∈ zT := zmem1 zsub_6 219 rfl rfl
theorem m_ml_RX12_163 : Cond.methodLink RX12 163 yX12_placeOf ∈ zT := zmem1 zsub_6 217 rfl rfl
theorem m_st_X12_placeOf : Cond.static yX12_placeOf ∈ zT := zmem1 zsub_6 218 rfl rfl
theorem m_co_X12_landLine : Cond.code yX12_landLine cX12_landLine 4 none ∈ zT := zmem1 zsub_6 173 rfl rfl
theorem m_ml_RX12_147 : Cond.methodLink RX12 147 yX12_landLine ∈ zT := zmem1 zsub_6 170 rfl rfl
theorem m_im_X12_landLine : Cond.instanceMethod yX12_landLine ∈ zT := zmem1 zsub_6 172 rfl rfl
theorem m_se_X12_landLine : Cond.selects RX12 yX12_landLine yX12_landLine ∈ zT := zmem 48 rfl rfl
theorem m_co_X12_isOf : Cond.code yX12_isOf cX12_isOf 3 (some .boolean) ∈ zT := zmem1 zsub_6 143 rfl rfl
theorem m_ml_RX12_143 : Cond.methodLink RX12 143 yX12_isOf ∈ zT := zmem1 zsub_6 140 rfl rfl
theorem m_im_X12_isOf : Cond.instanceMethod yX12_isOf ∈ zT := zmem1 zsub_6 142 rfl rfl
theorem m_se_X12_isOf : Cond.selects RX12 yX12_isOf yX12_isOf ∈ zT := zmem 45 rfl rfl
theorem m_co_X12_dayLine : Cond.code yX12_dayLine cX12_dayLine 6 none ∈ zT := zmem1 zsub_6 205 rfl rfl
theorem m_ml_RX12_150 : Cond.methodLink RX12 150 yX12_dayLine ∈ zT := zmem1 zsub_6 202 rfl rfl
theorem m_im_X12_dayLine : Cond.instanceMethod yX12_dayLine ∈ zT := zmem1 zsub_6 204 rfl rfl
theorem m_se_X12_dayLine : Cond.selects RX12 yX12_dayLine yX12_dayLine ∈ zT := zmem 56 rfl rfl
theorem m_co_X12_logLine : Cond.code yX12_logLine cX12_logLine 5 none ∈ zT := zmem1 zsub_6 209 rfl rfl
theorem m_ml_RX12_153 : Cond.methodLink RX12 153 yX12_logLine ∈ zT := zmem1 zsub_6 206 rfl rfl
theorem m_im_X12_logLine : Cond.instanceMethod yX12_logLine ∈ zT := zmem1 zsub_6 208 rfl rfl
theorem m_se_X12_logLine : Cond.selects RX12 yX12_logLine yX12_logLine ∈ zT := zmem 57 rfl rfl
theorem kV_RX12_156 {R : Room} {s : State} {args : Array Value} {d mc ms : Nat} (hts : ∀ w ∈ zT, w.before args s = true) (h1 : d + 1 ≤ R.frames) (h2 : 8 + (3 + 11) + 40 * d ≤ R.locals) : CallW R s args RX12 RX12 156 yX12_postsAreThere cX12_postsAreThere 3 (some .boolean) (zW yX12_postsAreThere cX12_postsAreThere 3 (some .boolean)) (zR d mc ms) mc ms 0 := z_cwV hts m_co_X12_postsAreThere m_ml_RX12_156 m_im_X12_postsAreThere m_se_X12_postsAreThere m_ii_RX12 (by decide +kernel) h1 h2
theorem kS_RX12_160 {R : Room} {s : State} {args : Array Value} {d mc ms : Nat} (hts : ∀ w ∈ zT, w.before args s = true) (h1 : d + 1 ≤ R.frames) (h2 : 8 + (1 + 11) + 40 * d ≤ R.locals) : CallB R s args RX12 160 yX12_sizeOf cX12_sizeOf 1 (some .int) (zW yX12_sizeOf cX12_sizeOf 1 (some .int)) (zR d mc ms) mc ms 1 ∧ (Cond.static yX12_sizeOf).before args s = true := z_cwS hts m_co_X12_sizeOf m_ml_RX12_160 m_st_X12_sizeOf m_ii_RX12 (by decide +kernel) h1 h2
theorem kS_RX12_163 {R : Room} {s : State} {args : Array Value} {d mc ms : Nat} (hts : ∀ w ∈ zT, w.before args s = true) (h1 : d + 1 ≤ R.frames) (h2 : 8 + (2 + 11) + 40 * d ≤ R.locals) : CallB R s args RX12 163 yX12_placeOf cX12_placeOf 2 (some .int) (zW yX12_placeOf cX12_placeOf 2 (some .int)) (zR d mc ms) mc ms 2 ∧ (Cond.static yX12_placeOf).before args s = true := z_cwS hts m_co_X12_placeOf m_ml_RX12_163 m_st_X12_placeOf m_ii_RX12 (by decide +kernel) h1 h2
theorem kV_RX12_147 {R : Room} {s : State} {args : Array Value} {d mc ms : Nat} (hts : ∀ w ∈ zT, w.before args s = true) (h1 : d + 1 ≤ R.frames) (h2 : 8 + (4 + 11) + 40 * d ≤ R.locals) : CallW R s args RX12 RX12 147 yX12_landLine cX12_landLine 4 none (zW yX12_landLine cX12_landLine 4 none) (zR d mc ms) mc ms 0 := z_cwV hts m_co_X12_landLine m_ml_RX12_147 m_im_X12_landLine m_se_X12_landLine m_ii_RX12 (by decide +kernel) h1 h2
theorem kV_RX12_143 {R : Room} {s : State} {args : Array Value} {d mc ms : Nat} (hts : ∀ w ∈ zT, w.before args s = true) (h1 : d + 1 ≤ R.frames) (h2 : 8 + (3 + 11) + 40 * d ≤ R.locals) : CallW R s args RX12 RX12 143 yX12_isOf cX12_isOf 3 (some .boolean) (zW yX12_isOf cX12_isOf 3 (some .boolean)) (zR d mc ms) mc ms 2 := z_cwV hts m_co_X12_isOf m_ml_RX12_143 m_im_X12_isOf m_se_X12_isOf m_ii_RX12 (by decide +kernel) h1 h2
theorem kV_RX12_150 {R : Room} {s : State} {args : Array Value} {d mc ms : Nat} (hts : ∀ w ∈ zT, w.before args s = true) (h1 : d + 1 ≤ R.frames) (h2 : 8 + (6 + 11) + 40 * d ≤ R.locals) : CallW R s args RX12 RX12 150 yX12_dayLine cX12_dayLine 6 none (zW yX12_dayLine cX12_dayLine 6 none) (zR d mc ms) mc ms 0 := z_cwV hts m_co_X12_dayLine m_ml_RX12_150 m_im_X12_dayLine m_se_X12_dayLine m_ii_RX12 (by decide +kernel) h1 h2
theorem kV_RX12_153 {R : Room} {s : State} {args : Array Value} {d mc ms : Nat} (hts : ∀ w ∈ zT, w.before args s = true) (h1 : d + 1 ≤ R.frames) (h2 : 8 + (5 + 11) + 40 * d ≤ R.locals) : CallW R s args RX12 RX12 153 yX12_logLine cX12_logLine 5 none (zW yX12_logLine cX12_logLine 5 none) (zR d mc ms) mc ms 0 := z_cwV hts m_co_X12_logLine m_ml_RX12_153 m_im_X12_logLine m_se_X12_logLine m_ii_RX12 (by decide +kernel) h1 h2
theorem dX12_text_0 : decode cX12_text 0 = .ok (.aload_n 0, 1) := zo_42 (by decide +kernel)
theorem dX12_text_1 : decode cX12_text 1 = .ok (.aload_n 0, 1) := zo_42 (by decide +kernel)
theorem dX12_text_2 : decode cX12_text 2 = .ok (.getfield 7, 3) := zo_180 (by decide +kernel)
theorem dX12_text_5 : decode cX12_text 5 = .ok (.iconst 4, 1) := zo_7 (by decide +kernel)
theorem dX12_text_6 : decode cX12_text 6 = .ok (.iaload, 1) := zo_46 (by decide +kernel)
theorem dX12_text_7 : decode cX12_text 7 = .ok (.putfield 56, 3) := zo_181 (by decide +kernel)
theorem dX12_text_10 : decode cX12_text 10 = .ok (.aload_n 0, 1) := zo_42 (by decide +kernel)
theorem dX12_text_11 : decode cX12_text 11 = .ok (.getfield 7, 3) := zo_180 (by decide +kernel)
theorem dX12_text_14 : decode cX12_text 14 = .ok (.iconst 4, 1) := zo_7 (by decide +kernel)
theorem dX12_text_15 : decode cX12_text 15 = .ok (.iconst 0, 1) := zo_3 (by decide +kernel)
theorem dX12_text_16 : decode cX12_text 16 = .ok (.iastore, 1) := zo_79 (by decide +kernel)
theorem dX12_text_17 : decode cX12_text 17 = .ok (.aload_n 0, 1) := zo_42 (by decide +kernel)
theorem dX12_text_18 : decode cX12_text 18 = .ok (.getfield 7, 3) := zo_180 (by decide +kernel)
theorem dX12_text_21 : decode cX12_text 21 = .ok (.iconst 5, 1) := zo_8 (by decide +kernel)
theorem dX12_text_22 : decode cX12_text 22 = .ok (.iconst 0, 1) := zo_3 (by decide +kernel)
theorem dX12_text_23 : decode cX12_text 23 = .ok (.iastore, 1) := zo_79 (by decide +kernel)
theorem dX12_text_24 : decode cX12_text 24 = .ok (.aload_n 0, 1) := zo_42 (by decide +kernel)
theorem dX12_text_25 : decode cX12_text 25 = .ok (.getfield 7, 3) := zo_180 (by decide +kernel)
theorem dX12_text_28 : decode cX12_text 28 = .ok (.bipush 6, 2) := zo_16 (by decide +kernel)
theorem dX12_text_30 : decode cX12_text 30 = .ok (.iconst (-1), 1) := zo_2 (by decide +kernel)
theorem dX12_text_31 : decode cX12_text 31 = .ok (.iastore, 1) := zo_79 (by decide +kernel)
theorem dX12_text_32 : decode cX12_text 32 = .ok (.iload_n 1, 1) := zo_27 (by decide +kernel)
theorem dX12_text_33 : decode cX12_text 33 = .ok (.iconst 0, 1) := zo_3 (by decide +kernel)
theorem dX12_text_34 : decode cX12_text 34 = .ok (.iconst 2, 1) := zo_5 (by decide +kernel)
theorem dX12_text_35 : decode cX12_text 35 = .ok (.invokestatic 111, 3) := zo_184 (by decide +kernel)
theorem dX12_text_38 : decode cX12_text 38 = .ok (.ifCond .eq 30, 3) := zo_153 (by decide +kernel)
theorem dX12_text_41 : decode cX12_text 41 = .ok (.iload_n 2, 1) := zo_28 (by decide +kernel)
theorem dX12_text_42 : decode cX12_text 42 = .ok (.iconst (-1), 1) := zo_2 (by decide +kernel)
theorem dX12_text_43 : decode cX12_text 43 = .ok (.if_icmp .ne 16, 3) := zo_160 (by decide +kernel)
theorem dX12_text_46 : decode cX12_text 46 = .ok (.aload_n 0, 1) := zo_42 (by decide +kernel)
theorem dX12_text_47 : decode cX12_text 47 = .ok (.getfield 7, 3) := zo_180 (by decide +kernel)
theorem dX12_text_50 : decode cX12_text 50 = .ok (.iload_n 1, 1) := zo_27 (by decide +kernel)
theorem dX12_text_51 : decode cX12_text 51 = .ok (.iaload, 1) := zo_46 (by decide +kernel)
theorem dX12_text_52 : decode cX12_text 52 = .ok (.iconst 2, 1) := zo_5 (by decide +kernel)
theorem dX12_text_53 : decode cX12_text 53 = .ok (.if_icmp .lt 18, 3) := zo_161 (by decide +kernel)
theorem dX12_text_56 : decode cX12_text 56 = .ok (.goto 12, 3) := zo_167 (by decide +kernel)
theorem dX12_text_59 : decode cX12_text 59 = .ok (.aload_n 0, 1) := zo_42 (by decide +kernel)
theorem dX12_text_60 : decode cX12_text 60 = .ok (.iload_n 1, 1) := zo_27 (by decide +kernel)
theorem dX12_text_61 : decode cX12_text 61 = .ok (.iload_n 2, 1) := zo_28 (by decide +kernel)
theorem dX12_text_62 : decode cX12_text 62 = .ok (.invokevirtual 143, 3) := zo_182 (by decide +kernel)
theorem dX12_text_65 : decode cX12_text 65 = .ok (.ifCond .ne 6, 3) := zo_154 (by decide +kernel)
theorem dX12_text_68 : decode cX12_text 68 = .ok (.bipush (-2), 2) := zo_16 (by decide +kernel)
theorem dX12_text_70 : decode cX12_text 70 = .ok (.ireturn, 1) := zo_172 (by decide +kernel)
theorem dX12_text_71 : decode cX12_text 71 = .ok (.aload_n 0, 1) := zo_42 (by decide +kernel)
theorem dX12_text_72 : decode cX12_text 72 = .ok (.iconst 0, 1) := zo_3 (by decide +kernel)
theorem dX12_text_73 : decode cX12_text 73 = .ok (.putfield 70, 3) := zo_181 (by decide +kernel)
theorem dX12_text_76 : decode cX12_text 76 = .ok (.aload_n 0, 1) := zo_42 (by decide +kernel)
theorem dX12_text_77 : decode cX12_text 77 = .ok (.iconst 0, 1) := zo_3 (by decide +kernel)
theorem dX12_text_78 : decode cX12_text 78 = .ok (.putfield 104, 3) := zo_181 (by decide +kernel)
theorem dX12_text_81 : decode cX12_text 81 = .ok (.aload_n 0, 1) := zo_42 (by decide +kernel)
theorem dX12_text_82 : decode cX12_text 82 = .ok (.iconst (-1), 1) := zo_2 (by decide +kernel)
theorem dX12_text_83 : decode cX12_text 83 = .ok (.putfield 126, 3) := zo_181 (by decide +kernel)
theorem dX12_text_86 : decode cX12_text 86 = .ok (.iconst 0, 1) := zo_3 (by decide +kernel)
theorem dX12_text_87 : decode cX12_text 87 = .ok (.istore_n 3, 1) := zo_62 (by decide +kernel)
theorem dX12_text_88 : decode cX12_text 88 = .ok (.iload_n 3, 1) := zo_29 (by decide +kernel)
theorem dX12_text_89 : decode cX12_text 89 = .ok (.bipush 121, 2) := zo_16 (by decide +kernel)
theorem dX12_text_91 : decode cX12_text 91 = .ok (.if_icmp .ge 16, 3) := zo_162 (by decide +kernel)
theorem dX12_text_94 : decode cX12_text 94 = .ok (.aload_n 0, 1) := zo_42 (by decide +kernel)
theorem dX12_text_95 : decode cX12_text 95 = .ok (.getfield 17, 3) := zo_180 (by decide +kernel)
theorem dX12_text_98 : decode cX12_text 98 = .ok (.iload_n 3, 1) := zo_29 (by decide +kernel)
theorem dX12_text_99 : decode cX12_text 99 = .ok (.iconst 0, 1) := zo_3 (by decide +kernel)
theorem dX12_text_100 : decode cX12_text 100 = .ok (.iastore, 1) := zo_79 (by decide +kernel)
theorem dX12_text_101 : decode cX12_text 101 = .ok (.iinc 3 1, 3) := zo_132 (by decide +kernel)
theorem dX12_text_104 : decode cX12_text 104 = .ok (.goto (-16), 3) := zo_167 (by decide +kernel)
theorem dX12_text_107 : decode cX12_text 107 = .ok (.aload_n 0, 1) := zo_42 (by decide +kernel)
theorem dX12_text_108 : decode cX12_text 108 = .ok (.invokevirtual 119, 3) := zo_182 (by decide +kernel)
theorem dX12_text_111 : decode cX12_text 111 = .ok (.aload_n 0, 1) := zo_42 (by decide +kernel)
theorem dX12_text_112 : decode cX12_text 112 = .ok (.getfield 104, 3) := zo_180 (by decide +kernel)
theorem dX12_text_115 : decode cX12_text 115 = .ok (.ifCond .ne 58, 3) := zo_154 (by decide +kernel)
theorem dX12_text_118 : decode cX12_text 118 = .ok (.aload_n 0, 1) := zo_42 (by decide +kernel)
theorem dX12_text_119 : decode cX12_text 119 = .ok (.getfield 80, 3) := zo_180 (by decide +kernel)
theorem dX12_text_122 : decode cX12_text 122 = .ok (.ifCond .eq 51, 3) := zo_153 (by decide +kernel)
theorem dX12_text_125 : decode cX12_text 125 = .ok (.iload_n 1, 1) := zo_27 (by decide +kernel)
theorem dX12_text_126 : decode cX12_text 126 = .ok (.lookupswitch 40 #[(0, 26), (1, 33)], 26) := by decide +kernel
theorem dX12_text_152 : decode cX12_text 152 = .ok (.aload_n 0, 1) := zo_42 (by decide +kernel)
theorem dX12_text_153 : decode cX12_text 153 = .ok (.invokevirtual 147, 3) := zo_182 (by decide +kernel)
theorem dX12_text_156 : decode cX12_text 156 = .ok (.goto (-45), 3) := zo_167 (by decide +kernel)
theorem dX12_text_159 : decode cX12_text 159 = .ok (.aload_n 0, 1) := zo_42 (by decide +kernel)
theorem dX12_text_160 : decode cX12_text 160 = .ok (.invokevirtual 150, 3) := zo_182 (by decide +kernel)
theorem dX12_text_163 : decode cX12_text 163 = .ok (.goto (-52), 3) := zo_167 (by decide +kernel)
theorem dX12_text_166 : decode cX12_text 166 = .ok (.aload_n 0, 1) := zo_42 (by decide +kernel)
theorem dX12_text_167 : decode cX12_text 167 = .ok (.invokevirtual 153, 3) := zo_182 (by decide +kernel)
theorem dX12_text_170 : decode cX12_text 170 = .ok (.goto (-59), 3) := zo_167 (by decide +kernel)
theorem dX12_text_173 : decode cX12_text 173 = .ok (.iload_n 1, 1) := zo_27 (by decide +kernel)
theorem dX12_text_174 : decode cX12_text 174 = .ok (.ifCond .ne 34, 3) := zo_154 (by decide +kernel)
theorem dX12_text_177 : decode cX12_text 177 = .ok (.aload_n 0, 1) := zo_42 (by decide +kernel)
theorem dX12_text_178 : decode cX12_text 178 = .ok (.getfield 7, 3) := zo_180 (by decide +kernel)
theorem dX12_text_181 : decode cX12_text 181 = .ok (.iconst 5, 1) := zo_8 (by decide +kernel)
theorem dX12_text_182 : decode cX12_text 182 = .ok (.iaload, 1) := zo_46 (by decide +kernel)
theorem dX12_text_183 : decode cX12_text 183 = .ok (.ifCond .ne 25, 3) := zo_154 (by decide +kernel)
theorem dX12_text_186 : decode cX12_text 186 = .ok (.aload_n 0, 1) := zo_42 (by decide +kernel)
theorem dX12_text_187 : decode cX12_text 187 = .ok (.getfield 126, 3) := zo_180 (by decide +kernel)
theorem dX12_text_190 : decode cX12_text 190 = .ok (.aload_n 0, 1) := zo_42 (by decide +kernel)
theorem dX12_text_191 : decode cX12_text 191 = .ok (.getfield 17, 3) := zo_180 (by decide +kernel)
theorem dX12_text_194 : decode cX12_text 194 = .ok (.iconst 0, 1) := zo_3 (by decide +kernel)
theorem dX12_text_195 : decode cX12_text 195 = .ok (.iaload, 1) := zo_46 (by decide +kernel)
theorem dX12_text_196 : decode cX12_text 196 = .ok (.if_icmp .lt 12, 3) := zo_161 (by decide +kernel)
theorem dX12_text_199 : decode cX12_text 199 = .ok (.aload_n 0, 1) := zo_42 (by decide +kernel)
theorem dX12_text_200 : decode cX12_text 200 = .ok (.iconst 4, 1) := zo_7 (by decide +kernel)
theorem dX12_text_201 : decode cX12_text 201 = .ok (.aload_n 0, 1) := zo_42 (by decide +kernel)
theorem dX12_text_202 : decode cX12_text 202 = .ok (.getfield 77, 3) := zo_180 (by decide +kernel)
theorem dX12_text_205 : decode cX12_text 205 = .ok (.invokevirtual 115, 3) := zo_182 (by decide +kernel)
theorem dX12_text_208 : decode cX12_text 208 = .ok (.iload_n 1, 1) := zo_27 (by decide +kernel)
theorem dX12_text_209 : decode cX12_text 209 = .ok (.ifCond .ne 28, 3) := zo_154 (by decide +kernel)
theorem dX12_text_212 : decode cX12_text 212 = .ok (.aload_n 0, 1) := zo_42 (by decide +kernel)
theorem dX12_text_213 : decode cX12_text 213 = .ok (.getfield 7, 3) := zo_180 (by decide +kernel)
theorem dX12_text_216 : decode cX12_text 216 = .ok (.iconst 5, 1) := zo_8 (by decide +kernel)
theorem dX12_text_217 : decode cX12_text 217 = .ok (.iaload, 1) := zo_46 (by decide +kernel)
theorem dX12_text_218 : decode cX12_text 218 = .ok (.ifCond .ne 19, 3) := zo_154 (by decide +kernel)
theorem dX12_text_221 : decode cX12_text 221 = .ok (.aload_n 0, 1) := zo_42 (by decide +kernel)
theorem dX12_text_222 : decode cX12_text 222 = .ok (.invokevirtual 156, 3) := zo_182 (by decide +kernel)
theorem dX12_text_225 : decode cX12_text 225 = .ok (.ifCond .ne 12, 3) := zo_154 (by decide +kernel)
theorem dX12_text_228 : decode cX12_text 228 = .ok (.aload_n 0, 1) := zo_42 (by decide +kernel)
theorem dX12_text_229 : decode cX12_text 229 = .ok (.iconst 5, 1) := zo_8 (by decide +kernel)
theorem dX12_text_230 : decode cX12_text 230 = .ok (.aload_n 0, 1) := zo_42 (by decide +kernel)
theorem dX12_text_231 : decode cX12_text 231 = .ok (.getfield 77, 3) := zo_180 (by decide +kernel)
theorem dX12_text_234 : decode cX12_text 234 = .ok (.invokevirtual 115, 3) := zo_182 (by decide +kernel)
theorem dX12_text_237 : decode cX12_text 237 = .ok (.aload_n 0, 1) := zo_42 (by decide +kernel)
theorem dX12_text_238 : decode cX12_text 238 = .ok (.getfield 7, 3) := zo_180 (by decide +kernel)
theorem dX12_text_241 : decode cX12_text 241 = .ok (.iconst 5, 1) := zo_8 (by decide +kernel)
theorem dX12_text_242 : decode cX12_text 242 = .ok (.iaload, 1) := zo_46 (by decide +kernel)
theorem dX12_text_243 : decode cX12_text 243 = .ok (.ifCond .eq 5, 3) := zo_153 (by decide +kernel)
theorem dX12_text_246 : decode cX12_text 246 = .ok (.iconst (-1), 1) := zo_2 (by decide +kernel)
theorem dX12_text_247 : decode cX12_text 247 = .ok (.ireturn, 1) := zo_172 (by decide +kernel)
theorem dX12_text_248 : decode cX12_text 248 = .ok (.iload_n 2, 1) := zo_28 (by decide +kernel)
theorem dX12_text_249 : decode cX12_text 249 = .ok (.iconst (-1), 1) := zo_2 (by decide +kernel)
theorem dX12_text_250 : decode cX12_text 250 = .ok (.if_icmp .ne 12, 3) := zo_160 (by decide +kernel)
theorem dX12_text_253 : decode cX12_text 253 = .ok (.aload_n 0, 1) := zo_42 (by decide +kernel)
theorem dX12_text_254 : decode cX12_text 254 = .ok (.getfield 7, 3) := zo_180 (by decide +kernel)
theorem dX12_text_257 : decode cX12_text 257 = .ok (.iload_n 1, 1) := zo_27 (by decide +kernel)
theorem dX12_text_258 : decode cX12_text 258 = .ok (.iaload, 1) := zo_46 (by decide +kernel)
theorem dX12_text_259 : decode cX12_text 259 = .ok (.goto 4, 3) := zo_167 (by decide +kernel)
theorem dX12_text_262 : decode cX12_text 262 = .ok (.iload_n 2, 1) := zo_28 (by decide +kernel)
theorem dX12_text_263 : decode cX12_text 263 = .ok (.istore_n 3, 1) := zo_62 (by decide +kernel)
theorem dX12_text_264 : decode cX12_text 264 = .ok (.iload_n 2, 1) := zo_28 (by decide +kernel)
theorem dX12_text_265 : decode cX12_text 265 = .ok (.iconst (-1), 1) := zo_2 (by decide +kernel)
theorem dX12_text_266 : decode cX12_text 266 = .ok (.if_icmp .ne 13, 3) := zo_160 (by decide +kernel)
theorem dX12_text_269 : decode cX12_text 269 = .ok (.aload_n 0, 1) := zo_42 (by decide +kernel)
theorem dX12_text_270 : decode cX12_text 270 = .ok (.getfield 7, 3) := zo_180 (by decide +kernel)
theorem dX12_text_273 : decode cX12_text 273 = .ok (.iload_n 1, 1) := zo_27 (by decide +kernel)
theorem dX12_text_274 : decode cX12_text 274 = .ok (.dup2, 1) := zo_92 (by decide +kernel)
theorem dX12_text_275 : decode cX12_text 275 = .ok (.iaload, 1) := zo_46 (by decide +kernel)
theorem dX12_text_276 : decode cX12_text 276 = .ok (.iconst 1, 1) := zo_4 (by decide +kernel)
theorem dX12_text_277 : decode cX12_text 277 = .ok (.iadd, 1) := zo_96 (by decide +kernel)
theorem dX12_text_278 : decode cX12_text 278 = .ok (.iastore, 1) := zo_79 (by decide +kernel)
theorem dX12_text_279 : decode cX12_text 279 = .ok (.iconst 0, 1) := zo_3 (by decide +kernel)
theorem dX12_text_280 : decode cX12_text 280 = .ok (.istore 4, 2) := zo_54 (by decide +kernel)
theorem dX12_text_282 : decode cX12_text 282 = .ok (.iload 4, 2) := zo_21 (by decide +kernel)
theorem dX12_text_284 : decode cX12_text 284 = .ok (.iload_n 1, 1) := zo_27 (by decide +kernel)
theorem dX12_text_285 : decode cX12_text 285 = .ok (.invokestatic 160, 3) := zo_184 (by decide +kernel)
theorem dX12_text_288 : decode cX12_text 288 = .ok (.if_icmp .ge 29, 3) := zo_162 (by decide +kernel)
theorem dX12_text_291 : decode cX12_text 291 = .ok (.aload_n 0, 1) := zo_42 (by decide +kernel)
theorem dX12_text_292 : decode cX12_text 292 = .ok (.getfield 7, 3) := zo_180 (by decide +kernel)
theorem dX12_text_295 : decode cX12_text 295 = .ok (.iload_n 1, 1) := zo_27 (by decide +kernel)
theorem dX12_text_296 : decode cX12_text 296 = .ok (.iload_n 3, 1) := zo_29 (by decide +kernel)
theorem dX12_text_297 : decode cX12_text 297 = .ok (.invokestatic 163, 3) := zo_184 (by decide +kernel)
theorem dX12_text_300 : decode cX12_text 300 = .ok (.iload 4, 2) := zo_21 (by decide +kernel)
theorem dX12_text_302 : decode cX12_text 302 = .ok (.iadd, 1) := zo_96 (by decide +kernel)
theorem dX12_text_303 : decode cX12_text 303 = .ok (.aload_n 0, 1) := zo_42 (by decide +kernel)
theorem dX12_text_304 : decode cX12_text 304 = .ok (.getfield 17, 3) := zo_180 (by decide +kernel)
theorem dX12_text_307 : decode cX12_text 307 = .ok (.iload 4, 2) := zo_21 (by decide +kernel)
theorem dX12_text_309 : decode cX12_text 309 = .ok (.iaload, 1) := zo_46 (by decide +kernel)
theorem dX12_text_310 : decode cX12_text 310 = .ok (.iastore, 1) := zo_79 (by decide +kernel)
theorem dX12_text_311 : decode cX12_text 311 = .ok (.iinc 4 1, 3) := zo_132 (by decide +kernel)
theorem dX12_text_314 : decode cX12_text 314 = .ok (.goto (-32), 3) := zo_167 (by decide +kernel)
theorem dX12_text_317 : decode cX12_text 317 = .ok (.iload_n 3, 1) := zo_29 (by decide +kernel)
theorem dX12_text_318 : decode cX12_text 318 = .ok (.ireturn, 1) := zo_172 (by decide +kernel)
def zBI (f : Nat → Int32) : Prop := (0 ≤ (f 4).toInt ∧ (f 4).toInt ≤ 600) ∧ (∀ q, q < 3 → 0 ≤ (f q).toInt ∧ (f q).toInt ≤ 2) ∧ (∀ k, k < 2 → zLF (fun j => f (610 + 51 * k + j))) ∧ (∀ k, k < 2 → zCF 40 (fun j => f (712 + 121 * k + j))) ∧ ∀ k, k < 2 → zCF 8 (fun j => f (954 + 17 * k + j))
theorem zLF_cg {f g : Nat → Int32} (e : ∀ j, j < 51 → g j = f j) (h : zLF f) : zLF g := by
  refine ⟨by rw [e 0 (by decide)]; exact h.1, fun c hc => ?_, fun j hj => ?_⟩
  · rw [e _ (by omega), e _ (by omega), e _ (by omega)]; exact h.2.1 c hc
  · rw [e _ (by omega)]; exact h.2.2 j hj
theorem zCF_cg {m : Int} {f g : Nat → Int32} (e : g 0 = f 0) (h : zCF m f) : zCF m g := by unfold zCF; rw [e]; exact h
theorem zLF_z {f : Nat → Int32} (h : ∀ j, j < 121 → f j = 0) : zLF f := by
  refine ⟨by rw [h 0 (by decide)]; decide, fun c hc => ?_, fun j hj => ?_⟩
  · rw [h _ (by omega), h _ (by omega), h _ (by omega)]; decide
  · rw [h _ (by omega)]; decide
theorem zCF_z {m : Int} (hm : 0 ≤ m) {f : Nat → Int32} (h : ∀ j, j < 121 → f j = 0) : zCF m f := by
  unfold zCF
  rw [h 0 (by decide)]
  exact ⟨by decide, hm⟩
theorem zBI_hd {f g : Nat → Int32} (h : zBI f) (h4 : g 4 = 0) (hq : ∀ q, q < 3 → 0 ≤ (g q).toInt ∧ (g q).toInt ≤ 2) (ho : ∀ j, 7 ≤ j → g j = f j) : zBI g :=
  ⟨by rw [h4]; decide, hq, fun k hk => zLF_cg (fun j _ => ho _ (by omega)) (h.2.2.1 k hk), fun k hk => zCF_cg (ho _ (by omega)) (h.2.2.2.1 k hk), fun k hk => zCF_cg (ho _ (by omega)) (h.2.2.2.2 k hk)⟩
theorem zBI_p0 {f g r : Nat → Int32} (k : Nat) (hk : k < 2) (h : zBI f) (h4 : g 4 = 0) (hq : ∀ q, q < 3 → 0 ≤ (g q).toInt ∧ (g q).toInt ≤ 2) (ho : ∀ j, 7 ≤ j → (j < 610 + 51 * k ∨ 610 + 51 * k + 51 ≤ j) → g j = f j) (hr : zLF r) (hc : ∀ j, j < 51 → g (610 + 51 * k + j) = r j) : zBI g := by
  refine ⟨by rw [h4]; decide, hq, fun a ha => ?_, fun a ha => zCF_cg (ho _ (by omega) (by omega)) (h.2.2.2.1 a ha), fun a ha => zCF_cg (ho _ (by omega) (by omega)) (h.2.2.2.2 a ha)⟩
  by_cases e : a = k
  · subst e
    exact zLF_cg (f := r) hc hr
  · exact zLF_cg (fun j hj => ho _ (by omega) (by omega)) (h.2.2.1 a ha)
theorem zBI_p1 {f g r : Nat → Int32} (k : Nat) (hk : k < 2) (h : zBI f) (h4 : g 4 = 0) (hq : ∀ q, q < 3 → 0 ≤ (g q).toInt ∧ (g q).toInt ≤ 2) (ho : ∀ j, 7 ≤ j → (j < 712 + 121 * k ∨ 712 + 121 * k + 121 ≤ j) → g j = f j) (hr : zCF 40 r) (hc : ∀ j, j < 121 → g (712 + 121 * k + j) = r j) : zBI g := by
  refine ⟨by rw [h4]; decide, hq, fun a ha => zLF_cg (fun j hj => ho _ (by omega) (by omega)) (h.2.2.1 a ha), fun a ha => ?_, fun a ha => zCF_cg (ho _ (by omega) (by omega)) (h.2.2.2.2 a ha)⟩
  by_cases e : a = k
  · subst e
    exact zCF_cg (f := r) (hc 0 (by decide)) hr
  · exact zCF_cg (ho _ (by omega) (by omega)) (h.2.2.2.1 a ha)
theorem zBI_p2 {f g r : Nat → Int32} (k : Nat) (hk : k < 2) (h : zBI f) (h4 : g 4 = 0) (hq : ∀ q, q < 3 → 0 ≤ (g q).toInt ∧ (g q).toInt ≤ 2) (ho : ∀ j, 7 ≤ j → (j < 954 + 17 * k ∨ 954 + 17 * k + 17 ≤ j) → g j = f j) (hr : zCF 8 r) (hc : ∀ j, j < 17 → g (954 + 17 * k + j) = r j) : zBI g := by
  refine ⟨by rw [h4]; decide, hq, fun a ha => zLF_cg (fun j hj => ho _ (by omega) (by omega)) (h.2.2.1 a ha), fun a ha => zCF_cg (ho _ (by omega) (by omega)) (h.2.2.2.1 a ha), fun a ha => ?_⟩
  by_cases e : a = k
  · subst e
    exact zCF_cg (f := r) (hc 0 (by decide)) hr
  · exact zCF_cg (ho _ (by omega) (by omega)) (h.2.2.2.2 a ha)
theorem m_fl_RX12_166 : Cond.fieldLink RX12 166 (TX12 11).1 (TX12 11).2.1 (TX12 11).2.2.1 ∈ zT := zmem1 zsub_6 6 rfl rfl
theorem m_fl_RX12_169 : Cond.fieldLink RX12 169 (TX12 12).1 (TX12 12).2.1 (TX12 12).2.2.1 ∈ zT := zmem1 zsub_6 7 rfl rfl
theorem m_fl_RX12_172 : Cond.fieldLink RX12 172 (TX12 13).1 (TX12 13).2.1 (TX12 13).2.2.1 ∈ zT := zmem1 zsub_6 8 rfl rfl
theorem m_co_X12_isInn : Cond.code yX12_isInn cX12_isInn 2 (some .boolean) ∈ zT := zmem1 zsub_7 31 rfl rfl
theorem m_ml_RX12_178 : Cond.methodLink RX12 178 yX12_isInn ∈ zT := zmem1 zsub_7 28 rfl rfl
theorem m_im_X12_isInn : Cond.instanceMethod yX12_isInn ∈ zT := zmem1 zsub_7 30 rfl rfl
theorem m_se_X12_isInn : Cond.selects RX12 yX12_isInn yX12_isInn ∈ zT := zmem 68 rfl rfl
theorem m_co_X12_roadsOf : Cond.code yX12_roadsOf cX12_roadsOf 2 (some .int) ∈ zT := zmem1 zsub_7 7 rfl rfl
theorem m_ml_RX12_181 : Cond.methodLink RX12 181 yX12_roadsOf ∈ zT := zmem1 zsub_7 4 rfl rfl
theorem m_im_X12_roadsOf : Cond.instanceMethod yX12_roadsOf ∈ zT := zmem1 zsub_7 6 rfl rfl
theorem m_se_X12_roadsOf : Cond.selects RX12 yX12_roadsOf yX12_roadsOf ∈ zT := zmem 63 rfl rfl
theorem kV_RX12_178 {R : Room} {s : State} {args : Array Value} {d mc ms : Nat} (hts : ∀ w ∈ zT, w.before args s = true) (h1 : d + 1 ≤ R.frames) (h2 : 8 + (2 + 11) + 40 * d ≤ R.locals) : CallW R s args RX12 RX12 178 yX12_isInn cX12_isInn 2 (some .boolean) (zW yX12_isInn cX12_isInn 2 (some .boolean)) (zR d mc ms) mc ms 1 := z_cwV hts m_co_X12_isInn m_ml_RX12_178 m_im_X12_isInn m_se_X12_isInn m_ii_RX12 (by decide +kernel) h1 h2
theorem kV_RX12_181 {R : Room} {s : State} {args : Array Value} {d mc ms : Nat} (hts : ∀ w ∈ zT, w.before args s = true) (h1 : d + 1 ≤ R.frames) (h2 : 8 + (2 + 11) + 40 * d ≤ R.locals) : CallW R s args RX12 RX12 181 yX12_roadsOf cX12_roadsOf 2 (some .int) (zW yX12_roadsOf cX12_roadsOf 2 (some .int)) (zR d mc ms) mc ms 1 := z_cwV hts m_co_X12_roadsOf m_ml_RX12_181 m_im_X12_roadsOf m_se_X12_roadsOf m_ii_RX12 (by decide +kernel) h1 h2
theorem dX12_roadsOf_0 : decode cX12_roadsOf 0 = .ok (.aload_n 0, 1) := zo_42 (by decide +kernel)
theorem dX12_roadsOf_1 : decode cX12_roadsOf 1 = .ok (.getfield 7, 3) := zo_180 (by decide +kernel)
theorem dX12_roadsOf_4 : decode cX12_roadsOf 4 = .ok (.aload_n 0, 1) := zo_42 (by decide +kernel)
theorem dX12_roadsOf_5 : decode cX12_roadsOf 5 = .ok (.getfield 166, 3) := zo_180 (by decide +kernel)
theorem dX12_roadsOf_8 : decode cX12_roadsOf 8 = .ok (.iconst 2, 1) := zo_5 (by decide +kernel)
theorem dX12_roadsOf_9 : decode cX12_roadsOf 9 = .ok (.iadd, 1) := zo_96 (by decide +kernel)
theorem dX12_roadsOf_10 : decode cX12_roadsOf 10 = .ok (.iload_n 1, 1) := zo_27 (by decide +kernel)
theorem dX12_roadsOf_11 : decode cX12_roadsOf 11 = .ok (.iadd, 1) := zo_96 (by decide +kernel)
theorem dX12_roadsOf_12 : decode cX12_roadsOf 12 = .ok (.iaload, 1) := zo_46 (by decide +kernel)
theorem dX12_roadsOf_13 : decode cX12_roadsOf 13 = .ok (.ireturn, 1) := zo_172 (by decide +kernel)
theorem dX12_postTold_0 : decode cX12_postTold 0 = .ok (.aload_n 0, 1) := zo_42 (by decide +kernel)
theorem dX12_postTold_1 : decode cX12_postTold 1 = .ok (.getfield 7, 3) := zo_180 (by decide +kernel)
theorem dX12_postTold_4 : decode cX12_postTold 4 = .ok (.aload_n 0, 1) := zo_42 (by decide +kernel)
theorem dX12_postTold_5 : decode cX12_postTold 5 = .ok (.getfield 166, 3) := zo_180 (by decide +kernel)
theorem dX12_postTold_8 : decode cX12_postTold 8 = .ok (.bipush 9, 2) := zo_16 (by decide +kernel)
theorem dX12_postTold_10 : decode cX12_postTold 10 = .ok (.iadd, 1) := zo_96 (by decide +kernel)
theorem dX12_postTold_11 : decode cX12_postTold 11 = .ok (.iload_n 1, 1) := zo_27 (by decide +kernel)
theorem dX12_postTold_12 : decode cX12_postTold 12 = .ok (.iadd, 1) := zo_96 (by decide +kernel)
theorem dX12_postTold_13 : decode cX12_postTold 13 = .ok (.iaload, 1) := zo_46 (by decide +kernel)
theorem dX12_postTold_14 : decode cX12_postTold 14 = .ok (.ireturn, 1) := zo_172 (by decide +kernel)
theorem dX12_leadsTo_0 : decode cX12_leadsTo 0 = .ok (.aload_n 0, 1) := zo_42 (by decide +kernel)
theorem dX12_leadsTo_1 : decode cX12_leadsTo 1 = .ok (.getfield 7, 3) := zo_180 (by decide +kernel)
theorem dX12_leadsTo_4 : decode cX12_leadsTo 4 = .ok (.aload_n 0, 1) := zo_42 (by decide +kernel)
theorem dX12_leadsTo_5 : decode cX12_leadsTo 5 = .ok (.getfield 166, 3) := zo_180 (by decide +kernel)
theorem dX12_leadsTo_8 : decode cX12_leadsTo 8 = .ok (.bipush 23, 2) := zo_16 (by decide +kernel)
theorem dX12_leadsTo_10 : decode cX12_leadsTo 10 = .ok (.iadd, 1) := zo_96 (by decide +kernel)
theorem dX12_leadsTo_11 : decode cX12_leadsTo 11 = .ok (.iconst 4, 1) := zo_7 (by decide +kernel)
theorem dX12_leadsTo_12 : decode cX12_leadsTo 12 = .ok (.iload_n 1, 1) := zo_27 (by decide +kernel)
theorem dX12_leadsTo_13 : decode cX12_leadsTo 13 = .ok (.imul, 1) := zo_104 (by decide +kernel)
theorem dX12_leadsTo_14 : decode cX12_leadsTo 14 = .ok (.iadd, 1) := zo_96 (by decide +kernel)
theorem dX12_leadsTo_15 : decode cX12_leadsTo 15 = .ok (.iload_n 2, 1) := zo_28 (by decide +kernel)
theorem dX12_leadsTo_16 : decode cX12_leadsTo 16 = .ok (.iadd, 1) := zo_96 (by decide +kernel)
theorem dX12_leadsTo_17 : decode cX12_leadsTo 17 = .ok (.iaload, 1) := zo_46 (by decide +kernel)
theorem dX12_leadsTo_18 : decode cX12_leadsTo 18 = .ok (.ireturn, 1) := zo_172 (by decide +kernel)
theorem dX12_isCrossing_0 : decode cX12_isCrossing 0 = .ok (.iload_n 1, 1) := zo_27 (by decide +kernel)
theorem dX12_isCrossing_1 : decode cX12_isCrossing 1 = .ok (.iconst 0, 1) := zo_3 (by decide +kernel)
theorem dX12_isCrossing_2 : decode cX12_isCrossing 2 = .ok (.aload_n 0, 1) := zo_42 (by decide +kernel)
theorem dX12_isCrossing_3 : decode cX12_isCrossing 3 = .ok (.getfield 169, 3) := zo_180 (by decide +kernel)
theorem dX12_isCrossing_6 : decode cX12_isCrossing 6 = .ok (.iconst 1, 1) := zo_4 (by decide +kernel)
theorem dX12_isCrossing_7 : decode cX12_isCrossing 7 = .ok (.isub, 1) := zo_100 (by decide +kernel)
theorem dX12_isCrossing_8 : decode cX12_isCrossing 8 = .ok (.invokestatic 111, 3) := zo_184 (by decide +kernel)
theorem dX12_isCrossing_11 : decode cX12_isCrossing 11 = .ok (.ireturn, 1) := zo_172 (by decide +kernel)
theorem dX12_isInn_0 : decode cX12_isInn 0 = .ok (.aload_n 0, 1) := zo_42 (by decide +kernel)
theorem dX12_isInn_1 : decode cX12_isInn 1 = .ok (.getfield 172, 3) := zo_180 (by decide +kernel)
theorem dX12_isInn_4 : decode cX12_isInn 4 = .ok (.iload_n 1, 1) := zo_27 (by decide +kernel)
theorem dX12_isInn_5 : decode cX12_isInn 5 = .ok (.ishr, 1) := zo_122 (by decide +kernel)
theorem dX12_isInn_6 : decode cX12_isInn 6 = .ok (.iconst 1, 1) := zo_4 (by decide +kernel)
theorem dX12_isInn_7 : decode cX12_isInn 7 = .ok (.iand, 1) := zo_126 (by decide +kernel)
theorem dX12_isInn_8 : decode cX12_isInn 8 = .ok (.iconst 1, 1) := zo_4 (by decide +kernel)
theorem dX12_isInn_9 : decode cX12_isInn 9 = .ok (.if_icmp .ne 7, 3) := zo_160 (by decide +kernel)
theorem dX12_isInn_12 : decode cX12_isInn 12 = .ok (.iconst 1, 1) := zo_4 (by decide +kernel)
theorem dX12_isInn_13 : decode cX12_isInn 13 = .ok (.goto 4, 3) := zo_167 (by decide +kernel)
theorem dX12_isInn_16 : decode cX12_isInn 16 = .ok (.iconst 0, 1) := zo_3 (by decide +kernel)
theorem dX12_isInn_17 : decode cX12_isInn 17 = .ok (.ireturn, 1) := zo_172 (by decide +kernel)
theorem dX12_isFree_0 : decode cX12_isFree 0 = .ok (.aload_n 0, 1) := zo_42 (by decide +kernel)
theorem dX12_isFree_1 : decode cX12_isFree 1 = .ok (.iload_n 1, 1) := zo_27 (by decide +kernel)
theorem dX12_isFree_2 : decode cX12_isFree 2 = .ok (.invokevirtual 178, 3) := zo_182 (by decide +kernel)
theorem dX12_isFree_5 : decode cX12_isFree 5 = .ok (.ifCond .ne 15, 3) := zo_154 (by decide +kernel)
theorem dX12_isFree_8 : decode cX12_isFree 8 = .ok (.aload_n 0, 1) := zo_42 (by decide +kernel)
theorem dX12_isFree_9 : decode cX12_isFree 9 = .ok (.iload_n 1, 1) := zo_27 (by decide +kernel)
theorem dX12_isFree_10 : decode cX12_isFree 10 = .ok (.invokevirtual 181, 3) := zo_182 (by decide +kernel)
theorem dX12_isFree_13 : decode cX12_isFree 13 = .ok (.ifCond .le 7, 3) := zo_158 (by decide +kernel)
theorem dX12_isFree_16 : decode cX12_isFree 16 = .ok (.iconst 1, 1) := zo_4 (by decide +kernel)
theorem dX12_isFree_17 : decode cX12_isFree 17 = .ok (.goto 4, 3) := zo_167 (by decide +kernel)
theorem dX12_isFree_20 : decode cX12_isFree 20 = .ok (.iconst 0, 1) := zo_3 (by decide +kernel)
theorem dX12_isFree_21 : decode cX12_isFree 21 = .ok (.ireturn, 1) := zo_172 (by decide +kernel)
def zML (f : Nat → Int32) (z cr : Int32) : Prop := (z.toInt = 610 ∨ z.toInt = 661) ∧ cr = f z.toInt.toNat ∧ zLF (fun j => f (z.toInt.toNat + j))
theorem zML.cr {f : Nat → Int32} {z cr : Int32} (h : zML f z cr) : 0 ≤ cr.toInt ∧ cr.toInt ≤ 7 := by rw [h.2.1]; exact h.2.2.1
def zMP (f : Nat → Int32) : Prop := ∀ c, c < 7 → 0 ≤ (f c).toInt ∧ (f c).toInt ≤ 3
theorem zMP_upd {f : Nat → Int32} {k : Nat} {v : Int32} (h : zMP f) (hv : 0 ≤ v.toInt ∧ v.toInt ≤ 3) : zMP (upd f k v) := by
  intro c hc
  unfold upd
  split
  · exact hv
  · exact h c hc
def zRd (f : Nat → Int32) (z c : Int32) : Int32 := f (z.toInt.toNat + (2 + c.toInt.toNat))
def zPt (f : Nat → Int32) (z c : Int32) : Int32 := f (z.toInt.toNat + (9 + c.toInt.toNat))
def zLe (f : Nat → Int32) (z c k : Int32) : Int32 := f (z.toInt.toNat + (23 + (4 * c.toInt.toNat + k.toInt.toNat)))
abbrev zInn (n c : Int32) : Prop := n >>> (c &&& 31) &&& 1 = 1
theorem zMLr {f : Nat → Int32} {z cr : Int32} (h : zML f z cr) {c : Int32} (h0 : 0 ≤ c.toInt) (h6 : c.toInt ≤ 6) : 0 ≤ (zRd f z c).toInt ∧ (zRd f z c).toInt ≤ 4 := (h.2.2.2.1 c.toInt.toNat (by omega)).1
theorem zMLp {f : Nat → Int32} {z cr : Int32} (h : zML f z cr) {c : Int32} (h0 : 0 ≤ c.toInt) (h6 : c.toInt ≤ 6) : 0 ≤ (zPt f z c).toInt ∧ (zPt f z c).toInt ≤ 3 := (h.2.2.2.1 c.toInt.toNat (by omega)).2.1
theorem zMLl {f : Nat → Int32} {z cr : Int32} (h : zML f z cr) {c k : Int32} (h0 : 0 ≤ c.toInt) (h6 : c.toInt ≤ 6) (h1 : 0 ≤ k.toInt) (h3 : k.toInt ≤ 3) : 0 ≤ (zLe f z c k).toInt ∧ (zLe f z c k).toInt ≤ 6 := h.2.2.2.2 (4 * c.toInt.toNat + k.toInt.toNat) (by omega)
theorem zRem {x y : Int32} (hx : 0 ≤ x.toInt) (hy : 0 < y.toInt) : 0 ≤ (x - x / y * y).toInt ∧ (x - x / y * y).toInt < y.toInt := by
  rw [rem_toInt, Int.tmod_eq_emod_of_nonneg hx]
  exact ⟨Int.emod_nonneg _ (by omega), Int.emod_lt_of_pos _ hy⟩
set_option maxHeartbeats 4000000 in
set_option maxRecDepth 100000 in
/-- c_m_roadsOf -/
theorem c_m_roadsOf (l : Launch) (T : zTy) (mo : Nat) (m_all : Nat) (m_has : Nat) (i_size : Int32) (i_next : Int32) (i_where : Int32) (i_token : Int32) (i_number : Int32) (i_word : Int32) (i_wrong : Int32) (i_farCrossing : Int32) (m_read : Nat) (i_z0 : Int32) (i_crossings : Int32) (i_inns : Int32) (m_posts : Nat) (m_shut : Nat) (m_here : Nat) (i_steps : Int32) (i_done : Int32) (i_at : Int32) (i_gone : Int32) (m_was : Nat) (m_came : Nat) (m_seenAt : Nat) (m_rowWorth : Nat) (m_farBy : Nat) (m_used : Nat) (i_everywhere : Int32) (i_again0 : Int32) (i_d0 : Int32) (i_never : Int32) (i_firstCame : Int32) (i_longRun : Int32) (i_moved : Int32) (i_crowd : Int32) (i_l0 : Int32) (i_fitMany : Int32) (i_fitLeast : Int32) (i_fitMost : Int32) (m_fitPost : Nat) (m_fitEnd : Nat) (m_keptPosts : Nat) (i_x0 : Int32) (f_all : Nat → Int32) (c_ : Int32) (hL : zML f_all i_z0 i_crossings) (hc0 : 0 ≤ c_.toInt) (hc6 : c_.toInt ≤ 6) : zMi l T yX12_roadsOf cX12_roadsOf 2 (some .int) 1 0 0 [.ref mo, .int c_] [[zO11 mo m_all m_has i_size i_next i_where i_token i_number i_word i_wrong i_farCrossing m_read i_z0 i_crossings i_inns m_posts m_shut m_here i_steps i_done i_at i_gone m_was m_came m_seenAt m_rowWorth m_farBy m_used i_everywhere i_again0 i_d0 i_never i_firstCame i_longRun i_moved i_crowd i_l0 i_fitMany i_fitLeast i_fitMost m_fitPost m_fitEnd m_keptPosts i_x0], [zAr T 0 m_all 3952 f_all]] (fun (r : Int32) bs => bs = [[zO11 mo m_all m_has i_size i_next i_where i_token i_number i_word i_wrong i_farCrossing m_read i_z0 i_crossings i_inns m_posts m_shut m_here i_steps i_done i_at i_gone m_was m_came m_seenAt m_rowWorth m_farBy m_used i_everywhere i_again0 i_d0 i_never i_firstCame i_longRun i_moved i_crowd i_l0 i_fitMany i_fitLeast i_fitMost m_fitPost m_fitEnd m_keptPosts i_x0], [zAr T 0 m_all 3952 f_all]] ∧ r = zRd f_all i_z0 c_ ∧ 0 ≤ r.toInt ∧ r.toInt ≤ 4) := by
  refine zMi_of (own := RX12) (by decide) rfl (Nat.le_of_ble_eq_true rfl) ?_
  intro p e s m args below meth c A ls C hr hlocks hnm hAe G hl
  refine zHide (fun Qz_ hQz_ => ?_)
  have hx := C.1
  have hb := C.2.1
  have hl : lv_has ls 2 [(0, .ref mo), (1, .int c_)] := hl
  have hz := hL.1
  have hcr := hL.cr
  refine lv_aload_n hx hb dX12_roadsOf_0 rfl (lv_at hl 0 rfl) ?_
  refine z_get C G clX12 0 rfl 0 (by decide) m_fl_RX12_7 rfl dX12_roadsOf_1 ?_
  refine lv_aload_n hx hb dX12_roadsOf_4 rfl (lv_at hl 0 rfl) ?_
  refine z_get C G clX12 0 rfl 11 (by decide) m_fl_RX12_166 rfl dX12_roadsOf_5 ?_
  refine lv_iconst (v := 2) hx hb dX12_roadsOf_8 (by decide) ?_
  refine lv_iadd hx hb dX12_roadsOf_9 ?_
  refine lv_topi (fun y_1 ey_1 => ?_)
  have ey_1i : y_1.toInt = i_z0.toInt + (2 : Int) := by rw [ey_1]; exact z_iaddI (x := i_z0) (y := (2 : Int32)) (by show -2147483648 ≤ i_z0.toInt + (2 : Int); omega) (by show i_z0.toInt + (2 : Int) < 2147483648; omega)
  refine lv_iload_n hx hb dX12_roadsOf_10 rfl (lv_at hl 1 rfl) ?_
  refine lv_iadd hx hb dX12_roadsOf_11 ?_
  refine lv_topi (fun y_2 ey_2 => ?_)
  have ey_2i : y_2.toInt = y_1.toInt + c_.toInt := by rw [ey_2]; exact z_iaddI (x := y_1) (y := c_) (by show -2147483648 ≤ y_1.toInt + c_.toInt; omega) (by show y_1.toInt + c_.toInt < 2147483648; omega)
  refine z_ild C G 1 rfl (vp_in_iff.mpr ⟨by omega, by omega⟩) dX12_roadsOf_12 ?_
  refine lv_topi (fun v_3 ev_3 => ?_)
  subst ev_3
  exact z_back hQz_ (z_iret C hr hlocks G (Nat.le_of_ble_eq_true rfl) (Nat.le_of_ble_eq_true rfl) dX12_roadsOf_13 ⟨rfl, (congrArg f_all (by show y_2.toInt.toNat = _; omega)), (by rw [show f_all y_2.toNatClampNeg = _ from (show _ = zRd f_all i_z0 c_ from (congrArg f_all (by show y_2.toInt.toNat = _; omega)))]; exact (zMLr hL hc0 hc6).1), (by rw [show f_all y_2.toNatClampNeg = _ from (show _ = zRd f_all i_z0 c_ from (congrArg f_all (by show y_2.toInt.toNat = _; omega)))]; exact (zMLr hL hc0 hc6).2)⟩)
set_option maxHeartbeats 4000000 in
set_option maxRecDepth 100000 in
/-- c_m_postTold -/
theorem c_m_postTold (l : Launch) (T : zTy) (mo : Nat) (m_all : Nat) (m_has : Nat) (i_size : Int32) (i_next : Int32) (i_where : Int32) (i_token : Int32) (i_number : Int32) (i_word : Int32) (i_wrong : Int32) (i_farCrossing : Int32) (m_read : Nat) (i_z0 : Int32) (i_crossings : Int32) (i_inns : Int32) (m_posts : Nat) (m_shut : Nat) (m_here : Nat) (i_steps : Int32) (i_done : Int32) (i_at : Int32) (i_gone : Int32) (m_was : Nat) (m_came : Nat) (m_seenAt : Nat) (m_rowWorth : Nat) (m_farBy : Nat) (m_used : Nat) (i_everywhere : Int32) (i_again0 : Int32) (i_d0 : Int32) (i_never : Int32) (i_firstCame : Int32) (i_longRun : Int32) (i_moved : Int32) (i_crowd : Int32) (i_l0 : Int32) (i_fitMany : Int32) (i_fitLeast : Int32) (i_fitMost : Int32) (m_fitPost : Nat) (m_fitEnd : Nat) (m_keptPosts : Nat) (i_x0 : Int32) (f_all : Nat → Int32) (c_ : Int32) (hL : zML f_all i_z0 i_crossings) (hc0 : 0 ≤ c_.toInt) (hc6 : c_.toInt ≤ 6) : zMi l T yX12_postTold cX12_postTold 2 (some .int) 1 0 0 [.ref mo, .int c_] [[zO11 mo m_all m_has i_size i_next i_where i_token i_number i_word i_wrong i_farCrossing m_read i_z0 i_crossings i_inns m_posts m_shut m_here i_steps i_done i_at i_gone m_was m_came m_seenAt m_rowWorth m_farBy m_used i_everywhere i_again0 i_d0 i_never i_firstCame i_longRun i_moved i_crowd i_l0 i_fitMany i_fitLeast i_fitMost m_fitPost m_fitEnd m_keptPosts i_x0], [zAr T 0 m_all 3952 f_all]] (fun (r : Int32) bs => bs = [[zO11 mo m_all m_has i_size i_next i_where i_token i_number i_word i_wrong i_farCrossing m_read i_z0 i_crossings i_inns m_posts m_shut m_here i_steps i_done i_at i_gone m_was m_came m_seenAt m_rowWorth m_farBy m_used i_everywhere i_again0 i_d0 i_never i_firstCame i_longRun i_moved i_crowd i_l0 i_fitMany i_fitLeast i_fitMost m_fitPost m_fitEnd m_keptPosts i_x0], [zAr T 0 m_all 3952 f_all]] ∧ r = zPt f_all i_z0 c_ ∧ 0 ≤ r.toInt ∧ r.toInt ≤ 3) := by
  refine zMi_of (own := RX12) (by decide) rfl (Nat.le_of_ble_eq_true rfl) ?_
  intro p e s m args below meth c A ls C hr hlocks hnm hAe G hl
  refine zHide (fun Qz_ hQz_ => ?_)
  have hx := C.1
  have hb := C.2.1
  have hl : lv_has ls 2 [(0, .ref mo), (1, .int c_)] := hl
  have hz := hL.1
  have hcr := hL.cr
  refine lv_aload_n hx hb dX12_postTold_0 rfl (lv_at hl 0 rfl) ?_
  refine z_get C G clX12 0 rfl 0 (by decide) m_fl_RX12_7 rfl dX12_postTold_1 ?_
  refine lv_aload_n hx hb dX12_postTold_4 rfl (lv_at hl 0 rfl) ?_
  refine z_get C G clX12 0 rfl 11 (by decide) m_fl_RX12_166 rfl dX12_postTold_5 ?_
  refine lv_bipush (v := 9) hx hb dX12_postTold_8 (by decide) ?_
  refine lv_iadd hx hb dX12_postTold_10 ?_
  refine lv_topi (fun y_1 ey_1 => ?_)
  have ey_1i : y_1.toInt = i_z0.toInt + (9 : Int) := by rw [ey_1]; exact z_iaddI (x := i_z0) (y := (9 : Int32)) (by show -2147483648 ≤ i_z0.toInt + (9 : Int); omega) (by show i_z0.toInt + (9 : Int) < 2147483648; omega)
  refine lv_iload_n hx hb dX12_postTold_11 rfl (lv_at hl 1 rfl) ?_
  refine lv_iadd hx hb dX12_postTold_12 ?_
  refine lv_topi (fun y_2 ey_2 => ?_)
  have ey_2i : y_2.toInt = y_1.toInt + c_.toInt := by rw [ey_2]; exact z_iaddI (x := y_1) (y := c_) (by show -2147483648 ≤ y_1.toInt + c_.toInt; omega) (by show y_1.toInt + c_.toInt < 2147483648; omega)
  refine z_ild C G 1 rfl (vp_in_iff.mpr ⟨by omega, by omega⟩) dX12_postTold_13 ?_
  refine lv_topi (fun v_3 ev_3 => ?_)
  subst ev_3
  exact z_back hQz_ (z_iret C hr hlocks G (Nat.le_of_ble_eq_true rfl) (Nat.le_of_ble_eq_true rfl) dX12_postTold_14 ⟨rfl, (congrArg f_all (by show y_2.toInt.toNat = _; omega)), (by rw [show f_all y_2.toNatClampNeg = _ from (show _ = zPt f_all i_z0 c_ from (congrArg f_all (by show y_2.toInt.toNat = _; omega)))]; exact (zMLp hL hc0 hc6).1), (by rw [show f_all y_2.toNatClampNeg = _ from (show _ = zPt f_all i_z0 c_ from (congrArg f_all (by show y_2.toInt.toNat = _; omega)))]; exact (zMLp hL hc0 hc6).2)⟩)
set_option maxHeartbeats 4000000 in
set_option maxRecDepth 100000 in
/-- c_m_leadsTo -/
theorem c_m_leadsTo (l : Launch) (T : zTy) (mo : Nat) (m_all : Nat) (m_has : Nat) (i_size : Int32) (i_next : Int32) (i_where : Int32) (i_token : Int32) (i_number : Int32) (i_word : Int32) (i_wrong : Int32) (i_farCrossing : Int32) (m_read : Nat) (i_z0 : Int32) (i_crossings : Int32) (i_inns : Int32) (m_posts : Nat) (m_shut : Nat) (m_here : Nat) (i_steps : Int32) (i_done : Int32) (i_at : Int32) (i_gone : Int32) (m_was : Nat) (m_came : Nat) (m_seenAt : Nat) (m_rowWorth : Nat) (m_farBy : Nat) (m_used : Nat) (i_everywhere : Int32) (i_again0 : Int32) (i_d0 : Int32) (i_never : Int32) (i_firstCame : Int32) (i_longRun : Int32) (i_moved : Int32) (i_crowd : Int32) (i_l0 : Int32) (i_fitMany : Int32) (i_fitLeast : Int32) (i_fitMost : Int32) (m_fitPost : Nat) (m_fitEnd : Nat) (m_keptPosts : Nat) (i_x0 : Int32) (f_all : Nat → Int32) (c_ : Int32) (k_ : Int32) (hL : zML f_all i_z0 i_crossings) (hc0 : 0 ≤ c_.toInt) (hc6 : c_.toInt ≤ 6) (hk0 : 0 ≤ k_.toInt) (hk3 : k_.toInt ≤ 3) : zMi l T yX12_leadsTo cX12_leadsTo 3 (some .int) 1 0 0 [.ref mo, .int c_, .int k_] [[zO11 mo m_all m_has i_size i_next i_where i_token i_number i_word i_wrong i_farCrossing m_read i_z0 i_crossings i_inns m_posts m_shut m_here i_steps i_done i_at i_gone m_was m_came m_seenAt m_rowWorth m_farBy m_used i_everywhere i_again0 i_d0 i_never i_firstCame i_longRun i_moved i_crowd i_l0 i_fitMany i_fitLeast i_fitMost m_fitPost m_fitEnd m_keptPosts i_x0], [zAr T 0 m_all 3952 f_all]] (fun (r : Int32) bs => bs = [[zO11 mo m_all m_has i_size i_next i_where i_token i_number i_word i_wrong i_farCrossing m_read i_z0 i_crossings i_inns m_posts m_shut m_here i_steps i_done i_at i_gone m_was m_came m_seenAt m_rowWorth m_farBy m_used i_everywhere i_again0 i_d0 i_never i_firstCame i_longRun i_moved i_crowd i_l0 i_fitMany i_fitLeast i_fitMost m_fitPost m_fitEnd m_keptPosts i_x0], [zAr T 0 m_all 3952 f_all]] ∧ r = zLe f_all i_z0 c_ k_ ∧ 0 ≤ r.toInt ∧ r.toInt ≤ 6) := by
  refine zMi_of (own := RX12) (by decide) rfl (Nat.le_of_ble_eq_true rfl) ?_
  intro p e s m args below meth c A ls C hr hlocks hnm hAe G hl
  refine zHide (fun Qz_ hQz_ => ?_)
  have hx := C.1
  have hb := C.2.1
  have hl : lv_has ls 3 [(0, .ref mo), (1, .int c_), (2, .int k_)] := hl
  have hz := hL.1
  have hcr := hL.cr
  refine lv_aload_n hx hb dX12_leadsTo_0 rfl (lv_at hl 0 rfl) ?_
  refine z_get C G clX12 0 rfl 0 (by decide) m_fl_RX12_7 rfl dX12_leadsTo_1 ?_
  refine lv_aload_n hx hb dX12_leadsTo_4 rfl (lv_at hl 0 rfl) ?_
  refine z_get C G clX12 0 rfl 11 (by decide) m_fl_RX12_166 rfl dX12_leadsTo_5 ?_
  refine lv_bipush (v := 23) hx hb dX12_leadsTo_8 (by decide) ?_
  refine lv_iadd hx hb dX12_leadsTo_10 ?_
  refine lv_topi (fun y_1 ey_1 => ?_)
  have ey_1i : y_1.toInt = i_z0.toInt + (23 : Int) := by rw [ey_1]; exact z_iaddI (x := i_z0) (y := (23 : Int32)) (by show -2147483648 ≤ i_z0.toInt + (23 : Int); omega) (by show i_z0.toInt + (23 : Int) < 2147483648; omega)
  refine lv_iconst (v := 4) hx hb dX12_leadsTo_11 (by decide) ?_
  refine lv_iload_n hx hb dX12_leadsTo_12 rfl (lv_at hl 1 rfl) ?_
  refine lv_imul hx hb dX12_leadsTo_13 ?_
  refine lv_topi (fun y_2 ey_2 => ?_)
  have ey_2i : y_2.toInt = (4 : Int) * c_.toInt := by rw [ey_2]; exact z_imulI (x := (4 : Int32)) (y := c_) (by show -2147483648 ≤ (4 : Int) * c_.toInt; omega) (by show (4 : Int) * c_.toInt < 2147483648; omega)
  refine lv_iadd hx hb dX12_leadsTo_14 ?_
  refine lv_topi (fun y_3 ey_3 => ?_)
  have ey_3i : y_3.toInt = y_1.toInt + y_2.toInt := by rw [ey_3]; exact z_iaddI (x := y_1) (y := y_2) (by show -2147483648 ≤ y_1.toInt + y_2.toInt; omega) (by show y_1.toInt + y_2.toInt < 2147483648; omega)
  refine lv_iload_n hx hb dX12_leadsTo_15 rfl (lv_at hl 2 rfl) ?_
  refine lv_iadd hx hb dX12_leadsTo_16 ?_
  refine lv_topi (fun y_4 ey_4 => ?_)
  have ey_4i : y_4.toInt = y_3.toInt + k_.toInt := by rw [ey_4]; exact z_iaddI (x := y_3) (y := k_) (by show -2147483648 ≤ y_3.toInt + k_.toInt; omega) (by show y_3.toInt + k_.toInt < 2147483648; omega)
  refine z_ild C G 1 rfl (vp_in_iff.mpr ⟨by omega, by omega⟩) dX12_leadsTo_17 ?_
  refine lv_topi (fun v_5 ev_5 => ?_)
  subst ev_5
  exact z_back hQz_ (z_iret C hr hlocks G (Nat.le_of_ble_eq_true rfl) (Nat.le_of_ble_eq_true rfl) dX12_leadsTo_18 ⟨rfl, (congrArg f_all (by show y_4.toInt.toNat = _; omega)), (by rw [show f_all y_4.toNatClampNeg = _ from (show _ = zLe f_all i_z0 c_ k_ from (congrArg f_all (by show y_4.toInt.toNat = _; omega)))]; exact (zMLl hL hc0 hc6 hk0 hk3).1), (by rw [show f_all y_4.toNatClampNeg = _ from (show _ = zLe f_all i_z0 c_ k_ from (congrArg f_all (by show y_4.toInt.toNat = _; omega)))]; exact (zMLl hL hc0 hc6 hk0 hk3).2)⟩)
set_option maxHeartbeats 4000000 in
set_option maxRecDepth 100000 in
/-- c_m_isCrossing -/
theorem c_m_isCrossing (l : Launch) (T : zTy) (mo : Nat) (m_all : Nat) (m_has : Nat) (i_size : Int32) (i_next : Int32) (i_where : Int32) (i_token : Int32) (i_number : Int32) (i_word : Int32) (i_wrong : Int32) (i_farCrossing : Int32) (m_read : Nat) (i_z0 : Int32) (i_crossings : Int32) (i_inns : Int32) (m_posts : Nat) (m_shut : Nat) (m_here : Nat) (i_steps : Int32) (i_done : Int32) (i_at : Int32) (i_gone : Int32) (m_was : Nat) (m_came : Nat) (m_seenAt : Nat) (m_rowWorth : Nat) (m_farBy : Nat) (m_used : Nat) (i_everywhere : Int32) (i_again0 : Int32) (i_d0 : Int32) (i_never : Int32) (i_firstCame : Int32) (i_longRun : Int32) (i_moved : Int32) (i_crowd : Int32) (i_l0 : Int32) (i_fitMany : Int32) (i_fitLeast : Int32) (i_fitMost : Int32) (m_fitPost : Nat) (m_fitEnd : Nat) (m_keptPosts : Nat) (i_x0 : Int32) (c_ : Int32) (hcr : 0 ≤ i_crossings.toInt ∧ i_crossings.toInt ≤ 7) : zMi l T yX12_isCrossing cX12_isCrossing 2 (some .boolean) 2 0 0 [.ref mo, .int c_] [[zO11 mo m_all m_has i_size i_next i_where i_token i_number i_word i_wrong i_farCrossing m_read i_z0 i_crossings i_inns m_posts m_shut m_here i_steps i_done i_at i_gone m_was m_came m_seenAt m_rowWorth m_farBy m_used i_everywhere i_again0 i_d0 i_never i_firstCame i_longRun i_moved i_crowd i_l0 i_fitMany i_fitLeast i_fitMost m_fitPost m_fitEnd m_keptPosts i_x0]] (fun (r : Int32) bs => bs = [[zO11 mo m_all m_has i_size i_next i_where i_token i_number i_word i_wrong i_farCrossing m_read i_z0 i_crossings i_inns m_posts m_shut m_here i_steps i_done i_at i_gone m_was m_came m_seenAt m_rowWorth m_farBy m_used i_everywhere i_again0 i_d0 i_never i_firstCame i_longRun i_moved i_crowd i_l0 i_fitMany i_fitLeast i_fitMost m_fitPost m_fitEnd m_keptPosts i_x0]] ∧ ((r = 1 ∧ 0 ≤ c_.toInt ∧ c_.toInt < i_crossings.toInt) ∨ (r = 0 ∧ (c_.toInt < 0 ∨ i_crossings.toInt ≤ c_.toInt)))) := by
  refine zMi_of (own := RX12) (by decide) rfl (Nat.le_of_ble_eq_true rfl) ?_
  intro p e s m args below meth c A ls C hr hlocks hnm hAe G hl
  refine zHide (fun Qz_ hQz_ => ?_)
  have hx := C.1
  have hb := C.2.1
  have hl : lv_has ls 2 [(0, .ref mo), (1, .int c_)] := hl
  refine lv_iload_n hx hb dX12_isCrossing_0 rfl (lv_at hl 1 rfl) ?_
  refine lv_iconst (v := 0) hx hb dX12_isCrossing_1 (by decide) ?_
  refine lv_aload_n hx hb dX12_isCrossing_2 rfl (lv_at hl 0 rfl) ?_
  refine z_get C G clX12 0 rfl 12 (by decide) m_fl_RX12_169 rfl dX12_isCrossing_3 ?_
  refine lv_iconst (v := 1) hx hb dX12_isCrossing_6 (by decide) ?_
  refine lv_isub hx hb dX12_isCrossing_7 ?_
  refine lv_topi (fun y_1 ey_1 => ?_)
  have ey_1i : y_1.toInt = i_crossings.toInt - (1 : Int) := by rw [ey_1]; exact z_isubI (x := i_crossings) (y := (1 : Int32)) (by show -2147483648 ≤ i_crossings.toInt - (1 : Int); omega) (by show i_crossings.toInt - (1 : Int) < 2147483648; omega)
  refine z_Si (bc := []) (br := [[zO11 mo m_all m_has i_size i_next i_where i_token i_number i_word i_wrong i_farCrossing m_read i_z0 i_crossings i_inns m_posts m_shut m_here i_steps i_done i_at i_gone m_was m_came m_seenAt m_rowWorth m_farBy m_used i_everywhere i_again0 i_d0 i_never i_firstCame i_longRun i_moved i_crowd i_l0 i_fitMany i_fitLeast i_fitMost m_fitPost m_fitEnd m_keptPosts i_x0]]) (As := [.int c_, .int 0, .int y_1]) (rest := []) C G (c_m_isIn l T c_ 0 y_1) (kS_RX12_111 C.2.2.2.2 (Nat.le_of_ble_eq_true rfl) (Nat.le_of_ble_eq_true rfl)) [] [] rfl rfl rfl rfl hl.1 dX12_isCrossing_8 (Nat.le_of_ble_eq_true rfl) (Nat.le_of_ble_eq_true rfl) (fun r_3 b1 H locs hw G => ?_)
  refine zAn2 hw ?_
  intro hbs9 hc_2
  clear hw
  subst hbs9
  have G : zS T A s.heap s [[zO11 mo m_all m_has i_size i_next i_where i_token i_number i_word i_wrong i_farCrossing m_read i_z0 i_crossings i_inns m_posts m_shut m_here i_steps i_done i_at i_gone m_was m_came m_seenAt m_rowWorth m_farBy m_used i_everywhere i_again0 i_d0 i_never i_firstCame i_longRun i_moved i_crowd i_l0 i_fitMany i_fitLeast i_fitMost m_fitPost m_fitEnd m_keptPosts i_x0]] _ _ := G
  rcases hc_2 with ⟨rfl, h_4, h_5⟩ | ⟨rfl, h_6⟩
  · have h_4 : (0 : Int) ≤ c_.toInt := h_4
    have h_5 : c_.toInt ≤ y_1.toInt := h_5
    exact z_back hQz_ (z_zret C hr hlocks G (Nat.le_of_ble_eq_true rfl) (Nat.le_of_ble_eq_true rfl) dX12_isCrossing_11 rfl ⟨rfl, (Or.inl (⟨rfl, (by first | with_reducible assumption | omega | assumption), (by first | with_reducible assumption | omega | assumption)⟩))⟩)
  · have h_6 : (c_.toInt < (0 : Int) ∨ y_1.toInt < c_.toInt) := h_6
    exact z_back hQz_ (z_zret C hr hlocks G (Nat.le_of_ble_eq_true rfl) (Nat.le_of_ble_eq_true rfl) dX12_isCrossing_11 rfl ⟨rfl, (Or.inr (⟨rfl, (by first | with_reducible assumption | omega | assumption)⟩))⟩)
set_option maxHeartbeats 4000000 in
set_option maxRecDepth 100000 in
/-- c_m_isInn -/
theorem c_m_isInn (l : Launch) (T : zTy) (mo : Nat) (m_all : Nat) (m_has : Nat) (i_size : Int32) (i_next : Int32) (i_where : Int32) (i_token : Int32) (i_number : Int32) (i_word : Int32) (i_wrong : Int32) (i_farCrossing : Int32) (m_read : Nat) (i_z0 : Int32) (i_crossings : Int32) (i_inns : Int32) (m_posts : Nat) (m_shut : Nat) (m_here : Nat) (i_steps : Int32) (i_done : Int32) (i_at : Int32) (i_gone : Int32) (m_was : Nat) (m_came : Nat) (m_seenAt : Nat) (m_rowWorth : Nat) (m_farBy : Nat) (m_used : Nat) (i_everywhere : Int32) (i_again0 : Int32) (i_d0 : Int32) (i_never : Int32) (i_firstCame : Int32) (i_longRun : Int32) (i_moved : Int32) (i_crowd : Int32) (i_l0 : Int32) (i_fitMany : Int32) (i_fitLeast : Int32) (i_fitMost : Int32) (m_fitPost : Nat) (m_fitEnd : Nat) (m_keptPosts : Nat) (i_x0 : Int32) (c_ : Int32) : zMi l T yX12_isInn cX12_isInn 2 (some .boolean) 1 0 0 [.ref mo, .int c_] [[zO11 mo m_all m_has i_size i_next i_where i_token i_number i_word i_wrong i_farCrossing m_read i_z0 i_crossings i_inns m_posts m_shut m_here i_steps i_done i_at i_gone m_was m_came m_seenAt m_rowWorth m_farBy m_used i_everywhere i_again0 i_d0 i_never i_firstCame i_longRun i_moved i_crowd i_l0 i_fitMany i_fitLeast i_fitMost m_fitPost m_fitEnd m_keptPosts i_x0]] (fun (r : Int32) bs => bs = [[zO11 mo m_all m_has i_size i_next i_where i_token i_number i_word i_wrong i_farCrossing m_read i_z0 i_crossings i_inns m_posts m_shut m_here i_steps i_done i_at i_gone m_was m_came m_seenAt m_rowWorth m_farBy m_used i_everywhere i_again0 i_d0 i_never i_firstCame i_longRun i_moved i_crowd i_l0 i_fitMany i_fitLeast i_fitMost m_fitPost m_fitEnd m_keptPosts i_x0]] ∧ ((r = 1 ∧ zInn i_inns c_) ∨ (r = 0 ∧ ¬ zInn i_inns c_))) := by
  refine zMi_of (own := RX12) (by decide) rfl (Nat.le_of_ble_eq_true rfl) ?_
  intro p e s m args below meth c A ls C hr hlocks hnm hAe G hl
  refine zHide (fun Qz_ hQz_ => ?_)
  have hx := C.1
  have hb := C.2.1
  have hl : lv_has ls 2 [(0, .ref mo), (1, .int c_)] := hl
  refine lv_aload_n hx hb dX12_isInn_0 rfl (lv_at hl 0 rfl) ?_
  refine z_get C G clX12 0 rfl 13 (by decide) m_fl_RX12_172 rfl dX12_isInn_1 ?_
  refine lv_iload_n hx hb dX12_isInn_4 rfl (lv_at hl 1 rfl) ?_
  refine lv_ishr hx hb dX12_isInn_5 ?_
  refine lv_iconst (v := 1) hx hb dX12_isInn_6 (by decide) ?_
  refine lv_iand hx hb dX12_isInn_7 ?_
  refine lv_iconst (v := 1) hx hb dX12_isInn_8 (by decide) ?_
  refine lv_icmp_ne (tgt := 16) hx hb dX12_isInn_9 (by decide) (fun c_1 => ?_) (fun c_1 => ?_)
  · have c_1n : ¬ ((i_inns >>> (c_ &&& 31)) &&& 1).toInt = (1 : Int) := fun q => c_1 ((fa_eq _ _).mpr q)
    refine lv_iconst (v := 0) hx hb dX12_isInn_16 (by decide) ?_
    exact z_back hQz_ (z_zret C hr hlocks G (Nat.le_of_ble_eq_true rfl) (Nat.le_of_ble_eq_true rfl) dX12_isInn_17 rfl ⟨rfl, (Or.inr (⟨rfl, (by first | with_reducible assumption | omega | assumption)⟩))⟩)
  · have c_1n : ((i_inns >>> (c_ &&& 31)) &&& 1).toInt = (1 : Int) := (fa_eq _ _).mp c_1
    refine lv_iconst (v := 1) hx hb dX12_isInn_12 (by decide) ?_
    refine lv_goto (tgt := 17) hx hb dX12_isInn_13 (by decide) ?_
    exact z_back hQz_ (z_zret C hr hlocks G (Nat.le_of_ble_eq_true rfl) (Nat.le_of_ble_eq_true rfl) dX12_isInn_17 rfl ⟨rfl, (Or.inl (⟨rfl, (by first | with_reducible assumption | omega | assumption)⟩))⟩)
set_option maxHeartbeats 4000000 in
set_option maxRecDepth 100000 in
/-- c_m_isFree -/
theorem c_m_isFree (l : Launch) (T : zTy) (mo : Nat) (m_all : Nat) (m_has : Nat) (i_size : Int32) (i_next : Int32) (i_where : Int32) (i_token : Int32) (i_number : Int32) (i_word : Int32) (i_wrong : Int32) (i_farCrossing : Int32) (m_read : Nat) (i_z0 : Int32) (i_crossings : Int32) (i_inns : Int32) (m_posts : Nat) (m_shut : Nat) (m_here : Nat) (i_steps : Int32) (i_done : Int32) (i_at : Int32) (i_gone : Int32) (m_was : Nat) (m_came : Nat) (m_seenAt : Nat) (m_rowWorth : Nat) (m_farBy : Nat) (m_used : Nat) (i_everywhere : Int32) (i_again0 : Int32) (i_d0 : Int32) (i_never : Int32) (i_firstCame : Int32) (i_longRun : Int32) (i_moved : Int32) (i_crowd : Int32) (i_l0 : Int32) (i_fitMany : Int32) (i_fitLeast : Int32) (i_fitMost : Int32) (m_fitPost : Nat) (m_fitEnd : Nat) (m_keptPosts : Nat) (i_x0 : Int32) (f_all : Nat → Int32) (c_ : Int32) (hL : zML f_all i_z0 i_crossings) (hc0 : 0 ≤ c_.toInt) (hc6 : c_.toInt ≤ 6) : zMi l T yX12_isFree cX12_isFree 2 (some .boolean) 2 0 0 [.ref mo, .int c_] [[zO11 mo m_all m_has i_size i_next i_where i_token i_number i_word i_wrong i_farCrossing m_read i_z0 i_crossings i_inns m_posts m_shut m_here i_steps i_done i_at i_gone m_was m_came m_seenAt m_rowWorth m_farBy m_used i_everywhere i_again0 i_d0 i_never i_firstCame i_longRun i_moved i_crowd i_l0 i_fitMany i_fitLeast i_fitMost m_fitPost m_fitEnd m_keptPosts i_x0], [zAr T 0 m_all 3952 f_all]] (fun (r : Int32) bs => bs = [[zO11 mo m_all m_has i_size i_next i_where i_token i_number i_word i_wrong i_farCrossing m_read i_z0 i_crossings i_inns m_posts m_shut m_here i_steps i_done i_at i_gone m_was m_came m_seenAt m_rowWorth m_farBy m_used i_everywhere i_again0 i_d0 i_never i_firstCame i_longRun i_moved i_crowd i_l0 i_fitMany i_fitLeast i_fitMost m_fitPost m_fitEnd m_keptPosts i_x0], [zAr T 0 m_all 3952 f_all]] ∧ ((r = 1 ∧ ¬ zInn i_inns c_ ∧ 0 < (zRd f_all i_z0 c_).toInt) ∨ (r = 0 ∧ (zInn i_inns c_ ∨ (zRd f_all i_z0 c_).toInt ≤ 0)))) := by
  refine zMi_of (own := RX12) (by decide) rfl (Nat.le_of_ble_eq_true rfl) ?_
  intro p e s m args below meth c A ls C hr hlocks hnm hAe G hl
  refine zHide (fun Qz_ hQz_ => ?_)
  have hx := C.1
  have hb := C.2.1
  have hl : lv_has ls 2 [(0, .ref mo), (1, .int c_)] := hl
  refine lv_aload_n hx hb dX12_isFree_0 rfl (lv_at hl 0 rfl) ?_
  refine lv_iload_n hx hb dX12_isFree_1 rfl (lv_at hl 1 rfl) ?_
  refine z_Vi (bc := [[zO11 mo m_all m_has i_size i_next i_where i_token i_number i_word i_wrong i_farCrossing m_read i_z0 i_crossings i_inns m_posts m_shut m_here i_steps i_done i_at i_gone m_was m_came m_seenAt m_rowWorth m_farBy m_used i_everywhere i_again0 i_d0 i_never i_firstCame i_longRun i_moved i_crowd i_l0 i_fitMany i_fitLeast i_fitMost m_fitPost m_fitEnd m_keptPosts i_x0]]) (br := [[zAr T 0 m_all 3952 f_all]]) (As := [.int c_]) (rest := []) C G (c_m_isInn l T mo m_all m_has i_size i_next i_where i_token i_number i_word i_wrong i_farCrossing m_read i_z0 i_crossings i_inns m_posts m_shut m_here i_steps i_done i_at i_gone m_was m_came m_seenAt m_rowWorth m_farBy m_used i_everywhere i_again0 i_d0 i_never i_firstCame i_longRun i_moved i_crowd i_l0 i_fitMany i_fitLeast i_fitMost m_fitPost m_fitEnd m_keptPosts i_x0 c_) (kV_RX12_178 C.2.2.2.2 (Nat.le_of_ble_eq_true rfl) (Nat.le_of_ble_eq_true rfl)) [0] [0] rfl rfl (ci := 11) (qc := (RX12, TX12, 43)) rfl rfl (List.mem_flatten.mpr ⟨_, List.mem_of_getElem? (i := 0) rfl, List.mem_cons_self⟩) rfl rfl hl.1 dX12_isFree_2 (Nat.le_of_ble_eq_true rfl) (Nat.le_of_ble_eq_true rfl) (fun r_2 b1 H locs hw G => ?_)
  refine zAn2 hw ?_
  intro hbs9 hc_1
  clear hw
  subst hbs9
  have G : zS T A s.heap s [[zAr T 0 m_all 3952 f_all], [zO11 mo m_all m_has i_size i_next i_where i_token i_number i_word i_wrong i_farCrossing m_read i_z0 i_crossings i_inns m_posts m_shut m_here i_steps i_done i_at i_gone m_was m_came m_seenAt m_rowWorth m_farBy m_used i_everywhere i_again0 i_d0 i_never i_firstCame i_longRun i_moved i_crowd i_l0 i_fitMany i_fitLeast i_fitMost m_fitPost m_fitEnd m_keptPosts i_x0]] _ _ := G
  rcases hc_1 with ⟨rfl, h_3⟩ | ⟨rfl, h_4⟩
  · have h_3 : zInn i_inns c_ := h_3
    refine lv_if_ne (tgt := 20) hx hb dX12_isFree_5 (by decide) (fun _ => ?_) (fun q => absurd q (by decide))
    refine lv_iconst (v := 0) hx hb dX12_isFree_20 (by decide) ?_
    have G := G.sub (bs' := [[zO11 mo m_all m_has i_size i_next i_where i_token i_number i_word i_wrong i_farCrossing m_read i_z0 i_crossings i_inns m_posts m_shut m_here i_steps i_done i_at i_gone m_was m_came m_seenAt m_rowWorth m_farBy m_used i_everywhere i_again0 i_d0 i_never i_firstCame i_longRun i_moved i_crowd i_l0 i_fitMany i_fitLeast i_fitMost m_fitPost m_fitEnd m_keptPosts i_x0], [zAr T 0 m_all 3952 f_all]]) [1, 0] rfl
    exact z_back hQz_ (z_zret C hr hlocks G (Nat.le_of_ble_eq_true rfl) (Nat.le_of_ble_eq_true rfl) dX12_isFree_21 rfl ⟨rfl, (Or.inr (⟨rfl, (by first | exact Or.inl (by first | with_reducible assumption | assumption) | exact Or.inr (by omega))⟩))⟩)
  · have h_4 : ¬ zInn i_inns c_ := h_4
    refine lv_if_ne (tgt := 20) hx hb dX12_isFree_5 (by decide) (fun q => absurd (by decide) q) (fun _ => ?_)
    refine lv_aload_n hx hb dX12_isFree_8 rfl (lv_at hl 0 rfl) ?_
    refine lv_iload_n hx hb dX12_isFree_9 rfl (lv_at hl 1 rfl) ?_
    refine z_Vi (bc := [[zO11 mo m_all m_has i_size i_next i_where i_token i_number i_word i_wrong i_farCrossing m_read i_z0 i_crossings i_inns m_posts m_shut m_here i_steps i_done i_at i_gone m_was m_came m_seenAt m_rowWorth m_farBy m_used i_everywhere i_again0 i_d0 i_never i_firstCame i_longRun i_moved i_crowd i_l0 i_fitMany i_fitLeast i_fitMost m_fitPost m_fitEnd m_keptPosts i_x0], [zAr T 0 m_all 3952 f_all]]) (br := []) (As := [.int c_]) (rest := []) C G (c_m_roadsOf l T mo m_all m_has i_size i_next i_where i_token i_number i_word i_wrong i_farCrossing m_read i_z0 i_crossings i_inns m_posts m_shut m_here i_steps i_done i_at i_gone m_was m_came m_seenAt m_rowWorth m_farBy m_used i_everywhere i_again0 i_d0 i_never i_firstCame i_longRun i_moved i_crowd i_l0 i_fitMany i_fitLeast i_fitMost m_fitPost m_fitEnd m_keptPosts i_x0 f_all c_ (by first | with_reducible assumption | with_reducible rfl | omega | assumption | rfl | decide) (by first | with_reducible assumption | with_reducible rfl | omega | assumption | rfl | decide) (by first | with_reducible assumption | with_reducible rfl | omega | assumption | rfl | decide)) (kV_RX12_181 C.2.2.2.2 (Nat.le_of_ble_eq_true rfl) (Nat.le_of_ble_eq_true rfl)) [1, 0] [0, 0] rfl rfl (ci := 11) (qc := (RX12, TX12, 43)) rfl rfl (List.mem_flatten.mpr ⟨_, List.mem_of_getElem? (i := 0) rfl, List.mem_cons_self⟩) rfl rfl hl.1 dX12_isFree_10 (Nat.le_of_ble_eq_true rfl) (Nat.le_of_ble_eq_true rfl) (fun r_8 b1 H locs hw G => ?_)
    refine zAn4 hw ?_
    intro hbs9 h_5 h_6 h_7
    clear hw
    subst hbs9
    have G : zS T A s.heap s [[zO11 mo m_all m_has i_size i_next i_where i_token i_number i_word i_wrong i_farCrossing m_read i_z0 i_crossings i_inns m_posts m_shut m_here i_steps i_done i_at i_gone m_was m_came m_seenAt m_rowWorth m_farBy m_used i_everywhere i_again0 i_d0 i_never i_firstCame i_longRun i_moved i_crowd i_l0 i_fitMany i_fitLeast i_fitMost m_fitPost m_fitEnd m_keptPosts i_x0], [zAr T 0 m_all 3952 f_all]] _ _ := G
    subst h_5
    refine lv_if_le (tgt := 20) hx hb dX12_isFree_13 (by decide) (fun c_9 => ?_) (fun c_9 => ?_)
    · have c_9n : (zRd f_all i_z0 c_).toInt ≤ (0 : Int) := (fa_le _ _).mp c_9
      refine lv_iconst (v := 0) hx hb dX12_isFree_20 (by decide) ?_
      exact z_back hQz_ (z_zret C hr hlocks G (Nat.le_of_ble_eq_true rfl) (Nat.le_of_ble_eq_true rfl) dX12_isFree_21 rfl ⟨rfl, (Or.inr (⟨rfl, (by first | exact Or.inl (by first | with_reducible assumption | assumption) | exact Or.inr (by omega))⟩))⟩)
    · have c_9n : ¬ (zRd f_all i_z0 c_).toInt ≤ (0 : Int) := fun q => c_9 ((fa_le _ _).mpr q)
      refine lv_iconst (v := 1) hx hb dX12_isFree_16 (by decide) ?_
      refine lv_goto (tgt := 21) hx hb dX12_isFree_17 (by decide) ?_
      exact z_back hQz_ (z_zret C hr hlocks G (Nat.le_of_ble_eq_true rfl) (Nat.le_of_ble_eq_true rfl) dX12_isFree_21 rfl ⟨rfl, (Or.inl (⟨rfl, (by first | with_reducible assumption | omega | assumption), (by omega)⟩))⟩)
theorem m_fl_RX12_196 : Cond.fieldLink RX12 196 (TX12 17).1 (TX12 17).2.1 (TX12 17).2.2.1 ∈ zT := zmem1 zsub_6 12 rfl rfl
theorem m_fl_RX12_199 : Cond.fieldLink RX12 199 (TX12 18).1 (TX12 18).2.1 (TX12 18).2.2.1 ∈ zT := zmem1 zsub_6 13 rfl rfl
theorem m_co_X12_postTold : Cond.code yX12_postTold cX12_postTold 2 (some .int) ∈ zT := zmem1 zsub_6 239 rfl rfl
theorem m_ml_RX12_193 : Cond.methodLink RX12 193 yX12_postTold ∈ zT := zmem1 zsub_6 236 rfl rfl
theorem m_im_X12_postTold : Cond.instanceMethod yX12_postTold ∈ zT := zmem1 zsub_6 238 rfl rfl
theorem m_se_X12_postTold : Cond.selects RX12 yX12_postTold yX12_postTold ∈ zT := zmem 61 rfl rfl
theorem m_co_X12_begins : Cond.code yX12_begins cX12_begins 2 none ∈ zT := zmem1 zsub_6 235 rfl rfl
theorem m_ml_RX12_175 : Cond.methodLink RX12 175 yX12_begins ∈ zT := zmem1 zsub_6 232 rfl rfl
theorem m_im_X12_begins : Cond.instanceMethod yX12_begins ∈ zT := zmem1 zsub_6 234 rfl rfl
theorem m_se_X12_begins : Cond.selects RX12 yX12_begins yX12_begins ∈ zT := zmem 60 rfl rfl
theorem m_fl_RX12_202 : Cond.fieldLink RX12 202 (TX12 19).1 (TX12 19).2.1 (TX12 19).2.2.1 ∈ zT := zmem1 zsub_6 14 rfl rfl
theorem m_co_X12_turns : Cond.code yX12_turns cX12_turns 5 (some .boolean) ∈ zT := zmem1 zsub_7 35 rfl rfl
theorem m_ml_RX12_205 : Cond.methodLink RX12 205 yX12_turns ∈ zT := zmem1 zsub_7 32 rfl rfl
theorem m_im_X12_turns : Cond.instanceMethod yX12_turns ∈ zT := zmem1 zsub_7 34 rfl rfl
theorem m_se_X12_turns : Cond.selects RX12 yX12_turns yX12_turns ∈ zT := zmem 69 rfl rfl
theorem m_co_X12_leadsTo : Cond.code yX12_leadsTo cX12_leadsTo 3 (some .int) ∈ zT := zmem1 zsub_7 11 rfl rfl
theorem m_ml_RX12_190 : Cond.methodLink RX12 190 yX12_leadsTo ∈ zT := zmem1 zsub_7 8 rfl rfl
theorem m_im_X12_leadsTo : Cond.instanceMethod yX12_leadsTo ∈ zT := zmem1 zsub_7 10 rfl rfl
theorem m_se_X12_leadsTo : Cond.selects RX12 yX12_leadsTo yX12_leadsTo ∈ zT := zmem 64 rfl rfl
theorem m_fl_RX12_208 : Cond.fieldLink RX12 208 (TX12 20).1 (TX12 20).2.1 (TX12 20).2.2.1 ∈ zT := zmem1 zsub_6 15 rfl rfl
theorem kV_RX12_193 {R : Room} {s : State} {args : Array Value} {d mc ms : Nat} (hts : ∀ w ∈ zT, w.before args s = true) (h1 : d + 1 ≤ R.frames) (h2 : 8 + (2 + 11) + 40 * d ≤ R.locals) : CallW R s args RX12 RX12 193 yX12_postTold cX12_postTold 2 (some .int) (zW yX12_postTold cX12_postTold 2 (some .int)) (zR d mc ms) mc ms 1 := z_cwV hts m_co_X12_postTold m_ml_RX12_193 m_im_X12_postTold m_se_X12_postTold m_ii_RX12 (by decide +kernel) h1 h2
theorem kV_RX12_175 {R : Room} {s : State} {args : Array Value} {d mc ms : Nat} (hts : ∀ w ∈ zT, w.before args s = true) (h1 : d + 1 ≤ R.frames) (h2 : 8 + (2 + 11) + 40 * d ≤ R.locals) : CallW R s args RX12 RX12 175 yX12_begins cX12_begins 2 none (zW yX12_begins cX12_begins 2 none) (zR d mc ms) mc ms 0 := z_cwV hts m_co_X12_begins m_ml_RX12_175 m_im_X12_begins m_se_X12_begins m_ii_RX12 (by decide +kernel) h1 h2
theorem kV_RX12_205 {R : Room} {s : State} {args : Array Value} {d mc ms : Nat} (hts : ∀ w ∈ zT, w.before args s = true) (h1 : d + 1 ≤ R.frames) (h2 : 8 + (5 + 11) + 40 * d ≤ R.locals) : CallW R s args RX12 RX12 205 yX12_turns cX12_turns 5 (some .boolean) (zW yX12_turns cX12_turns 5 (some .boolean)) (zR d mc ms) mc ms 1 := z_cwV hts m_co_X12_turns m_ml_RX12_205 m_im_X12_turns m_se_X12_turns m_ii_RX12 (by decide +kernel) h1 h2
theorem kV_RX12_190 {R : Room} {s : State} {args : Array Value} {d mc ms : Nat} (hts : ∀ w ∈ zT, w.before args s = true) (h1 : d + 1 ≤ R.frames) (h2 : 8 + (3 + 11) + 40 * d ≤ R.locals) : CallW R s args RX12 RX12 190 yX12_leadsTo cX12_leadsTo 3 (some .int) (zW yX12_leadsTo cX12_leadsTo 3 (some .int)) (zR d mc ms) mc ms 2 := z_cwV hts m_co_X12_leadsTo m_ml_RX12_190 m_im_X12_leadsTo m_se_X12_leadsTo m_ii_RX12 (by decide +kernel) h1 h2
theorem dX12_begins_0 : decode cX12_begins 0 = .ok (.aload_n 0, 1) := zo_42 (by decide +kernel)
theorem dX12_begins_1 : decode cX12_begins 1 = .ok (.iconst 0, 1) := zo_3 (by decide +kernel)
theorem dX12_begins_2 : decode cX12_begins 2 = .ok (.putfield 196, 3) := zo_181 (by decide +kernel)
theorem dX12_begins_5 : decode cX12_begins 5 = .ok (.aload_n 0, 1) := zo_42 (by decide +kernel)
theorem dX12_begins_6 : decode cX12_begins 6 = .ok (.iconst 0, 1) := zo_3 (by decide +kernel)
theorem dX12_begins_7 : decode cX12_begins 7 = .ok (.putfield 199, 3) := zo_181 (by decide +kernel)
theorem dX12_begins_10 : decode cX12_begins 10 = .ok (.iconst 0, 1) := zo_3 (by decide +kernel)
theorem dX12_begins_11 : decode cX12_begins 11 = .ok (.istore_n 1, 1) := zo_60 (by decide +kernel)
theorem dX12_begins_12 : decode cX12_begins 12 = .ok (.iload_n 1, 1) := zo_27 (by decide +kernel)
theorem dX12_begins_13 : decode cX12_begins 13 = .ok (.bipush 7, 2) := zo_16 (by decide +kernel)
theorem dX12_begins_15 : decode cX12_begins 15 = .ok (.if_icmp .ge 47, 3) := zo_162 (by decide +kernel)
theorem dX12_begins_18 : decode cX12_begins 18 = .ok (.aload_n 0, 1) := zo_42 (by decide +kernel)
theorem dX12_begins_19 : decode cX12_begins 19 = .ok (.getfield 20, 3) := zo_180 (by decide +kernel)
theorem dX12_begins_22 : decode cX12_begins 22 = .ok (.iload_n 1, 1) := zo_27 (by decide +kernel)
theorem dX12_begins_23 : decode cX12_begins 23 = .ok (.aload_n 0, 1) := zo_42 (by decide +kernel)
theorem dX12_begins_24 : decode cX12_begins 24 = .ok (.iload_n 1, 1) := zo_27 (by decide +kernel)
theorem dX12_begins_25 : decode cX12_begins 25 = .ok (.invokevirtual 193, 3) := zo_182 (by decide +kernel)
theorem dX12_begins_28 : decode cX12_begins 28 = .ok (.iastore, 1) := zo_79 (by decide +kernel)
theorem dX12_begins_29 : decode cX12_begins 29 = .ok (.aload_n 0, 1) := zo_42 (by decide +kernel)
theorem dX12_begins_30 : decode cX12_begins 30 = .ok (.getfield 23, 3) := zo_180 (by decide +kernel)
theorem dX12_begins_33 : decode cX12_begins 33 = .ok (.iload_n 1, 1) := zo_27 (by decide +kernel)
theorem dX12_begins_34 : decode cX12_begins 34 = .ok (.iconst 0, 1) := zo_3 (by decide +kernel)
theorem dX12_begins_35 : decode cX12_begins 35 = .ok (.iastore, 1) := zo_79 (by decide +kernel)
theorem dX12_begins_36 : decode cX12_begins 36 = .ok (.aload_n 0, 1) := zo_42 (by decide +kernel)
theorem dX12_begins_37 : decode cX12_begins 37 = .ok (.getfield 26, 3) := zo_180 (by decide +kernel)
theorem dX12_begins_40 : decode cX12_begins 40 = .ok (.iload_n 1, 1) := zo_27 (by decide +kernel)
theorem dX12_begins_41 : decode cX12_begins 41 = .ok (.aload_n 0, 1) := zo_42 (by decide +kernel)
theorem dX12_begins_42 : decode cX12_begins 42 = .ok (.getfield 7, 3) := zo_180 (by decide +kernel)
theorem dX12_begins_45 : decode cX12_begins 45 = .ok (.aload_n 0, 1) := zo_42 (by decide +kernel)
theorem dX12_begins_46 : decode cX12_begins 46 = .ok (.getfield 166, 3) := zo_180 (by decide +kernel)
theorem dX12_begins_49 : decode cX12_begins 49 = .ok (.bipush 16, 2) := zo_16 (by decide +kernel)
theorem dX12_begins_51 : decode cX12_begins 51 = .ok (.iadd, 1) := zo_96 (by decide +kernel)
theorem dX12_begins_52 : decode cX12_begins 52 = .ok (.iload_n 1, 1) := zo_27 (by decide +kernel)
theorem dX12_begins_53 : decode cX12_begins 53 = .ok (.iadd, 1) := zo_96 (by decide +kernel)
theorem dX12_begins_54 : decode cX12_begins 54 = .ok (.iaload, 1) := zo_46 (by decide +kernel)
theorem dX12_begins_55 : decode cX12_begins 55 = .ok (.iastore, 1) := zo_79 (by decide +kernel)
theorem dX12_begins_56 : decode cX12_begins 56 = .ok (.iinc 1 1, 3) := zo_132 (by decide +kernel)
theorem dX12_begins_59 : decode cX12_begins 59 = .ok (.goto (-47), 3) := zo_167 (by decide +kernel)
theorem dX12_begins_62 : decode cX12_begins 62 = .ok (.return_, 1) := zo_177 (by decide +kernel)
theorem dX12_isLand_0 : decode cX12_isLand 0 = .ok (.aload_n 0, 1) := zo_42 (by decide +kernel)
theorem dX12_isLand_1 : decode cX12_isLand 1 = .ok (.iconst 0, 1) := zo_3 (by decide +kernel)
theorem dX12_isLand_2 : decode cX12_isLand 2 = .ok (.iload_n 1, 1) := zo_27 (by decide +kernel)
theorem dX12_isLand_3 : decode cX12_isLand 3 = .ok (.invokevirtual 143, 3) := zo_182 (by decide +kernel)
theorem dX12_isLand_6 : decode cX12_isLand 6 = .ok (.ifCond .ne 5, 3) := zo_154 (by decide +kernel)
theorem dX12_isLand_9 : decode cX12_isLand 9 = .ok (.iconst 0, 1) := zo_3 (by decide +kernel)
theorem dX12_isLand_10 : decode cX12_isLand 10 = .ok (.ireturn, 1) := zo_172 (by decide +kernel)
theorem dX12_isLand_11 : decode cX12_isLand 11 = .ok (.aload_n 0, 1) := zo_42 (by decide +kernel)
theorem dX12_isLand_12 : decode cX12_isLand 12 = .ok (.iconst 0, 1) := zo_3 (by decide +kernel)
theorem dX12_isLand_13 : decode cX12_isLand 13 = .ok (.iload_n 1, 1) := zo_27 (by decide +kernel)
theorem dX12_isLand_14 : decode cX12_isLand 14 = .ok (.invokestatic 163, 3) := zo_184 (by decide +kernel)
theorem dX12_isLand_17 : decode cX12_isLand 17 = .ok (.putfield 166, 3) := zo_181 (by decide +kernel)
theorem dX12_isLand_20 : decode cX12_isLand 20 = .ok (.aload_n 0, 1) := zo_42 (by decide +kernel)
theorem dX12_isLand_21 : decode cX12_isLand 21 = .ok (.aload_n 0, 1) := zo_42 (by decide +kernel)
theorem dX12_isLand_22 : decode cX12_isLand 22 = .ok (.getfield 7, 3) := zo_180 (by decide +kernel)
theorem dX12_isLand_25 : decode cX12_isLand 25 = .ok (.aload_n 0, 1) := zo_42 (by decide +kernel)
theorem dX12_isLand_26 : decode cX12_isLand 26 = .ok (.getfield 166, 3) := zo_180 (by decide +kernel)
theorem dX12_isLand_29 : decode cX12_isLand 29 = .ok (.iaload, 1) := zo_46 (by decide +kernel)
theorem dX12_isLand_30 : decode cX12_isLand 30 = .ok (.putfield 169, 3) := zo_181 (by decide +kernel)
theorem dX12_isLand_33 : decode cX12_isLand 33 = .ok (.aload_n 0, 1) := zo_42 (by decide +kernel)
theorem dX12_isLand_34 : decode cX12_isLand 34 = .ok (.aload_n 0, 1) := zo_42 (by decide +kernel)
theorem dX12_isLand_35 : decode cX12_isLand 35 = .ok (.getfield 7, 3) := zo_180 (by decide +kernel)
theorem dX12_isLand_38 : decode cX12_isLand 38 = .ok (.aload_n 0, 1) := zo_42 (by decide +kernel)
theorem dX12_isLand_39 : decode cX12_isLand 39 = .ok (.getfield 166, 3) := zo_180 (by decide +kernel)
theorem dX12_isLand_42 : decode cX12_isLand 42 = .ok (.iconst 1, 1) := zo_4 (by decide +kernel)
theorem dX12_isLand_43 : decode cX12_isLand 43 = .ok (.iadd, 1) := zo_96 (by decide +kernel)
theorem dX12_isLand_44 : decode cX12_isLand 44 = .ok (.iaload, 1) := zo_46 (by decide +kernel)
theorem dX12_isLand_45 : decode cX12_isLand 45 = .ok (.putfield 172, 3) := zo_181 (by decide +kernel)
theorem dX12_isLand_48 : decode cX12_isLand 48 = .ok (.aload_n 0, 1) := zo_42 (by decide +kernel)
theorem dX12_isLand_49 : decode cX12_isLand 49 = .ok (.invokevirtual 175, 3) := zo_182 (by decide +kernel)
theorem dX12_isLand_52 : decode cX12_isLand 52 = .ok (.iconst 1, 1) := zo_4 (by decide +kernel)
theorem dX12_isLand_53 : decode cX12_isLand 53 = .ok (.ireturn, 1) := zo_172 (by decide +kernel)
theorem dX12_turns_0 : decode cX12_turns 0 = .ok (.aload_n 0, 1) := zo_42 (by decide +kernel)
theorem dX12_turns_1 : decode cX12_turns 1 = .ok (.iload_n 1, 1) := zo_27 (by decide +kernel)
theorem dX12_turns_2 : decode cX12_turns 2 = .ok (.invokevirtual 181, 3) := zo_182 (by decide +kernel)
theorem dX12_turns_5 : decode cX12_turns 5 = .ok (.istore_n 2, 1) := zo_61 (by decide +kernel)
theorem dX12_turns_6 : decode cX12_turns 6 = .ok (.iconst 1, 1) := zo_4 (by decide +kernel)
theorem dX12_turns_7 : decode cX12_turns 7 = .ok (.istore_n 3, 1) := zo_62 (by decide +kernel)
theorem dX12_turns_8 : decode cX12_turns 8 = .ok (.iload_n 3, 1) := zo_29 (by decide +kernel)
theorem dX12_turns_9 : decode cX12_turns 9 = .ok (.iload_n 2, 1) := zo_28 (by decide +kernel)
theorem dX12_turns_10 : decode cX12_turns 10 = .ok (.if_icmp .gt 49, 3) := zo_163 (by decide +kernel)
theorem dX12_turns_13 : decode cX12_turns 13 = .ok (.aload_n 0, 1) := zo_42 (by decide +kernel)
theorem dX12_turns_14 : decode cX12_turns 14 = .ok (.getfield 20, 3) := zo_180 (by decide +kernel)
theorem dX12_turns_17 : decode cX12_turns 17 = .ok (.iload_n 1, 1) := zo_27 (by decide +kernel)
theorem dX12_turns_18 : decode cX12_turns 18 = .ok (.iaload, 1) := zo_46 (by decide +kernel)
theorem dX12_turns_19 : decode cX12_turns 19 = .ok (.iload_n 3, 1) := zo_29 (by decide +kernel)
theorem dX12_turns_20 : decode cX12_turns 20 = .ok (.iadd, 1) := zo_96 (by decide +kernel)
theorem dX12_turns_21 : decode cX12_turns 21 = .ok (.iload_n 2, 1) := zo_28 (by decide +kernel)
theorem dX12_turns_22 : decode cX12_turns 22 = .ok (.irem, 1) := zo_112 (by decide +kernel)
theorem dX12_turns_23 : decode cX12_turns 23 = .ok (.istore 4, 2) := zo_54 (by decide +kernel)
theorem dX12_turns_25 : decode cX12_turns 25 = .ok (.aload_n 0, 1) := zo_42 (by decide +kernel)
theorem dX12_turns_26 : decode cX12_turns 26 = .ok (.getfield 23, 3) := zo_180 (by decide +kernel)
theorem dX12_turns_29 : decode cX12_turns 29 = .ok (.iload_n 1, 1) := zo_27 (by decide +kernel)
theorem dX12_turns_30 : decode cX12_turns 30 = .ok (.iaload, 1) := zo_46 (by decide +kernel)
theorem dX12_turns_31 : decode cX12_turns 31 = .ok (.iload 4, 2) := zo_21 (by decide +kernel)
theorem dX12_turns_33 : decode cX12_turns 33 = .ok (.ishr, 1) := zo_122 (by decide +kernel)
theorem dX12_turns_34 : decode cX12_turns 34 = .ok (.iconst 1, 1) := zo_4 (by decide +kernel)
theorem dX12_turns_35 : decode cX12_turns 35 = .ok (.iand, 1) := zo_126 (by decide +kernel)
theorem dX12_turns_36 : decode cX12_turns 36 = .ok (.iconst 1, 1) := zo_4 (by decide +kernel)
theorem dX12_turns_37 : decode cX12_turns 37 = .ok (.if_icmp .ne 6, 3) := zo_160 (by decide +kernel)
theorem dX12_turns_40 : decode cX12_turns 40 = .ok (.goto 13, 3) := zo_167 (by decide +kernel)
theorem dX12_turns_43 : decode cX12_turns 43 = .ok (.aload_n 0, 1) := zo_42 (by decide +kernel)
theorem dX12_turns_44 : decode cX12_turns 44 = .ok (.getfield 20, 3) := zo_180 (by decide +kernel)
theorem dX12_turns_47 : decode cX12_turns 47 = .ok (.iload_n 1, 1) := zo_27 (by decide +kernel)
theorem dX12_turns_48 : decode cX12_turns 48 = .ok (.iload 4, 2) := zo_21 (by decide +kernel)
theorem dX12_turns_50 : decode cX12_turns 50 = .ok (.iastore, 1) := zo_79 (by decide +kernel)
theorem dX12_turns_51 : decode cX12_turns 51 = .ok (.iconst 1, 1) := zo_4 (by decide +kernel)
theorem dX12_turns_52 : decode cX12_turns 52 = .ok (.ireturn, 1) := zo_172 (by decide +kernel)
theorem dX12_turns_53 : decode cX12_turns 53 = .ok (.iinc 3 1, 3) := zo_132 (by decide +kernel)
theorem dX12_turns_56 : decode cX12_turns 56 = .ok (.goto (-48), 3) := zo_167 (by decide +kernel)
theorem dX12_turns_59 : decode cX12_turns 59 = .ok (.iconst 0, 1) := zo_3 (by decide +kernel)
theorem dX12_turns_60 : decode cX12_turns 60 = .ok (.ireturn, 1) := zo_172 (by decide +kernel)
theorem dX12_stepsOn_0 : decode cX12_stepsOn 0 = .ok (.aload_n 0, 1) := zo_42 (by decide +kernel)
theorem dX12_stepsOn_1 : decode cX12_stepsOn 1 = .ok (.aload_n 0, 1) := zo_42 (by decide +kernel)
theorem dX12_stepsOn_2 : decode cX12_stepsOn 2 = .ok (.getfield 202, 3) := zo_180 (by decide +kernel)
theorem dX12_stepsOn_5 : decode cX12_stepsOn 5 = .ok (.invokevirtual 178, 3) := zo_182 (by decide +kernel)
theorem dX12_stepsOn_8 : decode cX12_stepsOn 8 = .ok (.ifCond .ne 14, 3) := zo_154 (by decide +kernel)
theorem dX12_stepsOn_11 : decode cX12_stepsOn 11 = .ok (.aload_n 0, 1) := zo_42 (by decide +kernel)
theorem dX12_stepsOn_12 : decode cX12_stepsOn 12 = .ok (.aload_n 0, 1) := zo_42 (by decide +kernel)
theorem dX12_stepsOn_13 : decode cX12_stepsOn 13 = .ok (.getfield 202, 3) := zo_180 (by decide +kernel)
theorem dX12_stepsOn_16 : decode cX12_stepsOn 16 = .ok (.invokevirtual 205, 3) := zo_182 (by decide +kernel)
theorem dX12_stepsOn_19 : decode cX12_stepsOn 19 = .ok (.ifCond .ne 5, 3) := zo_154 (by decide +kernel)
theorem dX12_stepsOn_22 : decode cX12_stepsOn 22 = .ok (.iconst 0, 1) := zo_3 (by decide +kernel)
theorem dX12_stepsOn_23 : decode cX12_stepsOn 23 = .ok (.ireturn, 1) := zo_172 (by decide +kernel)
theorem dX12_stepsOn_24 : decode cX12_stepsOn 24 = .ok (.aload_n 0, 1) := zo_42 (by decide +kernel)
theorem dX12_stepsOn_25 : decode cX12_stepsOn 25 = .ok (.aload_n 0, 1) := zo_42 (by decide +kernel)
theorem dX12_stepsOn_26 : decode cX12_stepsOn 26 = .ok (.aload_n 0, 1) := zo_42 (by decide +kernel)
theorem dX12_stepsOn_27 : decode cX12_stepsOn 27 = .ok (.getfield 202, 3) := zo_180 (by decide +kernel)
theorem dX12_stepsOn_30 : decode cX12_stepsOn 30 = .ok (.aload_n 0, 1) := zo_42 (by decide +kernel)
theorem dX12_stepsOn_31 : decode cX12_stepsOn 31 = .ok (.getfield 20, 3) := zo_180 (by decide +kernel)
theorem dX12_stepsOn_34 : decode cX12_stepsOn 34 = .ok (.aload_n 0, 1) := zo_42 (by decide +kernel)
theorem dX12_stepsOn_35 : decode cX12_stepsOn 35 = .ok (.getfield 202, 3) := zo_180 (by decide +kernel)
theorem dX12_stepsOn_38 : decode cX12_stepsOn 38 = .ok (.iaload, 1) := zo_46 (by decide +kernel)
theorem dX12_stepsOn_39 : decode cX12_stepsOn 39 = .ok (.invokevirtual 190, 3) := zo_182 (by decide +kernel)
theorem dX12_stepsOn_42 : decode cX12_stepsOn 42 = .ok (.putfield 202, 3) := zo_181 (by decide +kernel)
theorem dX12_stepsOn_45 : decode cX12_stepsOn 45 = .ok (.aload_n 0, 1) := zo_42 (by decide +kernel)
theorem dX12_stepsOn_46 : decode cX12_stepsOn 46 = .ok (.dup, 1) := zo_89 (by decide +kernel)
theorem dX12_stepsOn_47 : decode cX12_stepsOn 47 = .ok (.getfield 208, 3) := zo_180 (by decide +kernel)
theorem dX12_stepsOn_50 : decode cX12_stepsOn 50 = .ok (.iconst 1, 1) := zo_4 (by decide +kernel)
theorem dX12_stepsOn_51 : decode cX12_stepsOn 51 = .ok (.iadd, 1) := zo_96 (by decide +kernel)
theorem dX12_stepsOn_52 : decode cX12_stepsOn 52 = .ok (.putfield 208, 3) := zo_181 (by decide +kernel)
theorem dX12_stepsOn_55 : decode cX12_stepsOn 55 = .ok (.aload_n 0, 1) := zo_42 (by decide +kernel)
theorem dX12_stepsOn_56 : decode cX12_stepsOn 56 = .ok (.getfield 29, 3) := zo_180 (by decide +kernel)
theorem dX12_stepsOn_59 : decode cX12_stepsOn 59 = .ok (.aload_n 0, 1) := zo_42 (by decide +kernel)
theorem dX12_stepsOn_60 : decode cX12_stepsOn 60 = .ok (.getfield 202, 3) := zo_180 (by decide +kernel)
theorem dX12_stepsOn_63 : decode cX12_stepsOn 63 = .ok (.dup2, 1) := zo_92 (by decide +kernel)
theorem dX12_stepsOn_64 : decode cX12_stepsOn 64 = .ok (.iaload, 1) := zo_46 (by decide +kernel)
theorem dX12_stepsOn_65 : decode cX12_stepsOn 65 = .ok (.iconst 1, 1) := zo_4 (by decide +kernel)
theorem dX12_stepsOn_66 : decode cX12_stepsOn 66 = .ok (.iadd, 1) := zo_96 (by decide +kernel)
theorem dX12_stepsOn_67 : decode cX12_stepsOn 67 = .ok (.iastore, 1) := zo_79 (by decide +kernel)
theorem dX12_stepsOn_68 : decode cX12_stepsOn 68 = .ok (.iconst 1, 1) := zo_4 (by decide +kernel)
theorem dX12_stepsOn_69 : decode cX12_stepsOn 69 = .ok (.ireturn, 1) := zo_172 (by decide +kernel)
def zWk (f : Nat → Int32) (z : Int32) (c : Nat) : Int32 := f (z.toInt.toNat + (16 + c))
theorem z_upS0 {x f : Nat → Int32} {i : Nat} {v : Int32} (h : ∀ j, j < i → x j = f j) (hv : v = f i) : ∀ j, j < i + 1 → upd x i v j = f j := by
  intro j hj
  unfold upd
  split
  · rename_i e
    rw [e]
    exact hv
  · exact h j (by omega)
set_option maxHeartbeats 4000000 in
set_option maxRecDepth 100000 in
/-- c_m_begins -/
theorem c_m_begins (l : Launch) (T : zTy) (mo : Nat) (m_all : Nat) (m_has : Nat) (i_size : Int32) (i_next : Int32) (i_where : Int32) (i_token : Int32) (i_number : Int32) (i_word : Int32) (i_wrong : Int32) (i_farCrossing : Int32) (m_read : Nat) (i_z0 : Int32) (i_crossings : Int32) (i_inns : Int32) (m_posts : Nat) (m_shut : Nat) (m_here : Nat) (i_steps : Int32) (i_done : Int32) (i_at : Int32) (i_gone : Int32) (m_was : Nat) (m_came : Nat) (m_seenAt : Nat) (m_rowWorth : Nat) (m_farBy : Nat) (m_used : Nat) (i_everywhere : Int32) (i_again0 : Int32) (i_d0 : Int32) (i_never : Int32) (i_firstCame : Int32) (i_longRun : Int32) (i_moved : Int32) (i_crowd : Int32) (i_l0 : Int32) (i_fitMany : Int32) (i_fitLeast : Int32) (i_fitMost : Int32) (m_fitPost : Nat) (m_fitEnd : Nat) (m_keptPosts : Nat) (i_x0 : Int32) (f_all : Nat → Int32) (f_posts : Nat → Int32) (f_shut : Nat → Int32) (f_here : Nat → Int32) (hL : zML f_all i_z0 i_crossings) : zMv l T yX12_begins cX12_begins 2 2 0 0 [.ref mo] [[zO11 mo m_all m_has i_size i_next i_where i_token i_number i_word i_wrong i_farCrossing m_read i_z0 i_crossings i_inns m_posts m_shut m_here i_steps i_done i_at i_gone m_was m_came m_seenAt m_rowWorth m_farBy m_used i_everywhere i_again0 i_d0 i_never i_firstCame i_longRun i_moved i_crowd i_l0 i_fitMany i_fitLeast i_fitMost m_fitPost m_fitEnd m_keptPosts i_x0], [zAr T 0 m_all 3952 f_all], [zAr T 0 m_posts 7 f_posts], [zAr T 0 m_shut 7 f_shut], [zAr T 0 m_here 7 f_here]] (fun bs => ∃ (j_steps : Int32) (j_done : Int32) (g_posts : Nat → Int32) (g_shut : Nat → Int32) (g_here : Nat → Int32), bs = [[zO11 mo m_all m_has i_size i_next i_where i_token i_number i_word i_wrong i_farCrossing m_read i_z0 i_crossings i_inns m_posts m_shut m_here j_steps j_done i_at i_gone m_was m_came m_seenAt m_rowWorth m_farBy m_used i_everywhere i_again0 i_d0 i_never i_firstCame i_longRun i_moved i_crowd i_l0 i_fitMany i_fitLeast i_fitMost m_fitPost m_fitEnd m_keptPosts i_x0], [zAr T 0 m_all 3952 f_all], [zAr T 0 m_posts 7 g_posts], [zAr T 0 m_shut 7 g_shut], [zAr T 0 m_here 7 g_here]] ∧ j_steps = 0 ∧ j_done = 0 ∧ (∀ j, j < 7 → g_posts j = zPt f_all i_z0 (nI j)) ∧ (∀ j, j < 7 → g_shut j = 0) ∧ (∀ j, j < 7 → g_here j = zWk f_all i_z0 j) ∧ zMP g_posts) := by
  refine zMv_of (own := RX12) (by decide) rfl (Nat.le_of_ble_eq_true rfl) ?_
  intro p e s m args below meth c A ls C hr hlocks hnm hAe G hl
  refine zHide (fun Qz_ hQz_ => ?_)
  have hx := C.1
  have hb := C.2.1
  have hl : lv_has ls 2 [(0, .ref mo)] := hl
  have hz := hL.1
  have hcr := hL.cr
  refine lv_aload_n hx hb dX12_begins_0 rfl (lv_at hl 0 rfl) ?_
  refine lv_iconst (v := 0) hx hb dX12_begins_1 (by decide) ?_
  refine z_put C G clX12 0 rfl 17 (by decide) m_fl_RX12_196 rfl rfl rfl (Nat.le_of_ble_eq_true rfl) dX12_begins_2 (fun H locs G => ?_)
  have G : zS T A s.heap s [[zO11 mo m_all m_has i_size i_next i_where i_token i_number i_word i_wrong i_farCrossing m_read i_z0 i_crossings i_inns m_posts m_shut m_here 0 i_done i_at i_gone m_was m_came m_seenAt m_rowWorth m_farBy m_used i_everywhere i_again0 i_d0 i_never i_firstCame i_longRun i_moved i_crowd i_l0 i_fitMany i_fitLeast i_fitMost m_fitPost m_fitEnd m_keptPosts i_x0], [zAr T 0 m_all 3952 f_all], [zAr T 0 m_posts 7 f_posts], [zAr T 0 m_shut 7 f_shut], [zAr T 0 m_here 7 f_here]] _ _ := G
  refine lv_aload_n hx hb dX12_begins_5 rfl (lv_at hl 0 rfl) ?_
  refine lv_iconst (v := 0) hx hb dX12_begins_6 (by decide) ?_
  refine z_put C G clX12 0 rfl 18 (by decide) m_fl_RX12_199 rfl rfl rfl (Nat.le_of_ble_eq_true rfl) dX12_begins_7 (fun H locs G => ?_)
  have G : zS T A s.heap s [[zO11 mo m_all m_has i_size i_next i_where i_token i_number i_word i_wrong i_farCrossing m_read i_z0 i_crossings i_inns m_posts m_shut m_here 0 0 i_at i_gone m_was m_came m_seenAt m_rowWorth m_farBy m_used i_everywhere i_again0 i_d0 i_never i_firstCame i_longRun i_moved i_crowd i_l0 i_fitMany i_fitLeast i_fitMost m_fitPost m_fitEnd m_keptPosts i_x0], [zAr T 0 m_all 3952 f_all], [zAr T 0 m_posts 7 f_posts], [zAr T 0 m_shut 7 f_shut], [zAr T 0 m_here 7 f_here]] _ _ := G
  refine lv_iconst (v := 0) hx hb dX12_begins_10 (by decide) ?_
  refine lv_istore_n (lv' := [(1, .int 0), (0, .ref mo)]) hx hb dX12_begins_11 rfl hl (by decide) (zLvf_h rfl) (fun ls hl => ?_)
  refine z_lp4 (T := T) 12 (fun (i : Nat) (xp : Nat → Int32) (xs : Nat → Int32) (xh : Nat → Int32) => [[zO11 mo m_all m_has i_size i_next i_where i_token i_number i_word i_wrong i_farCrossing m_read i_z0 i_crossings i_inns m_posts m_shut m_here 0 0 i_at i_gone m_was m_came m_seenAt m_rowWorth m_farBy m_used i_everywhere i_again0 i_d0 i_never i_firstCame i_longRun i_moved i_crowd i_l0 i_fitMany i_fitLeast i_fitMost m_fitPost m_fitEnd m_keptPosts i_x0], [zAr T 0 m_all 3952 f_all], [zAr T 0 m_posts 7 xp], [zAr T 0 m_shut 7 xs], [zAr T 0 m_here 7 xh]]) (fun (i : Nat) (xp : Nat → Int32) (xs : Nat → Int32) (xh : Nat → Int32) => [(1, .int (nI i)), (0, .ref mo)]) (fun (i : Nat) (xp : Nat → Int32) (xs : Nat → Int32) (xh : Nat → Int32) => i ≤ 7 ∧ (∀ j, j < i → xp j = zPt f_all i_z0 (nI j)) ∧ (∀ j, j < i → xs j = 0) ∧ (∀ j, j < i → xh j = zWk f_all i_z0 j)) (fun (i : Nat) (xp : Nat → Int32) (xs : Nat → Int32) (xh : Nat → Int32) => 7 - i) ?_ 0 f_posts f_shut f_here (show 0 ≤ 7 ∧ (∀ j, j < 0 → f_posts j = zPt f_all i_z0 (nI j)) ∧ (∀ j, j < 0 → f_shut j = 0) ∧ (∀ j, j < 0 → f_here j = zWk f_all i_z0 j) from ⟨by omega, fun j hj => absurd hj (by omega), fun j hj => absurd hj (by omega), fun j hj => absurd hj (by omega)⟩) G (lv_sub hl [0, 1] rfl)
  intro i xp xs xh hI9 ih_12 H locs ls G hl
  replace hI9 : i ≤ 7 ∧ (∀ j, j < i → xp j = zPt f_all i_z0 (nI j)) ∧ (∀ j, j < i → xs j = 0) ∧ (∀ j, j < i → xh j = zWk f_all i_z0 j) := hI9
  refine zAn4 hI9 ?_
  intro hi hQ hT hH
  clear hI9
  replace G : zS T A s.heap s [[zO11 mo m_all m_has i_size i_next i_where i_token i_number i_word i_wrong i_farCrossing m_read i_z0 i_crossings i_inns m_posts m_shut m_here 0 0 i_at i_gone m_was m_came m_seenAt m_rowWorth m_farBy m_used i_everywhere i_again0 i_d0 i_never i_firstCame i_longRun i_moved i_crowd i_l0 i_fitMany i_fitLeast i_fitMost m_fitPost m_fitEnd m_keptPosts i_x0], [zAr T 0 m_all 3952 f_all], [zAr T 0 m_posts 7 xp], [zAr T 0 m_shut 7 xs], [zAr T 0 m_here 7 xh]] _ _ := G
  replace hl : lv_has ls 2 [(1, .int (nI i)), (0, .ref mo)] := hl
  refine lv_iload_n hx hb dX12_begins_12 rfl (lv_at hl 0 rfl) ?_
  refine lv_bipush (v := 7) hx hb dX12_begins_13 (by decide) ?_
  refine lv_icmp_ge (tgt := 62) hx hb dX12_begins_15 (by decide) (fun c_1 => ?_) (fun c_1 => ?_)
  · have c_1n : 7 ≤ i := (nI_leI (a := 7) (b := i) (by omega) (by omega)).mp c_1
    exact z_back hQz_ (z_vret C hr hlocks G (Nat.le_of_ble_eq_true rfl) (Nat.le_of_ble_eq_true rfl) dX12_begins_62 ⟨0, 0, xp, xs, xh, rfl, (by first | with_reducible assumption | omega | trivial | assumption), (by first | with_reducible assumption | omega | trivial | assumption), (fun j hj => hQ j (by omega)), (fun j hj => hT j (by omega)), (fun j hj => hH j (by omega)), (fun c hc => by rw [hQ c (by omega)]; have t9 := nI_toInt (n := c) (by omega); exact zMLp hL (by omega) (by omega))⟩)
  · have c_1n : ¬ 7 ≤ i := fun q => c_1 ((nI_leI (a := 7) (b := i) (by omega) (by omega)).mpr q)
    refine lv_aload_n hx hb dX12_begins_18 rfl (lv_at hl 1 rfl) ?_
    refine z_get C G clX12 0 rfl 14 (by decide) m_fl_RX12_20 rfl dX12_begins_19 ?_
    refine lv_iload_n hx hb dX12_begins_22 rfl (lv_at hl 0 rfl) ?_
    refine lv_aload_n hx hb dX12_begins_23 rfl (lv_at hl 1 rfl) ?_
    refine lv_iload_n hx hb dX12_begins_24 rfl (lv_at hl 0 rfl) ?_
    have ti_2 : (nI i).toInt = ((i : Nat) : Int) := nI_toInt (by omega)
    refine z_Vi (bc := [[zO11 mo m_all m_has i_size i_next i_where i_token i_number i_word i_wrong i_farCrossing m_read i_z0 i_crossings i_inns m_posts m_shut m_here 0 0 i_at i_gone m_was m_came m_seenAt m_rowWorth m_farBy m_used i_everywhere i_again0 i_d0 i_never i_firstCame i_longRun i_moved i_crowd i_l0 i_fitMany i_fitLeast i_fitMost m_fitPost m_fitEnd m_keptPosts i_x0], [zAr T 0 m_all 3952 f_all]]) (br := [[zAr T 0 m_posts 7 xp], [zAr T 0 m_shut 7 xs], [zAr T 0 m_here 7 xh]]) (As := [.int (nI i)]) (rest := [.int (nI i), .ref m_posts]) C G (c_m_postTold l T mo m_all m_has i_size i_next i_where i_token i_number i_word i_wrong i_farCrossing m_read i_z0 i_crossings i_inns m_posts m_shut m_here 0 0 i_at i_gone m_was m_came m_seenAt m_rowWorth m_farBy m_used i_everywhere i_again0 i_d0 i_never i_firstCame i_longRun i_moved i_crowd i_l0 i_fitMany i_fitLeast i_fitMost m_fitPost m_fitEnd m_keptPosts i_x0 f_all (nI i) (by first | with_reducible assumption | with_reducible rfl | omega | assumption | rfl | decide) (by first | with_reducible assumption | with_reducible rfl | omega | assumption | rfl | decide) (by first | with_reducible assumption | with_reducible rfl | omega | assumption | rfl | decide)) (kV_RX12_193 C.2.2.2.2 (Nat.le_of_ble_eq_true rfl) (Nat.le_of_ble_eq_true rfl)) [0, 1] [0, 0] rfl rfl (ci := 11) (qc := (RX12, TX12, 43)) rfl rfl (List.mem_flatten.mpr ⟨_, List.mem_of_getElem? (i := 0) rfl, List.mem_cons_self⟩) rfl rfl hl.1 dX12_begins_25 (Nat.le_of_ble_eq_true rfl) (Nat.le_of_ble_eq_true rfl) (fun r_6 b1 H locs hw G => ?_)
    refine zAn4 hw ?_
    intro hbs9 h_3 h_4 h_5
    clear hw
    subst hbs9
    have G : zS T A s.heap s [[zAr T 0 m_posts 7 xp], [zAr T 0 m_shut 7 xs], [zAr T 0 m_here 7 xh], [zO11 mo m_all m_has i_size i_next i_where i_token i_number i_word i_wrong i_farCrossing m_read i_z0 i_crossings i_inns m_posts m_shut m_here 0 0 i_at i_gone m_was m_came m_seenAt m_rowWorth m_farBy m_used i_everywhere i_again0 i_d0 i_never i_firstCame i_longRun i_moved i_crowd i_l0 i_fitMany i_fitLeast i_fitMost m_fitPost m_fitEnd m_keptPosts i_x0], [zAr T 0 m_all 3952 f_all]] _ _ := G
    subst h_3
    refine z_ist C G 0 rfl (vp_in_nI (by omega) (by decide)) dX12_begins_28 (fun H locs G => ?_)
    rw [nI_clamp (by omega)] at G
    have G : zS T A s.heap s [[zAr T 0 m_posts 7 (upd xp i (zPt f_all i_z0 (nI i)))], [zAr T 0 m_shut 7 xs], [zAr T 0 m_here 7 xh], [zO11 mo m_all m_has i_size i_next i_where i_token i_number i_word i_wrong i_farCrossing m_read i_z0 i_crossings i_inns m_posts m_shut m_here 0 0 i_at i_gone m_was m_came m_seenAt m_rowWorth m_farBy m_used i_everywhere i_again0 i_d0 i_never i_firstCame i_longRun i_moved i_crowd i_l0 i_fitMany i_fitLeast i_fitMost m_fitPost m_fitEnd m_keptPosts i_x0], [zAr T 0 m_all 3952 f_all]] _ _ := G
    refine lv_aload_n hx hb dX12_begins_29 rfl (lv_at hl 1 rfl) ?_
    refine z_get C G clX12 3 rfl 15 (by decide) m_fl_RX12_23 rfl dX12_begins_30 ?_
    refine lv_iload_n hx hb dX12_begins_33 rfl (lv_at hl 0 rfl) ?_
    refine lv_iconst (v := 0) hx hb dX12_begins_34 (by decide) ?_
    refine z_ist C G 1 rfl (vp_in_nI (by omega) (by decide)) dX12_begins_35 (fun H locs G => ?_)
    rw [nI_clamp (by omega)] at G
    have G : zS T A s.heap s [[zAr T 0 m_posts 7 (upd xp i (zPt f_all i_z0 (nI i)))], [zAr T 0 m_shut 7 (upd xs i 0)], [zAr T 0 m_here 7 xh], [zO11 mo m_all m_has i_size i_next i_where i_token i_number i_word i_wrong i_farCrossing m_read i_z0 i_crossings i_inns m_posts m_shut m_here 0 0 i_at i_gone m_was m_came m_seenAt m_rowWorth m_farBy m_used i_everywhere i_again0 i_d0 i_never i_firstCame i_longRun i_moved i_crowd i_l0 i_fitMany i_fitLeast i_fitMost m_fitPost m_fitEnd m_keptPosts i_x0], [zAr T 0 m_all 3952 f_all]] _ _ := G
    refine lv_aload_n hx hb dX12_begins_36 rfl (lv_at hl 1 rfl) ?_
    refine z_get C G clX12 3 rfl 16 (by decide) m_fl_RX12_26 rfl dX12_begins_37 ?_
    refine lv_iload_n hx hb dX12_begins_40 rfl (lv_at hl 0 rfl) ?_
    refine lv_aload_n hx hb dX12_begins_41 rfl (lv_at hl 1 rfl) ?_
    refine z_get C G clX12 3 rfl 0 (by decide) m_fl_RX12_7 rfl dX12_begins_42 ?_
    refine lv_aload_n hx hb dX12_begins_45 rfl (lv_at hl 1 rfl) ?_
    refine z_get C G clX12 3 rfl 11 (by decide) m_fl_RX12_166 rfl dX12_begins_46 ?_
    refine lv_bipush (v := 16) hx hb dX12_begins_49 (by decide) ?_
    refine lv_iadd hx hb dX12_begins_51 ?_
    refine lv_topi (fun y_7 ey_7 => ?_)
    have ey_7i : y_7.toInt = i_z0.toInt + (16 : Int) := by rw [ey_7]; exact z_iaddI (x := i_z0) (y := (16 : Int32)) (by show -2147483648 ≤ i_z0.toInt + (16 : Int); omega) (by show i_z0.toInt + (16 : Int) < 2147483648; omega)
    refine lv_iload_n hx hb dX12_begins_52 rfl (lv_at hl 0 rfl) ?_
    refine lv_iadd hx hb dX12_begins_53 ?_
    refine lv_topi (fun y_8 ey_8 => ?_)
    have ey_8i : y_8.toInt = y_7.toInt + (i : Int) := by rw [ey_8]; exact (z_iaddI (x := y_7) (y := (nI i)) (by rw [nI_toInt (n := i) (by omega)]; show -2147483648 ≤ y_7.toInt + (i : Int); omega) (by rw [nI_toInt (n := i) (by omega)]; show y_7.toInt + (i : Int) < 2147483648; omega)).trans (by rw [nI_toInt (n := i) (by omega)] <;> rfl)
    refine z_ild C G 4 rfl (vp_in_iff.mpr ⟨by omega, by omega⟩) dX12_begins_54 ?_
    refine lv_topi (fun v_9 ev_9 => ?_)
    subst ev_9
    refine z_ist C G 2 rfl (vp_in_nI (by omega) (by decide)) dX12_begins_55 (fun H locs G => ?_)
    rw [nI_clamp (by omega)] at G
    have G : zS T A s.heap s [[zAr T 0 m_posts 7 (upd xp i (zPt f_all i_z0 (nI i)))], [zAr T 0 m_shut 7 (upd xs i 0)], [zAr T 0 m_here 7 (upd xh i (f_all y_8.toNatClampNeg))], [zO11 mo m_all m_has i_size i_next i_where i_token i_number i_word i_wrong i_farCrossing m_read i_z0 i_crossings i_inns m_posts m_shut m_here 0 0 i_at i_gone m_was m_came m_seenAt m_rowWorth m_farBy m_used i_everywhere i_again0 i_d0 i_never i_firstCame i_longRun i_moved i_crowd i_l0 i_fitMany i_fitLeast i_fitMost m_fitPost m_fitEnd m_keptPosts i_x0], [zAr T 0 m_all 3952 f_all]] _ _ := G
    refine lv_iinc (v := nI (i + 1)) (lv' := [(1, .int (nI (i + 1))), (0, .ref mo)]) hx hb dX12_begins_56 hl (k := 0) rfl (z_inc i 1) (by decide) (zLvf_h rfl) (fun ls hl => ?_)
    refine lv_goto (tgt := 12) hx hb dX12_begins_59 (by decide) ?_
    have G := G.sub (bs' := [[zO11 mo m_all m_has i_size i_next i_where i_token i_number i_word i_wrong i_farCrossing m_read i_z0 i_crossings i_inns m_posts m_shut m_here 0 0 i_at i_gone m_was m_came m_seenAt m_rowWorth m_farBy m_used i_everywhere i_again0 i_d0 i_never i_firstCame i_longRun i_moved i_crowd i_l0 i_fitMany i_fitLeast i_fitMost m_fitPost m_fitEnd m_keptPosts i_x0], [zAr T 0 m_all 3952 f_all], [zAr T 0 m_posts 7 (upd xp i (zPt f_all i_z0 (nI i)))], [zAr T 0 m_shut 7 (upd xs i 0)], [zAr T 0 m_here 7 (upd xh i (f_all y_8.toNatClampNeg))]]) [3, 4, 0, 1, 2] rfl
    exact ih_12 (i + 1) (upd xp i (zPt f_all i_z0 (nI i))) (upd xs i 0) (upd xh i (f_all y_8.toNatClampNeg)) (show (i + 1) ≤ 7 ∧ (∀ j, j < (i + 1) → (upd xp i (zPt f_all i_z0 (nI i))) j = zPt f_all i_z0 (nI j)) ∧ (∀ j, j < (i + 1) → (upd xs i 0) j = 0) ∧ (∀ j, j < (i + 1) → (upd xh i (f_all y_8.toNatClampNeg)) j = zWk f_all i_z0 j) from ⟨by omega, z_upS0 hQ rfl, z_upS0 (f := fun _ => 0) hT rfl, z_upS0 hH (congrArg f_all (by show y_8.toInt.toNat = _; omega))⟩) (show 7 - (i + 1) < 7 - i from by omega) _ _ ls G (lv_sub hl [0, 1] rfl)
theorem zBI_ld {f : Nat → Int32} (h : zBI f) (k : Nat) (hk : k < 2) : zML f (nI (610 + 51 * k)) (f (610 + 51 * k)) := by
  have e : (nI (610 + 51 * k)).toInt = ((610 + 51 * k : Nat) : Int) := nI_toInt (by omega)
  have e2 : (nI (610 + 51 * k)).toInt.toNat = 610 + 51 * k := by omega
  refine ⟨by omega, by rw [e2], ?_⟩
  rw [e2]
  exact h.2.2.1 k hk
set_option maxHeartbeats 4000000 in
set_option maxRecDepth 100000 in
/-- c_m_isLand -/
theorem c_m_isLand (l : Launch) (T : zTy) (mo : Nat) (m_all : Nat) (m_has : Nat) (i_size : Int32) (i_next : Int32) (i_where : Int32) (i_token : Int32) (i_number : Int32) (i_word : Int32) (i_wrong : Int32) (i_farCrossing : Int32) (m_read : Nat) (i_z0 : Int32) (i_crossings : Int32) (i_inns : Int32) (m_posts : Nat) (m_shut : Nat) (m_here : Nat) (i_steps : Int32) (i_done : Int32) (i_at : Int32) (i_gone : Int32) (m_was : Nat) (m_came : Nat) (m_seenAt : Nat) (m_rowWorth : Nat) (m_farBy : Nat) (m_used : Nat) (i_everywhere : Int32) (i_again0 : Int32) (i_d0 : Int32) (i_never : Int32) (i_firstCame : Int32) (i_longRun : Int32) (i_moved : Int32) (i_crowd : Int32) (i_l0 : Int32) (i_fitMany : Int32) (i_fitLeast : Int32) (i_fitMost : Int32) (m_fitPost : Nat) (m_fitEnd : Nat) (m_keptPosts : Nat) (i_x0 : Int32) (f_all : Nat → Int32) (f_posts : Nat → Int32) (f_shut : Nat → Int32) (f_here : Nat → Int32) (ld_ : Int32) (hB : zBI f_all) : zMi l T yX12_isLand cX12_isLand 2 (some .boolean) 3 0 0 [.ref mo, .int ld_] [[zO11 mo m_all m_has i_size i_next i_where i_token i_number i_word i_wrong i_farCrossing m_read i_z0 i_crossings i_inns m_posts m_shut m_here i_steps i_done i_at i_gone m_was m_came m_seenAt m_rowWorth m_farBy m_used i_everywhere i_again0 i_d0 i_never i_firstCame i_longRun i_moved i_crowd i_l0 i_fitMany i_fitLeast i_fitMost m_fitPost m_fitEnd m_keptPosts i_x0], [zAr T 0 m_all 3952 f_all], [zAr T 0 m_posts 7 f_posts], [zAr T 0 m_shut 7 f_shut], [zAr T 0 m_here 7 f_here]] (fun (r : Int32) bs => ∃ (j_z0 : Int32) (j_crossings : Int32) (j_inns : Int32) (j_steps : Int32) (j_done : Int32) (g_posts : Nat → Int32) (g_shut : Nat → Int32) (g_here : Nat → Int32), bs = [[zO11 mo m_all m_has i_size i_next i_where i_token i_number i_word i_wrong i_farCrossing m_read j_z0 j_crossings j_inns m_posts m_shut m_here j_steps j_done i_at i_gone m_was m_came m_seenAt m_rowWorth m_farBy m_used i_everywhere i_again0 i_d0 i_never i_firstCame i_longRun i_moved i_crowd i_l0 i_fitMany i_fitLeast i_fitMost m_fitPost m_fitEnd m_keptPosts i_x0], [zAr T 0 m_all 3952 f_all], [zAr T 0 m_posts 7 g_posts], [zAr T 0 m_shut 7 g_shut], [zAr T 0 m_here 7 g_here]] ∧ ((r = 1 ∧ 0 ≤ ld_.toInt ∧ ld_.toInt ≤ 1 ∧ ld_.toInt < (f_all 0).toInt ∧ j_z0.toInt = 610 + 51 * ld_.toInt ∧ zML f_all j_z0 j_crossings ∧ zMP g_posts ∧ j_inns = f_all (j_z0.toInt.toNat + 1) ∧ j_steps = 0 ∧ j_done = 0 ∧ (∀ j, j < 7 → g_posts j = zPt f_all j_z0 (nI j)) ∧ (∀ j, j < 7 → g_shut j = 0) ∧ (∀ j, j < 7 → g_here j = zWk f_all j_z0 j)) ∨ (r = 0 ∧ (ld_.toInt < 0 ∨ (f_all 0).toInt ≤ ld_.toInt)))) := by
  refine zMi_of (own := RX12) (by decide) rfl (Nat.le_of_ble_eq_true rfl) ?_
  intro p e s m args below meth c A ls C hr hlocks hnm hAe G hl
  refine zHide (fun Qz_ hQz_ => ?_)
  have hx := C.1
  have hb := C.2.1
  have hl : lv_has ls 2 [(0, .ref mo), (1, .int ld_)] := hl
  have hB0 := hB.2.1 0 (by decide)
  refine lv_aload_n hx hb dX12_isLand_0 rfl (lv_at hl 0 rfl) ?_
  refine lv_iconst (v := 0) hx hb dX12_isLand_1 (by decide) ?_
  refine lv_iload_n hx hb dX12_isLand_2 rfl (lv_at hl 1 rfl) ?_
  refine z_Vi (bc := [[zO11 mo m_all m_has i_size i_next i_where i_token i_number i_word i_wrong i_farCrossing m_read i_z0 i_crossings i_inns m_posts m_shut m_here i_steps i_done i_at i_gone m_was m_came m_seenAt m_rowWorth m_farBy m_used i_everywhere i_again0 i_d0 i_never i_firstCame i_longRun i_moved i_crowd i_l0 i_fitMany i_fitLeast i_fitMost m_fitPost m_fitEnd m_keptPosts i_x0], [zAr T 0 m_all 3952 f_all]]) (br := [[zAr T 0 m_posts 7 f_posts], [zAr T 0 m_shut 7 f_shut], [zAr T 0 m_here 7 f_here]]) (As := [.int 0, .int ld_]) (rest := []) C G (c_m_isOf0 l T mo m_all m_has i_size i_next i_where i_token i_number i_word i_wrong i_farCrossing m_read i_z0 i_crossings i_inns m_posts m_shut m_here i_steps i_done i_at i_gone m_was m_came m_seenAt m_rowWorth m_farBy m_used i_everywhere i_again0 i_d0 i_never i_firstCame i_longRun i_moved i_crowd i_l0 i_fitMany i_fitLeast i_fitMost m_fitPost m_fitEnd m_keptPosts i_x0 f_all ld_ hB0) (kV_RX12_143 C.2.2.2.2 (Nat.le_of_ble_eq_true rfl) (Nat.le_of_ble_eq_true rfl)) [0, 1] [0, 0] rfl rfl (ci := 11) (qc := (RX12, TX12, 43)) rfl rfl (List.mem_flatten.mpr ⟨_, List.mem_of_getElem? (i := 0) rfl, List.mem_cons_self⟩) rfl rfl hl.1 dX12_isLand_3 (Nat.le_of_ble_eq_true rfl) (Nat.le_of_ble_eq_true rfl) (fun r_2 b1 H locs hw G => ?_)
  refine zAn2 hw ?_
  intro hbs9 hc_1
  clear hw
  subst hbs9
  have G : zS T A s.heap s [[zAr T 0 m_posts 7 f_posts], [zAr T 0 m_shut 7 f_shut], [zAr T 0 m_here 7 f_here], [zO11 mo m_all m_has i_size i_next i_where i_token i_number i_word i_wrong i_farCrossing m_read i_z0 i_crossings i_inns m_posts m_shut m_here i_steps i_done i_at i_gone m_was m_came m_seenAt m_rowWorth m_farBy m_used i_everywhere i_again0 i_d0 i_never i_firstCame i_longRun i_moved i_crowd i_l0 i_fitMany i_fitLeast i_fitMost m_fitPost m_fitEnd m_keptPosts i_x0], [zAr T 0 m_all 3952 f_all]] _ _ := G
  rcases hc_1 with ⟨rfl, h_3, h_4⟩ | ⟨rfl, h_5⟩
  · have h_3 : 0 ≤ ld_.toInt := h_3
    have h_4 : ld_.toInt < (f_all 0).toInt := h_4
    refine lv_if_ne (tgt := 11) hx hb dX12_isLand_6 (by decide) (fun _ => ?_) (fun q => absurd q (by decide))
    rcases (show ld_.toInt = 0 ∨ ld_.toInt = 1 from by omega) with hk | hk
    · obtain rfl : ld_ = 0 := Int32.toInt_inj.mp hk
      have hLk : zML f_all 610 (f_all 610) := zBI_ld hB 0 (by decide)
      refine lv_aload_n hx hb dX12_isLand_11 rfl (lv_at hl 0 rfl) ?_
      refine lv_iconst (v := 0) hx hb dX12_isLand_12 (by decide) ?_
      refine lv_iload_n hx hb dX12_isLand_13 rfl (lv_at hl 1 rfl) ?_
      refine z_Si (bc := []) (br := [[zAr T 0 m_posts 7 f_posts], [zAr T 0 m_shut 7 f_shut], [zAr T 0 m_here 7 f_here], [zO11 mo m_all m_has i_size i_next i_where i_token i_number i_word i_wrong i_farCrossing m_read i_z0 i_crossings i_inns m_posts m_shut m_here i_steps i_done i_at i_gone m_was m_came m_seenAt m_rowWorth m_farBy m_used i_everywhere i_again0 i_d0 i_never i_firstCame i_longRun i_moved i_crowd i_l0 i_fitMany i_fitLeast i_fitMost m_fitPost m_fitEnd m_keptPosts i_x0], [zAr T 0 m_all 3952 f_all]]) (As := [.int 0, .int 0]) (rest := [.ref mo]) C G (c_m_placeOf00 l T) (kS_RX12_163 C.2.2.2.2 (Nat.le_of_ble_eq_true rfl) (Nat.le_of_ble_eq_true rfl)) [] [] rfl rfl rfl rfl hl.1 dX12_isLand_14 (Nat.le_of_ble_eq_true rfl) (Nat.le_of_ble_eq_true rfl) (fun r_7 b1 H locs hw G => ?_)
      refine zAn2 hw ?_
      intro hbs9 h_6
      clear hw
      subst hbs9
      have G : zS T A s.heap s [[zAr T 0 m_posts 7 f_posts], [zAr T 0 m_shut 7 f_shut], [zAr T 0 m_here 7 f_here], [zO11 mo m_all m_has i_size i_next i_where i_token i_number i_word i_wrong i_farCrossing m_read i_z0 i_crossings i_inns m_posts m_shut m_here i_steps i_done i_at i_gone m_was m_came m_seenAt m_rowWorth m_farBy m_used i_everywhere i_again0 i_d0 i_never i_firstCame i_longRun i_moved i_crowd i_l0 i_fitMany i_fitLeast i_fitMost m_fitPost m_fitEnd m_keptPosts i_x0], [zAr T 0 m_all 3952 f_all]] _ _ := G
      subst h_6
      refine z_put C G clX12 3 rfl 11 (by decide) m_fl_RX12_166 rfl rfl rfl (Nat.le_of_ble_eq_true rfl) dX12_isLand_17 (fun H locs G => ?_)
      have G : zS T A s.heap s [[zAr T 0 m_posts 7 f_posts], [zAr T 0 m_shut 7 f_shut], [zAr T 0 m_here 7 f_here], [zO11 mo m_all m_has i_size i_next i_where i_token i_number i_word i_wrong i_farCrossing m_read 610 i_crossings i_inns m_posts m_shut m_here i_steps i_done i_at i_gone m_was m_came m_seenAt m_rowWorth m_farBy m_used i_everywhere i_again0 i_d0 i_never i_firstCame i_longRun i_moved i_crowd i_l0 i_fitMany i_fitLeast i_fitMost m_fitPost m_fitEnd m_keptPosts i_x0], [zAr T 0 m_all 3952 f_all]] _ _ := G
      refine lv_aload_n hx hb dX12_isLand_20 rfl (lv_at hl 0 rfl) ?_
      refine lv_aload_n hx hb dX12_isLand_21 rfl (lv_at hl 0 rfl) ?_
      refine z_get C G clX12 3 rfl 0 (by decide) m_fl_RX12_7 rfl dX12_isLand_22 ?_
      refine lv_aload_n hx hb dX12_isLand_25 rfl (lv_at hl 0 rfl) ?_
      refine z_get C G clX12 3 rfl 11 (by decide) m_fl_RX12_166 rfl dX12_isLand_26 ?_
      refine z_ild C G 4 rfl (vp_in_nI (n := 610) (by decide) (by decide)) dX12_isLand_29 ?_
      refine lv_topi (fun v_8 ev_8 => ?_)
      rw [show ((610 : Int32).toNatClampNeg) = 610 from rfl] at ev_8
      subst ev_8
      refine z_put C G clX12 3 rfl 12 (by decide) m_fl_RX12_169 rfl rfl rfl (Nat.le_of_ble_eq_true rfl) dX12_isLand_30 (fun H locs G => ?_)
      have G : zS T A s.heap s [[zAr T 0 m_posts 7 f_posts], [zAr T 0 m_shut 7 f_shut], [zAr T 0 m_here 7 f_here], [zO11 mo m_all m_has i_size i_next i_where i_token i_number i_word i_wrong i_farCrossing m_read 610 (f_all 610) i_inns m_posts m_shut m_here i_steps i_done i_at i_gone m_was m_came m_seenAt m_rowWorth m_farBy m_used i_everywhere i_again0 i_d0 i_never i_firstCame i_longRun i_moved i_crowd i_l0 i_fitMany i_fitLeast i_fitMost m_fitPost m_fitEnd m_keptPosts i_x0], [zAr T 0 m_all 3952 f_all]] _ _ := G
      refine lv_aload_n hx hb dX12_isLand_33 rfl (lv_at hl 0 rfl) ?_
      refine lv_aload_n hx hb dX12_isLand_34 rfl (lv_at hl 0 rfl) ?_
      refine z_get C G clX12 3 rfl 0 (by decide) m_fl_RX12_7 rfl dX12_isLand_35 ?_
      refine lv_aload_n hx hb dX12_isLand_38 rfl (lv_at hl 0 rfl) ?_
      refine z_get C G clX12 3 rfl 11 (by decide) m_fl_RX12_166 rfl dX12_isLand_39 ?_
      refine lv_iconst (v := 1) hx hb dX12_isLand_42 (by decide) ?_
      refine lv_iadd hx hb dX12_isLand_43 ?_
      refine lv_topi (fun y_9 ey_9 => ?_)
      obtain rfl : y_9 = 611 := ey_9.trans (by decide)
      refine z_ild C G 4 rfl (vp_in_nI (n := 611) (by decide) (by decide)) dX12_isLand_44 ?_
      refine lv_topi (fun v_10 ev_10 => ?_)
      rw [show ((611 : Int32).toNatClampNeg) = 611 from rfl] at ev_10
      subst ev_10
      refine z_put C G clX12 3 rfl 13 (by decide) m_fl_RX12_172 rfl rfl rfl (Nat.le_of_ble_eq_true rfl) dX12_isLand_45 (fun H locs G => ?_)
      have G : zS T A s.heap s [[zAr T 0 m_posts 7 f_posts], [zAr T 0 m_shut 7 f_shut], [zAr T 0 m_here 7 f_here], [zO11 mo m_all m_has i_size i_next i_where i_token i_number i_word i_wrong i_farCrossing m_read 610 (f_all 610) (f_all 611) m_posts m_shut m_here i_steps i_done i_at i_gone m_was m_came m_seenAt m_rowWorth m_farBy m_used i_everywhere i_again0 i_d0 i_never i_firstCame i_longRun i_moved i_crowd i_l0 i_fitMany i_fitLeast i_fitMost m_fitPost m_fitEnd m_keptPosts i_x0], [zAr T 0 m_all 3952 f_all]] _ _ := G
      refine lv_aload_n hx hb dX12_isLand_48 rfl (lv_at hl 0 rfl) ?_
      refine z_Vv (bc := [[zO11 mo m_all m_has i_size i_next i_where i_token i_number i_word i_wrong i_farCrossing m_read 610 (f_all 610) (f_all 611) m_posts m_shut m_here i_steps i_done i_at i_gone m_was m_came m_seenAt m_rowWorth m_farBy m_used i_everywhere i_again0 i_d0 i_never i_firstCame i_longRun i_moved i_crowd i_l0 i_fitMany i_fitLeast i_fitMost m_fitPost m_fitEnd m_keptPosts i_x0], [zAr T 0 m_all 3952 f_all], [zAr T 0 m_posts 7 f_posts], [zAr T 0 m_shut 7 f_shut], [zAr T 0 m_here 7 f_here]]) (br := []) (As := []) (rest := []) C G (c_m_begins l T mo m_all m_has i_size i_next i_where i_token i_number i_word i_wrong i_farCrossing m_read 610 (f_all 610) (f_all 611) m_posts m_shut m_here i_steps i_done i_at i_gone m_was m_came m_seenAt m_rowWorth m_farBy m_used i_everywhere i_again0 i_d0 i_never i_firstCame i_longRun i_moved i_crowd i_l0 i_fitMany i_fitLeast i_fitMost m_fitPost m_fitEnd m_keptPosts i_x0 f_all f_posts f_shut f_here hLk) (kV_RX12_175 C.2.2.2.2 (Nat.le_of_ble_eq_true rfl) (Nat.le_of_ble_eq_true rfl)) [3, 4, 0, 1, 2] [0, 0, 0, 0, 0] rfl rfl (ci := 11) (qc := (RX12, TX12, 43)) rfl rfl (List.mem_flatten.mpr ⟨_, List.mem_of_getElem? (i := 0) rfl, List.mem_cons_self⟩) rfl rfl hl.1 dX12_isLand_49 (Nat.le_of_ble_eq_true rfl) (Nat.le_of_ble_eq_true rfl) (fun b1 H locs hw G => ?_)
      refine zEx5 hw ?_
      intro j_steps_11 j_done_12 g_posts_13 g_shut_14 g_here_15
      refine zCu7 ?_
      intro hbs9 h_16 h_17 h_18 h_19 h_20 h_21
      clear hw
      subst hbs9
      have G : zS T A s.heap s [[zO11 mo m_all m_has i_size i_next i_where i_token i_number i_word i_wrong i_farCrossing m_read 610 (f_all 610) (f_all 611) m_posts m_shut m_here j_steps_11 j_done_12 i_at i_gone m_was m_came m_seenAt m_rowWorth m_farBy m_used i_everywhere i_again0 i_d0 i_never i_firstCame i_longRun i_moved i_crowd i_l0 i_fitMany i_fitLeast i_fitMost m_fitPost m_fitEnd m_keptPosts i_x0], [zAr T 0 m_all 3952 f_all], [zAr T 0 m_posts 7 g_posts_13], [zAr T 0 m_shut 7 g_shut_14], [zAr T 0 m_here 7 g_here_15]] _ _ := G
      refine lv_iconst (v := 1) hx hb dX12_isLand_52 (by decide) ?_
      exact z_back hQz_ (z_zret C hr hlocks G (Nat.le_of_ble_eq_true rfl) (Nat.le_of_ble_eq_true rfl) dX12_isLand_53 rfl ⟨610, (f_all 610), (f_all 611), j_steps_11, j_done_12, g_posts_13, g_shut_14, g_here_15, rfl, (Or.inl (⟨rfl, (by decide), (by decide), (by first | with_reducible assumption | omega | assumption), (by decide), hLk, (by first | with_reducible assumption | assumption), rfl, (by first | rfl | assumption), (by first | rfl | assumption), (by first | with_reducible assumption | assumption), (by first | with_reducible assumption | assumption), (by first | with_reducible assumption | assumption)⟩))⟩)
    · obtain rfl : ld_ = 1 := Int32.toInt_inj.mp hk
      have hLk : zML f_all 661 (f_all 661) := zBI_ld hB 1 (by decide)
      refine lv_aload_n hx hb dX12_isLand_11 rfl (lv_at hl 0 rfl) ?_
      refine lv_iconst (v := 0) hx hb dX12_isLand_12 (by decide) ?_
      refine lv_iload_n hx hb dX12_isLand_13 rfl (lv_at hl 1 rfl) ?_
      refine z_Si (bc := []) (br := [[zAr T 0 m_posts 7 f_posts], [zAr T 0 m_shut 7 f_shut], [zAr T 0 m_here 7 f_here], [zO11 mo m_all m_has i_size i_next i_where i_token i_number i_word i_wrong i_farCrossing m_read i_z0 i_crossings i_inns m_posts m_shut m_here i_steps i_done i_at i_gone m_was m_came m_seenAt m_rowWorth m_farBy m_used i_everywhere i_again0 i_d0 i_never i_firstCame i_longRun i_moved i_crowd i_l0 i_fitMany i_fitLeast i_fitMost m_fitPost m_fitEnd m_keptPosts i_x0], [zAr T 0 m_all 3952 f_all]]) (As := [.int 0, .int 1]) (rest := [.ref mo]) C G (c_m_placeOf01 l T) (kS_RX12_163 C.2.2.2.2 (Nat.le_of_ble_eq_true rfl) (Nat.le_of_ble_eq_true rfl)) [] [] rfl rfl rfl rfl hl.1 dX12_isLand_14 (Nat.le_of_ble_eq_true rfl) (Nat.le_of_ble_eq_true rfl) (fun r_24 b1 H locs hw G => ?_)
      refine zAn2 hw ?_
      intro hbs9 h_23
      clear hw
      subst hbs9
      have G : zS T A s.heap s [[zAr T 0 m_posts 7 f_posts], [zAr T 0 m_shut 7 f_shut], [zAr T 0 m_here 7 f_here], [zO11 mo m_all m_has i_size i_next i_where i_token i_number i_word i_wrong i_farCrossing m_read i_z0 i_crossings i_inns m_posts m_shut m_here i_steps i_done i_at i_gone m_was m_came m_seenAt m_rowWorth m_farBy m_used i_everywhere i_again0 i_d0 i_never i_firstCame i_longRun i_moved i_crowd i_l0 i_fitMany i_fitLeast i_fitMost m_fitPost m_fitEnd m_keptPosts i_x0], [zAr T 0 m_all 3952 f_all]] _ _ := G
      subst h_23
      refine z_put C G clX12 3 rfl 11 (by decide) m_fl_RX12_166 rfl rfl rfl (Nat.le_of_ble_eq_true rfl) dX12_isLand_17 (fun H locs G => ?_)
      have G : zS T A s.heap s [[zAr T 0 m_posts 7 f_posts], [zAr T 0 m_shut 7 f_shut], [zAr T 0 m_here 7 f_here], [zO11 mo m_all m_has i_size i_next i_where i_token i_number i_word i_wrong i_farCrossing m_read 661 i_crossings i_inns m_posts m_shut m_here i_steps i_done i_at i_gone m_was m_came m_seenAt m_rowWorth m_farBy m_used i_everywhere i_again0 i_d0 i_never i_firstCame i_longRun i_moved i_crowd i_l0 i_fitMany i_fitLeast i_fitMost m_fitPost m_fitEnd m_keptPosts i_x0], [zAr T 0 m_all 3952 f_all]] _ _ := G
      refine lv_aload_n hx hb dX12_isLand_20 rfl (lv_at hl 0 rfl) ?_
      refine lv_aload_n hx hb dX12_isLand_21 rfl (lv_at hl 0 rfl) ?_
      refine z_get C G clX12 3 rfl 0 (by decide) m_fl_RX12_7 rfl dX12_isLand_22 ?_
      refine lv_aload_n hx hb dX12_isLand_25 rfl (lv_at hl 0 rfl) ?_
      refine z_get C G clX12 3 rfl 11 (by decide) m_fl_RX12_166 rfl dX12_isLand_26 ?_
      refine z_ild C G 4 rfl (vp_in_nI (n := 661) (by decide) (by decide)) dX12_isLand_29 ?_
      refine lv_topi (fun v_25 ev_25 => ?_)
      rw [show ((661 : Int32).toNatClampNeg) = 661 from rfl] at ev_25
      subst ev_25
      refine z_put C G clX12 3 rfl 12 (by decide) m_fl_RX12_169 rfl rfl rfl (Nat.le_of_ble_eq_true rfl) dX12_isLand_30 (fun H locs G => ?_)
      have G : zS T A s.heap s [[zAr T 0 m_posts 7 f_posts], [zAr T 0 m_shut 7 f_shut], [zAr T 0 m_here 7 f_here], [zO11 mo m_all m_has i_size i_next i_where i_token i_number i_word i_wrong i_farCrossing m_read 661 (f_all 661) i_inns m_posts m_shut m_here i_steps i_done i_at i_gone m_was m_came m_seenAt m_rowWorth m_farBy m_used i_everywhere i_again0 i_d0 i_never i_firstCame i_longRun i_moved i_crowd i_l0 i_fitMany i_fitLeast i_fitMost m_fitPost m_fitEnd m_keptPosts i_x0], [zAr T 0 m_all 3952 f_all]] _ _ := G
      refine lv_aload_n hx hb dX12_isLand_33 rfl (lv_at hl 0 rfl) ?_
      refine lv_aload_n hx hb dX12_isLand_34 rfl (lv_at hl 0 rfl) ?_
      refine z_get C G clX12 3 rfl 0 (by decide) m_fl_RX12_7 rfl dX12_isLand_35 ?_
      refine lv_aload_n hx hb dX12_isLand_38 rfl (lv_at hl 0 rfl) ?_
      refine z_get C G clX12 3 rfl 11 (by decide) m_fl_RX12_166 rfl dX12_isLand_39 ?_
      refine lv_iconst (v := 1) hx hb dX12_isLand_42 (by decide) ?_
      refine lv_iadd hx hb dX12_isLand_43 ?_
      refine lv_topi (fun y_26 ey_26 => ?_)
      obtain rfl : y_26 = 662 := ey_26.trans (by decide)
      refine z_ild C G 4 rfl (vp_in_nI (n := 662) (by decide) (by decide)) dX12_isLand_44 ?_
      refine lv_topi (fun v_27 ev_27 => ?_)
      rw [show ((662 : Int32).toNatClampNeg) = 662 from rfl] at ev_27
      subst ev_27
      refine z_put C G clX12 3 rfl 13 (by decide) m_fl_RX12_172 rfl rfl rfl (Nat.le_of_ble_eq_true rfl) dX12_isLand_45 (fun H locs G => ?_)
      have G : zS T A s.heap s [[zAr T 0 m_posts 7 f_posts], [zAr T 0 m_shut 7 f_shut], [zAr T 0 m_here 7 f_here], [zO11 mo m_all m_has i_size i_next i_where i_token i_number i_word i_wrong i_farCrossing m_read 661 (f_all 661) (f_all 662) m_posts m_shut m_here i_steps i_done i_at i_gone m_was m_came m_seenAt m_rowWorth m_farBy m_used i_everywhere i_again0 i_d0 i_never i_firstCame i_longRun i_moved i_crowd i_l0 i_fitMany i_fitLeast i_fitMost m_fitPost m_fitEnd m_keptPosts i_x0], [zAr T 0 m_all 3952 f_all]] _ _ := G
      refine lv_aload_n hx hb dX12_isLand_48 rfl (lv_at hl 0 rfl) ?_
      refine z_Vv (bc := [[zO11 mo m_all m_has i_size i_next i_where i_token i_number i_word i_wrong i_farCrossing m_read 661 (f_all 661) (f_all 662) m_posts m_shut m_here i_steps i_done i_at i_gone m_was m_came m_seenAt m_rowWorth m_farBy m_used i_everywhere i_again0 i_d0 i_never i_firstCame i_longRun i_moved i_crowd i_l0 i_fitMany i_fitLeast i_fitMost m_fitPost m_fitEnd m_keptPosts i_x0], [zAr T 0 m_all 3952 f_all], [zAr T 0 m_posts 7 f_posts], [zAr T 0 m_shut 7 f_shut], [zAr T 0 m_here 7 f_here]]) (br := []) (As := []) (rest := []) C G (c_m_begins l T mo m_all m_has i_size i_next i_where i_token i_number i_word i_wrong i_farCrossing m_read 661 (f_all 661) (f_all 662) m_posts m_shut m_here i_steps i_done i_at i_gone m_was m_came m_seenAt m_rowWorth m_farBy m_used i_everywhere i_again0 i_d0 i_never i_firstCame i_longRun i_moved i_crowd i_l0 i_fitMany i_fitLeast i_fitMost m_fitPost m_fitEnd m_keptPosts i_x0 f_all f_posts f_shut f_here hLk) (kV_RX12_175 C.2.2.2.2 (Nat.le_of_ble_eq_true rfl) (Nat.le_of_ble_eq_true rfl)) [3, 4, 0, 1, 2] [0, 0, 0, 0, 0] rfl rfl (ci := 11) (qc := (RX12, TX12, 43)) rfl rfl (List.mem_flatten.mpr ⟨_, List.mem_of_getElem? (i := 0) rfl, List.mem_cons_self⟩) rfl rfl hl.1 dX12_isLand_49 (Nat.le_of_ble_eq_true rfl) (Nat.le_of_ble_eq_true rfl) (fun b1 H locs hw G => ?_)
      refine zEx5 hw ?_
      intro j_steps_28 j_done_29 g_posts_30 g_shut_31 g_here_32
      refine zCu7 ?_
      intro hbs9 h_33 h_34 h_35 h_36 h_37 h_38
      clear hw
      subst hbs9
      have G : zS T A s.heap s [[zO11 mo m_all m_has i_size i_next i_where i_token i_number i_word i_wrong i_farCrossing m_read 661 (f_all 661) (f_all 662) m_posts m_shut m_here j_steps_28 j_done_29 i_at i_gone m_was m_came m_seenAt m_rowWorth m_farBy m_used i_everywhere i_again0 i_d0 i_never i_firstCame i_longRun i_moved i_crowd i_l0 i_fitMany i_fitLeast i_fitMost m_fitPost m_fitEnd m_keptPosts i_x0], [zAr T 0 m_all 3952 f_all], [zAr T 0 m_posts 7 g_posts_30], [zAr T 0 m_shut 7 g_shut_31], [zAr T 0 m_here 7 g_here_32]] _ _ := G
      refine lv_iconst (v := 1) hx hb dX12_isLand_52 (by decide) ?_
      exact z_back hQz_ (z_zret C hr hlocks G (Nat.le_of_ble_eq_true rfl) (Nat.le_of_ble_eq_true rfl) dX12_isLand_53 rfl ⟨661, (f_all 661), (f_all 662), j_steps_28, j_done_29, g_posts_30, g_shut_31, g_here_32, rfl, (Or.inl (⟨rfl, (by decide), (by decide), (by first | with_reducible assumption | omega | assumption), (by decide), hLk, (by first | with_reducible assumption | assumption), rfl, (by first | rfl | assumption), (by first | rfl | assumption), (by first | with_reducible assumption | assumption), (by first | with_reducible assumption | assumption), (by first | with_reducible assumption | assumption)⟩))⟩)
  · have h_5 : (ld_.toInt < 0 ∨ (f_all 0).toInt ≤ ld_.toInt) := h_5
    refine lv_if_ne (tgt := 11) hx hb dX12_isLand_6 (by decide) (fun q => absurd (by decide) q) (fun _ => ?_)
    refine lv_iconst (v := 0) hx hb dX12_isLand_9 (by decide) ?_
    have G := G.sub (bs' := [[zO11 mo m_all m_has i_size i_next i_where i_token i_number i_word i_wrong i_farCrossing m_read i_z0 i_crossings i_inns m_posts m_shut m_here i_steps i_done i_at i_gone m_was m_came m_seenAt m_rowWorth m_farBy m_used i_everywhere i_again0 i_d0 i_never i_firstCame i_longRun i_moved i_crowd i_l0 i_fitMany i_fitLeast i_fitMost m_fitPost m_fitEnd m_keptPosts i_x0], [zAr T 0 m_all 3952 f_all], [zAr T 0 m_posts 7 f_posts], [zAr T 0 m_shut 7 f_shut], [zAr T 0 m_here 7 f_here]]) [3, 4, 0, 1, 2] rfl
    exact z_back hQz_ (z_zret C hr hlocks G (Nat.le_of_ble_eq_true rfl) (Nat.le_of_ble_eq_true rfl) dX12_isLand_10 rfl ⟨i_z0, i_crossings, i_inns, i_steps, i_done, f_posts, f_shut, f_here, rfl, (Or.inr (⟨rfl, (by first | with_reducible assumption | omega | assumption)⟩))⟩)
set_option maxHeartbeats 4000000 in
set_option maxRecDepth 100000 in
/-- c_m_turns -/
theorem c_m_turns (l : Launch) (T : zTy) (mo : Nat) (m_all : Nat) (m_has : Nat) (i_size : Int32) (i_next : Int32) (i_where : Int32) (i_token : Int32) (i_number : Int32) (i_word : Int32) (i_wrong : Int32) (i_farCrossing : Int32) (m_read : Nat) (i_z0 : Int32) (i_crossings : Int32) (i_inns : Int32) (m_posts : Nat) (m_shut : Nat) (m_here : Nat) (i_steps : Int32) (i_done : Int32) (i_at : Int32) (i_gone : Int32) (m_was : Nat) (m_came : Nat) (m_seenAt : Nat) (m_rowWorth : Nat) (m_farBy : Nat) (m_used : Nat) (i_everywhere : Int32) (i_again0 : Int32) (i_d0 : Int32) (i_never : Int32) (i_firstCame : Int32) (i_longRun : Int32) (i_moved : Int32) (i_crowd : Int32) (i_l0 : Int32) (i_fitMany : Int32) (i_fitLeast : Int32) (i_fitMost : Int32) (m_fitPost : Nat) (m_fitEnd : Nat) (m_keptPosts : Nat) (i_x0 : Int32) (f_all : Nat → Int32) (f_posts : Nat → Int32) (f_shut : Nat → Int32) (c_ : Int32) (hL : zML f_all i_z0 i_crossings) (hc0 : 0 ≤ c_.toInt) (hc6 : c_.toInt ≤ 6) (hP : zMP f_posts) : zMi l T yX12_turns cX12_turns 5 (some .boolean) 2 0 0 [.ref mo, .int c_] [[zO11 mo m_all m_has i_size i_next i_where i_token i_number i_word i_wrong i_farCrossing m_read i_z0 i_crossings i_inns m_posts m_shut m_here i_steps i_done i_at i_gone m_was m_came m_seenAt m_rowWorth m_farBy m_used i_everywhere i_again0 i_d0 i_never i_firstCame i_longRun i_moved i_crowd i_l0 i_fitMany i_fitLeast i_fitMost m_fitPost m_fitEnd m_keptPosts i_x0], [zAr T 0 m_all 3952 f_all], [zAr T 0 m_posts 7 f_posts], [zAr T 0 m_shut 7 f_shut]] (fun (r : Int32) bs => ∃ (g_posts : Nat → Int32), bs = [[zO11 mo m_all m_has i_size i_next i_where i_token i_number i_word i_wrong i_farCrossing m_read i_z0 i_crossings i_inns m_posts m_shut m_here i_steps i_done i_at i_gone m_was m_came m_seenAt m_rowWorth m_farBy m_used i_everywhere i_again0 i_d0 i_never i_firstCame i_longRun i_moved i_crowd i_l0 i_fitMany i_fitLeast i_fitMost m_fitPost m_fitEnd m_keptPosts i_x0], [zAr T 0 m_all 3952 f_all], [zAr T 0 m_posts 7 g_posts], [zAr T 0 m_shut 7 f_shut]] ∧ zMP g_posts ∧ ((r = 1 ∧ 0 < (zRd f_all i_z0 c_).toInt) ∨ (r = 0))) := by
  refine zMi_of (own := RX12) (by decide) rfl (Nat.le_of_ble_eq_true rfl) ?_
  intro p e s m args below meth c A ls C hr hlocks hnm hAe G hl
  refine zHide (fun Qz_ hQz_ => ?_)
  have hx := C.1
  have hb := C.2.1
  have hl : lv_has ls 5 [(0, .ref mo), (1, .int c_)] := hl
  have hz := hL.1
  have hcr := hL.cr
  have hcl := z_clI (x := c_) (by omega)
  have hpc := hP c_.toNatClampNeg (by omega)
  refine lv_aload_n hx hb dX12_turns_0 rfl (lv_at hl 0 rfl) ?_
  refine lv_iload_n hx hb dX12_turns_1 rfl (lv_at hl 1 rfl) ?_
  refine z_Vi (bc := [[zO11 mo m_all m_has i_size i_next i_where i_token i_number i_word i_wrong i_farCrossing m_read i_z0 i_crossings i_inns m_posts m_shut m_here i_steps i_done i_at i_gone m_was m_came m_seenAt m_rowWorth m_farBy m_used i_everywhere i_again0 i_d0 i_never i_firstCame i_longRun i_moved i_crowd i_l0 i_fitMany i_fitLeast i_fitMost m_fitPost m_fitEnd m_keptPosts i_x0], [zAr T 0 m_all 3952 f_all]]) (br := [[zAr T 0 m_posts 7 f_posts], [zAr T 0 m_shut 7 f_shut]]) (As := [.int c_]) (rest := []) C G (c_m_roadsOf l T mo m_all m_has i_size i_next i_where i_token i_number i_word i_wrong i_farCrossing m_read i_z0 i_crossings i_inns m_posts m_shut m_here i_steps i_done i_at i_gone m_was m_came m_seenAt m_rowWorth m_farBy m_used i_everywhere i_again0 i_d0 i_never i_firstCame i_longRun i_moved i_crowd i_l0 i_fitMany i_fitLeast i_fitMost m_fitPost m_fitEnd m_keptPosts i_x0 f_all c_ (by first | with_reducible assumption | with_reducible rfl | omega | assumption | rfl | decide) (by first | with_reducible assumption | with_reducible rfl | omega | assumption | rfl | decide) (by first | with_reducible assumption | with_reducible rfl | omega | assumption | rfl | decide)) (kV_RX12_181 C.2.2.2.2 (Nat.le_of_ble_eq_true rfl) (Nat.le_of_ble_eq_true rfl)) [0, 1] [0, 0] rfl rfl (ci := 11) (qc := (RX12, TX12, 43)) rfl rfl (List.mem_flatten.mpr ⟨_, List.mem_of_getElem? (i := 0) rfl, List.mem_cons_self⟩) rfl rfl hl.1 dX12_turns_2 (Nat.le_of_ble_eq_true rfl) (Nat.le_of_ble_eq_true rfl) (fun r_4 b1 H locs hw G => ?_)
  refine zAn4 hw ?_
  intro hbs9 h_1 h_2 h_3
  clear hw
  subst hbs9
  have G : zS T A s.heap s [[zAr T 0 m_posts 7 f_posts], [zAr T 0 m_shut 7 f_shut], [zO11 mo m_all m_has i_size i_next i_where i_token i_number i_word i_wrong i_farCrossing m_read i_z0 i_crossings i_inns m_posts m_shut m_here i_steps i_done i_at i_gone m_was m_came m_seenAt m_rowWorth m_farBy m_used i_everywhere i_again0 i_d0 i_never i_firstCame i_longRun i_moved i_crowd i_l0 i_fitMany i_fitLeast i_fitMost m_fitPost m_fitEnd m_keptPosts i_x0], [zAr T 0 m_all 3952 f_all]] _ _ := G
  subst h_1
  refine lv_istore_n (lv' := [(2, .int (zRd f_all i_z0 c_)), (0, .ref mo), (1, .int c_)]) hx hb dX12_turns_5 rfl hl (by decide) (zLvf_h rfl) (fun ls hl => ?_)
  refine lv_iconst (v := 1) hx hb dX12_turns_6 (by decide) ?_
  refine lv_istore_n (lv' := [(3, .int 1), (2, .int (zRd f_all i_z0 c_)), (0, .ref mo), (1, .int c_)]) hx hb dX12_turns_7 rfl hl (by decide) (zLvf_h rfl) (fun ls hl => ?_)
  refine z_lp1 (T := T) 8 (fun (i : Nat) => [[zAr T 0 m_posts 7 f_posts], [zAr T 0 m_shut 7 f_shut], [zO11 mo m_all m_has i_size i_next i_where i_token i_number i_word i_wrong i_farCrossing m_read i_z0 i_crossings i_inns m_posts m_shut m_here i_steps i_done i_at i_gone m_was m_came m_seenAt m_rowWorth m_farBy m_used i_everywhere i_again0 i_d0 i_never i_firstCame i_longRun i_moved i_crowd i_l0 i_fitMany i_fitLeast i_fitMost m_fitPost m_fitEnd m_keptPosts i_x0], [zAr T 0 m_all 3952 f_all]]) (fun (i : Nat) => [(3, .int (nI i)), (2, .int (zRd f_all i_z0 c_)), (0, .ref mo), (1, .int c_)]) (fun (i : Nat) => 1 ≤ i ∧ i ≤ 5) (fun (i : Nat) => 6 - i) ?_ 1 (show 1 ≤ 1 ∧ 1 ≤ 5 from ⟨by omega, by omega⟩) G (lv_sub hl [0, 1, 2, 3] rfl)
  intro i hI9 ih_8 H locs ls G hl
  replace hI9 : 1 ≤ i ∧ i ≤ 5 := hI9
  refine zAn2 hI9 ?_
  intro hi hi5
  clear hI9
  replace G : zS T A s.heap s [[zAr T 0 m_posts 7 f_posts], [zAr T 0 m_shut 7 f_shut], [zO11 mo m_all m_has i_size i_next i_where i_token i_number i_word i_wrong i_farCrossing m_read i_z0 i_crossings i_inns m_posts m_shut m_here i_steps i_done i_at i_gone m_was m_came m_seenAt m_rowWorth m_farBy m_used i_everywhere i_again0 i_d0 i_never i_firstCame i_longRun i_moved i_crowd i_l0 i_fitMany i_fitLeast i_fitMost m_fitPost m_fitEnd m_keptPosts i_x0], [zAr T 0 m_all 3952 f_all]] _ _ := G
  replace hl : lv_has ls 5 [(3, .int (nI i)), (2, .int (zRd f_all i_z0 c_)), (0, .ref mo), (1, .int c_)] := hl
  refine lv_iload_n hx hb dX12_turns_8 rfl (lv_at hl 0 rfl) ?_
  refine lv_iload_n hx hb dX12_turns_9 rfl (lv_at hl 1 rfl) ?_
  refine lv_icmp_gt (tgt := 59) hx hb dX12_turns_10 (by decide) (fun c_5 => ?_) (fun c_5 => ?_)
  · have c_5n : (zRd f_all i_z0 c_).toInt < (i : Int) := by have q := (fa_lt _ _).mp c_5; rw [nI_toInt (n := i) (by omega)] at q; exact q
    refine lv_iconst (v := 0) hx hb dX12_turns_59 (by decide) ?_
    have G := G.sub (bs' := [[zO11 mo m_all m_has i_size i_next i_where i_token i_number i_word i_wrong i_farCrossing m_read i_z0 i_crossings i_inns m_posts m_shut m_here i_steps i_done i_at i_gone m_was m_came m_seenAt m_rowWorth m_farBy m_used i_everywhere i_again0 i_d0 i_never i_firstCame i_longRun i_moved i_crowd i_l0 i_fitMany i_fitLeast i_fitMost m_fitPost m_fitEnd m_keptPosts i_x0], [zAr T 0 m_all 3952 f_all], [zAr T 0 m_posts 7 f_posts], [zAr T 0 m_shut 7 f_shut]]) [2, 3, 0, 1] rfl
    exact z_back hQz_ (z_zret C hr hlocks G (Nat.le_of_ble_eq_true rfl) (Nat.le_of_ble_eq_true rfl) dX12_turns_60 rfl ⟨f_posts, rfl, (by first | with_reducible assumption | omega | trivial | assumption), (Or.inr rfl)⟩)
  · have c_5n : ¬ (zRd f_all i_z0 c_).toInt < (i : Int) := fun q => c_5 ((fa_lt _ _).mpr (by rw [nI_toInt (n := i) (by omega)]; exact q))
    refine lv_aload_n hx hb dX12_turns_13 rfl (lv_at hl 2 rfl) ?_
    refine z_get C G clX12 2 rfl 14 (by decide) m_fl_RX12_20 rfl dX12_turns_14 ?_
    refine lv_iload_n hx hb dX12_turns_17 rfl (lv_at hl 3 rfl) ?_
    refine z_ild C G 0 rfl (vp_in_iff.mpr ⟨by omega, by omega⟩) dX12_turns_18 ?_
    refine lv_topi (fun v_6 ev_6 => ?_)
    subst ev_6
    refine lv_iload_n hx hb dX12_turns_19 rfl (lv_at hl 0 rfl) ?_
    refine lv_iadd hx hb dX12_turns_20 ?_
    refine lv_topi (fun y_7 ey_7 => ?_)
    have ey_7i : y_7.toInt = (f_posts c_.toNatClampNeg).toInt + (i : Int) := by rw [ey_7]; exact (z_iaddI (x := (f_posts c_.toNatClampNeg)) (y := (nI i)) (by rw [nI_toInt (n := i) (by omega)]; show -2147483648 ≤ (f_posts c_.toNatClampNeg).toInt + (i : Int); omega) (by rw [nI_toInt (n := i) (by omega)]; show (f_posts c_.toNatClampNeg).toInt + (i : Int) < 2147483648; omega)).trans (by rw [nI_toInt (n := i) (by omega)] <;> rfl)
    refine lv_iload_n hx hb dX12_turns_21 rfl (lv_at hl 1 rfl) ?_
    refine lv_irem hx hb dX12_turns_22 (fun q => absurd (congrArg Int32.toInt q) (by show ¬ _ = (0 : Int); omega)) ?_
    have hrm := zRem (x := y_7) (y := zRd f_all i_z0 c_) (by omega) (by omega)
    refine lv_istore (lv' := [(4, .int (y_7 - y_7 / (zRd f_all i_z0 c_) * (zRd f_all i_z0 c_))), (3, .int (nI i)), (2, .int (zRd f_all i_z0 c_)), (0, .ref mo), (1, .int c_)]) hx hb dX12_turns_23 hl (by decide) (zLvf_h rfl) (fun ls hl => ?_)
    refine lv_aload_n hx hb dX12_turns_25 rfl (lv_at hl 3 rfl) ?_
    refine z_get C G clX12 2 rfl 15 (by decide) m_fl_RX12_23 rfl dX12_turns_26 ?_
    refine lv_iload_n hx hb dX12_turns_29 rfl (lv_at hl 4 rfl) ?_
    refine z_ild C G 1 rfl (vp_in_iff.mpr ⟨by omega, by omega⟩) dX12_turns_30 ?_
    refine lv_topi (fun v_8 ev_8 => ?_)
    subst ev_8
    refine lv_iload hx hb dX12_turns_31 (lv_at hl 0 rfl) ?_
    refine lv_ishr hx hb dX12_turns_33 ?_
    refine lv_iconst (v := 1) hx hb dX12_turns_34 (by decide) ?_
    refine lv_iand hx hb dX12_turns_35 ?_
    refine lv_iconst (v := 1) hx hb dX12_turns_36 (by decide) ?_
    refine lv_icmp_ne (tgt := 43) hx hb dX12_turns_37 (by decide) (fun c_9 => ?_) (fun c_9 => ?_)
    · have c_9n : ¬ (((f_shut c_.toNatClampNeg) >>> ((y_7 - y_7 / (zRd f_all i_z0 c_) * (zRd f_all i_z0 c_)) &&& 31)) &&& 1).toInt = (1 : Int) := fun q => c_9 ((fa_eq _ _).mpr q)
      refine lv_aload_n hx hb dX12_turns_43 rfl (lv_at hl 3 rfl) ?_
      refine z_get C G clX12 2 rfl 14 (by decide) m_fl_RX12_20 rfl dX12_turns_44 ?_
      refine lv_iload_n hx hb dX12_turns_47 rfl (lv_at hl 4 rfl) ?_
      refine lv_iload hx hb dX12_turns_48 (lv_at hl 0 rfl) ?_
      refine z_ist C G 0 rfl (vp_in_iff.mpr ⟨by omega, by omega⟩) dX12_turns_50 (fun H locs G => ?_)
      have G : zS T A s.heap s [[zAr T 0 m_posts 7 (upd f_posts c_.toNatClampNeg (y_7 - y_7 / (zRd f_all i_z0 c_) * (zRd f_all i_z0 c_)))], [zAr T 0 m_shut 7 f_shut], [zO11 mo m_all m_has i_size i_next i_where i_token i_number i_word i_wrong i_farCrossing m_read i_z0 i_crossings i_inns m_posts m_shut m_here i_steps i_done i_at i_gone m_was m_came m_seenAt m_rowWorth m_farBy m_used i_everywhere i_again0 i_d0 i_never i_firstCame i_longRun i_moved i_crowd i_l0 i_fitMany i_fitLeast i_fitMost m_fitPost m_fitEnd m_keptPosts i_x0], [zAr T 0 m_all 3952 f_all]] _ _ := G
      refine lv_iconst (v := 1) hx hb dX12_turns_51 (by decide) ?_
      have G := G.sub (bs' := [[zO11 mo m_all m_has i_size i_next i_where i_token i_number i_word i_wrong i_farCrossing m_read i_z0 i_crossings i_inns m_posts m_shut m_here i_steps i_done i_at i_gone m_was m_came m_seenAt m_rowWorth m_farBy m_used i_everywhere i_again0 i_d0 i_never i_firstCame i_longRun i_moved i_crowd i_l0 i_fitMany i_fitLeast i_fitMost m_fitPost m_fitEnd m_keptPosts i_x0], [zAr T 0 m_all 3952 f_all], [zAr T 0 m_posts 7 (upd f_posts c_.toNatClampNeg (y_7 - y_7 / (zRd f_all i_z0 c_) * (zRd f_all i_z0 c_)))], [zAr T 0 m_shut 7 f_shut]]) [2, 3, 0, 1] rfl
      exact z_back hQz_ (z_zret C hr hlocks G (Nat.le_of_ble_eq_true rfl) (Nat.le_of_ble_eq_true rfl) dX12_turns_52 rfl ⟨(upd f_posts c_.toNatClampNeg (y_7 - y_7 / (zRd f_all i_z0 c_) * (zRd f_all i_z0 c_))), rfl, (zMP_upd hP (by omega)), (Or.inl (⟨rfl, (by first | with_reducible assumption | omega | assumption)⟩))⟩)
    · have c_9n : (((f_shut c_.toNatClampNeg) >>> ((y_7 - y_7 / (zRd f_all i_z0 c_) * (zRd f_all i_z0 c_)) &&& 31)) &&& 1).toInt = (1 : Int) := (fa_eq _ _).mp c_9
      refine lv_goto (tgt := 53) hx hb dX12_turns_40 (by decide) ?_
      refine lv_iinc (v := nI (i + 1)) (lv' := [(3, .int (nI (i + 1))), (4, .int (y_7 - y_7 / (zRd f_all i_z0 c_) * (zRd f_all i_z0 c_))), (2, .int (zRd f_all i_z0 c_)), (0, .ref mo), (1, .int c_)]) hx hb dX12_turns_53 hl (k := 1) rfl (z_inc i 1) (by decide) (zLvf_h rfl) (fun ls hl => ?_)
      refine lv_goto (tgt := 8) hx hb dX12_turns_56 (by decide) ?_
      exact ih_8 (i + 1) (show 1 ≤ (i + 1) ∧ (i + 1) ≤ 5 from ⟨by omega, by omega⟩) (show 6 - (i + 1) < 6 - i from by omega) _ _ ls G (lv_sub hl [0, 2, 3, 4] rfl)
set_option maxHeartbeats 4000000 in
set_option maxRecDepth 100000 in
/-- c_m_stepsOn -/
theorem c_m_stepsOn (l : Launch) (T : zTy) (mo : Nat) (m_all : Nat) (m_has : Nat) (i_size : Int32) (i_next : Int32) (i_where : Int32) (i_token : Int32) (i_number : Int32) (i_word : Int32) (i_wrong : Int32) (i_farCrossing : Int32) (m_read : Nat) (i_z0 : Int32) (i_crossings : Int32) (i_inns : Int32) (m_posts : Nat) (m_shut : Nat) (m_here : Nat) (i_steps : Int32) (i_done : Int32) (i_at : Int32) (i_gone : Int32) (m_was : Nat) (m_came : Nat) (m_seenAt : Nat) (m_rowWorth : Nat) (m_farBy : Nat) (m_used : Nat) (i_everywhere : Int32) (i_again0 : Int32) (i_d0 : Int32) (i_never : Int32) (i_firstCame : Int32) (i_longRun : Int32) (i_moved : Int32) (i_crowd : Int32) (i_l0 : Int32) (i_fitMany : Int32) (i_fitLeast : Int32) (i_fitMost : Int32) (m_fitPost : Nat) (m_fitEnd : Nat) (m_keptPosts : Nat) (i_x0 : Int32) (f_all : Nat → Int32) (f_posts : Nat → Int32) (f_shut : Nat → Int32) (f_was : Nat → Int32) (hL : zML f_all i_z0 i_crossings) (ha0 : 0 ≤ i_at.toInt) (ha6 : i_at.toInt ≤ 6) (hg0 : 0 ≤ i_gone.toInt) (hg9 : i_gone.toInt ≤ 100000) (hP : zMP f_posts) : zMi l T yX12_stepsOn cX12_stepsOn 1 (some .boolean) 3 0 0 [.ref mo] [[zO11 mo m_all m_has i_size i_next i_where i_token i_number i_word i_wrong i_farCrossing m_read i_z0 i_crossings i_inns m_posts m_shut m_here i_steps i_done i_at i_gone m_was m_came m_seenAt m_rowWorth m_farBy m_used i_everywhere i_again0 i_d0 i_never i_firstCame i_longRun i_moved i_crowd i_l0 i_fitMany i_fitLeast i_fitMost m_fitPost m_fitEnd m_keptPosts i_x0], [zAr T 0 m_all 3952 f_all], [zAr T 0 m_posts 7 f_posts], [zAr T 0 m_shut 7 f_shut], [zAr T 0 m_was 7 f_was]] (fun (r : Int32) bs => ∃ (j_at : Int32) (j_gone : Int32) (g_posts : Nat → Int32) (g_was : Nat → Int32), bs = [[zO11 mo m_all m_has i_size i_next i_where i_token i_number i_word i_wrong i_farCrossing m_read i_z0 i_crossings i_inns m_posts m_shut m_here i_steps i_done j_at j_gone m_was m_came m_seenAt m_rowWorth m_farBy m_used i_everywhere i_again0 i_d0 i_never i_firstCame i_longRun i_moved i_crowd i_l0 i_fitMany i_fitLeast i_fitMost m_fitPost m_fitEnd m_keptPosts i_x0], [zAr T 0 m_all 3952 f_all], [zAr T 0 m_posts 7 g_posts], [zAr T 0 m_shut 7 f_shut], [zAr T 0 m_was 7 g_was]] ∧ zMP g_posts ∧ 0 ≤ j_at.toInt ∧ j_at.toInt ≤ 6 ∧ ((r = 1 ∧ j_gone.toInt = i_gone.toInt + 1) ∨ (r = 0 ∧ j_gone.toInt = i_gone.toInt))) := by
  refine zMi_of (own := RX12) (by decide) rfl (Nat.le_of_ble_eq_true rfl) ?_
  intro p e s m args below meth c A ls C hr hlocks hnm hAe G hl
  refine zHide (fun Qz_ hQz_ => ?_)
  have hx := C.1
  have hb := C.2.1
  have hl : lv_has ls 1 [(0, .ref mo)] := hl
  have hz := hL.1
  have hcr := hL.cr
  refine lv_aload_n hx hb dX12_stepsOn_0 rfl (lv_at hl 0 rfl) ?_
  refine lv_aload_n hx hb dX12_stepsOn_1 rfl (lv_at hl 0 rfl) ?_
  refine z_get C G clX12 0 rfl 19 (by decide) m_fl_RX12_202 rfl dX12_stepsOn_2 ?_
  refine z_Vi (bc := [[zO11 mo m_all m_has i_size i_next i_where i_token i_number i_word i_wrong i_farCrossing m_read i_z0 i_crossings i_inns m_posts m_shut m_here i_steps i_done i_at i_gone m_was m_came m_seenAt m_rowWorth m_farBy m_used i_everywhere i_again0 i_d0 i_never i_firstCame i_longRun i_moved i_crowd i_l0 i_fitMany i_fitLeast i_fitMost m_fitPost m_fitEnd m_keptPosts i_x0]]) (br := [[zAr T 0 m_all 3952 f_all], [zAr T 0 m_posts 7 f_posts], [zAr T 0 m_shut 7 f_shut], [zAr T 0 m_was 7 f_was]]) (As := [.int i_at]) (rest := []) C G (c_m_isInn l T mo m_all m_has i_size i_next i_where i_token i_number i_word i_wrong i_farCrossing m_read i_z0 i_crossings i_inns m_posts m_shut m_here i_steps i_done i_at i_gone m_was m_came m_seenAt m_rowWorth m_farBy m_used i_everywhere i_again0 i_d0 i_never i_firstCame i_longRun i_moved i_crowd i_l0 i_fitMany i_fitLeast i_fitMost m_fitPost m_fitEnd m_keptPosts i_x0 i_at) (kV_RX12_178 C.2.2.2.2 (Nat.le_of_ble_eq_true rfl) (Nat.le_of_ble_eq_true rfl)) [0] [0] rfl rfl (ci := 11) (qc := (RX12, TX12, 43)) rfl rfl (List.mem_flatten.mpr ⟨_, List.mem_of_getElem? (i := 0) rfl, List.mem_cons_self⟩) rfl rfl hl.1 dX12_stepsOn_5 (Nat.le_of_ble_eq_true rfl) (Nat.le_of_ble_eq_true rfl) (fun r_2 b1 H locs hw G => ?_)
  refine zAn2 hw ?_
  intro hbs9 hc_1
  clear hw
  subst hbs9
  have G : zS T A s.heap s [[zAr T 0 m_all 3952 f_all], [zAr T 0 m_posts 7 f_posts], [zAr T 0 m_shut 7 f_shut], [zAr T 0 m_was 7 f_was], [zO11 mo m_all m_has i_size i_next i_where i_token i_number i_word i_wrong i_farCrossing m_read i_z0 i_crossings i_inns m_posts m_shut m_here i_steps i_done i_at i_gone m_was m_came m_seenAt m_rowWorth m_farBy m_used i_everywhere i_again0 i_d0 i_never i_firstCame i_longRun i_moved i_crowd i_l0 i_fitMany i_fitLeast i_fitMost m_fitPost m_fitEnd m_keptPosts i_x0]] _ _ := G
  rcases hc_1 with ⟨rfl, h_3⟩ | ⟨rfl, h_4⟩
  · have h_3 : zInn i_inns i_at := h_3
    refine lv_if_ne (tgt := 22) hx hb dX12_stepsOn_8 (by decide) (fun _ => ?_) (fun q => absurd q (by decide))
    refine lv_iconst (v := 0) hx hb dX12_stepsOn_22 (by decide) ?_
    have G := G.sub (bs' := [[zO11 mo m_all m_has i_size i_next i_where i_token i_number i_word i_wrong i_farCrossing m_read i_z0 i_crossings i_inns m_posts m_shut m_here i_steps i_done i_at i_gone m_was m_came m_seenAt m_rowWorth m_farBy m_used i_everywhere i_again0 i_d0 i_never i_firstCame i_longRun i_moved i_crowd i_l0 i_fitMany i_fitLeast i_fitMost m_fitPost m_fitEnd m_keptPosts i_x0], [zAr T 0 m_all 3952 f_all], [zAr T 0 m_posts 7 f_posts], [zAr T 0 m_shut 7 f_shut], [zAr T 0 m_was 7 f_was]]) [4, 0, 1, 2, 3] rfl
    exact z_back hQz_ (z_zret C hr hlocks G (Nat.le_of_ble_eq_true rfl) (Nat.le_of_ble_eq_true rfl) dX12_stepsOn_23 rfl ⟨i_at, i_gone, f_posts, f_was, rfl, (by first | with_reducible assumption | omega | trivial | assumption), (by first | with_reducible assumption | omega | trivial | assumption), (by first | with_reducible assumption | omega | trivial | assumption), (Or.inr (⟨rfl, (by first | with_reducible assumption | omega | assumption)⟩))⟩)
  · have h_4 : ¬ zInn i_inns i_at := h_4
    refine lv_if_ne (tgt := 22) hx hb dX12_stepsOn_8 (by decide) (fun q => absurd (by decide) q) (fun _ => ?_)
    refine lv_aload_n hx hb dX12_stepsOn_11 rfl (lv_at hl 0 rfl) ?_
    refine lv_aload_n hx hb dX12_stepsOn_12 rfl (lv_at hl 0 rfl) ?_
    refine z_get C G clX12 4 rfl 19 (by decide) m_fl_RX12_202 rfl dX12_stepsOn_13 ?_
    refine z_Vi (bc := [[zO11 mo m_all m_has i_size i_next i_where i_token i_number i_word i_wrong i_farCrossing m_read i_z0 i_crossings i_inns m_posts m_shut m_here i_steps i_done i_at i_gone m_was m_came m_seenAt m_rowWorth m_farBy m_used i_everywhere i_again0 i_d0 i_never i_firstCame i_longRun i_moved i_crowd i_l0 i_fitMany i_fitLeast i_fitMost m_fitPost m_fitEnd m_keptPosts i_x0], [zAr T 0 m_all 3952 f_all], [zAr T 0 m_posts 7 f_posts], [zAr T 0 m_shut 7 f_shut]]) (br := [[zAr T 0 m_was 7 f_was]]) (As := [.int i_at]) (rest := []) C G (c_m_turns l T mo m_all m_has i_size i_next i_where i_token i_number i_word i_wrong i_farCrossing m_read i_z0 i_crossings i_inns m_posts m_shut m_here i_steps i_done i_at i_gone m_was m_came m_seenAt m_rowWorth m_farBy m_used i_everywhere i_again0 i_d0 i_never i_firstCame i_longRun i_moved i_crowd i_l0 i_fitMany i_fitLeast i_fitMost m_fitPost m_fitEnd m_keptPosts i_x0 f_all f_posts f_shut i_at (by first | with_reducible assumption | with_reducible rfl | omega | assumption | rfl | decide) (by first | with_reducible assumption | with_reducible rfl | omega | assumption | rfl | decide) (by first | with_reducible assumption | with_reducible rfl | omega | assumption | rfl | decide) (by first | with_reducible assumption | with_reducible rfl | omega | assumption | rfl | decide)) (kV_RX12_205 C.2.2.2.2 (Nat.le_of_ble_eq_true rfl) (Nat.le_of_ble_eq_true rfl)) [4, 0, 1, 2] [0, 0, 0, 1] rfl rfl (ci := 11) (qc := (RX12, TX12, 43)) rfl rfl (List.mem_flatten.mpr ⟨_, List.mem_of_getElem? (i := 0) rfl, List.mem_cons_self⟩) rfl rfl hl.1 dX12_stepsOn_16 (Nat.le_of_ble_eq_true rfl) (Nat.le_of_ble_eq_true rfl) (fun r_8 b1 H locs hw G => ?_)
    refine zEx1 hw ?_
    intro g_posts_5
    refine zCu3 ?_
    intro hbs9 h_6 hc_7
    clear hw
    subst hbs9
    have G : zS T A s.heap s [[zAr T 0 m_was 7 f_was], [zO11 mo m_all m_has i_size i_next i_where i_token i_number i_word i_wrong i_farCrossing m_read i_z0 i_crossings i_inns m_posts m_shut m_here i_steps i_done i_at i_gone m_was m_came m_seenAt m_rowWorth m_farBy m_used i_everywhere i_again0 i_d0 i_never i_firstCame i_longRun i_moved i_crowd i_l0 i_fitMany i_fitLeast i_fitMost m_fitPost m_fitEnd m_keptPosts i_x0], [zAr T 0 m_all 3952 f_all], [zAr T 0 m_posts 7 g_posts_5], [zAr T 0 m_shut 7 f_shut]] _ _ := G
    rcases hc_7 with ⟨rfl, h_9⟩ | rfl
    · have h_9 : 0 < (zRd f_all i_z0 i_at).toInt := h_9
      refine lv_if_ne (tgt := 24) hx hb dX12_stepsOn_19 (by decide) (fun _ => ?_) (fun q => absurd q (by decide))
      have hcl := z_clI (x := i_at) (by omega)
      have hpa : 0 ≤ (g_posts_5 i_at.toNatClampNeg).toInt ∧ (g_posts_5 i_at.toNatClampNeg).toInt ≤ 3 := (show zMP g_posts_5 by first | with_reducible assumption | assumption) i_at.toNatClampNeg (by omega)
      refine lv_aload_n hx hb dX12_stepsOn_24 rfl (lv_at hl 0 rfl) ?_
      refine lv_aload_n hx hb dX12_stepsOn_25 rfl (lv_at hl 0 rfl) ?_
      refine lv_aload_n hx hb dX12_stepsOn_26 rfl (lv_at hl 0 rfl) ?_
      refine z_get C G clX12 1 rfl 19 (by decide) m_fl_RX12_202 rfl dX12_stepsOn_27 ?_
      refine lv_aload_n hx hb dX12_stepsOn_30 rfl (lv_at hl 0 rfl) ?_
      refine z_get C G clX12 1 rfl 14 (by decide) m_fl_RX12_20 rfl dX12_stepsOn_31 ?_
      refine lv_aload_n hx hb dX12_stepsOn_34 rfl (lv_at hl 0 rfl) ?_
      refine z_get C G clX12 1 rfl 19 (by decide) m_fl_RX12_202 rfl dX12_stepsOn_35 ?_
      refine z_ild C G 3 rfl (vp_in_iff.mpr ⟨by omega, by omega⟩) dX12_stepsOn_38 ?_
      refine lv_topi (fun v_10 ev_10 => ?_)
      subst ev_10
      refine z_Vi (bc := [[zO11 mo m_all m_has i_size i_next i_where i_token i_number i_word i_wrong i_farCrossing m_read i_z0 i_crossings i_inns m_posts m_shut m_here i_steps i_done i_at i_gone m_was m_came m_seenAt m_rowWorth m_farBy m_used i_everywhere i_again0 i_d0 i_never i_firstCame i_longRun i_moved i_crowd i_l0 i_fitMany i_fitLeast i_fitMost m_fitPost m_fitEnd m_keptPosts i_x0], [zAr T 0 m_all 3952 f_all]]) (br := [[zAr T 0 m_was 7 f_was], [zAr T 0 m_posts 7 g_posts_5], [zAr T 0 m_shut 7 f_shut]]) (As := [.int i_at, .int (g_posts_5 i_at.toNatClampNeg)]) (rest := [.ref mo]) C G (c_m_leadsTo l T mo m_all m_has i_size i_next i_where i_token i_number i_word i_wrong i_farCrossing m_read i_z0 i_crossings i_inns m_posts m_shut m_here i_steps i_done i_at i_gone m_was m_came m_seenAt m_rowWorth m_farBy m_used i_everywhere i_again0 i_d0 i_never i_firstCame i_longRun i_moved i_crowd i_l0 i_fitMany i_fitLeast i_fitMost m_fitPost m_fitEnd m_keptPosts i_x0 f_all i_at (g_posts_5 i_at.toNatClampNeg) (by first | with_reducible assumption | with_reducible rfl | omega | assumption | rfl | decide) (by first | with_reducible assumption | with_reducible rfl | omega | assumption | rfl | decide) (by first | with_reducible assumption | with_reducible rfl | omega | assumption | rfl | decide) (by first | with_reducible assumption | with_reducible rfl | omega | assumption | rfl | decide) (by first | with_reducible assumption | with_reducible rfl | omega | assumption | rfl | decide)) (kV_RX12_190 C.2.2.2.2 (Nat.le_of_ble_eq_true rfl) (Nat.le_of_ble_eq_true rfl)) [1, 2] [1, 0] rfl rfl (ci := 11) (qc := (RX12, TX12, 43)) rfl rfl (List.mem_flatten.mpr ⟨_, List.mem_of_getElem? (i := 0) rfl, List.mem_cons_self⟩) rfl rfl hl.1 dX12_stepsOn_39 (Nat.le_of_ble_eq_true rfl) (Nat.le_of_ble_eq_true rfl) (fun r_14 b1 H locs hw G => ?_)
      refine zAn4 hw ?_
      intro hbs9 h_11 h_12 h_13
      clear hw
      subst hbs9
      have G : zS T A s.heap s [[zAr T 0 m_was 7 f_was], [zAr T 0 m_posts 7 g_posts_5], [zAr T 0 m_shut 7 f_shut], [zO11 mo m_all m_has i_size i_next i_where i_token i_number i_word i_wrong i_farCrossing m_read i_z0 i_crossings i_inns m_posts m_shut m_here i_steps i_done i_at i_gone m_was m_came m_seenAt m_rowWorth m_farBy m_used i_everywhere i_again0 i_d0 i_never i_firstCame i_longRun i_moved i_crowd i_l0 i_fitMany i_fitLeast i_fitMost m_fitPost m_fitEnd m_keptPosts i_x0], [zAr T 0 m_all 3952 f_all]] _ _ := G
      subst h_11
      refine z_put C G clX12 3 rfl 19 (by decide) m_fl_RX12_202 rfl rfl rfl (Nat.le_of_ble_eq_true rfl) dX12_stepsOn_42 (fun H locs G => ?_)
      have G : zS T A s.heap s [[zAr T 0 m_was 7 f_was], [zAr T 0 m_posts 7 g_posts_5], [zAr T 0 m_shut 7 f_shut], [zO11 mo m_all m_has i_size i_next i_where i_token i_number i_word i_wrong i_farCrossing m_read i_z0 i_crossings i_inns m_posts m_shut m_here i_steps i_done (zLe f_all i_z0 i_at (g_posts_5 i_at.toNatClampNeg)) i_gone m_was m_came m_seenAt m_rowWorth m_farBy m_used i_everywhere i_again0 i_d0 i_never i_firstCame i_longRun i_moved i_crowd i_l0 i_fitMany i_fitLeast i_fitMost m_fitPost m_fitEnd m_keptPosts i_x0], [zAr T 0 m_all 3952 f_all]] _ _ := G
      refine lv_aload_n hx hb dX12_stepsOn_45 rfl (lv_at hl 0 rfl) ?_
      refine lv_dup hx hb dX12_stepsOn_46 rfl ?_
      refine z_get C G clX12 3 rfl 20 (by decide) m_fl_RX12_208 rfl dX12_stepsOn_47 ?_
      refine lv_iconst (v := 1) hx hb dX12_stepsOn_50 (by decide) ?_
      refine lv_iadd hx hb dX12_stepsOn_51 ?_
      refine lv_topi (fun y_15 ey_15 => ?_)
      have ey_15i : y_15.toInt = i_gone.toInt + (1 : Int) := by rw [ey_15]; exact z_iaddI (x := i_gone) (y := (1 : Int32)) (by show -2147483648 ≤ i_gone.toInt + (1 : Int); omega) (by show i_gone.toInt + (1 : Int) < 2147483648; omega)
      refine z_put C G clX12 3 rfl 20 (by decide) m_fl_RX12_208 rfl rfl rfl (Nat.le_of_ble_eq_true rfl) dX12_stepsOn_52 (fun H locs G => ?_)
      have G : zS T A s.heap s [[zAr T 0 m_was 7 f_was], [zAr T 0 m_posts 7 g_posts_5], [zAr T 0 m_shut 7 f_shut], [zO11 mo m_all m_has i_size i_next i_where i_token i_number i_word i_wrong i_farCrossing m_read i_z0 i_crossings i_inns m_posts m_shut m_here i_steps i_done (zLe f_all i_z0 i_at (g_posts_5 i_at.toNatClampNeg)) y_15 m_was m_came m_seenAt m_rowWorth m_farBy m_used i_everywhere i_again0 i_d0 i_never i_firstCame i_longRun i_moved i_crowd i_l0 i_fitMany i_fitLeast i_fitMost m_fitPost m_fitEnd m_keptPosts i_x0], [zAr T 0 m_all 3952 f_all]] _ _ := G
      refine lv_aload_n hx hb dX12_stepsOn_55 rfl (lv_at hl 0 rfl) ?_
      refine z_get C G clX12 3 rfl 21 (by decide) m_fl_RX12_29 rfl dX12_stepsOn_56 ?_
      refine lv_aload_n hx hb dX12_stepsOn_59 rfl (lv_at hl 0 rfl) ?_
      refine z_get C G clX12 3 rfl 19 (by decide) m_fl_RX12_202 rfl dX12_stepsOn_60 ?_
      refine lv_dup2_11 hx hb dX12_stepsOn_63 rfl rfl ?_
      refine z_ild C G 0 rfl (vp_in_iff.mpr ⟨by omega, by omega⟩) dX12_stepsOn_64 ?_
      refine lv_topi (fun v_16 ev_16 => ?_)
      subst ev_16
      refine lv_iconst (v := 1) hx hb dX12_stepsOn_65 (by decide) ?_
      refine lv_iadd hx hb dX12_stepsOn_66 ?_
      refine z_ist C G 0 rfl (vp_in_iff.mpr ⟨by omega, by omega⟩) dX12_stepsOn_67 (fun H locs G => ?_)
      have G : zS T A s.heap s [[zAr T 0 m_was 7 (upd f_was (zLe f_all i_z0 i_at (g_posts_5 i_at.toNatClampNeg)).toNatClampNeg ((f_was (zLe f_all i_z0 i_at (g_posts_5 i_at.toNatClampNeg)).toNatClampNeg) + 1))], [zAr T 0 m_posts 7 g_posts_5], [zAr T 0 m_shut 7 f_shut], [zO11 mo m_all m_has i_size i_next i_where i_token i_number i_word i_wrong i_farCrossing m_read i_z0 i_crossings i_inns m_posts m_shut m_here i_steps i_done (zLe f_all i_z0 i_at (g_posts_5 i_at.toNatClampNeg)) y_15 m_was m_came m_seenAt m_rowWorth m_farBy m_used i_everywhere i_again0 i_d0 i_never i_firstCame i_longRun i_moved i_crowd i_l0 i_fitMany i_fitLeast i_fitMost m_fitPost m_fitEnd m_keptPosts i_x0], [zAr T 0 m_all 3952 f_all]] _ _ := G
      refine lv_iconst (v := 1) hx hb dX12_stepsOn_68 (by decide) ?_
      have G := G.sub (bs' := [[zO11 mo m_all m_has i_size i_next i_where i_token i_number i_word i_wrong i_farCrossing m_read i_z0 i_crossings i_inns m_posts m_shut m_here i_steps i_done (zLe f_all i_z0 i_at (g_posts_5 i_at.toNatClampNeg)) y_15 m_was m_came m_seenAt m_rowWorth m_farBy m_used i_everywhere i_again0 i_d0 i_never i_firstCame i_longRun i_moved i_crowd i_l0 i_fitMany i_fitLeast i_fitMost m_fitPost m_fitEnd m_keptPosts i_x0], [zAr T 0 m_all 3952 f_all], [zAr T 0 m_posts 7 g_posts_5], [zAr T 0 m_shut 7 f_shut], [zAr T 0 m_was 7 (upd f_was (zLe f_all i_z0 i_at (g_posts_5 i_at.toNatClampNeg)).toNatClampNeg ((f_was (zLe f_all i_z0 i_at (g_posts_5 i_at.toNatClampNeg)).toNatClampNeg) + 1))]]) [3, 4, 1, 2, 0] rfl
      exact z_back hQz_ (z_zret C hr hlocks G (Nat.le_of_ble_eq_true rfl) (Nat.le_of_ble_eq_true rfl) dX12_stepsOn_69 rfl ⟨(zLe f_all i_z0 i_at (g_posts_5 i_at.toNatClampNeg)), y_15, g_posts_5, (upd f_was (zLe f_all i_z0 i_at (g_posts_5 i_at.toNatClampNeg)).toNatClampNeg ((f_was (zLe f_all i_z0 i_at (g_posts_5 i_at.toNatClampNeg)).toNatClampNeg) + 1)), rfl, (by first | with_reducible assumption | omega | trivial | assumption), (by first | with_reducible assumption | omega | trivial | assumption), (by first | with_reducible assumption | omega | trivial | assumption), (Or.inl (⟨rfl, (by first | with_reducible assumption | omega | assumption)⟩))⟩)
    · refine lv_if_ne (tgt := 24) hx hb dX12_stepsOn_19 (by decide) (fun q => absurd (by decide) q) (fun _ => ?_)
      refine lv_iconst (v := 0) hx hb dX12_stepsOn_22 (by decide) ?_
      have G := G.sub (bs' := [[zO11 mo m_all m_has i_size i_next i_where i_token i_number i_word i_wrong i_farCrossing m_read i_z0 i_crossings i_inns m_posts m_shut m_here i_steps i_done i_at i_gone m_was m_came m_seenAt m_rowWorth m_farBy m_used i_everywhere i_again0 i_d0 i_never i_firstCame i_longRun i_moved i_crowd i_l0 i_fitMany i_fitLeast i_fitMost m_fitPost m_fitEnd m_keptPosts i_x0], [zAr T 0 m_all 3952 f_all], [zAr T 0 m_posts 7 g_posts_5], [zAr T 0 m_shut 7 f_shut], [zAr T 0 m_was 7 f_was]]) [1, 2, 3, 4, 0] rfl
      exact z_back hQz_ (z_zret C hr hlocks G (Nat.le_of_ble_eq_true rfl) (Nat.le_of_ble_eq_true rfl) dX12_stepsOn_23 rfl ⟨i_at, i_gone, g_posts_5, f_was, rfl, (by first | with_reducible assumption | omega | trivial | assumption), (by first | with_reducible assumption | omega | trivial | assumption), (by first | with_reducible assumption | omega | trivial | assumption), (Or.inr (⟨rfl, (by first | with_reducible assumption | omega | assumption)⟩))⟩)
theorem m_co_X12_puts : Cond.code yX12_puts cX12_puts 3 none ∈ zT := zmem1 zsub_7 23 rfl rfl
theorem m_ml_RX12_211 : Cond.methodLink RX12 211 yX12_puts ∈ zT := zmem1 zsub_7 20 rfl rfl
theorem m_im_X12_puts : Cond.instanceMethod yX12_puts ∈ zT := zmem1 zsub_7 22 rfl rfl
theorem m_se_X12_puts : Cond.selects RX12 yX12_puts yX12_puts ∈ zT := zmem 66 rfl rfl
theorem m_co_X12_stepsOn : Cond.code yX12_stepsOn cX12_stepsOn 1 (some .boolean) ∈ zT := zmem1 zsub_7 27 rfl rfl
theorem m_ml_RX12_214 : Cond.methodLink RX12 214 yX12_stepsOn ∈ zT := zmem1 zsub_7 24 rfl rfl
theorem m_im_X12_stepsOn : Cond.instanceMethod yX12_stepsOn ∈ zT := zmem1 zsub_7 26 rfl rfl
theorem m_se_X12_stepsOn : Cond.selects RX12 yX12_stepsOn yX12_stepsOn ∈ zT := zmem 67 rfl rfl
theorem m_co_X12_isFree : Cond.code yX12_isFree cX12_isFree 2 (some .boolean) ∈ zT := zmem1 zsub_7 71 rfl rfl
theorem m_ml_RX12_223 : Cond.methodLink RX12 223 yX12_isFree ∈ zT := zmem1 zsub_7 68 rfl rfl
theorem m_im_X12_isFree : Cond.instanceMethod yX12_isFree ∈ zT := zmem1 zsub_7 70 rfl rfl
theorem m_se_X12_isFree : Cond.selects RX12 yX12_isFree yX12_isFree ∈ zT := zmem 73 rfl rfl
theorem kV_RX12_211 {R : Room} {s : State} {args : Array Value} {d mc ms : Nat} (hts : ∀ w ∈ zT, w.before args s = true) (h1 : d + 1 ≤ R.frames) (h2 : 8 + (3 + 11) + 40 * d ≤ R.locals) : CallW R s args RX12 RX12 211 yX12_puts cX12_puts 3 none (zW yX12_puts cX12_puts 3 none) (zR d mc ms) mc ms 1 := z_cwV hts m_co_X12_puts m_ml_RX12_211 m_im_X12_puts m_se_X12_puts m_ii_RX12 (by decide +kernel) h1 h2
theorem kV_RX12_214 {R : Room} {s : State} {args : Array Value} {d mc ms : Nat} (hts : ∀ w ∈ zT, w.before args s = true) (h1 : d + 1 ≤ R.frames) (h2 : 8 + (1 + 11) + 40 * d ≤ R.locals) : CallW R s args RX12 RX12 214 yX12_stepsOn cX12_stepsOn 1 (some .boolean) (zW yX12_stepsOn cX12_stepsOn 1 (some .boolean)) (zR d mc ms) mc ms 0 := z_cwV hts m_co_X12_stepsOn m_ml_RX12_214 m_im_X12_stepsOn m_se_X12_stepsOn m_ii_RX12 (by decide +kernel) h1 h2
theorem kV_RX12_223 {R : Room} {s : State} {args : Array Value} {d mc ms : Nat} (hts : ∀ w ∈ zT, w.before args s = true) (h1 : d + 1 ≤ R.frames) (h2 : 8 + (2 + 11) + 40 * d ≤ R.locals) : CallW R s args RX12 RX12 223 yX12_isFree cX12_isFree 2 (some .boolean) (zW yX12_isFree cX12_isFree 2 (some .boolean)) (zR d mc ms) mc ms 1 := z_cwV hts m_co_X12_isFree m_ml_RX12_223 m_im_X12_isFree m_se_X12_isFree m_ii_RX12 (by decide +kernel) h1 h2
theorem dX12_puts_0 : decode cX12_puts 0 = .ok (.aload_n 0, 1) := zo_42 (by decide +kernel)
theorem dX12_puts_1 : decode cX12_puts 1 = .ok (.iload_n 1, 1) := zo_27 (by decide +kernel)
theorem dX12_puts_2 : decode cX12_puts 2 = .ok (.putfield 202, 3) := zo_181 (by decide +kernel)
theorem dX12_puts_5 : decode cX12_puts 5 = .ok (.aload_n 0, 1) := zo_42 (by decide +kernel)
theorem dX12_puts_6 : decode cX12_puts 6 = .ok (.iconst 0, 1) := zo_3 (by decide +kernel)
theorem dX12_puts_7 : decode cX12_puts 7 = .ok (.putfield 208, 3) := zo_181 (by decide +kernel)
theorem dX12_puts_10 : decode cX12_puts 10 = .ok (.iconst 0, 1) := zo_3 (by decide +kernel)
theorem dX12_puts_11 : decode cX12_puts 11 = .ok (.istore_n 2, 1) := zo_61 (by decide +kernel)
theorem dX12_puts_12 : decode cX12_puts 12 = .ok (.iload_n 2, 1) := zo_28 (by decide +kernel)
theorem dX12_puts_13 : decode cX12_puts 13 = .ok (.bipush 7, 2) := zo_16 (by decide +kernel)
theorem dX12_puts_15 : decode cX12_puts 15 = .ok (.if_icmp .ge 25, 3) := zo_162 (by decide +kernel)
theorem dX12_puts_18 : decode cX12_puts 18 = .ok (.aload_n 0, 1) := zo_42 (by decide +kernel)
theorem dX12_puts_19 : decode cX12_puts 19 = .ok (.getfield 29, 3) := zo_180 (by decide +kernel)
theorem dX12_puts_22 : decode cX12_puts 22 = .ok (.iload_n 2, 1) := zo_28 (by decide +kernel)
theorem dX12_puts_23 : decode cX12_puts 23 = .ok (.iload_n 2, 1) := zo_28 (by decide +kernel)
theorem dX12_puts_24 : decode cX12_puts 24 = .ok (.iload_n 1, 1) := zo_27 (by decide +kernel)
theorem dX12_puts_25 : decode cX12_puts 25 = .ok (.if_icmp .ne 7, 3) := zo_160 (by decide +kernel)
theorem dX12_puts_28 : decode cX12_puts 28 = .ok (.iconst 1, 1) := zo_4 (by decide +kernel)
theorem dX12_puts_29 : decode cX12_puts 29 = .ok (.goto 4, 3) := zo_167 (by decide +kernel)
theorem dX12_puts_32 : decode cX12_puts 32 = .ok (.iconst 0, 1) := zo_3 (by decide +kernel)
theorem dX12_puts_33 : decode cX12_puts 33 = .ok (.iastore, 1) := zo_79 (by decide +kernel)
theorem dX12_puts_34 : decode cX12_puts 34 = .ok (.iinc 2 1, 3) := zo_132 (by decide +kernel)
theorem dX12_puts_37 : decode cX12_puts 37 = .ok (.goto (-25), 3) := zo_167 (by decide +kernel)
theorem dX12_puts_40 : decode cX12_puts 40 = .ok (.return_, 1) := zo_177 (by decide +kernel)
theorem dX12_walks_0 : decode cX12_walks 0 = .ok (.aload_n 0, 1) := zo_42 (by decide +kernel)
theorem dX12_walks_1 : decode cX12_walks 1 = .ok (.iload_n 1, 1) := zo_27 (by decide +kernel)
theorem dX12_walks_2 : decode cX12_walks 2 = .ok (.invokevirtual 211, 3) := zo_182 (by decide +kernel)
theorem dX12_walks_5 : decode cX12_walks 5 = .ok (.iconst 1, 1) := zo_4 (by decide +kernel)
theorem dX12_walks_6 : decode cX12_walks 6 = .ok (.istore_n 2, 1) := zo_61 (by decide +kernel)
theorem dX12_walks_7 : decode cX12_walks 7 = .ok (.aload_n 0, 1) := zo_42 (by decide +kernel)
theorem dX12_walks_8 : decode cX12_walks 8 = .ok (.getfield 208, 3) := zo_180 (by decide +kernel)
theorem dX12_walks_11 : decode cX12_walks 11 = .ok (.sipush 499, 3) := zo_17 (by decide +kernel)
theorem dX12_walks_14 : decode cX12_walks 14 = .ok (.if_icmp .ge 15, 3) := zo_162 (by decide +kernel)
theorem dX12_walks_17 : decode cX12_walks 17 = .ok (.iload_n 2, 1) := zo_28 (by decide +kernel)
theorem dX12_walks_18 : decode cX12_walks 18 = .ok (.ifCond .eq 11, 3) := zo_153 (by decide +kernel)
theorem dX12_walks_21 : decode cX12_walks 21 = .ok (.aload_n 0, 1) := zo_42 (by decide +kernel)
theorem dX12_walks_22 : decode cX12_walks 22 = .ok (.invokevirtual 214, 3) := zo_182 (by decide +kernel)
theorem dX12_walks_25 : decode cX12_walks 25 = .ok (.istore_n 2, 1) := zo_61 (by decide +kernel)
theorem dX12_walks_26 : decode cX12_walks 26 = .ok (.goto (-19), 3) := zo_167 (by decide +kernel)
theorem dX12_walks_29 : decode cX12_walks 29 = .ok (.aload_n 0, 1) := zo_42 (by decide +kernel)
theorem dX12_walks_30 : decode cX12_walks 30 = .ok (.aload_n 0, 1) := zo_42 (by decide +kernel)
theorem dX12_walks_31 : decode cX12_walks 31 = .ok (.getfield 202, 3) := zo_180 (by decide +kernel)
theorem dX12_walks_34 : decode cX12_walks 34 = .ok (.invokevirtual 178, 3) := zo_182 (by decide +kernel)
theorem dX12_walks_37 : decode cX12_walks 37 = .ok (.ireturn, 1) := zo_172 (by decide +kernel)
theorem dX12_postsNow_0 : decode cX12_postsNow 0 = .ok (.iconst 0, 1) := zo_3 (by decide +kernel)
theorem dX12_postsNow_1 : decode cX12_postsNow 1 = .ok (.istore_n 1, 1) := zo_60 (by decide +kernel)
theorem dX12_postsNow_2 : decode cX12_postsNow 2 = .ok (.iconst 0, 1) := zo_3 (by decide +kernel)
theorem dX12_postsNow_3 : decode cX12_postsNow 3 = .ok (.istore_n 2, 1) := zo_61 (by decide +kernel)
theorem dX12_postsNow_4 : decode cX12_postsNow 4 = .ok (.iload_n 2, 1) := zo_28 (by decide +kernel)
theorem dX12_postsNow_5 : decode cX12_postsNow 5 = .ok (.aload_n 0, 1) := zo_42 (by decide +kernel)
theorem dX12_postsNow_6 : decode cX12_postsNow 6 = .ok (.getfield 169, 3) := zo_180 (by decide +kernel)
theorem dX12_postsNow_9 : decode cX12_postsNow 9 = .ok (.if_icmp .ge 20, 3) := zo_162 (by decide +kernel)
theorem dX12_postsNow_12 : decode cX12_postsNow 12 = .ok (.iconst 4, 1) := zo_7 (by decide +kernel)
theorem dX12_postsNow_13 : decode cX12_postsNow 13 = .ok (.iload_n 1, 1) := zo_27 (by decide +kernel)
theorem dX12_postsNow_14 : decode cX12_postsNow 14 = .ok (.imul, 1) := zo_104 (by decide +kernel)
theorem dX12_postsNow_15 : decode cX12_postsNow 15 = .ok (.aload_n 0, 1) := zo_42 (by decide +kernel)
theorem dX12_postsNow_16 : decode cX12_postsNow 16 = .ok (.getfield 20, 3) := zo_180 (by decide +kernel)
theorem dX12_postsNow_19 : decode cX12_postsNow 19 = .ok (.iload_n 2, 1) := zo_28 (by decide +kernel)
theorem dX12_postsNow_20 : decode cX12_postsNow 20 = .ok (.iaload, 1) := zo_46 (by decide +kernel)
theorem dX12_postsNow_21 : decode cX12_postsNow 21 = .ok (.iadd, 1) := zo_96 (by decide +kernel)
theorem dX12_postsNow_22 : decode cX12_postsNow 22 = .ok (.istore_n 1, 1) := zo_60 (by decide +kernel)
theorem dX12_postsNow_23 : decode cX12_postsNow 23 = .ok (.iinc 2 1, 3) := zo_132 (by decide +kernel)
theorem dX12_postsNow_26 : decode cX12_postsNow 26 = .ok (.goto (-22), 3) := zo_167 (by decide +kernel)
theorem dX12_postsNow_29 : decode cX12_postsNow 29 = .ok (.iload_n 1, 1) := zo_27 (by decide +kernel)
theorem dX12_postsNow_30 : decode cX12_postsNow 30 = .ok (.ireturn, 1) := zo_172 (by decide +kernel)
theorem dX12_waysMany_0 : decode cX12_waysMany 0 = .ok (.iconst 1, 1) := zo_4 (by decide +kernel)
theorem dX12_waysMany_1 : decode cX12_waysMany 1 = .ok (.istore_n 1, 1) := zo_60 (by decide +kernel)
theorem dX12_waysMany_2 : decode cX12_waysMany 2 = .ok (.iconst 0, 1) := zo_3 (by decide +kernel)
theorem dX12_waysMany_3 : decode cX12_waysMany 3 = .ok (.istore_n 2, 1) := zo_61 (by decide +kernel)
theorem dX12_waysMany_4 : decode cX12_waysMany 4 = .ok (.iload_n 2, 1) := zo_28 (by decide +kernel)
theorem dX12_waysMany_5 : decode cX12_waysMany 5 = .ok (.aload_n 0, 1) := zo_42 (by decide +kernel)
theorem dX12_waysMany_6 : decode cX12_waysMany 6 = .ok (.getfield 169, 3) := zo_180 (by decide +kernel)
theorem dX12_waysMany_9 : decode cX12_waysMany 9 = .ok (.if_icmp .ge 29, 3) := zo_162 (by decide +kernel)
theorem dX12_waysMany_12 : decode cX12_waysMany 12 = .ok (.iload_n 1, 1) := zo_27 (by decide +kernel)
theorem dX12_waysMany_13 : decode cX12_waysMany 13 = .ok (.aload_n 0, 1) := zo_42 (by decide +kernel)
theorem dX12_waysMany_14 : decode cX12_waysMany 14 = .ok (.iload_n 2, 1) := zo_28 (by decide +kernel)
theorem dX12_waysMany_15 : decode cX12_waysMany 15 = .ok (.invokevirtual 223, 3) := zo_182 (by decide +kernel)
theorem dX12_waysMany_18 : decode cX12_waysMany 18 = .ok (.ifCond .eq 11, 3) := zo_153 (by decide +kernel)
theorem dX12_waysMany_21 : decode cX12_waysMany 21 = .ok (.aload_n 0, 1) := zo_42 (by decide +kernel)
theorem dX12_waysMany_22 : decode cX12_waysMany 22 = .ok (.iload_n 2, 1) := zo_28 (by decide +kernel)
theorem dX12_waysMany_23 : decode cX12_waysMany 23 = .ok (.invokevirtual 181, 3) := zo_182 (by decide +kernel)
theorem dX12_waysMany_26 : decode cX12_waysMany 26 = .ok (.goto 4, 3) := zo_167 (by decide +kernel)
theorem dX12_waysMany_29 : decode cX12_waysMany 29 = .ok (.iconst 1, 1) := zo_4 (by decide +kernel)
theorem dX12_waysMany_30 : decode cX12_waysMany 30 = .ok (.imul, 1) := zo_104 (by decide +kernel)
theorem dX12_waysMany_31 : decode cX12_waysMany 31 = .ok (.istore_n 1, 1) := zo_60 (by decide +kernel)
theorem dX12_waysMany_32 : decode cX12_waysMany 32 = .ok (.iinc 2 1, 3) := zo_132 (by decide +kernel)
theorem dX12_waysMany_35 : decode cX12_waysMany 35 = .ok (.goto (-31), 3) := zo_167 (by decide +kernel)
theorem dX12_waysMany_38 : decode cX12_waysMany 38 = .ok (.iload_n 1, 1) := zo_27 (by decide +kernel)
theorem dX12_waysMany_39 : decode cX12_waysMany 39 = .ok (.ireturn, 1) := zo_172 (by decide +kernel)
theorem dX12_setsWay_0 : decode cX12_setsWay 0 = .ok (.iload_n 1, 1) := zo_27 (by decide +kernel)
theorem dX12_setsWay_1 : decode cX12_setsWay 1 = .ok (.istore_n 2, 1) := zo_61 (by decide +kernel)
theorem dX12_setsWay_2 : decode cX12_setsWay 2 = .ok (.aload_n 0, 1) := zo_42 (by decide +kernel)
theorem dX12_setsWay_3 : decode cX12_setsWay 3 = .ok (.getfield 169, 3) := zo_180 (by decide +kernel)
theorem dX12_setsWay_6 : decode cX12_setsWay 6 = .ok (.iconst 1, 1) := zo_4 (by decide +kernel)
theorem dX12_setsWay_7 : decode cX12_setsWay 7 = .ok (.isub, 1) := zo_100 (by decide +kernel)
theorem dX12_setsWay_8 : decode cX12_setsWay 8 = .ok (.istore_n 3, 1) := zo_62 (by decide +kernel)
theorem dX12_setsWay_9 : decode cX12_setsWay 9 = .ok (.iload_n 3, 1) := zo_29 (by decide +kernel)
theorem dX12_setsWay_10 : decode cX12_setsWay 10 = .ok (.ifCond .lt 54, 3) := zo_155 (by decide +kernel)
theorem dX12_setsWay_13 : decode cX12_setsWay 13 = .ok (.aload_n 0, 1) := zo_42 (by decide +kernel)
theorem dX12_setsWay_14 : decode cX12_setsWay 14 = .ok (.getfield 20, 3) := zo_180 (by decide +kernel)
theorem dX12_setsWay_17 : decode cX12_setsWay 17 = .ok (.iload_n 3, 1) := zo_29 (by decide +kernel)
theorem dX12_setsWay_18 : decode cX12_setsWay 18 = .ok (.aload_n 0, 1) := zo_42 (by decide +kernel)
theorem dX12_setsWay_19 : decode cX12_setsWay 19 = .ok (.iload_n 3, 1) := zo_29 (by decide +kernel)
theorem dX12_setsWay_20 : decode cX12_setsWay 20 = .ok (.invokevirtual 223, 3) := zo_182 (by decide +kernel)
theorem dX12_setsWay_23 : decode cX12_setsWay 23 = .ok (.ifCond .eq 13, 3) := zo_153 (by decide +kernel)
theorem dX12_setsWay_26 : decode cX12_setsWay 26 = .ok (.iload_n 2, 1) := zo_28 (by decide +kernel)
theorem dX12_setsWay_27 : decode cX12_setsWay 27 = .ok (.aload_n 0, 1) := zo_42 (by decide +kernel)
theorem dX12_setsWay_28 : decode cX12_setsWay 28 = .ok (.iload_n 3, 1) := zo_29 (by decide +kernel)
theorem dX12_setsWay_29 : decode cX12_setsWay 29 = .ok (.invokevirtual 181, 3) := zo_182 (by decide +kernel)
theorem dX12_setsWay_32 : decode cX12_setsWay 32 = .ok (.irem, 1) := zo_112 (by decide +kernel)
theorem dX12_setsWay_33 : decode cX12_setsWay 33 = .ok (.goto 4, 3) := zo_167 (by decide +kernel)
theorem dX12_setsWay_36 : decode cX12_setsWay 36 = .ok (.iconst 0, 1) := zo_3 (by decide +kernel)
theorem dX12_setsWay_37 : decode cX12_setsWay 37 = .ok (.iastore, 1) := zo_79 (by decide +kernel)
theorem dX12_setsWay_38 : decode cX12_setsWay 38 = .ok (.iload_n 2, 1) := zo_28 (by decide +kernel)
theorem dX12_setsWay_39 : decode cX12_setsWay 39 = .ok (.aload_n 0, 1) := zo_42 (by decide +kernel)
theorem dX12_setsWay_40 : decode cX12_setsWay 40 = .ok (.iload_n 3, 1) := zo_29 (by decide +kernel)
theorem dX12_setsWay_41 : decode cX12_setsWay 41 = .ok (.invokevirtual 223, 3) := zo_182 (by decide +kernel)
theorem dX12_setsWay_44 : decode cX12_setsWay 44 = .ok (.ifCond .eq 11, 3) := zo_153 (by decide +kernel)
theorem dX12_setsWay_47 : decode cX12_setsWay 47 = .ok (.aload_n 0, 1) := zo_42 (by decide +kernel)
theorem dX12_setsWay_48 : decode cX12_setsWay 48 = .ok (.iload_n 3, 1) := zo_29 (by decide +kernel)
theorem dX12_setsWay_49 : decode cX12_setsWay 49 = .ok (.invokevirtual 181, 3) := zo_182 (by decide +kernel)
theorem dX12_setsWay_52 : decode cX12_setsWay 52 = .ok (.goto 4, 3) := zo_167 (by decide +kernel)
theorem dX12_setsWay_55 : decode cX12_setsWay 55 = .ok (.iconst 1, 1) := zo_4 (by decide +kernel)
theorem dX12_setsWay_56 : decode cX12_setsWay 56 = .ok (.idiv, 1) := zo_108 (by decide +kernel)
theorem dX12_setsWay_57 : decode cX12_setsWay 57 = .ok (.istore_n 2, 1) := zo_61 (by decide +kernel)
theorem dX12_setsWay_58 : decode cX12_setsWay 58 = .ok (.iinc 3 (-1), 3) := zo_132 (by decide +kernel)
theorem dX12_setsWay_61 : decode cX12_setsWay 61 = .ok (.goto (-52), 3) := zo_167 (by decide +kernel)
theorem dX12_setsWay_64 : decode cX12_setsWay 64 = .ok (.return_, 1) := zo_177 (by decide +kernel)
set_option maxHeartbeats 4000000 in
set_option maxRecDepth 100000 in
/-- puts -/
theorem c_m_puts (l : Launch) (T : zTy) (mo : Nat) (m_all : Nat) (m_has : Nat) (i_size : Int32) (i_next : Int32) (i_where : Int32) (i_token : Int32) (i_number : Int32) (i_word : Int32) (i_wrong : Int32) (i_farCrossing : Int32) (m_read : Nat) (i_z0 : Int32) (i_crossings : Int32) (i_inns : Int32) (m_posts : Nat) (m_shut : Nat) (m_here : Nat) (i_steps : Int32) (i_done : Int32) (i_at : Int32) (i_gone : Int32) (m_was : Nat) (m_came : Nat) (m_seenAt : Nat) (m_rowWorth : Nat) (m_farBy : Nat) (m_used : Nat) (i_everywhere : Int32) (i_again0 : Int32) (i_d0 : Int32) (i_never : Int32) (i_firstCame : Int32) (i_longRun : Int32) (i_moved : Int32) (i_crowd : Int32) (i_l0 : Int32) (i_fitMany : Int32) (i_fitLeast : Int32) (i_fitMost : Int32) (m_fitPost : Nat) (m_fitEnd : Nat) (m_keptPosts : Nat) (i_x0 : Int32) (f_was : Nat → Int32) (c_ : Int32) : zMv l T yX12_puts cX12_puts 3 1 0 0 [.ref mo, .int c_] [[zO11 mo m_all m_has i_size i_next i_where i_token i_number i_word i_wrong i_farCrossing m_read i_z0 i_crossings i_inns m_posts m_shut m_here i_steps i_done i_at i_gone m_was m_came m_seenAt m_rowWorth m_farBy m_used i_everywhere i_again0 i_d0 i_never i_firstCame i_longRun i_moved i_crowd i_l0 i_fitMany i_fitLeast i_fitMost m_fitPost m_fitEnd m_keptPosts i_x0], [zAr T 0 m_was 7 f_was]] (fun bs => ∃ (g_was : Nat → Int32), bs = [[zO11 mo m_all m_has i_size i_next i_where i_token i_number i_word i_wrong i_farCrossing m_read i_z0 i_crossings i_inns m_posts m_shut m_here i_steps i_done c_ 0 m_was m_came m_seenAt m_rowWorth m_farBy m_used i_everywhere i_again0 i_d0 i_never i_firstCame i_longRun i_moved i_crowd i_l0 i_fitMany i_fitLeast i_fitMost m_fitPost m_fitEnd m_keptPosts i_x0], [zAr T 0 m_was 7 g_was]]) := by
  refine zMv_of (own := RX12) (by decide) rfl (Nat.le_of_ble_eq_true rfl) ?_
  intro p e s m args below meth c A ls C hr hlocks hnm hAe G hl
  refine zHide (fun Qz_ hQz_ => ?_)
  have hx := C.1
  have hb := C.2.1
  have hl : lv_has ls 3 [(0, .ref mo), (1, .int c_)] := hl
  refine lv_aload_n hx hb dX12_puts_0 rfl (lv_at hl 0 rfl) ?_
  refine lv_iload_n hx hb dX12_puts_1 rfl (lv_at hl 1 rfl) ?_
  refine z_put C G clX12 0 rfl 19 (by decide) m_fl_RX12_202 rfl rfl rfl (Nat.le_of_ble_eq_true rfl) dX12_puts_2 (fun H locs G => ?_)
  have G : zS T A s.heap s [[zO11 mo m_all m_has i_size i_next i_where i_token i_number i_word i_wrong i_farCrossing m_read i_z0 i_crossings i_inns m_posts m_shut m_here i_steps i_done c_ i_gone m_was m_came m_seenAt m_rowWorth m_farBy m_used i_everywhere i_again0 i_d0 i_never i_firstCame i_longRun i_moved i_crowd i_l0 i_fitMany i_fitLeast i_fitMost m_fitPost m_fitEnd m_keptPosts i_x0], [zAr T 0 m_was 7 f_was]] _ _ := G
  refine lv_aload_n hx hb dX12_puts_5 rfl (lv_at hl 0 rfl) ?_
  refine lv_iconst (v := 0) hx hb dX12_puts_6 (by decide) ?_
  refine z_put C G clX12 0 rfl 20 (by decide) m_fl_RX12_208 rfl rfl rfl (Nat.le_of_ble_eq_true rfl) dX12_puts_7 (fun H locs G => ?_)
  have G : zS T A s.heap s [[zO11 mo m_all m_has i_size i_next i_where i_token i_number i_word i_wrong i_farCrossing m_read i_z0 i_crossings i_inns m_posts m_shut m_here i_steps i_done c_ 0 m_was m_came m_seenAt m_rowWorth m_farBy m_used i_everywhere i_again0 i_d0 i_never i_firstCame i_longRun i_moved i_crowd i_l0 i_fitMany i_fitLeast i_fitMost m_fitPost m_fitEnd m_keptPosts i_x0], [zAr T 0 m_was 7 f_was]] _ _ := G
  refine lv_iconst (v := 0) hx hb dX12_puts_10 (by decide) ?_
  refine lv_istore_n (lv' := [(2, .int 0), (0, .ref mo), (1, .int c_)]) hx hb dX12_puts_11 rfl hl (by decide) (zLvf_h rfl) (fun ls hl => ?_)
  refine z_lp2 (T := T) 12 (fun (i : Nat) (x : Nat → Int32) => [[zO11 mo m_all m_has i_size i_next i_where i_token i_number i_word i_wrong i_farCrossing m_read i_z0 i_crossings i_inns m_posts m_shut m_here i_steps i_done c_ 0 m_was m_came m_seenAt m_rowWorth m_farBy m_used i_everywhere i_again0 i_d0 i_never i_firstCame i_longRun i_moved i_crowd i_l0 i_fitMany i_fitLeast i_fitMost m_fitPost m_fitEnd m_keptPosts i_x0], [zAr T 0 m_was 7 x]]) (fun (i : Nat) (x : Nat → Int32) => [(2, .int (nI i)), (0, .ref mo), (1, .int c_)]) (fun (i : Nat) (x : Nat → Int32) => i ≤ 7) (fun (i : Nat) (x : Nat → Int32) => 7 - i) ?_ 0 f_was (show 0 ≤ 7 from by omega) G (lv_sub hl [0, 1, 2] rfl)
  intro i x hi ih_12 H locs ls G hl
  replace hi : i ≤ 7 := hi
  replace G : zS T A s.heap s [[zO11 mo m_all m_has i_size i_next i_where i_token i_number i_word i_wrong i_farCrossing m_read i_z0 i_crossings i_inns m_posts m_shut m_here i_steps i_done c_ 0 m_was m_came m_seenAt m_rowWorth m_farBy m_used i_everywhere i_again0 i_d0 i_never i_firstCame i_longRun i_moved i_crowd i_l0 i_fitMany i_fitLeast i_fitMost m_fitPost m_fitEnd m_keptPosts i_x0], [zAr T 0 m_was 7 x]] _ _ := G
  replace hl : lv_has ls 3 [(2, .int (nI i)), (0, .ref mo), (1, .int c_)] := hl
  refine lv_iload_n hx hb dX12_puts_12 rfl (lv_at hl 0 rfl) ?_
  refine lv_bipush (v := 7) hx hb dX12_puts_13 (by decide) ?_
  refine lv_icmp_ge (tgt := 40) hx hb dX12_puts_15 (by decide) (fun c_1 => ?_) (fun c_1 => ?_)
  · have c_1n : 7 ≤ i := (nI_leI (a := 7) (b := i) (by omega) (by omega)).mp c_1
    exact z_back hQz_ (z_vret C hr hlocks G (Nat.le_of_ble_eq_true rfl) (Nat.le_of_ble_eq_true rfl) dX12_puts_40 ⟨x, rfl⟩)
  · have c_1n : ¬ 7 ≤ i := fun q => c_1 ((nI_leI (a := 7) (b := i) (by omega) (by omega)).mpr q)
    refine lv_aload_n hx hb dX12_puts_18 rfl (lv_at hl 1 rfl) ?_
    refine z_get C G clX12 0 rfl 21 (by decide) m_fl_RX12_29 rfl dX12_puts_19 ?_
    refine lv_iload_n hx hb dX12_puts_22 rfl (lv_at hl 0 rfl) ?_
    refine lv_iload_n hx hb dX12_puts_23 rfl (lv_at hl 0 rfl) ?_
    refine lv_iload_n hx hb dX12_puts_24 rfl (lv_at hl 2 rfl) ?_
    refine lv_icmp_ne (tgt := 32) hx hb dX12_puts_25 (by decide) (fun c_2 => ?_) (fun c_2 => ?_)
    · have c_2n : ¬ (i : Int) = c_.toInt := fun q => c_2 ((fa_eq _ _).mpr (by rw [nI_toInt (n := i) (by omega)]; exact q))
      refine lv_iconst (v := 0) hx hb dX12_puts_32 (by decide) ?_
      refine z_ist C G 1 rfl (vp_in_nI (by omega) (by decide)) dX12_puts_33 (fun H locs G => ?_)
      rw [nI_clamp (by omega)] at G
      have G : zS T A s.heap s [[zO11 mo m_all m_has i_size i_next i_where i_token i_number i_word i_wrong i_farCrossing m_read i_z0 i_crossings i_inns m_posts m_shut m_here i_steps i_done c_ 0 m_was m_came m_seenAt m_rowWorth m_farBy m_used i_everywhere i_again0 i_d0 i_never i_firstCame i_longRun i_moved i_crowd i_l0 i_fitMany i_fitLeast i_fitMost m_fitPost m_fitEnd m_keptPosts i_x0], [zAr T 0 m_was 7 (upd x i 0)]] _ _ := G
      refine lv_iinc (v := nI (i + 1)) (lv' := [(2, .int (nI (i + 1))), (0, .ref mo), (1, .int c_)]) hx hb dX12_puts_34 hl (k := 0) rfl (z_inc i 1) (by decide) (zLvf_h rfl) (fun ls hl => ?_)
      refine lv_goto (tgt := 12) hx hb dX12_puts_37 (by decide) ?_
      exact ih_12 (i + 1) (upd x i 0) (show (i + 1) ≤ 7 from by omega) (show 7 - (i + 1) < 7 - i from by omega) _ _ ls G (lv_sub hl [0, 1, 2] rfl)
    · have c_2n : (i : Int) = c_.toInt := by have q := (fa_eq _ _).mp c_2; rw [nI_toInt (n := i) (by omega)] at q; exact q
      refine lv_iconst (v := 1) hx hb dX12_puts_28 (by decide) ?_
      refine lv_goto (tgt := 33) hx hb dX12_puts_29 (by decide) ?_
      refine z_ist C G 1 rfl (vp_in_nI (by omega) (by decide)) dX12_puts_33 (fun H locs G => ?_)
      rw [nI_clamp (by omega)] at G
      have G : zS T A s.heap s [[zO11 mo m_all m_has i_size i_next i_where i_token i_number i_word i_wrong i_farCrossing m_read i_z0 i_crossings i_inns m_posts m_shut m_here i_steps i_done c_ 0 m_was m_came m_seenAt m_rowWorth m_farBy m_used i_everywhere i_again0 i_d0 i_never i_firstCame i_longRun i_moved i_crowd i_l0 i_fitMany i_fitLeast i_fitMost m_fitPost m_fitEnd m_keptPosts i_x0], [zAr T 0 m_was 7 (upd x i 1)]] _ _ := G
      refine lv_iinc (v := nI (i + 1)) (lv' := [(2, .int (nI (i + 1))), (0, .ref mo), (1, .int c_)]) hx hb dX12_puts_34 hl (k := 0) rfl (z_inc i 1) (by decide) (zLvf_h rfl) (fun ls hl => ?_)
      refine lv_goto (tgt := 12) hx hb dX12_puts_37 (by decide) ?_
      exact ih_12 (i + 1) (upd x i 1) (show (i + 1) ≤ 7 from by omega) (show 7 - (i + 1) < 7 - i from by omega) _ _ ls G (lv_sub hl [0, 1, 2] rfl)
set_option maxHeartbeats 4000000 in
set_option maxRecDepth 100000 in
/-- c_m_walks -/
theorem c_m_walks (l : Launch) (T : zTy) (mo : Nat) (m_all : Nat) (m_has : Nat) (i_size : Int32) (i_next : Int32) (i_where : Int32) (i_token : Int32) (i_number : Int32) (i_word : Int32) (i_wrong : Int32) (i_farCrossing : Int32) (m_read : Nat) (i_z0 : Int32) (i_crossings : Int32) (i_inns : Int32) (m_posts : Nat) (m_shut : Nat) (m_here : Nat) (i_steps : Int32) (i_done : Int32) (i_at : Int32) (i_gone : Int32) (m_was : Nat) (m_came : Nat) (m_seenAt : Nat) (m_rowWorth : Nat) (m_farBy : Nat) (m_used : Nat) (i_everywhere : Int32) (i_again0 : Int32) (i_d0 : Int32) (i_never : Int32) (i_firstCame : Int32) (i_longRun : Int32) (i_moved : Int32) (i_crowd : Int32) (i_l0 : Int32) (i_fitMany : Int32) (i_fitLeast : Int32) (i_fitMost : Int32) (m_fitPost : Nat) (m_fitEnd : Nat) (m_keptPosts : Nat) (i_x0 : Int32) (f_all : Nat → Int32) (f_posts : Nat → Int32) (f_shut : Nat → Int32) (f_was : Nat → Int32) (c_ : Int32) (hL : zML f_all i_z0 i_crossings) (hc0 : 0 ≤ c_.toInt) (hc6 : c_.toInt ≤ 6) (hP : zMP f_posts) : zMi l T yX12_walks cX12_walks 3 (some .boolean) 4 0 0 [.ref mo, .int c_] [[zO11 mo m_all m_has i_size i_next i_where i_token i_number i_word i_wrong i_farCrossing m_read i_z0 i_crossings i_inns m_posts m_shut m_here i_steps i_done i_at i_gone m_was m_came m_seenAt m_rowWorth m_farBy m_used i_everywhere i_again0 i_d0 i_never i_firstCame i_longRun i_moved i_crowd i_l0 i_fitMany i_fitLeast i_fitMost m_fitPost m_fitEnd m_keptPosts i_x0], [zAr T 0 m_all 3952 f_all], [zAr T 0 m_posts 7 f_posts], [zAr T 0 m_shut 7 f_shut], [zAr T 0 m_was 7 f_was]] (fun (r : Int32) bs => ∃ (j_at : Int32) (j_gone : Int32) (g_posts : Nat → Int32) (g_was : Nat → Int32), bs = [[zO11 mo m_all m_has i_size i_next i_where i_token i_number i_word i_wrong i_farCrossing m_read i_z0 i_crossings i_inns m_posts m_shut m_here i_steps i_done j_at j_gone m_was m_came m_seenAt m_rowWorth m_farBy m_used i_everywhere i_again0 i_d0 i_never i_firstCame i_longRun i_moved i_crowd i_l0 i_fitMany i_fitLeast i_fitMost m_fitPost m_fitEnd m_keptPosts i_x0], [zAr T 0 m_all 3952 f_all], [zAr T 0 m_posts 7 g_posts], [zAr T 0 m_shut 7 f_shut], [zAr T 0 m_was 7 g_was]] ∧ (r = 0 ∨ r = 1) ∧ 0 ≤ j_gone.toInt ∧ j_gone.toInt ≤ 499 ∧ zMP g_posts ∧ 0 ≤ j_at.toInt ∧ j_at.toInt ≤ 6) := by
  refine zMi_of (own := RX12) (by decide) rfl (Nat.le_of_ble_eq_true rfl) ?_
  intro p e s m args below meth c A ls C hr hlocks hnm hAe G hl
  refine zHide (fun Qz_ hQz_ => ?_)
  have hx := C.1
  have hb := C.2.1
  have hl : lv_has ls 3 [(0, .ref mo), (1, .int c_)] := hl
  have hz := hL.1
  have hcr := hL.cr
  refine lv_aload_n hx hb dX12_walks_0 rfl (lv_at hl 0 rfl) ?_
  refine lv_iload_n hx hb dX12_walks_1 rfl (lv_at hl 1 rfl) ?_
  refine z_Vv (bc := [[zO11 mo m_all m_has i_size i_next i_where i_token i_number i_word i_wrong i_farCrossing m_read i_z0 i_crossings i_inns m_posts m_shut m_here i_steps i_done i_at i_gone m_was m_came m_seenAt m_rowWorth m_farBy m_used i_everywhere i_again0 i_d0 i_never i_firstCame i_longRun i_moved i_crowd i_l0 i_fitMany i_fitLeast i_fitMost m_fitPost m_fitEnd m_keptPosts i_x0], [zAr T 0 m_was 7 f_was]]) (br := [[zAr T 0 m_all 3952 f_all], [zAr T 0 m_posts 7 f_posts], [zAr T 0 m_shut 7 f_shut]]) (As := [.int c_]) (rest := []) C G (c_m_puts l T mo m_all m_has i_size i_next i_where i_token i_number i_word i_wrong i_farCrossing m_read i_z0 i_crossings i_inns m_posts m_shut m_here i_steps i_done i_at i_gone m_was m_came m_seenAt m_rowWorth m_farBy m_used i_everywhere i_again0 i_d0 i_never i_firstCame i_longRun i_moved i_crowd i_l0 i_fitMany i_fitLeast i_fitMost m_fitPost m_fitEnd m_keptPosts i_x0 f_was c_) (kV_RX12_211 C.2.2.2.2 (Nat.le_of_ble_eq_true rfl) (Nat.le_of_ble_eq_true rfl)) [0, 4] [0, 3] rfl rfl (ci := 11) (qc := (RX12, TX12, 43)) rfl rfl (List.mem_flatten.mpr ⟨_, List.mem_of_getElem? (i := 0) rfl, List.mem_cons_self⟩) rfl rfl hl.1 dX12_walks_2 (Nat.le_of_ble_eq_true rfl) (Nat.le_of_ble_eq_true rfl) (fun b1 H locs hw G => ?_)
  refine zEx1 hw ?_
  intro g_was_1 hbs9
  clear hw
  subst hbs9
  have G : zS T A s.heap s [[zAr T 0 m_all 3952 f_all], [zAr T 0 m_posts 7 f_posts], [zAr T 0 m_shut 7 f_shut], [zO11 mo m_all m_has i_size i_next i_where i_token i_number i_word i_wrong i_farCrossing m_read i_z0 i_crossings i_inns m_posts m_shut m_here i_steps i_done c_ 0 m_was m_came m_seenAt m_rowWorth m_farBy m_used i_everywhere i_again0 i_d0 i_never i_firstCame i_longRun i_moved i_crowd i_l0 i_fitMany i_fitLeast i_fitMost m_fitPost m_fitEnd m_keptPosts i_x0], [zAr T 0 m_was 7 g_was_1]] _ _ := G
  refine lv_iconst (v := 1) hx hb dX12_walks_5 (by decide) ?_
  refine lv_istore_n (lv' := [(2, .int 1), (0, .ref mo), (1, .int c_)]) hx hb dX12_walks_6 rfl hl (by decide) (zLvf_h rfl) (fun ls hl => ?_)
  refine z_lp5 (T := T) 7 (fun (x : Int32) (y : Int32) (b : Int32) (xp : Nat → Int32) (xw : Nat → Int32) => [[zAr T 0 m_all 3952 f_all], [zAr T 0 m_posts 7 xp], [zAr T 0 m_shut 7 f_shut], [zO11 mo m_all m_has i_size i_next i_where i_token i_number i_word i_wrong i_farCrossing m_read i_z0 i_crossings i_inns m_posts m_shut m_here i_steps i_done x y m_was m_came m_seenAt m_rowWorth m_farBy m_used i_everywhere i_again0 i_d0 i_never i_firstCame i_longRun i_moved i_crowd i_l0 i_fitMany i_fitLeast i_fitMost m_fitPost m_fitEnd m_keptPosts i_x0], [zAr T 0 m_was 7 xw]]) (fun (x : Int32) (y : Int32) (b : Int32) (xp : Nat → Int32) (xw : Nat → Int32) => [(2, .int b), (0, .ref mo), (1, .int c_)]) (fun (x : Int32) (y : Int32) (b : Int32) (xp : Nat → Int32) (xw : Nat → Int32) => 0 ≤ x.toInt ∧ x.toInt ≤ 6 ∧ 0 ≤ y.toInt ∧ y.toInt ≤ 499 ∧ zMP xp ∧ 0 ≤ b.toInt ∧ b.toInt ≤ 1) (fun (x : Int32) (y : Int32) (b : Int32) (xp : Nat → Int32) (xw : Nat → Int32) => (499 - y.toInt).toNat + b.toInt.toNat) ?_ c_ 0 1 f_posts g_was_1 (show 0 ≤ c_.toInt ∧ c_.toInt ≤ 6 ∧ 0 ≤ (0 : Int32).toInt ∧ (0 : Int32).toInt ≤ 499 ∧ zMP f_posts ∧ 0 ≤ (1 : Int32).toInt ∧ (1 : Int32).toInt ≤ 1 from ⟨by omega, by omega, by decide, by decide, hP, by decide⟩) G (lv_sub hl [0, 1, 2] rfl)
  intro x y b xp xw hI9 ih_7 H locs ls G hl
  replace hI9 : 0 ≤ x.toInt ∧ x.toInt ≤ 6 ∧ 0 ≤ y.toInt ∧ y.toInt ≤ 499 ∧ zMP xp ∧ 0 ≤ b.toInt ∧ b.toInt ≤ 1 := hI9
  refine zAn6 hI9 ?_
  intro hx0 hx6 hy0 hy9 hQ hb0
  clear hI9
  replace G : zS T A s.heap s [[zAr T 0 m_all 3952 f_all], [zAr T 0 m_posts 7 xp], [zAr T 0 m_shut 7 f_shut], [zO11 mo m_all m_has i_size i_next i_where i_token i_number i_word i_wrong i_farCrossing m_read i_z0 i_crossings i_inns m_posts m_shut m_here i_steps i_done x y m_was m_came m_seenAt m_rowWorth m_farBy m_used i_everywhere i_again0 i_d0 i_never i_firstCame i_longRun i_moved i_crowd i_l0 i_fitMany i_fitLeast i_fitMost m_fitPost m_fitEnd m_keptPosts i_x0], [zAr T 0 m_was 7 xw]] _ _ := G
  replace hl : lv_has ls 3 [(2, .int b), (0, .ref mo), (1, .int c_)] := hl
  refine lv_aload_n hx hb dX12_walks_7 rfl (lv_at hl 1 rfl) ?_
  refine z_get C G clX12 3 rfl 20 (by decide) m_fl_RX12_208 rfl dX12_walks_8 ?_
  refine lv_sipush (v := 499) hx hb dX12_walks_11 (by decide) ?_
  refine lv_icmp_ge (tgt := 29) hx hb dX12_walks_14 (by decide) (fun c_3 => ?_) (fun c_3 => ?_)
  · have c_3n : (499 : Int) ≤ y.toInt := (fa_le _ _).mp c_3
    refine lv_aload_n hx hb dX12_walks_29 rfl (lv_at hl 1 rfl) ?_
    refine lv_aload_n hx hb dX12_walks_30 rfl (lv_at hl 1 rfl) ?_
    refine z_get C G clX12 3 rfl 19 (by decide) m_fl_RX12_202 rfl dX12_walks_31 ?_
    refine z_Vi (bc := [[zO11 mo m_all m_has i_size i_next i_where i_token i_number i_word i_wrong i_farCrossing m_read i_z0 i_crossings i_inns m_posts m_shut m_here i_steps i_done x y m_was m_came m_seenAt m_rowWorth m_farBy m_used i_everywhere i_again0 i_d0 i_never i_firstCame i_longRun i_moved i_crowd i_l0 i_fitMany i_fitLeast i_fitMost m_fitPost m_fitEnd m_keptPosts i_x0]]) (br := [[zAr T 0 m_all 3952 f_all], [zAr T 0 m_posts 7 xp], [zAr T 0 m_shut 7 f_shut], [zAr T 0 m_was 7 xw]]) (As := [.int x]) (rest := []) C G (c_m_isInn l T mo m_all m_has i_size i_next i_where i_token i_number i_word i_wrong i_farCrossing m_read i_z0 i_crossings i_inns m_posts m_shut m_here i_steps i_done x y m_was m_came m_seenAt m_rowWorth m_farBy m_used i_everywhere i_again0 i_d0 i_never i_firstCame i_longRun i_moved i_crowd i_l0 i_fitMany i_fitLeast i_fitMost m_fitPost m_fitEnd m_keptPosts i_x0 x) (kV_RX12_178 C.2.2.2.2 (Nat.le_of_ble_eq_true rfl) (Nat.le_of_ble_eq_true rfl)) [3] [3] rfl rfl (ci := 11) (qc := (RX12, TX12, 43)) rfl rfl (List.mem_flatten.mpr ⟨_, List.mem_of_getElem? (i := 0) rfl, List.mem_cons_self⟩) rfl rfl hl.1 dX12_walks_34 (Nat.le_of_ble_eq_true rfl) (Nat.le_of_ble_eq_true rfl) (fun r_5 b1 H locs hw G => ?_)
    refine zAn2 hw ?_
    intro hbs9 hc_4
    clear hw
    subst hbs9
    have G : zS T A s.heap s [[zAr T 0 m_all 3952 f_all], [zAr T 0 m_posts 7 xp], [zAr T 0 m_shut 7 f_shut], [zAr T 0 m_was 7 xw], [zO11 mo m_all m_has i_size i_next i_where i_token i_number i_word i_wrong i_farCrossing m_read i_z0 i_crossings i_inns m_posts m_shut m_here i_steps i_done x y m_was m_came m_seenAt m_rowWorth m_farBy m_used i_everywhere i_again0 i_d0 i_never i_firstCame i_longRun i_moved i_crowd i_l0 i_fitMany i_fitLeast i_fitMost m_fitPost m_fitEnd m_keptPosts i_x0]] _ _ := G
    rcases hc_4 with ⟨rfl, h_6⟩ | ⟨rfl, h_7⟩
    · have h_6 : zInn i_inns x := h_6
      have G := G.sub (bs' := [[zO11 mo m_all m_has i_size i_next i_where i_token i_number i_word i_wrong i_farCrossing m_read i_z0 i_crossings i_inns m_posts m_shut m_here i_steps i_done x y m_was m_came m_seenAt m_rowWorth m_farBy m_used i_everywhere i_again0 i_d0 i_never i_firstCame i_longRun i_moved i_crowd i_l0 i_fitMany i_fitLeast i_fitMost m_fitPost m_fitEnd m_keptPosts i_x0], [zAr T 0 m_all 3952 f_all], [zAr T 0 m_posts 7 xp], [zAr T 0 m_shut 7 f_shut], [zAr T 0 m_was 7 xw]]) [4, 0, 1, 2, 3] rfl
      exact z_back hQz_ (z_zret C hr hlocks G (Nat.le_of_ble_eq_true rfl) (Nat.le_of_ble_eq_true rfl) dX12_walks_37 rfl ⟨x, y, xp, xw, rfl, (Or.inr rfl), (by first | with_reducible assumption | omega | trivial | assumption), (by first | with_reducible assumption | omega | trivial | assumption), (by first | with_reducible assumption | omega | trivial | assumption), (by first | with_reducible assumption | omega | trivial | assumption), (by first | with_reducible assumption | omega | trivial | assumption)⟩)
    · have h_7 : ¬ zInn i_inns x := h_7
      have G := G.sub (bs' := [[zO11 mo m_all m_has i_size i_next i_where i_token i_number i_word i_wrong i_farCrossing m_read i_z0 i_crossings i_inns m_posts m_shut m_here i_steps i_done x y m_was m_came m_seenAt m_rowWorth m_farBy m_used i_everywhere i_again0 i_d0 i_never i_firstCame i_longRun i_moved i_crowd i_l0 i_fitMany i_fitLeast i_fitMost m_fitPost m_fitEnd m_keptPosts i_x0], [zAr T 0 m_all 3952 f_all], [zAr T 0 m_posts 7 xp], [zAr T 0 m_shut 7 f_shut], [zAr T 0 m_was 7 xw]]) [4, 0, 1, 2, 3] rfl
      exact z_back hQz_ (z_zret C hr hlocks G (Nat.le_of_ble_eq_true rfl) (Nat.le_of_ble_eq_true rfl) dX12_walks_37 rfl ⟨x, y, xp, xw, rfl, (Or.inl rfl), (by first | with_reducible assumption | omega | trivial | assumption), (by first | with_reducible assumption | omega | trivial | assumption), (by first | with_reducible assumption | omega | trivial | assumption), (by first | with_reducible assumption | omega | trivial | assumption), (by first | with_reducible assumption | omega | trivial | assumption)⟩)
  · have c_3n : ¬ (499 : Int) ≤ y.toInt := fun q => c_3 ((fa_le _ _).mpr q)
    refine lv_iload_n hx hb dX12_walks_17 rfl (lv_at hl 0 rfl) ?_
    refine lv_if_eq (tgt := 29) hx hb dX12_walks_18 (by decide) (fun c_8 => ?_) (fun c_8 => ?_)
    · have c_8n : b.toInt = (0 : Int) := (fa_eq _ _).mp c_8
      refine lv_aload_n hx hb dX12_walks_29 rfl (lv_at hl 1 rfl) ?_
      refine lv_aload_n hx hb dX12_walks_30 rfl (lv_at hl 1 rfl) ?_
      refine z_get C G clX12 3 rfl 19 (by decide) m_fl_RX12_202 rfl dX12_walks_31 ?_
      refine z_Vi (bc := [[zO11 mo m_all m_has i_size i_next i_where i_token i_number i_word i_wrong i_farCrossing m_read i_z0 i_crossings i_inns m_posts m_shut m_here i_steps i_done x y m_was m_came m_seenAt m_rowWorth m_farBy m_used i_everywhere i_again0 i_d0 i_never i_firstCame i_longRun i_moved i_crowd i_l0 i_fitMany i_fitLeast i_fitMost m_fitPost m_fitEnd m_keptPosts i_x0]]) (br := [[zAr T 0 m_all 3952 f_all], [zAr T 0 m_posts 7 xp], [zAr T 0 m_shut 7 f_shut], [zAr T 0 m_was 7 xw]]) (As := [.int x]) (rest := []) C G (c_m_isInn l T mo m_all m_has i_size i_next i_where i_token i_number i_word i_wrong i_farCrossing m_read i_z0 i_crossings i_inns m_posts m_shut m_here i_steps i_done x y m_was m_came m_seenAt m_rowWorth m_farBy m_used i_everywhere i_again0 i_d0 i_never i_firstCame i_longRun i_moved i_crowd i_l0 i_fitMany i_fitLeast i_fitMost m_fitPost m_fitEnd m_keptPosts i_x0 x) (kV_RX12_178 C.2.2.2.2 (Nat.le_of_ble_eq_true rfl) (Nat.le_of_ble_eq_true rfl)) [3] [3] rfl rfl (ci := 11) (qc := (RX12, TX12, 43)) rfl rfl (List.mem_flatten.mpr ⟨_, List.mem_of_getElem? (i := 0) rfl, List.mem_cons_self⟩) rfl rfl hl.1 dX12_walks_34 (Nat.le_of_ble_eq_true rfl) (Nat.le_of_ble_eq_true rfl) (fun r_10 b1 H locs hw G => ?_)
      refine zAn2 hw ?_
      intro hbs9 hc_9
      clear hw
      subst hbs9
      have G : zS T A s.heap s [[zAr T 0 m_all 3952 f_all], [zAr T 0 m_posts 7 xp], [zAr T 0 m_shut 7 f_shut], [zAr T 0 m_was 7 xw], [zO11 mo m_all m_has i_size i_next i_where i_token i_number i_word i_wrong i_farCrossing m_read i_z0 i_crossings i_inns m_posts m_shut m_here i_steps i_done x y m_was m_came m_seenAt m_rowWorth m_farBy m_used i_everywhere i_again0 i_d0 i_never i_firstCame i_longRun i_moved i_crowd i_l0 i_fitMany i_fitLeast i_fitMost m_fitPost m_fitEnd m_keptPosts i_x0]] _ _ := G
      rcases hc_9 with ⟨rfl, h_11⟩ | ⟨rfl, h_12⟩
      · have h_11 : zInn i_inns x := h_11
        have G := G.sub (bs' := [[zO11 mo m_all m_has i_size i_next i_where i_token i_number i_word i_wrong i_farCrossing m_read i_z0 i_crossings i_inns m_posts m_shut m_here i_steps i_done x y m_was m_came m_seenAt m_rowWorth m_farBy m_used i_everywhere i_again0 i_d0 i_never i_firstCame i_longRun i_moved i_crowd i_l0 i_fitMany i_fitLeast i_fitMost m_fitPost m_fitEnd m_keptPosts i_x0], [zAr T 0 m_all 3952 f_all], [zAr T 0 m_posts 7 xp], [zAr T 0 m_shut 7 f_shut], [zAr T 0 m_was 7 xw]]) [4, 0, 1, 2, 3] rfl
        exact z_back hQz_ (z_zret C hr hlocks G (Nat.le_of_ble_eq_true rfl) (Nat.le_of_ble_eq_true rfl) dX12_walks_37 rfl ⟨x, y, xp, xw, rfl, (Or.inr rfl), (by first | with_reducible assumption | omega | trivial | assumption), (by first | with_reducible assumption | omega | trivial | assumption), (by first | with_reducible assumption | omega | trivial | assumption), (by first | with_reducible assumption | omega | trivial | assumption), (by first | with_reducible assumption | omega | trivial | assumption)⟩)
      · have h_12 : ¬ zInn i_inns x := h_12
        have G := G.sub (bs' := [[zO11 mo m_all m_has i_size i_next i_where i_token i_number i_word i_wrong i_farCrossing m_read i_z0 i_crossings i_inns m_posts m_shut m_here i_steps i_done x y m_was m_came m_seenAt m_rowWorth m_farBy m_used i_everywhere i_again0 i_d0 i_never i_firstCame i_longRun i_moved i_crowd i_l0 i_fitMany i_fitLeast i_fitMost m_fitPost m_fitEnd m_keptPosts i_x0], [zAr T 0 m_all 3952 f_all], [zAr T 0 m_posts 7 xp], [zAr T 0 m_shut 7 f_shut], [zAr T 0 m_was 7 xw]]) [4, 0, 1, 2, 3] rfl
        exact z_back hQz_ (z_zret C hr hlocks G (Nat.le_of_ble_eq_true rfl) (Nat.le_of_ble_eq_true rfl) dX12_walks_37 rfl ⟨x, y, xp, xw, rfl, (Or.inl rfl), (by first | with_reducible assumption | omega | trivial | assumption), (by first | with_reducible assumption | omega | trivial | assumption), (by first | with_reducible assumption | omega | trivial | assumption), (by first | with_reducible assumption | omega | trivial | assumption), (by first | with_reducible assumption | omega | trivial | assumption)⟩)
    · have c_8n : ¬ b.toInt = (0 : Int) := fun q => c_8 ((fa_eq _ _).mpr q)
      refine lv_aload_n hx hb dX12_walks_21 rfl (lv_at hl 1 rfl) ?_
      refine z_Vi (bc := [[zO11 mo m_all m_has i_size i_next i_where i_token i_number i_word i_wrong i_farCrossing m_read i_z0 i_crossings i_inns m_posts m_shut m_here i_steps i_done x y m_was m_came m_seenAt m_rowWorth m_farBy m_used i_everywhere i_again0 i_d0 i_never i_firstCame i_longRun i_moved i_crowd i_l0 i_fitMany i_fitLeast i_fitMost m_fitPost m_fitEnd m_keptPosts i_x0], [zAr T 0 m_all 3952 f_all], [zAr T 0 m_posts 7 xp], [zAr T 0 m_shut 7 f_shut], [zAr T 0 m_was 7 xw]]) (br := []) (As := []) (rest := []) C G (c_m_stepsOn l T mo m_all m_has i_size i_next i_where i_token i_number i_word i_wrong i_farCrossing m_read i_z0 i_crossings i_inns m_posts m_shut m_here i_steps i_done x y m_was m_came m_seenAt m_rowWorth m_farBy m_used i_everywhere i_again0 i_d0 i_never i_firstCame i_longRun i_moved i_crowd i_l0 i_fitMany i_fitLeast i_fitMost m_fitPost m_fitEnd m_keptPosts i_x0 f_all xp f_shut xw (by first | with_reducible assumption | with_reducible rfl | omega | assumption | rfl | decide) (by first | with_reducible assumption | with_reducible rfl | omega | assumption | rfl | decide) (by first | with_reducible assumption | with_reducible rfl | omega | assumption | rfl | decide) (by first | with_reducible assumption | with_reducible rfl | omega | assumption | rfl | decide) (by first | with_reducible assumption | with_reducible rfl | omega | assumption | rfl | decide) (by first | with_reducible assumption | with_reducible rfl | omega | assumption | rfl | decide)) (kV_RX12_214 C.2.2.2.2 (Nat.le_of_ble_eq_true rfl) (Nat.le_of_ble_eq_true rfl)) [3, 0, 1, 2, 4] [0, 0, 0, 0, 0] rfl rfl (ci := 11) (qc := (RX12, TX12, 43)) rfl rfl (List.mem_flatten.mpr ⟨_, List.mem_of_getElem? (i := 0) rfl, List.mem_cons_self⟩) rfl rfl hl.1 dX12_walks_22 (Nat.le_of_ble_eq_true rfl) (Nat.le_of_ble_eq_true rfl) (fun r_21 b1 H locs hw G => ?_)
      refine zEx4 hw ?_
      intro j_at_13 j_gone_14 g_posts_15 g_was_16
      refine zCu5 ?_
      intro hbs9 h_17 h_18 h_19 hc_20
      clear hw
      subst hbs9
      have G : zS T A s.heap s [[zO11 mo m_all m_has i_size i_next i_where i_token i_number i_word i_wrong i_farCrossing m_read i_z0 i_crossings i_inns m_posts m_shut m_here i_steps i_done j_at_13 j_gone_14 m_was m_came m_seenAt m_rowWorth m_farBy m_used i_everywhere i_again0 i_d0 i_never i_firstCame i_longRun i_moved i_crowd i_l0 i_fitMany i_fitLeast i_fitMost m_fitPost m_fitEnd m_keptPosts i_x0], [zAr T 0 m_all 3952 f_all], [zAr T 0 m_posts 7 g_posts_15], [zAr T 0 m_shut 7 f_shut], [zAr T 0 m_was 7 g_was_16]] _ _ := G
      rcases hc_20 with ⟨rfl, h_22⟩ | ⟨rfl, h_23⟩
      · have h_22 : j_gone_14.toInt = y.toInt + 1 := h_22
        refine lv_istore_n (lv' := [(2, .int 1), (0, .ref mo), (1, .int c_)]) hx hb dX12_walks_25 rfl hl (by decide) (zLvf_h rfl) (fun ls hl => ?_)
        refine lv_goto (tgt := 7) hx hb dX12_walks_26 (by decide) ?_
        have G := G.sub (bs' := [[zAr T 0 m_all 3952 f_all], [zAr T 0 m_posts 7 g_posts_15], [zAr T 0 m_shut 7 f_shut], [zO11 mo m_all m_has i_size i_next i_where i_token i_number i_word i_wrong i_farCrossing m_read i_z0 i_crossings i_inns m_posts m_shut m_here i_steps i_done j_at_13 j_gone_14 m_was m_came m_seenAt m_rowWorth m_farBy m_used i_everywhere i_again0 i_d0 i_never i_firstCame i_longRun i_moved i_crowd i_l0 i_fitMany i_fitLeast i_fitMost m_fitPost m_fitEnd m_keptPosts i_x0], [zAr T 0 m_was 7 g_was_16]]) [1, 2, 3, 0, 4] rfl
        exact ih_7 j_at_13 j_gone_14 1 g_posts_15 g_was_16 (show 0 ≤ j_at_13.toInt ∧ j_at_13.toInt ≤ 6 ∧ 0 ≤ j_gone_14.toInt ∧ j_gone_14.toInt ≤ 499 ∧ zMP g_posts_15 ∧ 0 ≤ (1 : Int32).toInt ∧ (1 : Int32).toInt ≤ 1 from ⟨by omega, by omega, by omega, by omega, (by first | with_reducible assumption | assumption), by decide⟩) (show (499 - j_gone_14.toInt).toNat + (1 : Int32).toInt.toNat < (499 - y.toInt).toNat + b.toInt.toNat from by have e1 : (1 : Int32).toInt = 1 := rfl; have e0 : (0 : Int32).toInt = 0 := rfl; omega) _ _ ls G (lv_sub hl [0, 1, 2] rfl)
      · have h_23 : j_gone_14.toInt = y.toInt := h_23
        refine lv_istore_n (lv' := [(2, .int 0), (0, .ref mo), (1, .int c_)]) hx hb dX12_walks_25 rfl hl (by decide) (zLvf_h rfl) (fun ls hl => ?_)
        refine lv_goto (tgt := 7) hx hb dX12_walks_26 (by decide) ?_
        have G := G.sub (bs' := [[zAr T 0 m_all 3952 f_all], [zAr T 0 m_posts 7 g_posts_15], [zAr T 0 m_shut 7 f_shut], [zO11 mo m_all m_has i_size i_next i_where i_token i_number i_word i_wrong i_farCrossing m_read i_z0 i_crossings i_inns m_posts m_shut m_here i_steps i_done j_at_13 j_gone_14 m_was m_came m_seenAt m_rowWorth m_farBy m_used i_everywhere i_again0 i_d0 i_never i_firstCame i_longRun i_moved i_crowd i_l0 i_fitMany i_fitLeast i_fitMost m_fitPost m_fitEnd m_keptPosts i_x0], [zAr T 0 m_was 7 g_was_16]]) [1, 2, 3, 0, 4] rfl
        exact ih_7 j_at_13 j_gone_14 0 g_posts_15 g_was_16 (show 0 ≤ j_at_13.toInt ∧ j_at_13.toInt ≤ 6 ∧ 0 ≤ j_gone_14.toInt ∧ j_gone_14.toInt ≤ 499 ∧ zMP g_posts_15 ∧ 0 ≤ (0 : Int32).toInt ∧ (0 : Int32).toInt ≤ 1 from ⟨by omega, by omega, by omega, by omega, (by first | with_reducible assumption | assumption), by decide⟩) (show (499 - j_gone_14.toInt).toNat + (0 : Int32).toInt.toNat < (499 - y.toInt).toNat + b.toInt.toNat from by have e1 : (1 : Int32).toInt = 1 := rfl; have e0 : (0 : Int32).toInt = 0 := rfl; omega) _ _ ls G (lv_sub hl [0, 1, 2] rfl)
theorem zQ4 {v p : Int32} {i : Nat} (hi : i < 7) (hv : 0 ≤ v.toInt ∧ v.toInt < ((4 ^ i : Nat) : Int)) (hp : 0 ≤ p.toInt ∧ p.toInt ≤ 3) : 0 ≤ (4 * v + p).toInt ∧ (4 * v + p).toInt < ((4 ^ (i + 1) : Nat) : Int) := by
  have h1 : 4 ^ i ≤ 4 ^ 6 := Nat.pow_le_pow_right (by decide) (by omega)
  have h2 : 4 ^ (i + 1) = 4 ^ i * 4 := Nat.pow_succ ..
  have h3 : (4 : Nat) ^ 6 = 4096 := by decide
  have e4 : (4 : Int32).toInt = 4 := rfl
  have a : (4 * v).toInt = 4 * v.toInt := by
    have := z_imulI (x := 4) (y := v) (by rw [e4]; omega) (by rw [e4]; omega)
    rw [this, e4]
  have b : (4 * v + p).toInt = 4 * v.toInt + p.toInt := by
    rw [z_iaddI (x := 4 * v) (y := p) (by omega) (by omega), a]
  omega
theorem zP4 {i : Nat} (hi : i ≤ 7) : ((4 ^ i : Nat) : Int) ≤ 16384 := by
  have h1 : 4 ^ i ≤ 4 ^ 7 := Nat.pow_le_pow_right (by decide) hi
  have h3 : (4 : Nat) ^ 7 = 16384 := by decide
  omega
theorem zW4 {n r : Int32} {i : Nat} (hi : i < 7) (hn : 1 ≤ n.toInt ∧ n.toInt ≤ ((4 ^ i : Nat) : Int)) (h1 : 1 ≤ r.toInt) (h4 : r.toInt ≤ 4) : 1 ≤ (n * r).toInt ∧ (n * r).toInt ≤ ((4 ^ (i + 1) : Nat) : Int) := by
  have p1 : 4 ^ i ≤ 4 ^ 6 := Nat.pow_le_pow_right (by decide) (by omega)
  have p2 : 4 ^ (i + 1) = 4 ^ i * 4 := Nat.pow_succ ..
  have p3 : (4 : Nat) ^ 6 = 4096 := by decide
  have c : r.toInt = 1 ∨ r.toInt = 2 ∨ r.toInt = 3 ∨ r.toInt = 4 := by omega
  have e : (n * r).toInt = n.toInt * r.toInt := by
    rcases c with c | c | c | c <;> exact z_imulI (by rw [c]; omega) (by rw [c]; omega)
  rw [e]
  rcases c with c | c | c | c <;> rw [c] <;> omega
theorem zDiv0 {x y : Int32} (hx : 0 ≤ x.toInt) (hy : 0 < y.toInt) : 0 ≤ (x / y).toInt := by
  have hb := Int32.toInt_lt x
  have q : 0 ≤ x.toInt.tdiv y.toInt := Int.tdiv_nonneg hx (by omega)
  have q2 : x.toInt.tdiv y.toInt ≤ x.toInt := Int.tdiv_le_self _ hx
  rw [Int32.toInt_div, Int.bmod_eq_of_le (by omega) (by omega)]
  exact q
theorem zRemA {x y : Int32} (hy : ¬ y.toInt = 0) : (x - x / y * y).toInt.natAbs < y.toInt.natAbs := by
  rw [rem_toInt, Int.natAbs_tmod]
  exact Nat.mod_lt _ (by omega)
set_option maxHeartbeats 4000000 in
set_option maxRecDepth 100000 in
/-- c_m_postsNow -/
theorem c_m_postsNow (l : Launch) (T : zTy) (mo : Nat) (m_all : Nat) (m_has : Nat) (i_size : Int32) (i_next : Int32) (i_where : Int32) (i_token : Int32) (i_number : Int32) (i_word : Int32) (i_wrong : Int32) (i_farCrossing : Int32) (m_read : Nat) (i_z0 : Int32) (i_crossings : Int32) (i_inns : Int32) (m_posts : Nat) (m_shut : Nat) (m_here : Nat) (i_steps : Int32) (i_done : Int32) (i_at : Int32) (i_gone : Int32) (m_was : Nat) (m_came : Nat) (m_seenAt : Nat) (m_rowWorth : Nat) (m_farBy : Nat) (m_used : Nat) (i_everywhere : Int32) (i_again0 : Int32) (i_d0 : Int32) (i_never : Int32) (i_firstCame : Int32) (i_longRun : Int32) (i_moved : Int32) (i_crowd : Int32) (i_l0 : Int32) (i_fitMany : Int32) (i_fitLeast : Int32) (i_fitMost : Int32) (m_fitPost : Nat) (m_fitEnd : Nat) (m_keptPosts : Nat) (i_x0 : Int32) (f_posts : Nat → Int32) (hcr : 0 ≤ i_crossings.toInt ∧ i_crossings.toInt ≤ 7) (hP : zMP f_posts) : zMi l T yX12_postsNow cX12_postsNow 3 (some .int) 1 0 0 [.ref mo] [[zO11 mo m_all m_has i_size i_next i_where i_token i_number i_word i_wrong i_farCrossing m_read i_z0 i_crossings i_inns m_posts m_shut m_here i_steps i_done i_at i_gone m_was m_came m_seenAt m_rowWorth m_farBy m_used i_everywhere i_again0 i_d0 i_never i_firstCame i_longRun i_moved i_crowd i_l0 i_fitMany i_fitLeast i_fitMost m_fitPost m_fitEnd m_keptPosts i_x0], [zAr T 0 m_posts 7 f_posts]] (fun (r : Int32) bs => bs = [[zO11 mo m_all m_has i_size i_next i_where i_token i_number i_word i_wrong i_farCrossing m_read i_z0 i_crossings i_inns m_posts m_shut m_here i_steps i_done i_at i_gone m_was m_came m_seenAt m_rowWorth m_farBy m_used i_everywhere i_again0 i_d0 i_never i_firstCame i_longRun i_moved i_crowd i_l0 i_fitMany i_fitLeast i_fitMost m_fitPost m_fitEnd m_keptPosts i_x0], [zAr T 0 m_posts 7 f_posts]] ∧ 0 ≤ r.toInt ∧ r.toInt < 16384) := by
  refine zMi_of (own := RX12) (by decide) rfl (Nat.le_of_ble_eq_true rfl) ?_
  intro p e s m args below meth c A ls C hr hlocks hnm hAe G hl
  refine zHide (fun Qz_ hQz_ => ?_)
  have hx := C.1
  have hb := C.2.1
  have hl : lv_has ls 3 [(0, .ref mo)] := hl
  refine lv_iconst (v := 0) hx hb dX12_postsNow_0 (by decide) ?_
  refine lv_istore_n (lv' := [(1, .int 0), (0, .ref mo)]) hx hb dX12_postsNow_1 rfl hl (by decide) (zLvf_h rfl) (fun ls hl => ?_)
  refine lv_iconst (v := 0) hx hb dX12_postsNow_2 (by decide) ?_
  refine lv_istore_n (lv' := [(2, .int 0), (1, .int 0), (0, .ref mo)]) hx hb dX12_postsNow_3 rfl hl (by decide) (zLvf_h rfl) (fun ls hl => ?_)
  refine z_lp2 (T := T) 4 (fun (i : Nat) (v : Int32) => [[zO11 mo m_all m_has i_size i_next i_where i_token i_number i_word i_wrong i_farCrossing m_read i_z0 i_crossings i_inns m_posts m_shut m_here i_steps i_done i_at i_gone m_was m_came m_seenAt m_rowWorth m_farBy m_used i_everywhere i_again0 i_d0 i_never i_firstCame i_longRun i_moved i_crowd i_l0 i_fitMany i_fitLeast i_fitMost m_fitPost m_fitEnd m_keptPosts i_x0], [zAr T 0 m_posts 7 f_posts]]) (fun (i : Nat) (v : Int32) => [(2, .int (nI i)), (1, .int v), (0, .ref mo)]) (fun (i : Nat) (v : Int32) => i ≤ 7 ∧ 0 ≤ v.toInt ∧ v.toInt < ((4 ^ i : Nat) : Int)) (fun (i : Nat) (v : Int32) => 7 - i) ?_ 0 0 (show 0 ≤ 7 ∧ 0 ≤ (0 : Int32).toInt ∧ (0 : Int32).toInt < ((4 ^ 0 : Nat) : Int) from ⟨by omega, (by decide)⟩) G (lv_sub hl [0, 1, 2] rfl)
  intro i v hI9 ih_4 H locs ls G hl
  replace hI9 : i ≤ 7 ∧ 0 ≤ v.toInt ∧ v.toInt < ((4 ^ i : Nat) : Int) := hI9
  refine zAn2 hI9 ?_
  intro hi hv
  clear hI9
  replace G : zS T A s.heap s [[zO11 mo m_all m_has i_size i_next i_where i_token i_number i_word i_wrong i_farCrossing m_read i_z0 i_crossings i_inns m_posts m_shut m_here i_steps i_done i_at i_gone m_was m_came m_seenAt m_rowWorth m_farBy m_used i_everywhere i_again0 i_d0 i_never i_firstCame i_longRun i_moved i_crowd i_l0 i_fitMany i_fitLeast i_fitMost m_fitPost m_fitEnd m_keptPosts i_x0], [zAr T 0 m_posts 7 f_posts]] _ _ := G
  replace hl : lv_has ls 3 [(2, .int (nI i)), (1, .int v), (0, .ref mo)] := hl
  refine lv_iload_n hx hb dX12_postsNow_4 rfl (lv_at hl 0 rfl) ?_
  refine lv_aload_n hx hb dX12_postsNow_5 rfl (lv_at hl 2 rfl) ?_
  refine z_get C G clX12 0 rfl 12 (by decide) m_fl_RX12_169 rfl dX12_postsNow_6 ?_
  refine lv_icmp_ge (tgt := 29) hx hb dX12_postsNow_9 (by decide) (fun c_1 => ?_) (fun c_1 => ?_)
  · have c_1n : i_crossings.toInt ≤ (i : Int) := by have q := (fa_le _ _).mp c_1; rw [nI_toInt (n := i) (by omega)] at q; exact q
    refine lv_iload_n hx hb dX12_postsNow_29 rfl (lv_at hl 1 rfl) ?_
    exact z_back hQz_ (z_iret C hr hlocks G (Nat.le_of_ble_eq_true rfl) (Nat.le_of_ble_eq_true rfl) dX12_postsNow_30 ⟨rfl, hv.1, (Int.lt_of_lt_of_le hv.2 (zP4 (by omega)))⟩)
  · have c_1n : ¬ i_crossings.toInt ≤ (i : Int) := fun q => c_1 ((fa_le _ _).mpr (by rw [nI_toInt (n := i) (by omega)]; exact q))
    refine lv_iconst (v := 4) hx hb dX12_postsNow_12 (by decide) ?_
    refine lv_iload_n hx hb dX12_postsNow_13 rfl (lv_at hl 1 rfl) ?_
    refine lv_imul hx hb dX12_postsNow_14 ?_
    refine lv_aload_n hx hb dX12_postsNow_15 rfl (lv_at hl 2 rfl) ?_
    refine z_get C G clX12 0 rfl 14 (by decide) m_fl_RX12_20 rfl dX12_postsNow_16 ?_
    refine lv_iload_n hx hb dX12_postsNow_19 rfl (lv_at hl 0 rfl) ?_
    refine z_ild C G 1 rfl (vp_in_nI (by omega) (by decide)) dX12_postsNow_20 ?_
    refine lv_topi (fun v_2 ev_2 => ?_)
    rw [nI_clamp (by omega)] at ev_2
    subst ev_2
    refine lv_iadd hx hb dX12_postsNow_21 ?_
    refine lv_istore_n (lv' := [(1, .int ((4 * v) + (f_posts i))), (2, .int (nI i)), (0, .ref mo)]) hx hb dX12_postsNow_22 rfl hl (by decide) (zLvf_h rfl) (fun ls hl => ?_)
    refine lv_iinc (v := nI (i + 1)) (lv' := [(2, .int (nI (i + 1))), (1, .int ((4 * v) + (f_posts i))), (0, .ref mo)]) hx hb dX12_postsNow_23 hl (k := 1) rfl (z_inc i 1) (by decide) (zLvf_h rfl) (fun ls hl => ?_)
    refine lv_goto (tgt := 4) hx hb dX12_postsNow_26 (by decide) ?_
    exact ih_4 (i + 1) ((4 * v) + (f_posts i)) (show (i + 1) ≤ 7 ∧ 0 ≤ ((4 * v) + (f_posts i)).toInt ∧ ((4 * v) + (f_posts i)).toInt < ((4 ^ (i + 1) : Nat) : Int) from ⟨by omega, (zQ4 (by omega) hv (hP i (by omega)))⟩) (show 7 - (i + 1) < 7 - i from by omega) _ _ ls G (lv_sub hl [0, 1, 2] rfl)
set_option maxHeartbeats 4000000 in
set_option maxRecDepth 100000 in
/-- c_m_waysMany -/
theorem c_m_waysMany (l : Launch) (T : zTy) (mo : Nat) (m_all : Nat) (m_has : Nat) (i_size : Int32) (i_next : Int32) (i_where : Int32) (i_token : Int32) (i_number : Int32) (i_word : Int32) (i_wrong : Int32) (i_farCrossing : Int32) (m_read : Nat) (i_z0 : Int32) (i_crossings : Int32) (i_inns : Int32) (m_posts : Nat) (m_shut : Nat) (m_here : Nat) (i_steps : Int32) (i_done : Int32) (i_at : Int32) (i_gone : Int32) (m_was : Nat) (m_came : Nat) (m_seenAt : Nat) (m_rowWorth : Nat) (m_farBy : Nat) (m_used : Nat) (i_everywhere : Int32) (i_again0 : Int32) (i_d0 : Int32) (i_never : Int32) (i_firstCame : Int32) (i_longRun : Int32) (i_moved : Int32) (i_crowd : Int32) (i_l0 : Int32) (i_fitMany : Int32) (i_fitLeast : Int32) (i_fitMost : Int32) (m_fitPost : Nat) (m_fitEnd : Nat) (m_keptPosts : Nat) (i_x0 : Int32) (f_all : Nat → Int32) (hL : zML f_all i_z0 i_crossings) : zMi l T yX12_waysMany cX12_waysMany 3 (some .int) 3 0 0 [.ref mo] [[zO11 mo m_all m_has i_size i_next i_where i_token i_number i_word i_wrong i_farCrossing m_read i_z0 i_crossings i_inns m_posts m_shut m_here i_steps i_done i_at i_gone m_was m_came m_seenAt m_rowWorth m_farBy m_used i_everywhere i_again0 i_d0 i_never i_firstCame i_longRun i_moved i_crowd i_l0 i_fitMany i_fitLeast i_fitMost m_fitPost m_fitEnd m_keptPosts i_x0], [zAr T 0 m_all 3952 f_all]] (fun (r : Int32) bs => bs = [[zO11 mo m_all m_has i_size i_next i_where i_token i_number i_word i_wrong i_farCrossing m_read i_z0 i_crossings i_inns m_posts m_shut m_here i_steps i_done i_at i_gone m_was m_came m_seenAt m_rowWorth m_farBy m_used i_everywhere i_again0 i_d0 i_never i_firstCame i_longRun i_moved i_crowd i_l0 i_fitMany i_fitLeast i_fitMost m_fitPost m_fitEnd m_keptPosts i_x0], [zAr T 0 m_all 3952 f_all]] ∧ 1 ≤ r.toInt ∧ r.toInt ≤ 16384) := by
  refine zMi_of (own := RX12) (by decide) rfl (Nat.le_of_ble_eq_true rfl) ?_
  intro p e s m args below meth c A ls C hr hlocks hnm hAe G hl
  refine zHide (fun Qz_ hQz_ => ?_)
  have hx := C.1
  have hb := C.2.1
  have hl : lv_has ls 3 [(0, .ref mo)] := hl
  have hz := hL.1
  have hcr := hL.cr
  refine lv_iconst (v := 1) hx hb dX12_waysMany_0 (by decide) ?_
  refine lv_istore_n (lv' := [(1, .int 1), (0, .ref mo)]) hx hb dX12_waysMany_1 rfl hl (by decide) (zLvf_h rfl) (fun ls hl => ?_)
  refine lv_iconst (v := 0) hx hb dX12_waysMany_2 (by decide) ?_
  refine lv_istore_n (lv' := [(2, .int 0), (1, .int 1), (0, .ref mo)]) hx hb dX12_waysMany_3 rfl hl (by decide) (zLvf_h rfl) (fun ls hl => ?_)
  refine z_lp2 (T := T) 4 (fun (i : Nat) (v : Int32) => [[zO11 mo m_all m_has i_size i_next i_where i_token i_number i_word i_wrong i_farCrossing m_read i_z0 i_crossings i_inns m_posts m_shut m_here i_steps i_done i_at i_gone m_was m_came m_seenAt m_rowWorth m_farBy m_used i_everywhere i_again0 i_d0 i_never i_firstCame i_longRun i_moved i_crowd i_l0 i_fitMany i_fitLeast i_fitMost m_fitPost m_fitEnd m_keptPosts i_x0], [zAr T 0 m_all 3952 f_all]]) (fun (i : Nat) (v : Int32) => [(2, .int (nI i)), (1, .int v), (0, .ref mo)]) (fun (i : Nat) (v : Int32) => i ≤ 7 ∧ 1 ≤ v.toInt ∧ v.toInt ≤ ((4 ^ i : Nat) : Int)) (fun (i : Nat) (v : Int32) => 7 - i) ?_ 0 1 (show 0 ≤ 7 ∧ 1 ≤ (1 : Int32).toInt ∧ (1 : Int32).toInt ≤ ((4 ^ 0 : Nat) : Int) from ⟨by omega, (by decide)⟩) G (lv_sub hl [0, 1, 2] rfl)
  intro i v hI9 ih_4 H locs ls G hl
  replace hI9 : i ≤ 7 ∧ 1 ≤ v.toInt ∧ v.toInt ≤ ((4 ^ i : Nat) : Int) := hI9
  refine zAn2 hI9 ?_
  intro hi hv
  clear hI9
  replace G : zS T A s.heap s [[zO11 mo m_all m_has i_size i_next i_where i_token i_number i_word i_wrong i_farCrossing m_read i_z0 i_crossings i_inns m_posts m_shut m_here i_steps i_done i_at i_gone m_was m_came m_seenAt m_rowWorth m_farBy m_used i_everywhere i_again0 i_d0 i_never i_firstCame i_longRun i_moved i_crowd i_l0 i_fitMany i_fitLeast i_fitMost m_fitPost m_fitEnd m_keptPosts i_x0], [zAr T 0 m_all 3952 f_all]] _ _ := G
  replace hl : lv_has ls 3 [(2, .int (nI i)), (1, .int v), (0, .ref mo)] := hl
  refine lv_iload_n hx hb dX12_waysMany_4 rfl (lv_at hl 0 rfl) ?_
  refine lv_aload_n hx hb dX12_waysMany_5 rfl (lv_at hl 2 rfl) ?_
  refine z_get C G clX12 0 rfl 12 (by decide) m_fl_RX12_169 rfl dX12_waysMany_6 ?_
  refine lv_icmp_ge (tgt := 38) hx hb dX12_waysMany_9 (by decide) (fun c_1 => ?_) (fun c_1 => ?_)
  · have c_1n : i_crossings.toInt ≤ (i : Int) := by have q := (fa_le _ _).mp c_1; rw [nI_toInt (n := i) (by omega)] at q; exact q
    refine lv_iload_n hx hb dX12_waysMany_38 rfl (lv_at hl 1 rfl) ?_
    exact z_back hQz_ (z_iret C hr hlocks G (Nat.le_of_ble_eq_true rfl) (Nat.le_of_ble_eq_true rfl) dX12_waysMany_39 ⟨rfl, hv.1, (Int.le_trans hv.2 (zP4 (by omega)))⟩)
  · have c_1n : ¬ i_crossings.toInt ≤ (i : Int) := fun q => c_1 ((fa_le _ _).mpr (by rw [nI_toInt (n := i) (by omega)]; exact q))
    refine lv_iload_n hx hb dX12_waysMany_12 rfl (lv_at hl 1 rfl) ?_
    refine lv_aload_n hx hb dX12_waysMany_13 rfl (lv_at hl 2 rfl) ?_
    refine lv_iload_n hx hb dX12_waysMany_14 rfl (lv_at hl 0 rfl) ?_
    have ti_2 : (nI i).toInt = ((i : Nat) : Int) := nI_toInt (by omega)
    refine z_Vi (bc := [[zO11 mo m_all m_has i_size i_next i_where i_token i_number i_word i_wrong i_farCrossing m_read i_z0 i_crossings i_inns m_posts m_shut m_here i_steps i_done i_at i_gone m_was m_came m_seenAt m_rowWorth m_farBy m_used i_everywhere i_again0 i_d0 i_never i_firstCame i_longRun i_moved i_crowd i_l0 i_fitMany i_fitLeast i_fitMost m_fitPost m_fitEnd m_keptPosts i_x0], [zAr T 0 m_all 3952 f_all]]) (br := []) (As := [.int (nI i)]) (rest := [.int v]) C G (c_m_isFree l T mo m_all m_has i_size i_next i_where i_token i_number i_word i_wrong i_farCrossing m_read i_z0 i_crossings i_inns m_posts m_shut m_here i_steps i_done i_at i_gone m_was m_came m_seenAt m_rowWorth m_farBy m_used i_everywhere i_again0 i_d0 i_never i_firstCame i_longRun i_moved i_crowd i_l0 i_fitMany i_fitLeast i_fitMost m_fitPost m_fitEnd m_keptPosts i_x0 f_all (nI i) (by first | with_reducible assumption | with_reducible rfl | omega | assumption | rfl | decide) (by first | with_reducible assumption | with_reducible rfl | omega | assumption | rfl | decide) (by first | with_reducible assumption | with_reducible rfl | omega | assumption | rfl | decide)) (kV_RX12_223 C.2.2.2.2 (Nat.le_of_ble_eq_true rfl) (Nat.le_of_ble_eq_true rfl)) [0, 1] [0, 0] rfl rfl (ci := 11) (qc := (RX12, TX12, 43)) rfl rfl (List.mem_flatten.mpr ⟨_, List.mem_of_getElem? (i := 0) rfl, List.mem_cons_self⟩) rfl rfl hl.1 dX12_waysMany_15 (Nat.le_of_ble_eq_true rfl) (Nat.le_of_ble_eq_true rfl) (fun r_4 b1 H locs hw G => ?_)
    refine zAn2 hw ?_
    intro hbs9 hc_3
    clear hw
    subst hbs9
    have G : zS T A s.heap s [[zO11 mo m_all m_has i_size i_next i_where i_token i_number i_word i_wrong i_farCrossing m_read i_z0 i_crossings i_inns m_posts m_shut m_here i_steps i_done i_at i_gone m_was m_came m_seenAt m_rowWorth m_farBy m_used i_everywhere i_again0 i_d0 i_never i_firstCame i_longRun i_moved i_crowd i_l0 i_fitMany i_fitLeast i_fitMost m_fitPost m_fitEnd m_keptPosts i_x0], [zAr T 0 m_all 3952 f_all]] _ _ := G
    rcases hc_3 with ⟨rfl, h_5, h_6⟩ | ⟨rfl, h_7⟩
    · have h_5 : ¬ zInn i_inns (nI i) := h_5
      have h_6 : 0 < (zRd f_all i_z0 (nI i)).toInt := h_6
      refine lv_if_eq (tgt := 29) hx hb dX12_waysMany_18 (by decide) (fun q => absurd q (by decide)) (fun _ => ?_)
      refine lv_aload_n hx hb dX12_waysMany_21 rfl (lv_at hl 2 rfl) ?_
      refine lv_iload_n hx hb dX12_waysMany_22 rfl (lv_at hl 0 rfl) ?_
      have ti_8 : (nI i).toInt = ((i : Nat) : Int) := nI_toInt (by omega)
      refine z_Vi (bc := [[zO11 mo m_all m_has i_size i_next i_where i_token i_number i_word i_wrong i_farCrossing m_read i_z0 i_crossings i_inns m_posts m_shut m_here i_steps i_done i_at i_gone m_was m_came m_seenAt m_rowWorth m_farBy m_used i_everywhere i_again0 i_d0 i_never i_firstCame i_longRun i_moved i_crowd i_l0 i_fitMany i_fitLeast i_fitMost m_fitPost m_fitEnd m_keptPosts i_x0], [zAr T 0 m_all 3952 f_all]]) (br := []) (As := [.int (nI i)]) (rest := [.int v]) C G (c_m_roadsOf l T mo m_all m_has i_size i_next i_where i_token i_number i_word i_wrong i_farCrossing m_read i_z0 i_crossings i_inns m_posts m_shut m_here i_steps i_done i_at i_gone m_was m_came m_seenAt m_rowWorth m_farBy m_used i_everywhere i_again0 i_d0 i_never i_firstCame i_longRun i_moved i_crowd i_l0 i_fitMany i_fitLeast i_fitMost m_fitPost m_fitEnd m_keptPosts i_x0 f_all (nI i) (by first | with_reducible assumption | with_reducible rfl | omega | assumption | rfl | decide) (by first | with_reducible assumption | with_reducible rfl | omega | assumption | rfl | decide) (by first | with_reducible assumption | with_reducible rfl | omega | assumption | rfl | decide)) (kV_RX12_181 C.2.2.2.2 (Nat.le_of_ble_eq_true rfl) (Nat.le_of_ble_eq_true rfl)) [0, 1] [0, 0] rfl rfl (ci := 11) (qc := (RX12, TX12, 43)) rfl rfl (List.mem_flatten.mpr ⟨_, List.mem_of_getElem? (i := 0) rfl, List.mem_cons_self⟩) rfl rfl hl.1 dX12_waysMany_23 (Nat.le_of_ble_eq_true rfl) (Nat.le_of_ble_eq_true rfl) (fun r_12 b1 H locs hw G => ?_)
      refine zAn4 hw ?_
      intro hbs9 h_9 h_10 h_11
      clear hw
      subst hbs9
      have G : zS T A s.heap s [[zO11 mo m_all m_has i_size i_next i_where i_token i_number i_word i_wrong i_farCrossing m_read i_z0 i_crossings i_inns m_posts m_shut m_here i_steps i_done i_at i_gone m_was m_came m_seenAt m_rowWorth m_farBy m_used i_everywhere i_again0 i_d0 i_never i_firstCame i_longRun i_moved i_crowd i_l0 i_fitMany i_fitLeast i_fitMost m_fitPost m_fitEnd m_keptPosts i_x0], [zAr T 0 m_all 3952 f_all]] _ _ := G
      subst h_9
      refine lv_goto (tgt := 30) hx hb dX12_waysMany_26 (by decide) ?_
      refine lv_imul hx hb dX12_waysMany_30 ?_
      refine lv_istore_n (lv' := [(1, .int (v * (zRd f_all i_z0 (nI i)))), (2, .int (nI i)), (0, .ref mo)]) hx hb dX12_waysMany_31 rfl hl (by decide) (zLvf_h rfl) (fun ls hl => ?_)
      refine lv_iinc (v := nI (i + 1)) (lv' := [(2, .int (nI (i + 1))), (1, .int (v * (zRd f_all i_z0 (nI i)))), (0, .ref mo)]) hx hb dX12_waysMany_32 hl (k := 1) rfl (z_inc i 1) (by decide) (zLvf_h rfl) (fun ls hl => ?_)
      refine lv_goto (tgt := 4) hx hb dX12_waysMany_35 (by decide) ?_
      exact ih_4 (i + 1) (v * (zRd f_all i_z0 (nI i))) (show (i + 1) ≤ 7 ∧ 1 ≤ (v * (zRd f_all i_z0 (nI i))).toInt ∧ (v * (zRd f_all i_z0 (nI i))).toInt ≤ ((4 ^ (i + 1) : Nat) : Int) from ⟨by omega, (zW4 (r := (zRd f_all i_z0 (nI i))) (by omega) hv (by omega) (by omega))⟩) (show 7 - (i + 1) < 7 - i from by omega) _ _ ls G (lv_sub hl [0, 1, 2] rfl)
    · have h_7 : (zInn i_inns (nI i) ∨ (zRd f_all i_z0 (nI i)).toInt ≤ 0) := h_7
      refine lv_if_eq (tgt := 29) hx hb dX12_waysMany_18 (by decide) (fun _ => ?_) (fun q => absurd (by decide) q)
      refine lv_iconst (v := 1) hx hb dX12_waysMany_29 (by decide) ?_
      refine lv_imul hx hb dX12_waysMany_30 ?_
      refine lv_istore_n (lv' := [(1, .int (v * 1)), (2, .int (nI i)), (0, .ref mo)]) hx hb dX12_waysMany_31 rfl hl (by decide) (zLvf_h rfl) (fun ls hl => ?_)
      refine lv_iinc (v := nI (i + 1)) (lv' := [(2, .int (nI (i + 1))), (1, .int (v * 1)), (0, .ref mo)]) hx hb dX12_waysMany_32 hl (k := 1) rfl (z_inc i 1) (by decide) (zLvf_h rfl) (fun ls hl => ?_)
      refine lv_goto (tgt := 4) hx hb dX12_waysMany_35 (by decide) ?_
      exact ih_4 (i + 1) (v * 1) (show (i + 1) ≤ 7 ∧ 1 ≤ (v * 1).toInt ∧ (v * 1).toInt ≤ ((4 ^ (i + 1) : Nat) : Int) from ⟨by omega, (zW4 (r := 1) (by omega) hv (by decide) (by decide))⟩) (show 7 - (i + 1) < 7 - i from by omega) _ _ ls G (lv_sub hl [0, 1, 2] rfl)
set_option maxHeartbeats 4000000 in
set_option maxRecDepth 100000 in
/-- c_m_setsWay -/
theorem c_m_setsWay (l : Launch) (T : zTy) (mo : Nat) (m_all : Nat) (m_has : Nat) (i_size : Int32) (i_next : Int32) (i_where : Int32) (i_token : Int32) (i_number : Int32) (i_word : Int32) (i_wrong : Int32) (i_farCrossing : Int32) (m_read : Nat) (i_z0 : Int32) (i_crossings : Int32) (i_inns : Int32) (m_posts : Nat) (m_shut : Nat) (m_here : Nat) (i_steps : Int32) (i_done : Int32) (i_at : Int32) (i_gone : Int32) (m_was : Nat) (m_came : Nat) (m_seenAt : Nat) (m_rowWorth : Nat) (m_farBy : Nat) (m_used : Nat) (i_everywhere : Int32) (i_again0 : Int32) (i_d0 : Int32) (i_never : Int32) (i_firstCame : Int32) (i_longRun : Int32) (i_moved : Int32) (i_crowd : Int32) (i_l0 : Int32) (i_fitMany : Int32) (i_fitLeast : Int32) (i_fitMost : Int32) (m_fitPost : Nat) (m_fitEnd : Nat) (m_keptPosts : Nat) (i_x0 : Int32) (f_all : Nat → Int32) (f_posts : Nat → Int32) (w_ : Int32) (hL : zML f_all i_z0 i_crossings) (hw0 : 0 ≤ w_.toInt) (hP : zMP f_posts) : zMv l T yX12_setsWay cX12_setsWay 4 3 0 0 [.ref mo, .int w_] [[zO11 mo m_all m_has i_size i_next i_where i_token i_number i_word i_wrong i_farCrossing m_read i_z0 i_crossings i_inns m_posts m_shut m_here i_steps i_done i_at i_gone m_was m_came m_seenAt m_rowWorth m_farBy m_used i_everywhere i_again0 i_d0 i_never i_firstCame i_longRun i_moved i_crowd i_l0 i_fitMany i_fitLeast i_fitMost m_fitPost m_fitEnd m_keptPosts i_x0], [zAr T 0 m_all 3952 f_all], [zAr T 0 m_posts 7 f_posts]] (fun bs => ∃ (g_posts : Nat → Int32), bs = [[zO11 mo m_all m_has i_size i_next i_where i_token i_number i_word i_wrong i_farCrossing m_read i_z0 i_crossings i_inns m_posts m_shut m_here i_steps i_done i_at i_gone m_was m_came m_seenAt m_rowWorth m_farBy m_used i_everywhere i_again0 i_d0 i_never i_firstCame i_longRun i_moved i_crowd i_l0 i_fitMany i_fitLeast i_fitMost m_fitPost m_fitEnd m_keptPosts i_x0], [zAr T 0 m_all 3952 f_all], [zAr T 0 m_posts 7 g_posts]] ∧ zMP g_posts) := by
  refine zMv_of (own := RX12) (by decide) rfl (Nat.le_of_ble_eq_true rfl) ?_
  intro p e s m args below meth c A ls C hr hlocks hnm hAe G hl
  refine zHide (fun Qz_ hQz_ => ?_)
  have hx := C.1
  have hb := C.2.1
  have hl : lv_has ls 4 [(0, .ref mo), (1, .int w_)] := hl
  have hz := hL.1
  have hcr := hL.cr
  refine lv_iload_n hx hb dX12_setsWay_0 rfl (lv_at hl 1 rfl) ?_
  refine lv_istore_n (lv' := [(2, .int w_), (0, .ref mo), (1, .int w_)]) hx hb dX12_setsWay_1 rfl hl (by decide) (zLvf_h rfl) (fun ls hl => ?_)
  refine lv_aload_n hx hb dX12_setsWay_2 rfl (lv_at hl 1 rfl) ?_
  refine z_get C G clX12 0 rfl 12 (by decide) m_fl_RX12_169 rfl dX12_setsWay_3 ?_
  refine lv_iconst (v := 1) hx hb dX12_setsWay_6 (by decide) ?_
  refine lv_isub hx hb dX12_setsWay_7 ?_
  refine lv_topi (fun y_1 ey_1 => ?_)
  have ey_1i : y_1.toInt = i_crossings.toInt - (1 : Int) := by rw [ey_1]; exact z_isubI (x := i_crossings) (y := (1 : Int32)) (by show -2147483648 ≤ i_crossings.toInt - (1 : Int); omega) (by show i_crossings.toInt - (1 : Int) < 2147483648; omega)
  refine lv_istore_n (lv' := [(3, .int y_1), (2, .int w_), (0, .ref mo), (1, .int w_)]) hx hb dX12_setsWay_8 rfl hl (by decide) (zLvf_h rfl) (fun ls hl => ?_)
  refine z_lp3 (T := T) 9 (fun (c9 : Int32) (lf : Int32) (xp : Nat → Int32) => [[zO11 mo m_all m_has i_size i_next i_where i_token i_number i_word i_wrong i_farCrossing m_read i_z0 i_crossings i_inns m_posts m_shut m_here i_steps i_done i_at i_gone m_was m_came m_seenAt m_rowWorth m_farBy m_used i_everywhere i_again0 i_d0 i_never i_firstCame i_longRun i_moved i_crowd i_l0 i_fitMany i_fitLeast i_fitMost m_fitPost m_fitEnd m_keptPosts i_x0], [zAr T 0 m_all 3952 f_all], [zAr T 0 m_posts 7 xp]]) (fun (c9 : Int32) (lf : Int32) (xp : Nat → Int32) => [(3, .int c9), (2, .int lf), (0, .ref mo), (1, .int w_)]) (fun (c9 : Int32) (lf : Int32) (xp : Nat → Int32) => -1 ≤ c9.toInt ∧ c9.toInt ≤ 6 ∧ 0 ≤ lf.toInt ∧ zMP xp) (fun (c9 : Int32) (lf : Int32) (xp : Nat → Int32) => (c9.toInt + 1).toNat) ?_ y_1 w_ f_posts (show -1 ≤ y_1.toInt ∧ y_1.toInt ≤ 6 ∧ 0 ≤ w_.toInt ∧ zMP f_posts from ⟨by omega, by omega, by omega, hP⟩) G (lv_sub hl [0, 1, 2, 3] rfl)
  intro c9 lf xp hI9 ih_9 H locs ls G hl
  replace hI9 : -1 ≤ c9.toInt ∧ c9.toInt ≤ 6 ∧ 0 ≤ lf.toInt ∧ zMP xp := hI9
  refine zAn4 hI9 ?_
  intro hc1 hc6 hlf hQ
  clear hI9
  replace G : zS T A s.heap s [[zO11 mo m_all m_has i_size i_next i_where i_token i_number i_word i_wrong i_farCrossing m_read i_z0 i_crossings i_inns m_posts m_shut m_here i_steps i_done i_at i_gone m_was m_came m_seenAt m_rowWorth m_farBy m_used i_everywhere i_again0 i_d0 i_never i_firstCame i_longRun i_moved i_crowd i_l0 i_fitMany i_fitLeast i_fitMost m_fitPost m_fitEnd m_keptPosts i_x0], [zAr T 0 m_all 3952 f_all], [zAr T 0 m_posts 7 xp]] _ _ := G
  replace hl : lv_has ls 4 [(3, .int c9), (2, .int lf), (0, .ref mo), (1, .int w_)] := hl
  refine lv_iload_n hx hb dX12_setsWay_9 rfl (lv_at hl 0 rfl) ?_
  refine lv_if_lt (tgt := 64) hx hb dX12_setsWay_10 (by decide) (fun c_2 => ?_) (fun c_2 => ?_)
  · have c_2n : c9.toInt < (0 : Int) := (fa_lt _ _).mp c_2
    exact z_back hQz_ (z_vret C hr hlocks G (Nat.le_of_ble_eq_true rfl) (Nat.le_of_ble_eq_true rfl) dX12_setsWay_64 ⟨xp, rfl, (by first | with_reducible assumption | omega | trivial | assumption)⟩)
  · have c_2n : ¬ c9.toInt < (0 : Int) := fun q => c_2 ((fa_lt _ _).mpr q)
    refine lv_aload_n hx hb dX12_setsWay_13 rfl (lv_at hl 2 rfl) ?_
    refine z_get C G clX12 0 rfl 14 (by decide) m_fl_RX12_20 rfl dX12_setsWay_14 ?_
    refine lv_iload_n hx hb dX12_setsWay_17 rfl (lv_at hl 0 rfl) ?_
    refine lv_aload_n hx hb dX12_setsWay_18 rfl (lv_at hl 2 rfl) ?_
    refine lv_iload_n hx hb dX12_setsWay_19 rfl (lv_at hl 0 rfl) ?_
    refine z_Vi (bc := [[zO11 mo m_all m_has i_size i_next i_where i_token i_number i_word i_wrong i_farCrossing m_read i_z0 i_crossings i_inns m_posts m_shut m_here i_steps i_done i_at i_gone m_was m_came m_seenAt m_rowWorth m_farBy m_used i_everywhere i_again0 i_d0 i_never i_firstCame i_longRun i_moved i_crowd i_l0 i_fitMany i_fitLeast i_fitMost m_fitPost m_fitEnd m_keptPosts i_x0], [zAr T 0 m_all 3952 f_all]]) (br := [[zAr T 0 m_posts 7 xp]]) (As := [.int c9]) (rest := [.int c9, .ref m_posts]) C G (c_m_isFree l T mo m_all m_has i_size i_next i_where i_token i_number i_word i_wrong i_farCrossing m_read i_z0 i_crossings i_inns m_posts m_shut m_here i_steps i_done i_at i_gone m_was m_came m_seenAt m_rowWorth m_farBy m_used i_everywhere i_again0 i_d0 i_never i_firstCame i_longRun i_moved i_crowd i_l0 i_fitMany i_fitLeast i_fitMost m_fitPost m_fitEnd m_keptPosts i_x0 f_all c9 (by first | with_reducible assumption | with_reducible rfl | omega | assumption | rfl | decide) (by first | with_reducible assumption | with_reducible rfl | omega | assumption | rfl | decide) (by first | with_reducible assumption | with_reducible rfl | omega | assumption | rfl | decide)) (kV_RX12_223 C.2.2.2.2 (Nat.le_of_ble_eq_true rfl) (Nat.le_of_ble_eq_true rfl)) [0, 1] [0, 0] rfl rfl (ci := 11) (qc := (RX12, TX12, 43)) rfl rfl (List.mem_flatten.mpr ⟨_, List.mem_of_getElem? (i := 0) rfl, List.mem_cons_self⟩) rfl rfl hl.1 dX12_setsWay_20 (Nat.le_of_ble_eq_true rfl) (Nat.le_of_ble_eq_true rfl) (fun r_4 b1 H locs hw G => ?_)
    refine zAn2 hw ?_
    intro hbs9 hc_3
    clear hw
    subst hbs9
    have G : zS T A s.heap s [[zAr T 0 m_posts 7 xp], [zO11 mo m_all m_has i_size i_next i_where i_token i_number i_word i_wrong i_farCrossing m_read i_z0 i_crossings i_inns m_posts m_shut m_here i_steps i_done i_at i_gone m_was m_came m_seenAt m_rowWorth m_farBy m_used i_everywhere i_again0 i_d0 i_never i_firstCame i_longRun i_moved i_crowd i_l0 i_fitMany i_fitLeast i_fitMost m_fitPost m_fitEnd m_keptPosts i_x0], [zAr T 0 m_all 3952 f_all]] _ _ := G
    rcases hc_3 with ⟨rfl, h_5, h_6⟩ | ⟨rfl, h_7⟩
    · have h_5 : ¬ zInn i_inns c9 := h_5
      have h_6 : 0 < (zRd f_all i_z0 c9).toInt := h_6
      refine lv_if_eq (tgt := 36) hx hb dX12_setsWay_23 (by decide) (fun q => absurd q (by decide)) (fun _ => ?_)
      refine lv_iload_n hx hb dX12_setsWay_26 rfl (lv_at hl 1 rfl) ?_
      refine lv_aload_n hx hb dX12_setsWay_27 rfl (lv_at hl 2 rfl) ?_
      refine lv_iload_n hx hb dX12_setsWay_28 rfl (lv_at hl 0 rfl) ?_
      refine z_Vi (bc := [[zO11 mo m_all m_has i_size i_next i_where i_token i_number i_word i_wrong i_farCrossing m_read i_z0 i_crossings i_inns m_posts m_shut m_here i_steps i_done i_at i_gone m_was m_came m_seenAt m_rowWorth m_farBy m_used i_everywhere i_again0 i_d0 i_never i_firstCame i_longRun i_moved i_crowd i_l0 i_fitMany i_fitLeast i_fitMost m_fitPost m_fitEnd m_keptPosts i_x0], [zAr T 0 m_all 3952 f_all]]) (br := [[zAr T 0 m_posts 7 xp]]) (As := [.int c9]) (rest := [.int lf, .int c9, .ref m_posts]) C G (c_m_roadsOf l T mo m_all m_has i_size i_next i_where i_token i_number i_word i_wrong i_farCrossing m_read i_z0 i_crossings i_inns m_posts m_shut m_here i_steps i_done i_at i_gone m_was m_came m_seenAt m_rowWorth m_farBy m_used i_everywhere i_again0 i_d0 i_never i_firstCame i_longRun i_moved i_crowd i_l0 i_fitMany i_fitLeast i_fitMost m_fitPost m_fitEnd m_keptPosts i_x0 f_all c9 (by first | with_reducible assumption | with_reducible rfl | omega | assumption | rfl | decide) (by first | with_reducible assumption | with_reducible rfl | omega | assumption | rfl | decide) (by first | with_reducible assumption | with_reducible rfl | omega | assumption | rfl | decide)) (kV_RX12_181 C.2.2.2.2 (Nat.le_of_ble_eq_true rfl) (Nat.le_of_ble_eq_true rfl)) [1, 2] [1, 0] rfl rfl (ci := 11) (qc := (RX12, TX12, 43)) rfl rfl (List.mem_flatten.mpr ⟨_, List.mem_of_getElem? (i := 0) rfl, List.mem_cons_self⟩) rfl rfl hl.1 dX12_setsWay_29 (Nat.le_of_ble_eq_true rfl) (Nat.le_of_ble_eq_true rfl) (fun r_11 b1 H locs hw G => ?_)
      refine zAn4 hw ?_
      intro hbs9 h_8 h_9 h_10
      clear hw
      subst hbs9
      have G : zS T A s.heap s [[zAr T 0 m_posts 7 xp], [zO11 mo m_all m_has i_size i_next i_where i_token i_number i_word i_wrong i_farCrossing m_read i_z0 i_crossings i_inns m_posts m_shut m_here i_steps i_done i_at i_gone m_was m_came m_seenAt m_rowWorth m_farBy m_used i_everywhere i_again0 i_d0 i_never i_firstCame i_longRun i_moved i_crowd i_l0 i_fitMany i_fitLeast i_fitMost m_fitPost m_fitEnd m_keptPosts i_x0], [zAr T 0 m_all 3952 f_all]] _ _ := G
      subst h_8
      refine lv_irem hx hb dX12_setsWay_32 (fun q => absurd (congrArg Int32.toInt q) (by show ¬ _ = (0 : Int); omega)) ?_
      refine lv_goto (tgt := 37) hx hb dX12_setsWay_33 (by decide) ?_
      have hrm := zRem (x := lf) (y := zRd f_all i_z0 c9) (by omega) (by omega)
      refine z_ist C G 0 rfl (vp_in_iff.mpr ⟨by omega, by omega⟩) dX12_setsWay_37 (fun H locs G => ?_)
      have G : zS T A s.heap s [[zAr T 0 m_posts 7 (upd xp c9.toNatClampNeg (lf - lf / (zRd f_all i_z0 c9) * (zRd f_all i_z0 c9)))], [zO11 mo m_all m_has i_size i_next i_where i_token i_number i_word i_wrong i_farCrossing m_read i_z0 i_crossings i_inns m_posts m_shut m_here i_steps i_done i_at i_gone m_was m_came m_seenAt m_rowWorth m_farBy m_used i_everywhere i_again0 i_d0 i_never i_firstCame i_longRun i_moved i_crowd i_l0 i_fitMany i_fitLeast i_fitMost m_fitPost m_fitEnd m_keptPosts i_x0], [zAr T 0 m_all 3952 f_all]] _ _ := G
      refine lv_iload_n hx hb dX12_setsWay_38 rfl (lv_at hl 1 rfl) ?_
      refine lv_aload_n hx hb dX12_setsWay_39 rfl (lv_at hl 2 rfl) ?_
      refine lv_iload_n hx hb dX12_setsWay_40 rfl (lv_at hl 0 rfl) ?_
      refine z_Vi (bc := [[zO11 mo m_all m_has i_size i_next i_where i_token i_number i_word i_wrong i_farCrossing m_read i_z0 i_crossings i_inns m_posts m_shut m_here i_steps i_done i_at i_gone m_was m_came m_seenAt m_rowWorth m_farBy m_used i_everywhere i_again0 i_d0 i_never i_firstCame i_longRun i_moved i_crowd i_l0 i_fitMany i_fitLeast i_fitMost m_fitPost m_fitEnd m_keptPosts i_x0], [zAr T 0 m_all 3952 f_all]]) (br := [[zAr T 0 m_posts 7 (upd xp c9.toNatClampNeg (lf - lf / (zRd f_all i_z0 c9) * (zRd f_all i_z0 c9)))]]) (As := [.int c9]) (rest := [.int lf]) C G (c_m_isFree l T mo m_all m_has i_size i_next i_where i_token i_number i_word i_wrong i_farCrossing m_read i_z0 i_crossings i_inns m_posts m_shut m_here i_steps i_done i_at i_gone m_was m_came m_seenAt m_rowWorth m_farBy m_used i_everywhere i_again0 i_d0 i_never i_firstCame i_longRun i_moved i_crowd i_l0 i_fitMany i_fitLeast i_fitMost m_fitPost m_fitEnd m_keptPosts i_x0 f_all c9 (by first | with_reducible assumption | with_reducible rfl | omega | assumption | rfl | decide) (by first | with_reducible assumption | with_reducible rfl | omega | assumption | rfl | decide) (by first | with_reducible assumption | with_reducible rfl | omega | assumption | rfl | decide)) (kV_RX12_223 C.2.2.2.2 (Nat.le_of_ble_eq_true rfl) (Nat.le_of_ble_eq_true rfl)) [1, 2] [1, 0] rfl rfl (ci := 11) (qc := (RX12, TX12, 43)) rfl rfl (List.mem_flatten.mpr ⟨_, List.mem_of_getElem? (i := 0) rfl, List.mem_cons_self⟩) rfl rfl hl.1 dX12_setsWay_41 (Nat.le_of_ble_eq_true rfl) (Nat.le_of_ble_eq_true rfl) (fun r_13 b1 H locs hw G => ?_)
      refine zAn2 hw ?_
      intro hbs9 hc_12
      clear hw
      subst hbs9
      have G : zS T A s.heap s [[zAr T 0 m_posts 7 (upd xp c9.toNatClampNeg (lf - lf / (zRd f_all i_z0 c9) * (zRd f_all i_z0 c9)))], [zO11 mo m_all m_has i_size i_next i_where i_token i_number i_word i_wrong i_farCrossing m_read i_z0 i_crossings i_inns m_posts m_shut m_here i_steps i_done i_at i_gone m_was m_came m_seenAt m_rowWorth m_farBy m_used i_everywhere i_again0 i_d0 i_never i_firstCame i_longRun i_moved i_crowd i_l0 i_fitMany i_fitLeast i_fitMost m_fitPost m_fitEnd m_keptPosts i_x0], [zAr T 0 m_all 3952 f_all]] _ _ := G
      rcases hc_12 with ⟨rfl, h_14, h_15⟩ | ⟨rfl, h_16⟩
      · have h_14 : ¬ zInn i_inns c9 := h_14
        have h_15 : 0 < (zRd f_all i_z0 c9).toInt := h_15
        refine lv_if_eq (tgt := 55) hx hb dX12_setsWay_44 (by decide) (fun q => absurd q (by decide)) (fun _ => ?_)
        refine lv_aload_n hx hb dX12_setsWay_47 rfl (lv_at hl 2 rfl) ?_
        refine lv_iload_n hx hb dX12_setsWay_48 rfl (lv_at hl 0 rfl) ?_
        refine z_Vi (bc := [[zO11 mo m_all m_has i_size i_next i_where i_token i_number i_word i_wrong i_farCrossing m_read i_z0 i_crossings i_inns m_posts m_shut m_here i_steps i_done i_at i_gone m_was m_came m_seenAt m_rowWorth m_farBy m_used i_everywhere i_again0 i_d0 i_never i_firstCame i_longRun i_moved i_crowd i_l0 i_fitMany i_fitLeast i_fitMost m_fitPost m_fitEnd m_keptPosts i_x0], [zAr T 0 m_all 3952 f_all]]) (br := [[zAr T 0 m_posts 7 (upd xp c9.toNatClampNeg (lf - lf / (zRd f_all i_z0 c9) * (zRd f_all i_z0 c9)))]]) (As := [.int c9]) (rest := [.int lf]) C G (c_m_roadsOf l T mo m_all m_has i_size i_next i_where i_token i_number i_word i_wrong i_farCrossing m_read i_z0 i_crossings i_inns m_posts m_shut m_here i_steps i_done i_at i_gone m_was m_came m_seenAt m_rowWorth m_farBy m_used i_everywhere i_again0 i_d0 i_never i_firstCame i_longRun i_moved i_crowd i_l0 i_fitMany i_fitLeast i_fitMost m_fitPost m_fitEnd m_keptPosts i_x0 f_all c9 (by first | with_reducible assumption | with_reducible rfl | omega | assumption | rfl | decide) (by first | with_reducible assumption | with_reducible rfl | omega | assumption | rfl | decide) (by first | with_reducible assumption | with_reducible rfl | omega | assumption | rfl | decide)) (kV_RX12_181 C.2.2.2.2 (Nat.le_of_ble_eq_true rfl) (Nat.le_of_ble_eq_true rfl)) [1, 2] [1, 0] rfl rfl (ci := 11) (qc := (RX12, TX12, 43)) rfl rfl (List.mem_flatten.mpr ⟨_, List.mem_of_getElem? (i := 0) rfl, List.mem_cons_self⟩) rfl rfl hl.1 dX12_setsWay_49 (Nat.le_of_ble_eq_true rfl) (Nat.le_of_ble_eq_true rfl) (fun r_20 b1 H locs hw G => ?_)
        refine zAn4 hw ?_
        intro hbs9 h_17 h_18 h_19
        clear hw
        subst hbs9
        have G : zS T A s.heap s [[zAr T 0 m_posts 7 (upd xp c9.toNatClampNeg (lf - lf / (zRd f_all i_z0 c9) * (zRd f_all i_z0 c9)))], [zO11 mo m_all m_has i_size i_next i_where i_token i_number i_word i_wrong i_farCrossing m_read i_z0 i_crossings i_inns m_posts m_shut m_here i_steps i_done i_at i_gone m_was m_came m_seenAt m_rowWorth m_farBy m_used i_everywhere i_again0 i_d0 i_never i_firstCame i_longRun i_moved i_crowd i_l0 i_fitMany i_fitLeast i_fitMost m_fitPost m_fitEnd m_keptPosts i_x0], [zAr T 0 m_all 3952 f_all]] _ _ := G
        subst h_17
        refine lv_goto (tgt := 56) hx hb dX12_setsWay_52 (by decide) ?_
        refine lv_idiv hx hb dX12_setsWay_56 (fun q => absurd (congrArg Int32.toInt q) (by show ¬ _ = (0 : Int); omega)) ?_
        have hdv : 0 ≤ (lf / (zRd f_all i_z0 c9)).toInt := zDiv0 (by omega) (by omega)
        refine lv_istore_n (lv' := [(2, .int (lf / (zRd f_all i_z0 c9))), (3, .int c9), (0, .ref mo), (1, .int w_)]) hx hb dX12_setsWay_57 rfl hl (by decide) (zLvf_h rfl) (fun ls hl => ?_)
        obtain ⟨y_21, ey_21⟩ : ∃ q : Int32, q = c9 + (-1) := ⟨_, rfl⟩
        have ey_21i : y_21.toInt = c9.toInt - 1 := by rw [ey_21]; exact z_iaddI (x := c9) (y := (-1)) (by show -2147483648 ≤ c9.toInt + (-1 : Int); omega) (by show c9.toInt + (-1 : Int) < 2147483648; omega)
        refine lv_iinc (v := y_21) (lv' := [(3, .int y_21), (2, .int (lf / (zRd f_all i_z0 c9))), (0, .ref mo), (1, .int w_)]) hx hb dX12_setsWay_58 hl (k := 1) rfl ey_21.symm (by decide) (zLvf_h rfl) (fun ls hl => ?_)
        refine lv_goto (tgt := 9) hx hb dX12_setsWay_61 (by decide) ?_
        have G := G.sub (bs' := [[zO11 mo m_all m_has i_size i_next i_where i_token i_number i_word i_wrong i_farCrossing m_read i_z0 i_crossings i_inns m_posts m_shut m_here i_steps i_done i_at i_gone m_was m_came m_seenAt m_rowWorth m_farBy m_used i_everywhere i_again0 i_d0 i_never i_firstCame i_longRun i_moved i_crowd i_l0 i_fitMany i_fitLeast i_fitMost m_fitPost m_fitEnd m_keptPosts i_x0], [zAr T 0 m_all 3952 f_all], [zAr T 0 m_posts 7 (upd xp c9.toNatClampNeg (lf - lf / (zRd f_all i_z0 c9) * (zRd f_all i_z0 c9)))]]) [1, 2, 0] rfl
        exact ih_9 y_21 (lf / (zRd f_all i_z0 c9)) (upd xp c9.toNatClampNeg (lf - lf / (zRd f_all i_z0 c9) * (zRd f_all i_z0 c9))) (show -1 ≤ y_21.toInt ∧ y_21.toInt ≤ 6 ∧ 0 ≤ (lf / (zRd f_all i_z0 c9)).toInt ∧ zMP (upd xp c9.toNatClampNeg (lf - lf / (zRd f_all i_z0 c9) * (zRd f_all i_z0 c9))) from ⟨by omega, by omega, by omega, (zMP_upd hQ (by omega))⟩) (show (y_21.toInt + 1).toNat < (c9.toInt + 1).toNat from by omega) _ _ ls G (lv_sub hl [0, 1, 2, 3] rfl)
      · have h_16 : (zInn i_inns c9 ∨ (zRd f_all i_z0 c9).toInt ≤ 0) := h_16
        refine lv_if_eq (tgt := 55) hx hb dX12_setsWay_44 (by decide) (fun _ => ?_) (fun q => absurd (by decide) q)
        refine lv_iconst (v := 1) hx hb dX12_setsWay_55 (by decide) ?_
        refine lv_idiv hx hb dX12_setsWay_56 (by decide) ?_
        have hdv : 0 ≤ (lf / 1).toInt := zDiv0 (by omega) (by decide)
        refine lv_istore_n (lv' := [(2, .int (lf / 1)), (3, .int c9), (0, .ref mo), (1, .int w_)]) hx hb dX12_setsWay_57 rfl hl (by decide) (zLvf_h rfl) (fun ls hl => ?_)
        obtain ⟨y_22, ey_22⟩ : ∃ q : Int32, q = c9 + (-1) := ⟨_, rfl⟩
        have ey_22i : y_22.toInt = c9.toInt - 1 := by rw [ey_22]; exact z_iaddI (x := c9) (y := (-1)) (by show -2147483648 ≤ c9.toInt + (-1 : Int); omega) (by show c9.toInt + (-1 : Int) < 2147483648; omega)
        refine lv_iinc (v := y_22) (lv' := [(3, .int y_22), (2, .int (lf / 1)), (0, .ref mo), (1, .int w_)]) hx hb dX12_setsWay_58 hl (k := 1) rfl ey_22.symm (by decide) (zLvf_h rfl) (fun ls hl => ?_)
        refine lv_goto (tgt := 9) hx hb dX12_setsWay_61 (by decide) ?_
        have G := G.sub (bs' := [[zO11 mo m_all m_has i_size i_next i_where i_token i_number i_word i_wrong i_farCrossing m_read i_z0 i_crossings i_inns m_posts m_shut m_here i_steps i_done i_at i_gone m_was m_came m_seenAt m_rowWorth m_farBy m_used i_everywhere i_again0 i_d0 i_never i_firstCame i_longRun i_moved i_crowd i_l0 i_fitMany i_fitLeast i_fitMost m_fitPost m_fitEnd m_keptPosts i_x0], [zAr T 0 m_all 3952 f_all], [zAr T 0 m_posts 7 (upd xp c9.toNatClampNeg (lf - lf / (zRd f_all i_z0 c9) * (zRd f_all i_z0 c9)))]]) [1, 2, 0] rfl
        exact ih_9 y_22 (lf / 1) (upd xp c9.toNatClampNeg (lf - lf / (zRd f_all i_z0 c9) * (zRd f_all i_z0 c9))) (show -1 ≤ y_22.toInt ∧ y_22.toInt ≤ 6 ∧ 0 ≤ (lf / 1).toInt ∧ zMP (upd xp c9.toNatClampNeg (lf - lf / (zRd f_all i_z0 c9) * (zRd f_all i_z0 c9))) from ⟨by omega, by omega, by omega, (zMP_upd hQ (by omega))⟩) (show (y_22.toInt + 1).toNat < (c9.toInt + 1).toNat from by omega) _ _ ls G (lv_sub hl [0, 1, 2, 3] rfl)
    · have h_7 : (zInn i_inns c9 ∨ (zRd f_all i_z0 c9).toInt ≤ 0) := h_7
      refine lv_if_eq (tgt := 36) hx hb dX12_setsWay_23 (by decide) (fun _ => ?_) (fun q => absurd (by decide) q)
      refine lv_iconst (v := 0) hx hb dX12_setsWay_36 (by decide) ?_
      refine z_ist C G 0 rfl (vp_in_iff.mpr ⟨by omega, by omega⟩) dX12_setsWay_37 (fun H locs G => ?_)
      have G : zS T A s.heap s [[zAr T 0 m_posts 7 (upd xp c9.toNatClampNeg 0)], [zO11 mo m_all m_has i_size i_next i_where i_token i_number i_word i_wrong i_farCrossing m_read i_z0 i_crossings i_inns m_posts m_shut m_here i_steps i_done i_at i_gone m_was m_came m_seenAt m_rowWorth m_farBy m_used i_everywhere i_again0 i_d0 i_never i_firstCame i_longRun i_moved i_crowd i_l0 i_fitMany i_fitLeast i_fitMost m_fitPost m_fitEnd m_keptPosts i_x0], [zAr T 0 m_all 3952 f_all]] _ _ := G
      refine lv_iload_n hx hb dX12_setsWay_38 rfl (lv_at hl 1 rfl) ?_
      refine lv_aload_n hx hb dX12_setsWay_39 rfl (lv_at hl 2 rfl) ?_
      refine lv_iload_n hx hb dX12_setsWay_40 rfl (lv_at hl 0 rfl) ?_
      refine z_Vi (bc := [[zO11 mo m_all m_has i_size i_next i_where i_token i_number i_word i_wrong i_farCrossing m_read i_z0 i_crossings i_inns m_posts m_shut m_here i_steps i_done i_at i_gone m_was m_came m_seenAt m_rowWorth m_farBy m_used i_everywhere i_again0 i_d0 i_never i_firstCame i_longRun i_moved i_crowd i_l0 i_fitMany i_fitLeast i_fitMost m_fitPost m_fitEnd m_keptPosts i_x0], [zAr T 0 m_all 3952 f_all]]) (br := [[zAr T 0 m_posts 7 (upd xp c9.toNatClampNeg 0)]]) (As := [.int c9]) (rest := [.int lf]) C G (c_m_isFree l T mo m_all m_has i_size i_next i_where i_token i_number i_word i_wrong i_farCrossing m_read i_z0 i_crossings i_inns m_posts m_shut m_here i_steps i_done i_at i_gone m_was m_came m_seenAt m_rowWorth m_farBy m_used i_everywhere i_again0 i_d0 i_never i_firstCame i_longRun i_moved i_crowd i_l0 i_fitMany i_fitLeast i_fitMost m_fitPost m_fitEnd m_keptPosts i_x0 f_all c9 (by first | with_reducible assumption | with_reducible rfl | omega | assumption | rfl | decide) (by first | with_reducible assumption | with_reducible rfl | omega | assumption | rfl | decide) (by first | with_reducible assumption | with_reducible rfl | omega | assumption | rfl | decide)) (kV_RX12_223 C.2.2.2.2 (Nat.le_of_ble_eq_true rfl) (Nat.le_of_ble_eq_true rfl)) [1, 2] [1, 0] rfl rfl (ci := 11) (qc := (RX12, TX12, 43)) rfl rfl (List.mem_flatten.mpr ⟨_, List.mem_of_getElem? (i := 0) rfl, List.mem_cons_self⟩) rfl rfl hl.1 dX12_setsWay_41 (Nat.le_of_ble_eq_true rfl) (Nat.le_of_ble_eq_true rfl) (fun r_24 b1 H locs hw G => ?_)
      refine zAn2 hw ?_
      intro hbs9 hc_23
      clear hw
      subst hbs9
      have G : zS T A s.heap s [[zAr T 0 m_posts 7 (upd xp c9.toNatClampNeg 0)], [zO11 mo m_all m_has i_size i_next i_where i_token i_number i_word i_wrong i_farCrossing m_read i_z0 i_crossings i_inns m_posts m_shut m_here i_steps i_done i_at i_gone m_was m_came m_seenAt m_rowWorth m_farBy m_used i_everywhere i_again0 i_d0 i_never i_firstCame i_longRun i_moved i_crowd i_l0 i_fitMany i_fitLeast i_fitMost m_fitPost m_fitEnd m_keptPosts i_x0], [zAr T 0 m_all 3952 f_all]] _ _ := G
      rcases hc_23 with ⟨rfl, h_25, h_26⟩ | ⟨rfl, h_27⟩
      · have h_25 : ¬ zInn i_inns c9 := h_25
        have h_26 : 0 < (zRd f_all i_z0 c9).toInt := h_26
        refine lv_if_eq (tgt := 55) hx hb dX12_setsWay_44 (by decide) (fun q => absurd q (by decide)) (fun _ => ?_)
        refine lv_aload_n hx hb dX12_setsWay_47 rfl (lv_at hl 2 rfl) ?_
        refine lv_iload_n hx hb dX12_setsWay_48 rfl (lv_at hl 0 rfl) ?_
        refine z_Vi (bc := [[zO11 mo m_all m_has i_size i_next i_where i_token i_number i_word i_wrong i_farCrossing m_read i_z0 i_crossings i_inns m_posts m_shut m_here i_steps i_done i_at i_gone m_was m_came m_seenAt m_rowWorth m_farBy m_used i_everywhere i_again0 i_d0 i_never i_firstCame i_longRun i_moved i_crowd i_l0 i_fitMany i_fitLeast i_fitMost m_fitPost m_fitEnd m_keptPosts i_x0], [zAr T 0 m_all 3952 f_all]]) (br := [[zAr T 0 m_posts 7 (upd xp c9.toNatClampNeg 0)]]) (As := [.int c9]) (rest := [.int lf]) C G (c_m_roadsOf l T mo m_all m_has i_size i_next i_where i_token i_number i_word i_wrong i_farCrossing m_read i_z0 i_crossings i_inns m_posts m_shut m_here i_steps i_done i_at i_gone m_was m_came m_seenAt m_rowWorth m_farBy m_used i_everywhere i_again0 i_d0 i_never i_firstCame i_longRun i_moved i_crowd i_l0 i_fitMany i_fitLeast i_fitMost m_fitPost m_fitEnd m_keptPosts i_x0 f_all c9 (by first | with_reducible assumption | with_reducible rfl | omega | assumption | rfl | decide) (by first | with_reducible assumption | with_reducible rfl | omega | assumption | rfl | decide) (by first | with_reducible assumption | with_reducible rfl | omega | assumption | rfl | decide)) (kV_RX12_181 C.2.2.2.2 (Nat.le_of_ble_eq_true rfl) (Nat.le_of_ble_eq_true rfl)) [1, 2] [1, 0] rfl rfl (ci := 11) (qc := (RX12, TX12, 43)) rfl rfl (List.mem_flatten.mpr ⟨_, List.mem_of_getElem? (i := 0) rfl, List.mem_cons_self⟩) rfl rfl hl.1 dX12_setsWay_49 (Nat.le_of_ble_eq_true rfl) (Nat.le_of_ble_eq_true rfl) (fun r_31 b1 H locs hw G => ?_)
        refine zAn4 hw ?_
        intro hbs9 h_28 h_29 h_30
        clear hw
        subst hbs9
        have G : zS T A s.heap s [[zAr T 0 m_posts 7 (upd xp c9.toNatClampNeg 0)], [zO11 mo m_all m_has i_size i_next i_where i_token i_number i_word i_wrong i_farCrossing m_read i_z0 i_crossings i_inns m_posts m_shut m_here i_steps i_done i_at i_gone m_was m_came m_seenAt m_rowWorth m_farBy m_used i_everywhere i_again0 i_d0 i_never i_firstCame i_longRun i_moved i_crowd i_l0 i_fitMany i_fitLeast i_fitMost m_fitPost m_fitEnd m_keptPosts i_x0], [zAr T 0 m_all 3952 f_all]] _ _ := G
        subst h_28
        refine lv_goto (tgt := 56) hx hb dX12_setsWay_52 (by decide) ?_
        refine lv_idiv hx hb dX12_setsWay_56 (fun q => absurd (congrArg Int32.toInt q) (by show ¬ _ = (0 : Int); omega)) ?_
        have hdv : 0 ≤ (lf / (zRd f_all i_z0 c9)).toInt := zDiv0 (by omega) (by omega)
        refine lv_istore_n (lv' := [(2, .int (lf / (zRd f_all i_z0 c9))), (3, .int c9), (0, .ref mo), (1, .int w_)]) hx hb dX12_setsWay_57 rfl hl (by decide) (zLvf_h rfl) (fun ls hl => ?_)
        obtain ⟨y_32, ey_32⟩ : ∃ q : Int32, q = c9 + (-1) := ⟨_, rfl⟩
        have ey_32i : y_32.toInt = c9.toInt - 1 := by rw [ey_32]; exact z_iaddI (x := c9) (y := (-1)) (by show -2147483648 ≤ c9.toInt + (-1 : Int); omega) (by show c9.toInt + (-1 : Int) < 2147483648; omega)
        refine lv_iinc (v := y_32) (lv' := [(3, .int y_32), (2, .int (lf / (zRd f_all i_z0 c9))), (0, .ref mo), (1, .int w_)]) hx hb dX12_setsWay_58 hl (k := 1) rfl ey_32.symm (by decide) (zLvf_h rfl) (fun ls hl => ?_)
        refine lv_goto (tgt := 9) hx hb dX12_setsWay_61 (by decide) ?_
        have G := G.sub (bs' := [[zO11 mo m_all m_has i_size i_next i_where i_token i_number i_word i_wrong i_farCrossing m_read i_z0 i_crossings i_inns m_posts m_shut m_here i_steps i_done i_at i_gone m_was m_came m_seenAt m_rowWorth m_farBy m_used i_everywhere i_again0 i_d0 i_never i_firstCame i_longRun i_moved i_crowd i_l0 i_fitMany i_fitLeast i_fitMost m_fitPost m_fitEnd m_keptPosts i_x0], [zAr T 0 m_all 3952 f_all], [zAr T 0 m_posts 7 (upd xp c9.toNatClampNeg 0)]]) [1, 2, 0] rfl
        exact ih_9 y_32 (lf / (zRd f_all i_z0 c9)) (upd xp c9.toNatClampNeg 0) (show -1 ≤ y_32.toInt ∧ y_32.toInt ≤ 6 ∧ 0 ≤ (lf / (zRd f_all i_z0 c9)).toInt ∧ zMP (upd xp c9.toNatClampNeg 0) from ⟨by omega, by omega, by omega, (zMP_upd hQ (by decide))⟩) (show (y_32.toInt + 1).toNat < (c9.toInt + 1).toNat from by omega) _ _ ls G (lv_sub hl [0, 1, 2, 3] rfl)
      · have h_27 : (zInn i_inns c9 ∨ (zRd f_all i_z0 c9).toInt ≤ 0) := h_27
        refine lv_if_eq (tgt := 55) hx hb dX12_setsWay_44 (by decide) (fun _ => ?_) (fun q => absurd (by decide) q)
        refine lv_iconst (v := 1) hx hb dX12_setsWay_55 (by decide) ?_
        refine lv_idiv hx hb dX12_setsWay_56 (by decide) ?_
        have hdv : 0 ≤ (lf / 1).toInt := zDiv0 (by omega) (by decide)
        refine lv_istore_n (lv' := [(2, .int (lf / 1)), (3, .int c9), (0, .ref mo), (1, .int w_)]) hx hb dX12_setsWay_57 rfl hl (by decide) (zLvf_h rfl) (fun ls hl => ?_)
        obtain ⟨y_33, ey_33⟩ : ∃ q : Int32, q = c9 + (-1) := ⟨_, rfl⟩
        have ey_33i : y_33.toInt = c9.toInt - 1 := by rw [ey_33]; exact z_iaddI (x := c9) (y := (-1)) (by show -2147483648 ≤ c9.toInt + (-1 : Int); omega) (by show c9.toInt + (-1 : Int) < 2147483648; omega)
        refine lv_iinc (v := y_33) (lv' := [(3, .int y_33), (2, .int (lf / 1)), (0, .ref mo), (1, .int w_)]) hx hb dX12_setsWay_58 hl (k := 1) rfl ey_33.symm (by decide) (zLvf_h rfl) (fun ls hl => ?_)
        refine lv_goto (tgt := 9) hx hb dX12_setsWay_61 (by decide) ?_
        have G := G.sub (bs' := [[zO11 mo m_all m_has i_size i_next i_where i_token i_number i_word i_wrong i_farCrossing m_read i_z0 i_crossings i_inns m_posts m_shut m_here i_steps i_done i_at i_gone m_was m_came m_seenAt m_rowWorth m_farBy m_used i_everywhere i_again0 i_d0 i_never i_firstCame i_longRun i_moved i_crowd i_l0 i_fitMany i_fitLeast i_fitMost m_fitPost m_fitEnd m_keptPosts i_x0], [zAr T 0 m_all 3952 f_all], [zAr T 0 m_posts 7 (upd xp c9.toNatClampNeg 0)]]) [1, 2, 0] rfl
        exact ih_9 y_33 (lf / 1) (upd xp c9.toNatClampNeg 0) (show -1 ≤ y_33.toInt ∧ y_33.toInt ≤ 6 ∧ 0 ≤ (lf / 1).toInt ∧ zMP (upd xp c9.toNatClampNeg 0) from ⟨by omega, by omega, by omega, (zMP_upd hQ (by decide))⟩) (show (y_33.toInt + 1).toNat < (c9.toInt + 1).toNat from by omega) _ _ ls G (lv_sub hl [0, 1, 2, 3] rfl)
theorem m_co_X12_isLand : Cond.code yX12_isLand cX12_isLand 2 (some .boolean) ∈ zT := zmem1 zsub_6 231 rfl rfl
theorem m_ml_RX12_184 : Cond.methodLink RX12 184 yX12_isLand ∈ zT := zmem1 zsub_6 228 rfl rfl
theorem m_im_X12_isLand : Cond.instanceMethod yX12_isLand ∈ zT := zmem1 zsub_6 230 rfl rfl
theorem m_se_X12_isLand : Cond.selects RX12 yX12_isLand yX12_isLand ∈ zT := zmem 59 rfl rfl
theorem m_co_X12_isCrossing : Cond.code yX12_isCrossing cX12_isCrossing 2 (some .boolean) ∈ zT := zmem1 zsub_7 3 rfl rfl
theorem m_ml_RX12_187 : Cond.methodLink RX12 187 yX12_isCrossing ∈ zT := zmem1 zsub_7 0 rfl rfl
theorem m_im_X12_isCrossing : Cond.instanceMethod yX12_isCrossing ∈ zT := zmem1 zsub_7 2 rfl rfl
theorem m_se_X12_isCrossing : Cond.selects RX12 yX12_isCrossing yX12_isCrossing ∈ zT := zmem 62 rfl rfl
theorem m_co_X12_walks : Cond.code yX12_walks cX12_walks 3 (some .boolean) ∈ zT := zmem1 zsub_7 19 rfl rfl
theorem m_ml_RX12_217 : Cond.methodLink RX12 217 yX12_walks ∈ zT := zmem1 zsub_7 16 rfl rfl
theorem m_im_X12_walks : Cond.instanceMethod yX12_walks ∈ zT := zmem1 zsub_7 18 rfl rfl
theorem m_se_X12_walks : Cond.selects RX12 yX12_walks yX12_walks ∈ zT := zmem 65 rfl rfl
theorem m_co_X12_postsNow : Cond.code yX12_postsNow cX12_postsNow 3 (some .int) ∈ zT := zmem1 zsub_7 55 rfl rfl
theorem m_ml_RX12_220 : Cond.methodLink RX12 220 yX12_postsNow ∈ zT := zmem1 zsub_7 52 rfl rfl
theorem m_im_X12_postsNow : Cond.instanceMethod yX12_postsNow ∈ zT := zmem1 zsub_7 54 rfl rfl
theorem m_se_X12_postsNow : Cond.selects RX12 yX12_postsNow yX12_postsNow ∈ zT := zmem 70 rfl rfl
theorem kV_RX12_184 {R : Room} {s : State} {args : Array Value} {d mc ms : Nat} (hts : ∀ w ∈ zT, w.before args s = true) (h1 : d + 1 ≤ R.frames) (h2 : 8 + (2 + 11) + 40 * d ≤ R.locals) : CallW R s args RX12 RX12 184 yX12_isLand cX12_isLand 2 (some .boolean) (zW yX12_isLand cX12_isLand 2 (some .boolean)) (zR d mc ms) mc ms 1 := z_cwV hts m_co_X12_isLand m_ml_RX12_184 m_im_X12_isLand m_se_X12_isLand m_ii_RX12 (by decide +kernel) h1 h2
theorem kV_RX12_187 {R : Room} {s : State} {args : Array Value} {d mc ms : Nat} (hts : ∀ w ∈ zT, w.before args s = true) (h1 : d + 1 ≤ R.frames) (h2 : 8 + (2 + 11) + 40 * d ≤ R.locals) : CallW R s args RX12 RX12 187 yX12_isCrossing cX12_isCrossing 2 (some .boolean) (zW yX12_isCrossing cX12_isCrossing 2 (some .boolean)) (zR d mc ms) mc ms 1 := z_cwV hts m_co_X12_isCrossing m_ml_RX12_187 m_im_X12_isCrossing m_se_X12_isCrossing m_ii_RX12 (by decide +kernel) h1 h2
theorem kV_RX12_217 {R : Room} {s : State} {args : Array Value} {d mc ms : Nat} (hts : ∀ w ∈ zT, w.before args s = true) (h1 : d + 1 ≤ R.frames) (h2 : 8 + (3 + 11) + 40 * d ≤ R.locals) : CallW R s args RX12 RX12 217 yX12_walks cX12_walks 3 (some .boolean) (zW yX12_walks cX12_walks 3 (some .boolean)) (zR d mc ms) mc ms 1 := z_cwV hts m_co_X12_walks m_ml_RX12_217 m_im_X12_walks m_se_X12_walks m_ii_RX12 (by decide +kernel) h1 h2
theorem kV_RX12_220 {R : Room} {s : State} {args : Array Value} {d mc ms : Nat} (hts : ∀ w ∈ zT, w.before args s = true) (h1 : d + 1 ≤ R.frames) (h2 : 8 + (3 + 11) + 40 * d ≤ R.locals) : CallW R s args RX12 RX12 220 yX12_postsNow cX12_postsNow 3 (some .int) (zW yX12_postsNow cX12_postsNow 3 (some .int)) (zR d mc ms) mc ms 0 := z_cwV hts m_co_X12_postsNow m_ml_RX12_220 m_im_X12_postsNow m_se_X12_postsNow m_ii_RX12 (by decide +kernel) h1 h2
theorem dX12_land_0 : decode cX12_land 0 = .ok (.aload_n 0, 1) := zo_42 (by decide +kernel)
theorem dX12_land_1 : decode cX12_land 1 = .ok (.iload_n 1, 1) := zo_27 (by decide +kernel)
theorem dX12_land_2 : decode cX12_land 2 = .ok (.invokevirtual 184, 3) := zo_182 (by decide +kernel)
theorem dX12_land_5 : decode cX12_land 5 = .ok (.ifCond .eq 7, 3) := zo_153 (by decide +kernel)
theorem dX12_land_8 : decode cX12_land 8 = .ok (.iload_n 2, 1) := zo_28 (by decide +kernel)
theorem dX12_land_9 : decode cX12_land 9 = .ok (.ifCond .ge 5, 3) := zo_156 (by decide +kernel)
theorem dX12_land_12 : decode cX12_land 12 = .ok (.iconst (-1), 1) := zo_2 (by decide +kernel)
theorem dX12_land_13 : decode cX12_land 13 = .ok (.ireturn, 1) := zo_172 (by decide +kernel)
theorem dX12_land_14 : decode cX12_land 14 = .ok (.iload_n 2, 1) := zo_28 (by decide +kernel)
theorem dX12_land_15 : decode cX12_land 15 = .ok (.iconst 2, 1) := zo_5 (by decide +kernel)
theorem dX12_land_16 : decode cX12_land 16 = .ok (.if_icmp .ge 15, 3) := zo_162 (by decide +kernel)
theorem dX12_land_19 : decode cX12_land 19 = .ok (.aload_n 0, 1) := zo_42 (by decide +kernel)
theorem dX12_land_20 : decode cX12_land 20 = .ok (.getfield 7, 3) := zo_180 (by decide +kernel)
theorem dX12_land_23 : decode cX12_land 23 = .ok (.aload_n 0, 1) := zo_42 (by decide +kernel)
theorem dX12_land_24 : decode cX12_land 24 = .ok (.getfield 166, 3) := zo_180 (by decide +kernel)
theorem dX12_land_27 : decode cX12_land 27 = .ok (.iload_n 2, 1) := zo_28 (by decide +kernel)
theorem dX12_land_28 : decode cX12_land 28 = .ok (.iadd, 1) := zo_96 (by decide +kernel)
theorem dX12_land_29 : decode cX12_land 29 = .ok (.iaload, 1) := zo_46 (by decide +kernel)
theorem dX12_land_30 : decode cX12_land 30 = .ok (.ireturn, 1) := zo_172 (by decide +kernel)
theorem dX12_land_31 : decode cX12_land 31 = .ok (.iload_n 2, 1) := zo_28 (by decide +kernel)
theorem dX12_land_32 : decode cX12_land 32 = .ok (.bipush 10, 2) := zo_16 (by decide +kernel)
theorem dX12_land_34 : decode cX12_land 34 = .ok (.irem, 1) := zo_112 (by decide +kernel)
theorem dX12_land_35 : decode cX12_land 35 = .ok (.istore_n 3, 1) := zo_62 (by decide +kernel)
theorem dX12_land_36 : decode cX12_land 36 = .ok (.iload_n 2, 1) := zo_28 (by decide +kernel)
theorem dX12_land_37 : decode cX12_land 37 = .ok (.bipush 100, 2) := zo_16 (by decide +kernel)
theorem dX12_land_39 : decode cX12_land 39 = .ok (.if_icmp .lt 49, 3) := zo_161 (by decide +kernel)
theorem dX12_land_42 : decode cX12_land 42 = .ok (.aload_n 0, 1) := zo_42 (by decide +kernel)
theorem dX12_land_43 : decode cX12_land 43 = .ok (.iload_n 2, 1) := zo_28 (by decide +kernel)
theorem dX12_land_44 : decode cX12_land 44 = .ok (.bipush 10, 2) := zo_16 (by decide +kernel)
theorem dX12_land_46 : decode cX12_land 46 = .ok (.idiv, 1) := zo_108 (by decide +kernel)
theorem dX12_land_47 : decode cX12_land 47 = .ok (.bipush 10, 2) := zo_16 (by decide +kernel)
theorem dX12_land_49 : decode cX12_land 49 = .ok (.isub, 1) := zo_100 (by decide +kernel)
theorem dX12_land_50 : decode cX12_land 50 = .ok (.invokevirtual 187, 3) := zo_182 (by decide +kernel)
theorem dX12_land_53 : decode cX12_land 53 = .ok (.ifCond .eq 33, 3) := zo_153 (by decide +kernel)
theorem dX12_land_56 : decode cX12_land 56 = .ok (.iload_n 3, 1) := zo_29 (by decide +kernel)
theorem dX12_land_57 : decode cX12_land 57 = .ok (.aload_n 0, 1) := zo_42 (by decide +kernel)
theorem dX12_land_58 : decode cX12_land 58 = .ok (.iload_n 2, 1) := zo_28 (by decide +kernel)
theorem dX12_land_59 : decode cX12_land 59 = .ok (.bipush 10, 2) := zo_16 (by decide +kernel)
theorem dX12_land_61 : decode cX12_land 61 = .ok (.idiv, 1) := zo_108 (by decide +kernel)
theorem dX12_land_62 : decode cX12_land 62 = .ok (.bipush 10, 2) := zo_16 (by decide +kernel)
theorem dX12_land_64 : decode cX12_land 64 = .ok (.isub, 1) := zo_100 (by decide +kernel)
theorem dX12_land_65 : decode cX12_land 65 = .ok (.invokevirtual 181, 3) := zo_182 (by decide +kernel)
theorem dX12_land_68 : decode cX12_land 68 = .ok (.if_icmp .ge 18, 3) := zo_162 (by decide +kernel)
theorem dX12_land_71 : decode cX12_land 71 = .ok (.aload_n 0, 1) := zo_42 (by decide +kernel)
theorem dX12_land_72 : decode cX12_land 72 = .ok (.iload_n 2, 1) := zo_28 (by decide +kernel)
theorem dX12_land_73 : decode cX12_land 73 = .ok (.bipush 10, 2) := zo_16 (by decide +kernel)
theorem dX12_land_75 : decode cX12_land 75 = .ok (.idiv, 1) := zo_108 (by decide +kernel)
theorem dX12_land_76 : decode cX12_land 76 = .ok (.bipush 10, 2) := zo_16 (by decide +kernel)
theorem dX12_land_78 : decode cX12_land 78 = .ok (.isub, 1) := zo_100 (by decide +kernel)
theorem dX12_land_79 : decode cX12_land 79 = .ok (.iload_n 3, 1) := zo_29 (by decide +kernel)
theorem dX12_land_80 : decode cX12_land 80 = .ok (.invokevirtual 190, 3) := zo_182 (by decide +kernel)
theorem dX12_land_83 : decode cX12_land 83 = .ok (.goto 4, 3) := zo_167 (by decide +kernel)
theorem dX12_land_86 : decode cX12_land 86 = .ok (.iconst (-1), 1) := zo_2 (by decide +kernel)
theorem dX12_land_87 : decode cX12_land 87 = .ok (.ireturn, 1) := zo_172 (by decide +kernel)
theorem dX12_land_88 : decode cX12_land 88 = .ok (.iload_n 2, 1) := zo_28 (by decide +kernel)
theorem dX12_land_89 : decode cX12_land 89 = .ok (.bipush 10, 2) := zo_16 (by decide +kernel)
theorem dX12_land_91 : decode cX12_land 91 = .ok (.bipush 39, 2) := zo_16 (by decide +kernel)
theorem dX12_land_93 : decode cX12_land 93 = .ok (.invokestatic 111, 3) := zo_184 (by decide +kernel)
theorem dX12_land_96 : decode cX12_land 96 = .ok (.ifCond .eq 11, 3) := zo_153 (by decide +kernel)
theorem dX12_land_99 : decode cX12_land 99 = .ok (.aload_n 0, 1) := zo_42 (by decide +kernel)
theorem dX12_land_100 : decode cX12_land 100 = .ok (.iload_n 3, 1) := zo_29 (by decide +kernel)
theorem dX12_land_101 : decode cX12_land 101 = .ok (.invokevirtual 187, 3) := zo_182 (by decide +kernel)
theorem dX12_land_104 : decode cX12_land 104 = .ok (.ifCond .ne 5, 3) := zo_154 (by decide +kernel)
theorem dX12_land_107 : decode cX12_land 107 = .ok (.iconst (-1), 1) := zo_2 (by decide +kernel)
theorem dX12_land_108 : decode cX12_land 108 = .ok (.ireturn, 1) := zo_172 (by decide +kernel)
theorem dX12_land_109 : decode cX12_land 109 = .ok (.iload_n 2, 1) := zo_28 (by decide +kernel)
theorem dX12_land_110 : decode cX12_land 110 = .ok (.bipush 20, 2) := zo_16 (by decide +kernel)
theorem dX12_land_112 : decode cX12_land 112 = .ok (.if_icmp .ge 11, 3) := zo_162 (by decide +kernel)
theorem dX12_land_115 : decode cX12_land 115 = .ok (.aload_n 0, 1) := zo_42 (by decide +kernel)
theorem dX12_land_116 : decode cX12_land 116 = .ok (.iload_n 3, 1) := zo_29 (by decide +kernel)
theorem dX12_land_117 : decode cX12_land 117 = .ok (.invokevirtual 181, 3) := zo_182 (by decide +kernel)
theorem dX12_land_120 : decode cX12_land 120 = .ok (.goto 31, 3) := zo_167 (by decide +kernel)
theorem dX12_land_123 : decode cX12_land 123 = .ok (.iload_n 2, 1) := zo_28 (by decide +kernel)
theorem dX12_land_124 : decode cX12_land 124 = .ok (.bipush 30, 2) := zo_16 (by decide +kernel)
theorem dX12_land_126 : decode cX12_land 126 = .ok (.if_icmp .ge 11, 3) := zo_162 (by decide +kernel)
theorem dX12_land_129 : decode cX12_land 129 = .ok (.aload_n 0, 1) := zo_42 (by decide +kernel)
theorem dX12_land_130 : decode cX12_land 130 = .ok (.iload_n 3, 1) := zo_29 (by decide +kernel)
theorem dX12_land_131 : decode cX12_land 131 = .ok (.invokevirtual 193, 3) := zo_182 (by decide +kernel)
theorem dX12_land_134 : decode cX12_land 134 = .ok (.goto 17, 3) := zo_167 (by decide +kernel)
theorem dX12_land_137 : decode cX12_land 137 = .ok (.aload_n 0, 1) := zo_42 (by decide +kernel)
theorem dX12_land_138 : decode cX12_land 138 = .ok (.getfield 7, 3) := zo_180 (by decide +kernel)
theorem dX12_land_141 : decode cX12_land 141 = .ok (.aload_n 0, 1) := zo_42 (by decide +kernel)
theorem dX12_land_142 : decode cX12_land 142 = .ok (.getfield 166, 3) := zo_180 (by decide +kernel)
theorem dX12_land_145 : decode cX12_land 145 = .ok (.bipush 16, 2) := zo_16 (by decide +kernel)
theorem dX12_land_147 : decode cX12_land 147 = .ok (.iadd, 1) := zo_96 (by decide +kernel)
theorem dX12_land_148 : decode cX12_land 148 = .ok (.iload_n 3, 1) := zo_29 (by decide +kernel)
theorem dX12_land_149 : decode cX12_land 149 = .ok (.iadd, 1) := zo_96 (by decide +kernel)
theorem dX12_land_150 : decode cX12_land 150 = .ok (.iaload, 1) := zo_46 (by decide +kernel)
theorem dX12_land_151 : decode cX12_land 151 = .ok (.ireturn, 1) := zo_172 (by decide +kernel)
theorem dX12_walk_0 : decode cX12_walk 0 = .ok (.aload_n 0, 1) := zo_42 (by decide +kernel)
theorem dX12_walk_1 : decode cX12_walk 1 = .ok (.iload_n 1, 1) := zo_27 (by decide +kernel)
theorem dX12_walk_2 : decode cX12_walk 2 = .ok (.invokevirtual 184, 3) := zo_182 (by decide +kernel)
theorem dX12_walk_5 : decode cX12_walk 5 = .ok (.ifCond .eq 11, 3) := zo_153 (by decide +kernel)
theorem dX12_walk_8 : decode cX12_walk 8 = .ok (.aload_n 0, 1) := zo_42 (by decide +kernel)
theorem dX12_walk_9 : decode cX12_walk 9 = .ok (.iload_n 2, 1) := zo_28 (by decide +kernel)
theorem dX12_walk_10 : decode cX12_walk 10 = .ok (.invokevirtual 187, 3) := zo_182 (by decide +kernel)
theorem dX12_walk_13 : decode cX12_walk 13 = .ok (.ifCond .ne 6, 3) := zo_154 (by decide +kernel)
theorem dX12_walk_16 : decode cX12_walk 16 = .ok (.bipush (-2), 2) := zo_16 (by decide +kernel)
theorem dX12_walk_18 : decode cX12_walk 18 = .ok (.ireturn, 1) := zo_172 (by decide +kernel)
theorem dX12_walk_19 : decode cX12_walk 19 = .ok (.aload_n 0, 1) := zo_42 (by decide +kernel)
theorem dX12_walk_20 : decode cX12_walk 20 = .ok (.iload_n 2, 1) := zo_28 (by decide +kernel)
theorem dX12_walk_21 : decode cX12_walk 21 = .ok (.invokevirtual 217, 3) := zo_182 (by decide +kernel)
theorem dX12_walk_24 : decode cX12_walk 24 = .ok (.istore 4, 2) := zo_54 (by decide +kernel)
theorem dX12_walk_26 : decode cX12_walk 26 = .ok (.iload_n 3, 1) := zo_29 (by decide +kernel)
theorem dX12_walk_27 : decode cX12_walk 27 = .ok (.tableswitch 46 0 2 #[25, 30, 35], 25) := by decide +kernel
theorem dX12_walk_52 : decode cX12_walk 52 = .ok (.aload_n 0, 1) := zo_42 (by decide +kernel)
theorem dX12_walk_53 : decode cX12_walk 53 = .ok (.getfield 208, 3) := zo_180 (by decide +kernel)
theorem dX12_walk_56 : decode cX12_walk 56 = .ok (.ireturn, 1) := zo_172 (by decide +kernel)
theorem dX12_walk_57 : decode cX12_walk 57 = .ok (.aload_n 0, 1) := zo_42 (by decide +kernel)
theorem dX12_walk_58 : decode cX12_walk 58 = .ok (.getfield 202, 3) := zo_180 (by decide +kernel)
theorem dX12_walk_61 : decode cX12_walk 61 = .ok (.ireturn, 1) := zo_172 (by decide +kernel)
theorem dX12_walk_62 : decode cX12_walk 62 = .ok (.iload 4, 2) := zo_21 (by decide +kernel)
theorem dX12_walk_64 : decode cX12_walk 64 = .ok (.ifCond .eq 7, 3) := zo_153 (by decide +kernel)
theorem dX12_walk_67 : decode cX12_walk 67 = .ok (.iconst 1, 1) := zo_4 (by decide +kernel)
theorem dX12_walk_68 : decode cX12_walk 68 = .ok (.goto 4, 3) := zo_167 (by decide +kernel)
theorem dX12_walk_71 : decode cX12_walk 71 = .ok (.iconst 0, 1) := zo_3 (by decide +kernel)
theorem dX12_walk_72 : decode cX12_walk 72 = .ok (.ireturn, 1) := zo_172 (by decide +kernel)
theorem dX12_walk_73 : decode cX12_walk 73 = .ok (.iload_n 3, 1) := zo_29 (by decide +kernel)
theorem dX12_walk_74 : decode cX12_walk 74 = .ok (.bipush 10, 2) := zo_16 (by decide +kernel)
theorem dX12_walk_76 : decode cX12_walk 76 = .ok (.bipush 16, 2) := zo_16 (by decide +kernel)
theorem dX12_walk_78 : decode cX12_walk 78 = .ok (.invokestatic 111, 3) := zo_184 (by decide +kernel)
theorem dX12_walk_81 : decode cX12_walk 81 = .ok (.ifCond .eq 26, 3) := zo_153 (by decide +kernel)
theorem dX12_walk_84 : decode cX12_walk 84 = .ok (.aload_n 0, 1) := zo_42 (by decide +kernel)
theorem dX12_walk_85 : decode cX12_walk 85 = .ok (.iload_n 3, 1) := zo_29 (by decide +kernel)
theorem dX12_walk_86 : decode cX12_walk 86 = .ok (.bipush 10, 2) := zo_16 (by decide +kernel)
theorem dX12_walk_88 : decode cX12_walk 88 = .ok (.isub, 1) := zo_100 (by decide +kernel)
theorem dX12_walk_89 : decode cX12_walk 89 = .ok (.invokevirtual 187, 3) := zo_182 (by decide +kernel)
theorem dX12_walk_92 : decode cX12_walk 92 = .ok (.ifCond .eq 15, 3) := zo_153 (by decide +kernel)
theorem dX12_walk_95 : decode cX12_walk 95 = .ok (.aload_n 0, 1) := zo_42 (by decide +kernel)
theorem dX12_walk_96 : decode cX12_walk 96 = .ok (.getfield 29, 3) := zo_180 (by decide +kernel)
theorem dX12_walk_99 : decode cX12_walk 99 = .ok (.iload_n 3, 1) := zo_29 (by decide +kernel)
theorem dX12_walk_100 : decode cX12_walk 100 = .ok (.bipush 10, 2) := zo_16 (by decide +kernel)
theorem dX12_walk_102 : decode cX12_walk 102 = .ok (.isub, 1) := zo_100 (by decide +kernel)
theorem dX12_walk_103 : decode cX12_walk 103 = .ok (.iaload, 1) := zo_46 (by decide +kernel)
theorem dX12_walk_104 : decode cX12_walk 104 = .ok (.goto 5, 3) := zo_167 (by decide +kernel)
theorem dX12_walk_107 : decode cX12_walk 107 = .ok (.bipush (-2), 2) := zo_16 (by decide +kernel)
theorem dX12_walk_109 : decode cX12_walk 109 = .ok (.ireturn, 1) := zo_172 (by decide +kernel)
theorem dX12_come_0 : decode cX12_come 0 = .ok (.aload_n 0, 1) := zo_42 (by decide +kernel)
theorem dX12_come_1 : decode cX12_come 1 = .ok (.iload_n 1, 1) := zo_27 (by decide +kernel)
theorem dX12_come_2 : decode cX12_come 2 = .ok (.invokevirtual 184, 3) := zo_182 (by decide +kernel)
theorem dX12_come_5 : decode cX12_come 5 = .ok (.ifCond .eq 21, 3) := zo_153 (by decide +kernel)
theorem dX12_come_8 : decode cX12_come 8 = .ok (.aload_n 0, 1) := zo_42 (by decide +kernel)
theorem dX12_come_9 : decode cX12_come 9 = .ok (.iload_n 2, 1) := zo_28 (by decide +kernel)
theorem dX12_come_10 : decode cX12_come 10 = .ok (.invokevirtual 187, 3) := zo_182 (by decide +kernel)
theorem dX12_come_13 : decode cX12_come 13 = .ok (.ifCond .eq 13, 3) := zo_153 (by decide +kernel)
theorem dX12_come_16 : decode cX12_come 16 = .ok (.iload_n 3, 1) := zo_29 (by decide +kernel)
theorem dX12_come_17 : decode cX12_come 17 = .ok (.iconst 1, 1) := zo_4 (by decide +kernel)
theorem dX12_come_18 : decode cX12_come 18 = .ok (.bipush 99, 2) := zo_16 (by decide +kernel)
theorem dX12_come_20 : decode cX12_come 20 = .ok (.invokestatic 111, 3) := zo_184 (by decide +kernel)
theorem dX12_come_23 : decode cX12_come 23 = .ok (.ifCond .ne 5, 3) := zo_154 (by decide +kernel)
theorem dX12_come_26 : decode cX12_come 26 = .ok (.iconst (-1), 1) := zo_2 (by decide +kernel)
theorem dX12_come_27 : decode cX12_come 27 = .ok (.ireturn, 1) := zo_172 (by decide +kernel)
theorem dX12_come_28 : decode cX12_come 28 = .ok (.iconst 0, 1) := zo_3 (by decide +kernel)
theorem dX12_come_29 : decode cX12_come 29 = .ok (.istore 4, 2) := zo_54 (by decide +kernel)
theorem dX12_come_31 : decode cX12_come 31 = .ok (.iload 4, 2) := zo_21 (by decide +kernel)
theorem dX12_come_33 : decode cX12_come 33 = .ok (.iload_n 3, 1) := zo_29 (by decide +kernel)
theorem dX12_come_34 : decode cX12_come 34 = .ok (.if_icmp .ge 15, 3) := zo_162 (by decide +kernel)
theorem dX12_come_37 : decode cX12_come 37 = .ok (.aload_n 0, 1) := zo_42 (by decide +kernel)
theorem dX12_come_38 : decode cX12_come 38 = .ok (.iload_n 2, 1) := zo_28 (by decide +kernel)
theorem dX12_come_39 : decode cX12_come 39 = .ok (.invokevirtual 217, 3) := zo_182 (by decide +kernel)
theorem dX12_come_42 : decode cX12_come 42 = .ok (.pop, 1) := zo_87 (by decide +kernel)
theorem dX12_come_43 : decode cX12_come 43 = .ok (.iinc 4 1, 3) := zo_132 (by decide +kernel)
theorem dX12_come_46 : decode cX12_come 46 = .ok (.goto (-15), 3) := zo_167 (by decide +kernel)
theorem dX12_come_49 : decode cX12_come 49 = .ok (.aload_n 0, 1) := zo_42 (by decide +kernel)
theorem dX12_come_50 : decode cX12_come 50 = .ok (.getfield 202, 3) := zo_180 (by decide +kernel)
theorem dX12_come_53 : decode cX12_come 53 = .ok (.ireturn, 1) := zo_172 (by decide +kernel)
theorem dX12_share_0 : decode cX12_share 0 = .ok (.aload_n 0, 1) := zo_42 (by decide +kernel)
theorem dX12_share_1 : decode cX12_share 1 = .ok (.iload_n 1, 1) := zo_27 (by decide +kernel)
theorem dX12_share_2 : decode cX12_share 2 = .ok (.invokevirtual 184, 3) := zo_182 (by decide +kernel)
theorem dX12_share_5 : decode cX12_share 5 = .ok (.ifCond .eq 39, 3) := zo_153 (by decide +kernel)
theorem dX12_share_8 : decode cX12_share 8 = .ok (.aload_n 0, 1) := zo_42 (by decide +kernel)
theorem dX12_share_9 : decode cX12_share 9 = .ok (.iload_n 2, 1) := zo_28 (by decide +kernel)
theorem dX12_share_10 : decode cX12_share 10 = .ok (.invokevirtual 187, 3) := zo_182 (by decide +kernel)
theorem dX12_share_13 : decode cX12_share 13 = .ok (.ifCond .eq 31, 3) := zo_153 (by decide +kernel)
theorem dX12_share_16 : decode cX12_share 16 = .ok (.iload_n 3, 1) := zo_29 (by decide +kernel)
theorem dX12_share_17 : decode cX12_share 17 = .ok (.iconst 0, 1) := zo_3 (by decide +kernel)
theorem dX12_share_18 : decode cX12_share 18 = .ok (.bipush 99, 2) := zo_16 (by decide +kernel)
theorem dX12_share_20 : decode cX12_share 20 = .ok (.invokestatic 111, 3) := zo_184 (by decide +kernel)
theorem dX12_share_23 : decode cX12_share 23 = .ok (.ifCond .eq 21, 3) := zo_153 (by decide +kernel)
theorem dX12_share_26 : decode cX12_share 26 = .ok (.aload_n 0, 1) := zo_42 (by decide +kernel)
theorem dX12_share_27 : decode cX12_share 27 = .ok (.iload 4, 2) := zo_21 (by decide +kernel)
theorem dX12_share_29 : decode cX12_share 29 = .ok (.invokevirtual 187, 3) := zo_182 (by decide +kernel)
theorem dX12_share_32 : decode cX12_share 32 = .ok (.ifCond .eq 12, 3) := zo_153 (by decide +kernel)
theorem dX12_share_35 : decode cX12_share 35 = .ok (.aload_n 0, 1) := zo_42 (by decide +kernel)
theorem dX12_share_36 : decode cX12_share 36 = .ok (.iload 4, 2) := zo_21 (by decide +kernel)
theorem dX12_share_38 : decode cX12_share 38 = .ok (.invokevirtual 178, 3) := zo_182 (by decide +kernel)
theorem dX12_share_41 : decode cX12_share 41 = .ok (.ifCond .ne 5, 3) := zo_154 (by decide +kernel)
theorem dX12_share_44 : decode cX12_share 44 = .ok (.iconst (-1), 1) := zo_2 (by decide +kernel)
theorem dX12_share_45 : decode cX12_share 45 = .ok (.ireturn, 1) := zo_172 (by decide +kernel)
theorem dX12_share_46 : decode cX12_share 46 = .ok (.iconst 0, 1) := zo_3 (by decide +kernel)
theorem dX12_share_47 : decode cX12_share 47 = .ok (.istore 5, 2) := zo_54 (by decide +kernel)
theorem dX12_share_49 : decode cX12_share 49 = .ok (.iconst 0, 1) := zo_3 (by decide +kernel)
theorem dX12_share_50 : decode cX12_share 50 = .ok (.istore 6, 2) := zo_54 (by decide +kernel)
theorem dX12_share_52 : decode cX12_share 52 = .ok (.iload 6, 2) := zo_21 (by decide +kernel)
theorem dX12_share_54 : decode cX12_share 54 = .ok (.iload_n 3, 1) := zo_29 (by decide +kernel)
theorem dX12_share_55 : decode cX12_share 55 = .ok (.if_icmp .ge 34, 3) := zo_162 (by decide +kernel)
theorem dX12_share_58 : decode cX12_share 58 = .ok (.aload_n 0, 1) := zo_42 (by decide +kernel)
theorem dX12_share_59 : decode cX12_share 59 = .ok (.iload_n 2, 1) := zo_28 (by decide +kernel)
theorem dX12_share_60 : decode cX12_share 60 = .ok (.invokevirtual 217, 3) := zo_182 (by decide +kernel)
theorem dX12_share_63 : decode cX12_share 63 = .ok (.pop, 1) := zo_87 (by decide +kernel)
theorem dX12_share_64 : decode cX12_share 64 = .ok (.iload 5, 2) := zo_21 (by decide +kernel)
theorem dX12_share_66 : decode cX12_share 66 = .ok (.aload_n 0, 1) := zo_42 (by decide +kernel)
theorem dX12_share_67 : decode cX12_share 67 = .ok (.getfield 202, 3) := zo_180 (by decide +kernel)
theorem dX12_share_70 : decode cX12_share 70 = .ok (.iload 4, 2) := zo_21 (by decide +kernel)
theorem dX12_share_72 : decode cX12_share 72 = .ok (.if_icmp .ne 7, 3) := zo_160 (by decide +kernel)
theorem dX12_share_75 : decode cX12_share 75 = .ok (.iconst 1, 1) := zo_4 (by decide +kernel)
theorem dX12_share_76 : decode cX12_share 76 = .ok (.goto 4, 3) := zo_167 (by decide +kernel)
theorem dX12_share_79 : decode cX12_share 79 = .ok (.iconst 0, 1) := zo_3 (by decide +kernel)
theorem dX12_share_80 : decode cX12_share 80 = .ok (.iadd, 1) := zo_96 (by decide +kernel)
theorem dX12_share_81 : decode cX12_share 81 = .ok (.istore 5, 2) := zo_54 (by decide +kernel)
theorem dX12_share_83 : decode cX12_share 83 = .ok (.iinc 6 1, 3) := zo_132 (by decide +kernel)
theorem dX12_share_86 : decode cX12_share 86 = .ok (.goto (-34), 3) := zo_167 (by decide +kernel)
theorem dX12_share_89 : decode cX12_share 89 = .ok (.iload 5, 2) := zo_21 (by decide +kernel)
theorem dX12_share_91 : decode cX12_share 91 = .ok (.ireturn, 1) := zo_172 (by decide +kernel)
theorem dX12_endOf_0 : decode cX12_endOf 0 = .ok (.aload_n 0, 1) := zo_42 (by decide +kernel)
theorem dX12_endOf_1 : decode cX12_endOf 1 = .ok (.iload_n 1, 1) := zo_27 (by decide +kernel)
theorem dX12_endOf_2 : decode cX12_endOf 2 = .ok (.invokevirtual 184, 3) := zo_182 (by decide +kernel)
theorem dX12_endOf_5 : decode cX12_endOf 5 = .ok (.ifCond .ne 6, 3) := zo_154 (by decide +kernel)
theorem dX12_endOf_8 : decode cX12_endOf 8 = .ok (.bipush (-2), 2) := zo_16 (by decide +kernel)
theorem dX12_endOf_10 : decode cX12_endOf 10 = .ok (.ireturn, 1) := zo_172 (by decide +kernel)
theorem dX12_endOf_11 : decode cX12_endOf 11 = .ok (.iconst 0, 1) := zo_3 (by decide +kernel)
theorem dX12_endOf_12 : decode cX12_endOf 12 = .ok (.istore_n 3, 1) := zo_62 (by decide +kernel)
theorem dX12_endOf_13 : decode cX12_endOf 13 = .ok (.iload_n 3, 1) := zo_29 (by decide +kernel)
theorem dX12_endOf_14 : decode cX12_endOf 14 = .ok (.bipush 7, 2) := zo_16 (by decide +kernel)
theorem dX12_endOf_16 : decode cX12_endOf 16 = .ok (.if_icmp .ge 16, 3) := zo_162 (by decide +kernel)
theorem dX12_endOf_19 : decode cX12_endOf 19 = .ok (.aload_n 0, 1) := zo_42 (by decide +kernel)
theorem dX12_endOf_20 : decode cX12_endOf 20 = .ok (.getfield 32, 3) := zo_180 (by decide +kernel)
theorem dX12_endOf_23 : decode cX12_endOf 23 = .ok (.iload_n 3, 1) := zo_29 (by decide +kernel)
theorem dX12_endOf_24 : decode cX12_endOf 24 = .ok (.iconst 0, 1) := zo_3 (by decide +kernel)
theorem dX12_endOf_25 : decode cX12_endOf 25 = .ok (.iastore, 1) := zo_79 (by decide +kernel)
theorem dX12_endOf_26 : decode cX12_endOf 26 = .ok (.iinc 3 1, 3) := zo_132 (by decide +kernel)
theorem dX12_endOf_29 : decode cX12_endOf 29 = .ok (.goto (-16), 3) := zo_167 (by decide +kernel)
theorem dX12_endOf_32 : decode cX12_endOf 32 = .ok (.iconst 0, 1) := zo_3 (by decide +kernel)
theorem dX12_endOf_33 : decode cX12_endOf 33 = .ok (.istore_n 3, 1) := zo_62 (by decide +kernel)
theorem dX12_endOf_34 : decode cX12_endOf 34 = .ok (.iload_n 3, 1) := zo_29 (by decide +kernel)
theorem dX12_endOf_35 : decode cX12_endOf 35 = .ok (.aload_n 0, 1) := zo_42 (by decide +kernel)
theorem dX12_endOf_36 : decode cX12_endOf 36 = .ok (.getfield 169, 3) := zo_180 (by decide +kernel)
theorem dX12_endOf_39 : decode cX12_endOf 39 = .ok (.if_icmp .ge 61, 3) := zo_162 (by decide +kernel)
theorem dX12_endOf_42 : decode cX12_endOf 42 = .ok (.iconst 0, 1) := zo_3 (by decide +kernel)
theorem dX12_endOf_43 : decode cX12_endOf 43 = .ok (.istore 4, 2) := zo_54 (by decide +kernel)
theorem dX12_endOf_45 : decode cX12_endOf 45 = .ok (.iload 4, 2) := zo_21 (by decide +kernel)
theorem dX12_endOf_47 : decode cX12_endOf 47 = .ok (.aload_n 0, 1) := zo_42 (by decide +kernel)
theorem dX12_endOf_48 : decode cX12_endOf 48 = .ok (.getfield 26, 3) := zo_180 (by decide +kernel)
theorem dX12_endOf_51 : decode cX12_endOf 51 = .ok (.iload_n 3, 1) := zo_29 (by decide +kernel)
theorem dX12_endOf_52 : decode cX12_endOf 52 = .ok (.iaload, 1) := zo_46 (by decide +kernel)
theorem dX12_endOf_53 : decode cX12_endOf 53 = .ok (.if_icmp .ge 41, 3) := zo_162 (by decide +kernel)
theorem dX12_endOf_56 : decode cX12_endOf 56 = .ok (.aload_n 0, 1) := zo_42 (by decide +kernel)
theorem dX12_endOf_57 : decode cX12_endOf 57 = .ok (.iload_n 3, 1) := zo_29 (by decide +kernel)
theorem dX12_endOf_58 : decode cX12_endOf 58 = .ok (.invokevirtual 217, 3) := zo_182 (by decide +kernel)
theorem dX12_endOf_61 : decode cX12_endOf 61 = .ok (.pop, 1) := zo_87 (by decide +kernel)
theorem dX12_endOf_62 : decode cX12_endOf 62 = .ok (.aload_n 0, 1) := zo_42 (by decide +kernel)
theorem dX12_endOf_63 : decode cX12_endOf 63 = .ok (.dup, 1) := zo_89 (by decide +kernel)
theorem dX12_endOf_64 : decode cX12_endOf 64 = .ok (.getfield 196, 3) := zo_180 (by decide +kernel)
theorem dX12_endOf_67 : decode cX12_endOf 67 = .ok (.aload_n 0, 1) := zo_42 (by decide +kernel)
theorem dX12_endOf_68 : decode cX12_endOf 68 = .ok (.getfield 208, 3) := zo_180 (by decide +kernel)
theorem dX12_endOf_71 : decode cX12_endOf 71 = .ok (.iadd, 1) := zo_96 (by decide +kernel)
theorem dX12_endOf_72 : decode cX12_endOf 72 = .ok (.putfield 196, 3) := zo_181 (by decide +kernel)
theorem dX12_endOf_75 : decode cX12_endOf 75 = .ok (.aload_n 0, 1) := zo_42 (by decide +kernel)
theorem dX12_endOf_76 : decode cX12_endOf 76 = .ok (.getfield 32, 3) := zo_180 (by decide +kernel)
theorem dX12_endOf_79 : decode cX12_endOf 79 = .ok (.aload_n 0, 1) := zo_42 (by decide +kernel)
theorem dX12_endOf_80 : decode cX12_endOf 80 = .ok (.getfield 202, 3) := zo_180 (by decide +kernel)
theorem dX12_endOf_83 : decode cX12_endOf 83 = .ok (.dup2, 1) := zo_92 (by decide +kernel)
theorem dX12_endOf_84 : decode cX12_endOf 84 = .ok (.iaload, 1) := zo_46 (by decide +kernel)
theorem dX12_endOf_85 : decode cX12_endOf 85 = .ok (.iconst 1, 1) := zo_4 (by decide +kernel)
theorem dX12_endOf_86 : decode cX12_endOf 86 = .ok (.iadd, 1) := zo_96 (by decide +kernel)
theorem dX12_endOf_87 : decode cX12_endOf 87 = .ok (.iastore, 1) := zo_79 (by decide +kernel)
theorem dX12_endOf_88 : decode cX12_endOf 88 = .ok (.iinc 4 1, 3) := zo_132 (by decide +kernel)
theorem dX12_endOf_91 : decode cX12_endOf 91 = .ok (.goto (-46), 3) := zo_167 (by decide +kernel)
theorem dX12_endOf_94 : decode cX12_endOf 94 = .ok (.iinc 3 1, 3) := zo_132 (by decide +kernel)
theorem dX12_endOf_97 : decode cX12_endOf 97 = .ok (.goto (-63), 3) := zo_167 (by decide +kernel)
theorem dX12_endOf_100 : decode cX12_endOf 100 = .ok (.iload_n 2, 1) := zo_28 (by decide +kernel)
theorem dX12_endOf_101 : decode cX12_endOf 101 = .ok (.ifCond .ne 8, 3) := zo_154 (by decide +kernel)
theorem dX12_endOf_104 : decode cX12_endOf 104 = .ok (.aload_n 0, 1) := zo_42 (by decide +kernel)
theorem dX12_endOf_105 : decode cX12_endOf 105 = .ok (.getfield 196, 3) := zo_180 (by decide +kernel)
theorem dX12_endOf_108 : decode cX12_endOf 108 = .ok (.ireturn, 1) := zo_172 (by decide +kernel)
theorem dX12_endOf_109 : decode cX12_endOf 109 = .ok (.iload_n 2, 1) := zo_28 (by decide +kernel)
theorem dX12_endOf_110 : decode cX12_endOf 110 = .ok (.bipush 10, 2) := zo_16 (by decide +kernel)
theorem dX12_endOf_112 : decode cX12_endOf 112 = .ok (.irem, 1) := zo_112 (by decide +kernel)
theorem dX12_endOf_113 : decode cX12_endOf 113 = .ok (.istore_n 3, 1) := zo_62 (by decide +kernel)
theorem dX12_endOf_114 : decode cX12_endOf 114 = .ok (.iload_n 2, 1) := zo_28 (by decide +kernel)
theorem dX12_endOf_115 : decode cX12_endOf 115 = .ok (.bipush 10, 2) := zo_16 (by decide +kernel)
theorem dX12_endOf_117 : decode cX12_endOf 117 = .ok (.bipush 29, 2) := zo_16 (by decide +kernel)
theorem dX12_endOf_119 : decode cX12_endOf 119 = .ok (.invokestatic 111, 3) := zo_184 (by decide +kernel)
theorem dX12_endOf_122 : decode cX12_endOf 122 = .ok (.ifCond .eq 11, 3) := zo_153 (by decide +kernel)
theorem dX12_endOf_125 : decode cX12_endOf 125 = .ok (.aload_n 0, 1) := zo_42 (by decide +kernel)
theorem dX12_endOf_126 : decode cX12_endOf 126 = .ok (.iload_n 3, 1) := zo_29 (by decide +kernel)
theorem dX12_endOf_127 : decode cX12_endOf 127 = .ok (.invokevirtual 187, 3) := zo_182 (by decide +kernel)
theorem dX12_endOf_130 : decode cX12_endOf 130 = .ok (.ifCond .ne 8, 3) := zo_154 (by decide +kernel)
theorem dX12_endOf_133 : decode cX12_endOf 133 = .ok (.bipush (-2), 2) := zo_16 (by decide +kernel)
theorem dX12_endOf_135 : decode cX12_endOf 135 = .ok (.goto 24, 3) := zo_167 (by decide +kernel)
theorem dX12_endOf_138 : decode cX12_endOf 138 = .ok (.iload_n 2, 1) := zo_28 (by decide +kernel)
theorem dX12_endOf_139 : decode cX12_endOf 139 = .ok (.bipush 20, 2) := zo_16 (by decide +kernel)
theorem dX12_endOf_141 : decode cX12_endOf 141 = .ok (.if_icmp .ge 12, 3) := zo_162 (by decide +kernel)
theorem dX12_endOf_144 : decode cX12_endOf 144 = .ok (.aload_n 0, 1) := zo_42 (by decide +kernel)
theorem dX12_endOf_145 : decode cX12_endOf 145 = .ok (.getfield 32, 3) := zo_180 (by decide +kernel)
theorem dX12_endOf_148 : decode cX12_endOf 148 = .ok (.iload_n 3, 1) := zo_29 (by decide +kernel)
theorem dX12_endOf_149 : decode cX12_endOf 149 = .ok (.iaload, 1) := zo_46 (by decide +kernel)
theorem dX12_endOf_150 : decode cX12_endOf 150 = .ok (.goto 9, 3) := zo_167 (by decide +kernel)
theorem dX12_endOf_153 : decode cX12_endOf 153 = .ok (.aload_n 0, 1) := zo_42 (by decide +kernel)
theorem dX12_endOf_154 : decode cX12_endOf 154 = .ok (.getfield 20, 3) := zo_180 (by decide +kernel)
theorem dX12_endOf_157 : decode cX12_endOf 157 = .ok (.iload_n 3, 1) := zo_29 (by decide +kernel)
theorem dX12_endOf_158 : decode cX12_endOf 158 = .ok (.iaload, 1) := zo_46 (by decide +kernel)
theorem dX12_endOf_159 : decode cX12_endOf 159 = .ok (.ireturn, 1) := zo_172 (by decide +kernel)
theorem dX12_period_0 : decode cX12_period 0 = .ok (.aload_n 0, 1) := zo_42 (by decide +kernel)
theorem dX12_period_1 : decode cX12_period 1 = .ok (.iload_n 1, 1) := zo_27 (by decide +kernel)
theorem dX12_period_2 : decode cX12_period 2 = .ok (.invokevirtual 184, 3) := zo_182 (by decide +kernel)
theorem dX12_period_5 : decode cX12_period 5 = .ok (.ifCond .eq 11, 3) := zo_153 (by decide +kernel)
theorem dX12_period_8 : decode cX12_period 8 = .ok (.aload_n 0, 1) := zo_42 (by decide +kernel)
theorem dX12_period_9 : decode cX12_period 9 = .ok (.iload_n 2, 1) := zo_28 (by decide +kernel)
theorem dX12_period_10 : decode cX12_period 10 = .ok (.invokevirtual 187, 3) := zo_182 (by decide +kernel)
theorem dX12_period_13 : decode cX12_period 13 = .ok (.ifCond .ne 5, 3) := zo_154 (by decide +kernel)
theorem dX12_period_16 : decode cX12_period 16 = .ok (.iconst (-1), 1) := zo_2 (by decide +kernel)
theorem dX12_period_17 : decode cX12_period 17 = .ok (.ireturn, 1) := zo_172 (by decide +kernel)
theorem dX12_period_18 : decode cX12_period 18 = .ok (.iconst 0, 1) := zo_3 (by decide +kernel)
theorem dX12_period_19 : decode cX12_period 19 = .ok (.istore 4, 2) := zo_54 (by decide +kernel)
theorem dX12_period_21 : decode cX12_period 21 = .ok (.iload 4, 2) := zo_21 (by decide +kernel)
theorem dX12_period_23 : decode cX12_period 23 = .ok (.sipush 16384, 3) := zo_17 (by decide +kernel)
theorem dX12_period_26 : decode cX12_period 26 = .ok (.if_icmp .ge 17, 3) := zo_162 (by decide +kernel)
theorem dX12_period_29 : decode cX12_period 29 = .ok (.aload_n 0, 1) := zo_42 (by decide +kernel)
theorem dX12_period_30 : decode cX12_period 30 = .ok (.getfield 35, 3) := zo_180 (by decide +kernel)
theorem dX12_period_33 : decode cX12_period 33 = .ok (.iload 4, 2) := zo_21 (by decide +kernel)
theorem dX12_period_35 : decode cX12_period 35 = .ok (.iconst 0, 1) := zo_3 (by decide +kernel)
theorem dX12_period_36 : decode cX12_period 36 = .ok (.iastore, 1) := zo_79 (by decide +kernel)
theorem dX12_period_37 : decode cX12_period 37 = .ok (.iinc 4 1, 3) := zo_132 (by decide +kernel)
theorem dX12_period_40 : decode cX12_period 40 = .ok (.goto (-19), 3) := zo_167 (by decide +kernel)
theorem dX12_period_43 : decode cX12_period 43 = .ok (.aload_n 0, 1) := zo_42 (by decide +kernel)
theorem dX12_period_44 : decode cX12_period 44 = .ok (.getfield 35, 3) := zo_180 (by decide +kernel)
theorem dX12_period_47 : decode cX12_period 47 = .ok (.aload_n 0, 1) := zo_42 (by decide +kernel)
theorem dX12_period_48 : decode cX12_period 48 = .ok (.invokevirtual 220, 3) := zo_182 (by decide +kernel)
theorem dX12_period_51 : decode cX12_period 51 = .ok (.iconst 1, 1) := zo_4 (by decide +kernel)
theorem dX12_period_52 : decode cX12_period 52 = .ok (.iastore, 1) := zo_79 (by decide +kernel)
theorem dX12_period_53 : decode cX12_period 53 = .ok (.iconst 1, 1) := zo_4 (by decide +kernel)
theorem dX12_period_54 : decode cX12_period 54 = .ok (.istore 4, 2) := zo_54 (by decide +kernel)
theorem dX12_period_56 : decode cX12_period 56 = .ok (.iload 4, 2) := zo_21 (by decide +kernel)
theorem dX12_period_58 : decode cX12_period 58 = .ok (.sipush 1000, 3) := zo_17 (by decide +kernel)
theorem dX12_period_61 : decode cX12_period 61 = .ok (.if_icmp .ge 63, 3) := zo_162 (by decide +kernel)
theorem dX12_period_64 : decode cX12_period 64 = .ok (.aload_n 0, 1) := zo_42 (by decide +kernel)
theorem dX12_period_65 : decode cX12_period 65 = .ok (.iload_n 2, 1) := zo_28 (by decide +kernel)
theorem dX12_period_66 : decode cX12_period 66 = .ok (.invokevirtual 217, 3) := zo_182 (by decide +kernel)
theorem dX12_period_69 : decode cX12_period 69 = .ok (.pop, 1) := zo_87 (by decide +kernel)
theorem dX12_period_70 : decode cX12_period 70 = .ok (.aload_n 0, 1) := zo_42 (by decide +kernel)
theorem dX12_period_71 : decode cX12_period 71 = .ok (.getfield 35, 3) := zo_180 (by decide +kernel)
theorem dX12_period_74 : decode cX12_period 74 = .ok (.aload_n 0, 1) := zo_42 (by decide +kernel)
theorem dX12_period_75 : decode cX12_period 75 = .ok (.invokevirtual 220, 3) := zo_182 (by decide +kernel)
theorem dX12_period_78 : decode cX12_period 78 = .ok (.iaload, 1) := zo_46 (by decide +kernel)
theorem dX12_period_79 : decode cX12_period 79 = .ok (.istore 5, 2) := zo_54 (by decide +kernel)
theorem dX12_period_81 : decode cX12_period 81 = .ok (.iload 5, 2) := zo_21 (by decide +kernel)
theorem dX12_period_83 : decode cX12_period 83 = .ok (.ifCond .le 22, 3) := zo_158 (by decide +kernel)
theorem dX12_period_86 : decode cX12_period 86 = .ok (.iload_n 3, 1) := zo_29 (by decide +kernel)
theorem dX12_period_87 : decode cX12_period 87 = .ok (.ifCond .eq 10, 3) := zo_153 (by decide +kernel)
theorem dX12_period_90 : decode cX12_period 90 = .ok (.iload 5, 2) := zo_21 (by decide +kernel)
theorem dX12_period_92 : decode cX12_period 92 = .ok (.iconst 1, 1) := zo_4 (by decide +kernel)
theorem dX12_period_93 : decode cX12_period 93 = .ok (.isub, 1) := zo_100 (by decide +kernel)
theorem dX12_period_94 : decode cX12_period 94 = .ok (.goto 10, 3) := zo_167 (by decide +kernel)
theorem dX12_period_97 : decode cX12_period 97 = .ok (.iload 4, 2) := zo_21 (by decide +kernel)
theorem dX12_period_99 : decode cX12_period 99 = .ok (.iconst 1, 1) := zo_4 (by decide +kernel)
theorem dX12_period_100 : decode cX12_period 100 = .ok (.iadd, 1) := zo_96 (by decide +kernel)
theorem dX12_period_101 : decode cX12_period 101 = .ok (.iload 5, 2) := zo_21 (by decide +kernel)
theorem dX12_period_103 : decode cX12_period 103 = .ok (.isub, 1) := zo_100 (by decide +kernel)
theorem dX12_period_104 : decode cX12_period 104 = .ok (.ireturn, 1) := zo_172 (by decide +kernel)
theorem dX12_period_105 : decode cX12_period 105 = .ok (.aload_n 0, 1) := zo_42 (by decide +kernel)
theorem dX12_period_106 : decode cX12_period 106 = .ok (.getfield 35, 3) := zo_180 (by decide +kernel)
theorem dX12_period_109 : decode cX12_period 109 = .ok (.aload_n 0, 1) := zo_42 (by decide +kernel)
theorem dX12_period_110 : decode cX12_period 110 = .ok (.invokevirtual 220, 3) := zo_182 (by decide +kernel)
theorem dX12_period_113 : decode cX12_period 113 = .ok (.iload 4, 2) := zo_21 (by decide +kernel)
theorem dX12_period_115 : decode cX12_period 115 = .ok (.iconst 1, 1) := zo_4 (by decide +kernel)
theorem dX12_period_116 : decode cX12_period 116 = .ok (.iadd, 1) := zo_96 (by decide +kernel)
theorem dX12_period_117 : decode cX12_period 117 = .ok (.iastore, 1) := zo_79 (by decide +kernel)
theorem dX12_period_118 : decode cX12_period 118 = .ok (.iinc 4 1, 3) := zo_132 (by decide +kernel)
theorem dX12_period_121 : decode cX12_period 121 = .ok (.goto (-65), 3) := zo_167 (by decide +kernel)
theorem dX12_period_124 : decode cX12_period 124 = .ok (.iconst (-1), 1) := zo_2 (by decide +kernel)
theorem dX12_period_125 : decode cX12_period 125 = .ok (.ireturn, 1) := zo_172 (by decide +kernel)

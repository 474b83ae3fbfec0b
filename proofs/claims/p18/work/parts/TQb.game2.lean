/-! the game by rows of turns -/
def gPx (W : Nat → Int32) (t0 : Nat) : Nat → Nat → Bool × Nat
  | 0, _ => (true, t0)
  | k + 1, p => if (gPx W t0 k (p / 8)).1 = true ∧ gOk W (p % 8) = true then (true, gTn W (gPx W t0 k (p / 8)).2 (p % 8)) else (false, (gPx W t0 k (p / 8)).2)
/-- what a row comes to, m turns being left -/
def gRw (W L : Nat → Int32) (inn x : Int32) (t0 m : Nat) (mn : Bool) (k p : Nat) : Int := if (gPx W t0 k p).1 = true then gV W L inn x m mn (gPx W t0 k p).2 else -1
def gOp (W : Nat → Int32) (t0 k p c : Nat) : Bool := (gPx W t0 k p).1 && gOk W c
def gVp (W L : Nat → Int32) (inn x : Int32) (t0 m : Nat) (mn : Bool) (k p c : Nat) : Int := gV W L inn x m (!mn) (gTn W (gPx W t0 k p).2 c)
section GPX
variable {W L P S : Nat → Int32} {inn x : Int32} {t0 k p pp w c m : Nat} {mn : Bool}
theorem gPx_7 (h : gPx W t0 k pp = (true, w)) (hp : p / 8 = pp) (hd : p % 8 = 7) : gPx W t0 (k + 1) p = (true, w) := by
  subst hp
  unfold gPx
  rw [h, hd, if_pos ⟨rfl, gOk_7⟩, gTn_7]
theorem gPx_t (h : gPx W t0 k pp = (true, w)) (hp : p / 8 = pp) (hd : p % 8 = c) (hc : c < 7) (hw : 0 < (W c).toInt) : gPx W t0 (k + 1) p = (true, aTn W w c) := by
  subst hp
  unfold gPx
  rw [h, hd, if_pos ⟨rfl, gOk_y hc hw⟩, gTn_c (by omega)]
theorem gPx_x (hd : p % 8 = c) (hc : c < 7) (hw : ¬ 0 < (W c).toInt) : (gPx W t0 (k + 1) p).1 = false := by
  unfold gPx
  rw [hd, if_neg (fun z => gOk_n (by omega) hw z.2)]
theorem gPx_f (h : (gPx W t0 k pp).1 = false) (hp : p / 8 = pp) : (gPx W t0 (k + 1) p).1 = false := by
  subst hp
  unfold gPx
  rw [h, if_neg (fun z => absurd z.1 (by decide))]
theorem gPx_s : gPx W t0 (k + 1) p = (if (gPx W t0 k (p / 8)).1 = true ∧ gOk W (p % 8) = true then (true, gTn W (gPx W t0 k (p / 8)).2 (p % 8)) else (false, (gPx W t0 k (p / 8)).2)) := rfl
theorem gRw_c (hc : c < 8) : gRw W L inn x t0 m (!mn) (k + 1) (8 * p + c) = if gOp W t0 k p c = true then gVp W L inn x t0 m mn k p c else -1 := by
  have e1 : (8 * p + c) / 8 = p := by omega
  have e2 : (8 * p + c) % 8 = c := by omega
  unfold gRw gOp gVp
  rw [gPx_s, e1, e2]
  by_cases q : (gPx W t0 k p).1 = true ∧ gOk W c = true
  · rw [if_pos q, if_pos rfl, if_pos (by rw [q.1, q.2]; first | done | rfl)] <;> rfl
  · rw [if_neg q, if_neg (by decide : ¬ false = true), if_neg (fun z => q ((Bool.and_eq_true _ _).mp z))]
theorem gVp_0 (c : Nat) : 0 ≤ gVp W L inn x t0 m mn k p c := gV_0 _ _ _
theorem gRw_s : gRw W L inn x t0 (m + 1) mn k p = gMm (gOp W t0 k p) (gVp W L inn x t0 m mn k p) mn 8 := by
  unfold gRw
  by_cases q : (gPx W t0 k p).1 = true
  · rw [if_pos q, gV_s]
    exact gMm_cg 8 (fun c _ => ⟨by unfold gOp; rw [q]; rfl, rfl⟩)
  · rw [if_neg q]
    have z : ∀ n, gMm (gOp W t0 k p) (gVp W L inn x t0 m mn k p) mn n = -1 := fun n => by
      induction n with
      | zero => rfl
      | succ n ih => rw [gMm_o (fun y => q ((Bool.and_eq_true _ _).mp y).1), ih]
    exact (z 8).symm
end GPX
section GLX
variable {ok : Nat → Bool} {v : Nat → Int} {mn : Bool} {n : Nat} {a b : Int}
theorem gIx_ok : ∀ n, gIx ok v mn n = -1 ∨ (0 ≤ gIx ok v mn n ∧ gIx ok v mn n < n ∧ ok (gIx ok v mn n).toNat = true)
  | 0 => Or.inl rfl
  | n + 1 => by
    have e := gIx_ok n
    by_cases ho : ok n = true
    · rw [gIx_s rfl ho]
      refine zIte (fun z => z = -1 ∨ (0 ≤ z ∧ z < ((n + 1 : Nat) : Int) ∧ ok z.toNat = true)) (Or.inr ⟨by omega, by omega, ?_⟩) ?_
      · have t : ((n : Nat) : Int).toNat = n := by omega
        rw [t]
        exact ho
      · rcases e with e | e
        · exact Or.inl e
        · exact Or.inr ⟨e.1, by omega, e.2.2⟩
    · rw [gIx_o ho]
      rcases e with e | e
      · exact Or.inl e
      · exact Or.inr ⟨e.1, by omega, e.2.2⟩
theorem gLx_n (hv : ∀ c, 0 ≤ v c) (hb : gIx ok v mn n = b) (ha : a = if ok n = true then v n else -1) (q : a = -1 ∨ (¬ b = -1 ∧ ¬ (if mn = true then a < v b.toNat else v b.toNat < a))) : gIx ok v mn (n + 1) = b := by
  have v0 := hv n
  by_cases ho : ok n = true
  · rw [if_pos ho] at ha
    rw [gIx_s hb ho]
    refine if_neg (fun z => ?_)
    rcases q with q | q
    · omega
    · rw [ha] at q
      exact z.elim q.1 q.2
  · rw [gIx_o ho, hb]
theorem gLx_y (hb : gIx ok v mn n = b) (ha : a = if ok n = true then v n else -1) (q : ¬ a = -1) (q2 : b = -1 ∨ (if mn = true then a < v b.toNat else v b.toNat < a)) : gIx ok v mn (n + 1) = (n : Int) := by
  by_cases ho : ok n = true
  · rw [if_pos ho] at ha
    rw [gIx_s hb ho]
    rw [ha] at q2
    exact if_pos q2
  · rw [if_neg ho] at ha
    exact absurd ha q
theorem gLx_e (hv : ∀ c, 0 ≤ v c) (hb : gIx ok v mn 8 = b) : (b = -1 → gMm ok v mn 8 = -1) ∧ (¬ b = -1 → gMm ok v mn 8 = v b.toNat) := by
  rcases gIx_m (mn := mn) (fun j _ => hv j) 8 with ⟨i1, i2, _⟩ | ⟨k, _, i1, _, i2, _⟩
  · exact ⟨fun _ => i2, fun z => absurd (hb.symm.trans i1) z⟩
  · refine ⟨fun z => ?_, fun _ => ?_⟩
    · have t := hb.symm.trans i1
      omega
    · have t : b = (k : Int) := hb.symm.trans i1
      have u : b.toNat = k := by omega
      rw [u]
      exact i2
theorem gIx_7 (hv : ∀ c, 0 ≤ v c) (h7 : ok 7 = true) : 0 ≤ gIx ok v mn 8 := by
  rcases gIx_m (mn := mn) (fun j _ => hv j) 8 with ⟨_, _, z⟩ | ⟨k, _, i1, _⟩
  · exact absurd h7 (z 7 (by decide))
  · omega
end GLX
theorem gTu0 {W P : Nat → Int32} {w c : Nat} (w4 : 0 ≤ (W c).toInt ∧ (W c).toInt ≤ 4) (hc : c ≤ 6) (hq : 0 < (W c).toInt) (hP : ∀ j, j < 7 → 0 < (W j).toInt → P j = aPo W w j) : ¬ zTurn P zS0 W (nI c) = -1 ∧ ∀ j, j < 7 → 0 < (W j).toInt → zPost P zS0 W (nI c) j = aPo W (aTn W w c) j := by
  have ec := nI_toInt (n := c) (by omega)
  have ek := nI_clamp (n := c) (by omega)
  have hT : zTurn P zS0 W (nI c) = zTurnR (W c) 0 (W c).toNatClampNeg (P c) := by
    unfold zTurn
    rw [if_pos ⟨by omega, by omega⟩, ek]
  have ewc := z_clI w4.1
  have ch : aCh W c = (W c).toInt.toNat := if_neg (by omega)
  have lt := aRd_lt (W := W) (w := w) (c := c)
  have eP : P c = nI (aRd W w c) := hP c (by omega) hq
  have ep := nI_toInt (n := aRd W w c) (by omega)
  have tn := aTn_rd (W := W) (w := w) (c := c) hc
  have tc := tn c hc
  rw [if_pos rfl] at tc
  have hN : zNext (W c) (P c) = nI (aRd W (aTn W w c) c) := by
    have e1 : (nI (aRd W w c) + 1).toInt = (aRd W w c : Int) + 1 := by
      rw [zInc1, nI_toInt (by omega)]
      omega
    rw [eP, tc]
    unfold zNext
    by_cases v : nI (aRd W w c) + 1 < W c
    · have v2 := (fa_lt _ _).mp v
      rw [if_pos v, zInc1, Nat.mod_eq_of_lt (by omega)]
    · have v2 : ¬ (nI (aRd W w c) + 1).toInt < (W c).toInt := fun z => v ((fa_lt _ _).mpr z)
      rw [if_neg v, show aRd W w c + 1 = aCh W c by omega, Nat.mod_self]
      rfl
  have hT2 : zTurn P zS0 W (nI c) = nI (aRd W (aTn W w c) c) := by
    rw [hT, show (W c).toNatClampNeg = ((W c).toNatClampNeg - 1) + 1 by omega, zTurnR, if_pos (zBit_z _), hN]
  have lt2 := aRd_lt (W := W) (w := aTn W w c) (c := c)
  have er := nI_toInt (n := aRd W (aTn W w c) c) (by omega)
  have nn : ¬ zTurn P zS0 W (nI c) = -1 := fun z => by
    rw [hT2] at z
    have z := congrArg Int32.toInt z
    rw [er] at z
    have m1 : (-1 : Int32).toInt = -1 := rfl
    omega
  refine ⟨nn, fun j hj hw => ?_⟩
  unfold zPost
  rw [if_neg nn, ek, hT2]
  unfold aPo
  by_cases v : j = c
  · rw [z_eq v, v]
  · rw [z_ne v, hP j hj hw]
    unfold aPo
    rw [tn j (by omega), if_neg v]
theorem gTu {f P S : Nat → Int32} {z cr n : Int32} {w c : Nat} (hL : zML f z cr) (hM : zMP P) (hS : ∀ j, j < 7 → S j = 0) (hc : c < 7) (hq : 0 < (zWo f z n c).toInt) (hb : ¬ zBit n (nI c) = 1) (hP : ∀ j, j < 7 → 0 < (zWo f z n j).toInt → P j = aPo (zWo f z n) w j) : ¬ zTurn P S (zRo f z) (nI c) = -1 ∧ ∀ j, j < 7 → 0 < (zWo f z n j).toInt → zPost P S (zRo f z) (nI c) j = aPo (zWo f z n) (aTn (zWo f z n) w c) j := by
  have ec := nI_toInt (n := c) (by omega)
  have hI : zP3 P (zWo f z n) := zP3_m hL hM
  have t := gTu0 (W := zWo f z n) (P := P) (w := w) (c := c) (hI c hc).1 (by omega) hq hP
  rw [← zTurn_wo hb (by omega) (by omega), ← zPost_wo hb (by omega) (by omega), zTurn_cg (fun _ _ => rfl) hS (fun _ _ => rfl) (g2 := zS0)]
  exact ⟨t.1, fun j hj hw => (zPost_cg (fun _ _ => rfl) hS (fun _ _ => rfl) (g2 := zS0) (nI c) j hj).trans (t.2 j hj hw)⟩
set_option maxHeartbeats 4000000 in
set_option maxRecDepth 100000 in
/-- c_fm_gameBy0 -/
theorem c_fm_gameBy0 (l : Launch) (T : zTy) (mo : Nat) (m_all : Nat) (m_has : Nat) (i_size : Int32) (i_next : Int32) (i_where : Int32) (i_token : Int32) (i_number : Int32) (i_word : Int32) (i_wrong : Int32) (i_farCrossing : Int32) (m_read : Nat) (i_z0 : Int32) (i_crossings : Int32) (i_inns : Int32) (m_posts : Nat) (m_shut : Nat) (m_here : Nat) (i_steps : Int32) (i_done : Int32) (i_at : Int32) (i_gone : Int32) (m_was : Nat) (m_came : Nat) (m_seenAt : Nat) (m_rowWorth : Nat) (m_farBy : Nat) (m_used : Nat) (i_everywhere : Int32) (i_again0 : Int32) (i_d0 : Int32) (i_never : Int32) (i_firstCame : Int32) (i_longRun : Int32) (i_moved : Int32) (i_crowd : Int32) (i_l0 : Int32) (i_fitMany : Int32) (i_fitLeast : Int32) (i_fitMost : Int32) (m_fitPost : Nat) (m_fitEnd : Nat) (m_keptPosts : Nat) (i_x0 : Int32) (f_all : Nat → Int32) (f_posts : Nat → Int32) (f_shut : Nat → Int32) (f_here : Nat → Int32) (f_was : Nat → Int32) (rw_ : Nat) (c_ : Int32) (hL : zML f_all i_z0 i_crossings) (hc0 : 0 ≤ c_.toInt) (hc6 : c_.toInt ≤ 6) (hVA : zVA f_all) (hZ : zVZ f_all i_z0 i_crossings) (hrw : rw_ < 1) : zMi l T yX12_gameBy cX12_gameBy 6 (some .int) 5 0 0 [.ref mo, .int (nI rw_), .int 0, .int c_] [[zO11 mo m_all m_has i_size i_next i_where i_token i_number i_word i_wrong i_farCrossing m_read i_z0 i_crossings i_inns m_posts m_shut m_here i_steps i_done i_at i_gone m_was m_came m_seenAt m_rowWorth m_farBy m_used i_everywhere i_again0 i_d0 i_never i_firstCame i_longRun i_moved i_crowd i_l0 i_fitMany i_fitLeast i_fitMost m_fitPost m_fitEnd m_keptPosts i_x0], [zAr T 0 m_all 3952 f_all], [zAr T 0 m_posts 7 f_posts], [zAr T 0 m_shut 7 f_shut], [zAr T 0 m_here 7 f_here], [zAr T 0 m_was 7 f_was]] (fun (r : Int32) bs => ∃ (j_steps : Int32) (j_done : Int32) (j_at : Int32) (j_gone : Int32) (g_posts : Nat → Int32) (g_shut : Nat → Int32) (g_here : Nat → Int32) (g_was : Nat → Int32), bs = [[zO11 mo m_all m_has i_size i_next i_where i_token i_number i_word i_wrong i_farCrossing m_read i_z0 i_crossings i_inns m_posts m_shut m_here j_steps j_done j_at j_gone m_was m_came m_seenAt m_rowWorth m_farBy m_used i_everywhere i_again0 i_d0 i_never i_firstCame i_longRun i_moved i_crowd i_l0 i_fitMany i_fitLeast i_fitMost m_fitPost m_fitEnd m_keptPosts i_x0], [zAr T 0 m_all 3952 f_all], [zAr T 0 m_posts 7 g_posts], [zAr T 0 m_shut 7 g_shut], [zAr T 0 m_here 7 g_here], [zAr T 0 m_was 7 g_was]] ∧ r.toInt = gRw (zWo f_all i_z0 i_inns) (zLo f_all i_z0) i_inns c_ (aRs (zWo f_all i_z0 i_inns) (zPo f_all i_z0) 7) 0 true 0 rw_) := by
  refine zMi_of (own := RX12) (by decide) rfl (Nat.le_of_ble_eq_true rfl) ?_
  intro p e s m args below meth c A ls C hr hlocks hnm hAe G hl
  refine zHide (fun Qz_ hQz_ => ?_)
  have hx := C.1
  have hb := C.2.1
  have hl : lv_has ls 6 [(0, .ref mo), (1, .int (nI rw_)), (2, .int 0), (3, .int c_)] := hl
  refine lv_aload_n hx hb dX12_gameBy_0 rfl (lv_at hl 0 rfl) ?_
  refine z_Vv (bc := [[zO11 mo m_all m_has i_size i_next i_where i_token i_number i_word i_wrong i_farCrossing m_read i_z0 i_crossings i_inns m_posts m_shut m_here i_steps i_done i_at i_gone m_was m_came m_seenAt m_rowWorth m_farBy m_used i_everywhere i_again0 i_d0 i_never i_firstCame i_longRun i_moved i_crowd i_l0 i_fitMany i_fitLeast i_fitMost m_fitPost m_fitEnd m_keptPosts i_x0], [zAr T 0 m_all 3952 f_all], [zAr T 0 m_posts 7 f_posts], [zAr T 0 m_shut 7 f_shut], [zAr T 0 m_here 7 f_here]]) (br := [[zAr T 0 m_was 7 f_was]]) (As := []) (rest := []) C G (c_m_begins l T mo m_all m_has i_size i_next i_where i_token i_number i_word i_wrong i_farCrossing m_read i_z0 i_crossings i_inns m_posts m_shut m_here i_steps i_done i_at i_gone m_was m_came m_seenAt m_rowWorth m_farBy m_used i_everywhere i_again0 i_d0 i_never i_firstCame i_longRun i_moved i_crowd i_l0 i_fitMany i_fitLeast i_fitMost m_fitPost m_fitEnd m_keptPosts i_x0 f_all f_posts f_shut f_here (by first | with_reducible assumption | with_reducible rfl | omega | assumption | rfl | decide)) (kV_RX12_175 C.2.2.2.2 (Nat.le_of_ble_eq_true rfl) (Nat.le_of_ble_eq_true rfl)) [0, 1, 2, 3, 4] [0, 0, 0, 0, 0] rfl rfl (ci := 11) (qc := (RX12, TX12, 43)) rfl rfl (List.mem_flatten.mpr ⟨_, List.mem_of_getElem? (i := 0) rfl, List.mem_cons_self⟩) rfl rfl hl.1 dX12_gameBy_1 (Nat.le_of_ble_eq_true rfl) (Nat.le_of_ble_eq_true rfl) (fun b1 H locs hw G => ?_)
  refine zEx5 hw ?_
  intro j_steps_1 j_done_2 g_posts_3 g_shut_4 g_here_5
  refine zCu7 ?_
  intro hbs9 h_6 h_7 h_8 h_9 h_10 h_11
  clear hw
  subst hbs9
  have G : zS T A s.heap s [[zAr T 0 m_was 7 f_was], [zO11 mo m_all m_has i_size i_next i_where i_token i_number i_word i_wrong i_farCrossing m_read i_z0 i_crossings i_inns m_posts m_shut m_here j_steps_1 j_done_2 i_at i_gone m_was m_came m_seenAt m_rowWorth m_farBy m_used i_everywhere i_again0 i_d0 i_never i_firstCame i_longRun i_moved i_crowd i_l0 i_fitMany i_fitLeast i_fitMost m_fitPost m_fitEnd m_keptPosts i_x0], [zAr T 0 m_all 3952 f_all], [zAr T 0 m_posts 7 g_posts_3], [zAr T 0 m_shut 7 g_shut_4], [zAr T 0 m_here 7 g_here_5]] _ _ := G
  have hz := hL.1
  have hcr := hL.cr
  have hTo9 := rTold (n := i_inns) hL.1 hVA hL.2.2
  have hS9 := h_9
  have hQ9 := h_11
  have hV9 : zMV (zRo f_all i_z0) g_posts_3 := zVA_z hVA hL.1 h_8
  have hd0 : ∀ j, j < 7 → 0 < ((zWo f_all i_z0 i_inns) j).toInt → g_posts_3 j = aPo (zWo f_all i_z0 i_inns) (aRs (zWo f_all i_z0 i_inns) (zPo f_all i_z0) 7) j := fun j hj hw => (h_8 j hj).trans (hTo9.2 j hj hw)
  have hp0 : gPx (zWo f_all i_z0 i_inns) (aRs (zWo f_all i_z0 i_inns) (zPo f_all i_z0) 7) 0 rw_ = (true, (aRs (zWo f_all i_z0 i_inns) (zPo f_all i_z0) 7)) := rfl
  refine lv_iload_n hx hb dX12_gameBy_4 rfl (lv_at hl 2 rfl) ?_
  refine lv_iconst (v := 1) hx hb dX12_gameBy_5 (by decide) ?_
  refine lv_isub hx hb dX12_gameBy_6 ?_
  refine lv_topi (fun y_13 ey_13 => ?_)
  obtain rfl : y_13 = (-1) := ey_13.trans (by decide)
  refine lv_istore (lv' := [(4, .int (-1)), (0, .ref mo), (1, .int (nI rw_)), (2, .int 0), (3, .int c_)]) hx hb dX12_gameBy_7 hl (by decide) (zLvf_h rfl) (fun ls hl => ?_)
  refine lv_iload hx hb dX12_gameBy_9 (lv_at hl 0 rfl) ?_
  refine lv_if_lt (tgt := 68) hx hb dX12_gameBy_11 (by decide) (fun _ => ?_) (fun q => absurd (by decide) q)
  refine lv_aload_n hx hb dX12_gameBy_68 rfl (lv_at hl 1 rfl) ?_
  refine lv_iload_n hx hb dX12_gameBy_69 rfl (lv_at hl 4 rfl) ?_
  refine z_Vi (bc := [[zO11 mo m_all m_has i_size i_next i_where i_token i_number i_word i_wrong i_farCrossing m_read i_z0 i_crossings i_inns m_posts m_shut m_here j_steps_1 j_done_2 i_at i_gone m_was m_came m_seenAt m_rowWorth m_farBy m_used i_everywhere i_again0 i_d0 i_never i_firstCame i_longRun i_moved i_crowd i_l0 i_fitMany i_fitLeast i_fitMost m_fitPost m_fitEnd m_keptPosts i_x0], [zAr T 0 m_all 3952 f_all], [zAr T 0 m_posts 7 g_posts_3], [zAr T 0 m_shut 7 g_shut_4], [zAr T 0 m_was 7 f_was]]) (br := [[zAr T 0 m_here 7 g_here_5]]) (As := [.int c_]) (rest := []) C G (c_fm_walks l T mo m_all m_has i_size i_next i_where i_token i_number i_word i_wrong i_farCrossing m_read i_z0 i_crossings i_inns m_posts m_shut m_here j_steps_1 j_done_2 i_at i_gone m_was m_came m_seenAt m_rowWorth m_farBy m_used i_everywhere i_again0 i_d0 i_never i_firstCame i_longRun i_moved i_crowd i_l0 i_fitMany i_fitLeast i_fitMost m_fitPost m_fitEnd m_keptPosts i_x0 f_all g_posts_3 g_shut_4 f_was c_ (by first | with_reducible assumption | with_reducible rfl | omega | assumption | rfl | decide) (by first | with_reducible assumption | with_reducible rfl | omega | assumption | rfl | decide) (by first | with_reducible assumption | with_reducible rfl | omega | assumption | rfl | decide) hV9 hQ9) (kV_RX12_217 C.2.2.2.2 (Nat.le_of_ble_eq_true rfl) (Nat.le_of_ble_eq_true rfl)) [1, 2, 3, 4, 0] [0, 0, 0, 0, 0] rfl rfl (ci := 11) (qc := (RX12, TX12, 43)) rfl rfl (List.mem_flatten.mpr ⟨_, List.mem_of_getElem? (i := 0) rfl, List.mem_cons_self⟩) rfl rfl hl.1 dX12_gameBy_70 (Nat.le_of_ble_eq_true rfl) (Nat.le_of_ble_eq_true rfl) (fun r_28 b1 H locs hw G => ?_)
  refine zEx4 hw ?_
  intro j_at_14 j_gone_15 g_posts_16 g_was_17
  refine zCu11 ?_
  intro hbs9 h_18 h_19 h_20 h_21 h_22 h_23 h_24 h_25 h_26 h_27
  clear hw
  subst hbs9
  have G : zS T A s.heap s [[zAr T 0 m_here 7 g_here_5], [zO11 mo m_all m_has i_size i_next i_where i_token i_number i_word i_wrong i_farCrossing m_read i_z0 i_crossings i_inns m_posts m_shut m_here j_steps_1 j_done_2 j_at_14 j_gone_15 m_was m_came m_seenAt m_rowWorth m_farBy m_used i_everywhere i_again0 i_d0 i_never i_firstCame i_longRun i_moved i_crowd i_l0 i_fitMany i_fitLeast i_fitMost m_fitPost m_fitEnd m_keptPosts i_x0], [zAr T 0 m_all 3952 f_all], [zAr T 0 m_posts 7 g_posts_16], [zAr T 0 m_shut 7 g_shut_4], [zAr T 0 m_was 7 g_was_17]] _ _ := G
  replace h_23 : zHd ((r_28 = 1 ∧ zBit i_inns j_at_14 = 1 ∨ r_28 = 0 ∧ ¬ zBit i_inns j_at_14 = 1)) := h_23
  have hRw := rWalkF (n := i_inns) (c := c_) (w := (aRs (zWo f_all i_z0 i_inns) (zPo f_all i_z0) 7)) hL hQ9 hS9 hd0 hc0 hc6
  have hat9 : j_at_14 = rWh (zWo f_all i_z0 i_inns) (zLo f_all i_z0) (aRs (zWo f_all i_z0 i_inns) (zPo f_all i_z0) 7) c_ := h_25.trans hRw.1
  have hgo9 : j_gone_15 = nI (rStp (zWo f_all i_z0 i_inns) (zLo f_all i_z0) (aRs (zWo f_all i_z0 i_inns) (zPo f_all i_z0) 7) c_) := by rw [h_26, hRw.2.1]
  have hgl9 : rStp (zWo f_all i_z0 i_inns) (zLo f_all i_z0) (aRs (zWo f_all i_z0 i_inns) (zPo f_all i_z0) 7) c_ ≤ 499 := rStp_le
  refine lv_if_eq (tgt := 83) hx hb dX12_gameBy_73 (by decide) (fun c_29 => ?_) (fun c_29 => ?_)
  · have c_29n : r_28.toInt = (0 : Int) := (fa_eq _ _).mp c_29
    refine lv_sipush (v := 500) hx hb dX12_gameBy_83 (by decide) ?_
    have G := G.sub (bs' := [[zO11 mo m_all m_has i_size i_next i_where i_token i_number i_word i_wrong i_farCrossing m_read i_z0 i_crossings i_inns m_posts m_shut m_here j_steps_1 j_done_2 j_at_14 j_gone_15 m_was m_came m_seenAt m_rowWorth m_farBy m_used i_everywhere i_again0 i_d0 i_never i_firstCame i_longRun i_moved i_crowd i_l0 i_fitMany i_fitLeast i_fitMost m_fitPost m_fitEnd m_keptPosts i_x0], [zAr T 0 m_all 3952 f_all], [zAr T 0 m_posts 7 g_posts_16], [zAr T 0 m_shut 7 g_shut_4], [zAr T 0 m_here 7 g_here_5], [zAr T 0 m_was 7 g_was_17]]) [1, 2, 3, 4, 0, 5] rfl
    exact z_back hQz_ (z_iret C hr hlocks G (Nat.le_of_ble_eq_true rfl) (Nat.le_of_ble_eq_true rfl) dX12_gameBy_86 ⟨j_steps_1, j_done_2, j_at_14, j_gone_15, g_posts_16, g_shut_4, g_here_5, g_was_17, rfl, (by unfold gRw; rw [hp0, if_pos rfl]; show _ = ((gSn (zWo f_all i_z0 i_inns) (zLo f_all i_z0) i_inns (aRs (zWo f_all i_z0 i_inns) (zPo f_all i_z0) 7) c_ : Nat) : Int); unfold gSn; rw [if_neg (by rw [← hat9]; rcases h_23 with e9 | e9 <;> first | exact e9.2 | (exfalso; have q9 := e9.1; first | omega | (have e7 := congrArg Int32.toInt q9; have e6 : (0 : Int32).toInt = 0 := rfl; have e5 : (1 : Int32).toInt = 1 := rfl; omega)))]; rfl)⟩)
  · have c_29n : ¬ r_28.toInt = (0 : Int) := fun q => c_29 ((fa_eq _ _).mpr q)
    refine lv_aload_n hx hb dX12_gameBy_76 rfl (lv_at hl 1 rfl) ?_
    refine z_get C G clX12 1 rfl 20 (by decide) m_fl_RX12_208 rfl dX12_gameBy_77 ?_
    refine lv_goto (tgt := 86) hx hb dX12_gameBy_80 (by decide) ?_
    have G := G.sub (bs' := [[zO11 mo m_all m_has i_size i_next i_where i_token i_number i_word i_wrong i_farCrossing m_read i_z0 i_crossings i_inns m_posts m_shut m_here j_steps_1 j_done_2 j_at_14 j_gone_15 m_was m_came m_seenAt m_rowWorth m_farBy m_used i_everywhere i_again0 i_d0 i_never i_firstCame i_longRun i_moved i_crowd i_l0 i_fitMany i_fitLeast i_fitMost m_fitPost m_fitEnd m_keptPosts i_x0], [zAr T 0 m_all 3952 f_all], [zAr T 0 m_posts 7 g_posts_16], [zAr T 0 m_shut 7 g_shut_4], [zAr T 0 m_here 7 g_here_5], [zAr T 0 m_was 7 g_was_17]]) [1, 2, 3, 4, 0, 5] rfl
    exact z_back hQz_ (z_iret C hr hlocks G (Nat.le_of_ble_eq_true rfl) (Nat.le_of_ble_eq_true rfl) dX12_gameBy_86 ⟨j_steps_1, j_done_2, j_at_14, j_gone_15, g_posts_16, g_shut_4, g_here_5, g_was_17, rfl, (by unfold gRw; rw [hp0, if_pos rfl]; show _ = ((gSn (zWo f_all i_z0 i_inns) (zLo f_all i_z0) i_inns (aRs (zWo f_all i_z0 i_inns) (zPo f_all i_z0) 7) c_ : Nat) : Int); unfold gSn; rw [if_pos (by rw [← hat9]; rcases h_23 with e9 | e9 <;> first | exact e9.2 | (exfalso; have q9 := e9.1; first | omega | (have e7 := congrArg Int32.toInt q9; have e6 : (0 : Int32).toInt = 0 := rfl; have e5 : (1 : Int32).toInt = 1 := rfl; omega))), hgo9, nI_toInt (by omega)])⟩)
set_option maxHeartbeats 4000000 in
set_option maxRecDepth 100000 in
/-- c_fm_gameBy1 -/
theorem c_fm_gameBy1 (l : Launch) (T : zTy) (mo : Nat) (m_all : Nat) (m_has : Nat) (i_size : Int32) (i_next : Int32) (i_where : Int32) (i_token : Int32) (i_number : Int32) (i_word : Int32) (i_wrong : Int32) (i_farCrossing : Int32) (m_read : Nat) (i_z0 : Int32) (i_crossings : Int32) (i_inns : Int32) (m_posts : Nat) (m_shut : Nat) (m_here : Nat) (i_steps : Int32) (i_done : Int32) (i_at : Int32) (i_gone : Int32) (m_was : Nat) (m_came : Nat) (m_seenAt : Nat) (m_rowWorth : Nat) (m_farBy : Nat) (m_used : Nat) (i_everywhere : Int32) (i_again0 : Int32) (i_d0 : Int32) (i_never : Int32) (i_firstCame : Int32) (i_longRun : Int32) (i_moved : Int32) (i_crowd : Int32) (i_l0 : Int32) (i_fitMany : Int32) (i_fitLeast : Int32) (i_fitMost : Int32) (m_fitPost : Nat) (m_fitEnd : Nat) (m_keptPosts : Nat) (i_x0 : Int32) (f_all : Nat → Int32) (f_posts : Nat → Int32) (f_shut : Nat → Int32) (f_here : Nat → Int32) (f_was : Nat → Int32) (rw_ : Nat) (c_ : Int32) (hL : zML f_all i_z0 i_crossings) (hc0 : 0 ≤ c_.toInt) (hc6 : c_.toInt ≤ 6) (hVA : zVA f_all) (hZ : zVZ f_all i_z0 i_crossings) (hrw : rw_ < 8) : zMi l T yX12_gameBy cX12_gameBy 6 (some .int) 5 0 0 [.ref mo, .int (nI rw_), .int 1, .int c_] [[zO11 mo m_all m_has i_size i_next i_where i_token i_number i_word i_wrong i_farCrossing m_read i_z0 i_crossings i_inns m_posts m_shut m_here i_steps i_done i_at i_gone m_was m_came m_seenAt m_rowWorth m_farBy m_used i_everywhere i_again0 i_d0 i_never i_firstCame i_longRun i_moved i_crowd i_l0 i_fitMany i_fitLeast i_fitMost m_fitPost m_fitEnd m_keptPosts i_x0], [zAr T 0 m_all 3952 f_all], [zAr T 0 m_posts 7 f_posts], [zAr T 0 m_shut 7 f_shut], [zAr T 0 m_here 7 f_here], [zAr T 0 m_was 7 f_was]] (fun (r : Int32) bs => ∃ (j_steps : Int32) (j_done : Int32) (j_at : Int32) (j_gone : Int32) (g_posts : Nat → Int32) (g_shut : Nat → Int32) (g_here : Nat → Int32) (g_was : Nat → Int32), bs = [[zO11 mo m_all m_has i_size i_next i_where i_token i_number i_word i_wrong i_farCrossing m_read i_z0 i_crossings i_inns m_posts m_shut m_here j_steps j_done j_at j_gone m_was m_came m_seenAt m_rowWorth m_farBy m_used i_everywhere i_again0 i_d0 i_never i_firstCame i_longRun i_moved i_crowd i_l0 i_fitMany i_fitLeast i_fitMost m_fitPost m_fitEnd m_keptPosts i_x0], [zAr T 0 m_all 3952 f_all], [zAr T 0 m_posts 7 g_posts], [zAr T 0 m_shut 7 g_shut], [zAr T 0 m_here 7 g_here], [zAr T 0 m_was 7 g_was]] ∧ r.toInt = gRw (zWo f_all i_z0 i_inns) (zLo f_all i_z0) i_inns c_ (aRs (zWo f_all i_z0 i_inns) (zPo f_all i_z0) 7) 0 true 1 rw_) := by
  refine zMi_of (own := RX12) (by decide) rfl (Nat.le_of_ble_eq_true rfl) ?_
  intro p e s m args below meth c A ls C hr hlocks hnm hAe G hl
  refine zHide (fun Qz_ hQz_ => ?_)
  have hx := C.1
  have hb := C.2.1
  have hl : lv_has ls 6 [(0, .ref mo), (1, .int (nI rw_)), (2, .int 1), (3, .int c_)] := hl
  refine lv_aload_n hx hb dX12_gameBy_0 rfl (lv_at hl 0 rfl) ?_
  refine z_Vv (bc := [[zO11 mo m_all m_has i_size i_next i_where i_token i_number i_word i_wrong i_farCrossing m_read i_z0 i_crossings i_inns m_posts m_shut m_here i_steps i_done i_at i_gone m_was m_came m_seenAt m_rowWorth m_farBy m_used i_everywhere i_again0 i_d0 i_never i_firstCame i_longRun i_moved i_crowd i_l0 i_fitMany i_fitLeast i_fitMost m_fitPost m_fitEnd m_keptPosts i_x0], [zAr T 0 m_all 3952 f_all], [zAr T 0 m_posts 7 f_posts], [zAr T 0 m_shut 7 f_shut], [zAr T 0 m_here 7 f_here]]) (br := [[zAr T 0 m_was 7 f_was]]) (As := []) (rest := []) C G (c_m_begins l T mo m_all m_has i_size i_next i_where i_token i_number i_word i_wrong i_farCrossing m_read i_z0 i_crossings i_inns m_posts m_shut m_here i_steps i_done i_at i_gone m_was m_came m_seenAt m_rowWorth m_farBy m_used i_everywhere i_again0 i_d0 i_never i_firstCame i_longRun i_moved i_crowd i_l0 i_fitMany i_fitLeast i_fitMost m_fitPost m_fitEnd m_keptPosts i_x0 f_all f_posts f_shut f_here (by first | with_reducible assumption | with_reducible rfl | omega | assumption | rfl | decide)) (kV_RX12_175 C.2.2.2.2 (Nat.le_of_ble_eq_true rfl) (Nat.le_of_ble_eq_true rfl)) [0, 1, 2, 3, 4] [0, 0, 0, 0, 0] rfl rfl (ci := 11) (qc := (RX12, TX12, 43)) rfl rfl (List.mem_flatten.mpr ⟨_, List.mem_of_getElem? (i := 0) rfl, List.mem_cons_self⟩) rfl rfl hl.1 dX12_gameBy_1 (Nat.le_of_ble_eq_true rfl) (Nat.le_of_ble_eq_true rfl) (fun b1 H locs hw G => ?_)
  refine zEx5 hw ?_
  intro j_steps_1 j_done_2 g_posts_3 g_shut_4 g_here_5
  refine zCu7 ?_
  intro hbs9 h_6 h_7 h_8 h_9 h_10 h_11
  clear hw
  subst hbs9
  have G : zS T A s.heap s [[zAr T 0 m_was 7 f_was], [zO11 mo m_all m_has i_size i_next i_where i_token i_number i_word i_wrong i_farCrossing m_read i_z0 i_crossings i_inns m_posts m_shut m_here j_steps_1 j_done_2 i_at i_gone m_was m_came m_seenAt m_rowWorth m_farBy m_used i_everywhere i_again0 i_d0 i_never i_firstCame i_longRun i_moved i_crowd i_l0 i_fitMany i_fitLeast i_fitMost m_fitPost m_fitEnd m_keptPosts i_x0], [zAr T 0 m_all 3952 f_all], [zAr T 0 m_posts 7 g_posts_3], [zAr T 0 m_shut 7 g_shut_4], [zAr T 0 m_here 7 g_here_5]] _ _ := G
  have hz := hL.1
  have hcr := hL.cr
  have hTo9 := rTold (n := i_inns) hL.1 hVA hL.2.2
  have hS9 := h_9
  have hQ9 := h_11
  have hV9 : zMV (zRo f_all i_z0) g_posts_3 := zVA_z hVA hL.1 h_8
  have hd0 : ∀ j, j < 7 → 0 < ((zWo f_all i_z0 i_inns) j).toInt → g_posts_3 j = aPo (zWo f_all i_z0 i_inns) (aRs (zWo f_all i_z0 i_inns) (zPo f_all i_z0) 7) j := fun j hj hw => (h_8 j hj).trans (hTo9.2 j hj hw)
  have hp0 : gPx (zWo f_all i_z0 i_inns) (aRs (zWo f_all i_z0 i_inns) (zPo f_all i_z0) 7) 0 (rw_ / 8) = (true, (aRs (zWo f_all i_z0 i_inns) (zPo f_all i_z0) 7)) := rfl
  refine lv_iload_n hx hb dX12_gameBy_4 rfl (lv_at hl 2 rfl) ?_
  refine lv_iconst (v := 1) hx hb dX12_gameBy_5 (by decide) ?_
  refine lv_isub hx hb dX12_gameBy_6 ?_
  refine lv_topi (fun y_13 ey_13 => ?_)
  obtain rfl : y_13 = 0 := ey_13.trans (by decide)
  refine lv_istore (lv' := [(4, .int 0), (0, .ref mo), (1, .int (nI rw_)), (2, .int 1), (3, .int c_)]) hx hb dX12_gameBy_7 hl (by decide) (zLvf_h rfl) (fun ls hl => ?_)
  refine lv_iload hx hb dX12_gameBy_9 (lv_at hl 0 rfl) ?_
  refine lv_if_lt (tgt := 68) hx hb dX12_gameBy_11 (by decide) (fun q => absurd q (by decide)) (fun _ => ?_)
  refine lv_iload_n hx hb dX12_gameBy_14 rfl (lv_at hl 2 rfl) ?_
  refine lv_iconst (v := 3) hx hb dX12_gameBy_15 (by decide) ?_
  refine lv_iload hx hb dX12_gameBy_16 (lv_at hl 0 rfl) ?_
  refine lv_imul hx hb dX12_gameBy_18 ?_
  refine lv_topi (fun y_14 ey_14 => ?_)
  obtain rfl : y_14 = 0 := ey_14.trans (by decide)
  refine lv_ishr hx hb dX12_gameBy_19 ?_
  refine lv_bipush (v := 7) hx hb dX12_gameBy_20 (by decide) ?_
  refine lv_iand hx hb dX12_gameBy_22 ?_
  refine lv_topi (fun y_15 ey_15 => ?_)
  obtain rfl : y_15 = nI (rw_ % 8) := ey_15.trans ((by first | rfl | (rw [pk_shrN (by omega) (0 &&& 31) 0 (by decide), aAn (by omega)] <;> exact congrArg nI (by first | omega | (rw [Nat.pow_zero, Nat.div_one]))) | (rw [pk_shrN (by omega) 0 0 (by decide), aAn (by omega)]) | (rw [pk_shrN (by omega) _ 0 (by decide), aAn (by omega)]; exact congrArg nI (by omega))))
  have tD9 := nI_toInt (n := rw_ % 8) (by omega)
  have nD9 := nI_n (n := rw_ % 8) (by omega)
  refine lv_istore (lv' := [(5, .int (nI (rw_ % 8))), (4, .int 0), (0, .ref mo), (1, .int (nI rw_)), (2, .int 1), (3, .int c_)]) hx hb dX12_gameBy_23 hl (by decide) (zLvf_h rfl) (fun ls hl => ?_)
  refine lv_iload hx hb dX12_gameBy_25 (lv_at hl 0 rfl) ?_
  refine lv_bipush (v := 7) hx hb dX12_gameBy_27 (by decide) ?_
  refine lv_icmp_ne (tgt := 35) hx hb dX12_gameBy_29 (by decide) (fun c_16 => ?_) (fun c_16 => ?_)
  · have c_16n : ¬ rw_ % 8 = 7 := fun q => c_16 ((nI_eq (a := rw_ % 8) (b := 7) (by omega) (by omega)).mpr q)
    refine lv_aload_n hx hb dX12_gameBy_35 rfl (lv_at hl 2 rfl) ?_
    refine lv_iload hx hb dX12_gameBy_36 (lv_at hl 0 rfl) ?_
    have ti_17 : (nI (rw_ % 8)).toInt = ((rw_ % 8 : Nat) : Int) := nI_toInt (by omega)
    refine z_Vi (bc := [[zO11 mo m_all m_has i_size i_next i_where i_token i_number i_word i_wrong i_farCrossing m_read i_z0 i_crossings i_inns m_posts m_shut m_here j_steps_1 j_done_2 i_at i_gone m_was m_came m_seenAt m_rowWorth m_farBy m_used i_everywhere i_again0 i_d0 i_never i_firstCame i_longRun i_moved i_crowd i_l0 i_fitMany i_fitLeast i_fitMost m_fitPost m_fitEnd m_keptPosts i_x0]]) (br := [[zAr T 0 m_was 7 f_was], [zAr T 0 m_all 3952 f_all], [zAr T 0 m_posts 7 g_posts_3], [zAr T 0 m_shut 7 g_shut_4], [zAr T 0 m_here 7 g_here_5]]) (As := [.int (nI (rw_ % 8))]) (rest := []) C G (c_m_isCrossing l T mo m_all m_has i_size i_next i_where i_token i_number i_word i_wrong i_farCrossing m_read i_z0 i_crossings i_inns m_posts m_shut m_here j_steps_1 j_done_2 i_at i_gone m_was m_came m_seenAt m_rowWorth m_farBy m_used i_everywhere i_again0 i_d0 i_never i_firstCame i_longRun i_moved i_crowd i_l0 i_fitMany i_fitLeast i_fitMost m_fitPost m_fitEnd m_keptPosts i_x0 (nI (rw_ % 8)) (by first | with_reducible assumption | with_reducible rfl | omega | assumption | rfl | decide)) (kV_RX12_187 C.2.2.2.2 (Nat.le_of_ble_eq_true rfl) (Nat.le_of_ble_eq_true rfl)) [1] [1] rfl rfl (ci := 11) (qc := (RX12, TX12, 43)) rfl rfl (List.mem_flatten.mpr ⟨_, List.mem_of_getElem? (i := 0) rfl, List.mem_cons_self⟩) rfl rfl hl.1 dX12_gameBy_38 (Nat.le_of_ble_eq_true rfl) (Nat.le_of_ble_eq_true rfl) (fun r_19 b1 H locs hw G => ?_)
    refine zAn2 hw ?_
    intro hbs9 hc_18
    clear hw
    subst hbs9
    have G : zS T A s.heap s [[zAr T 0 m_was 7 f_was], [zAr T 0 m_all 3952 f_all], [zAr T 0 m_posts 7 g_posts_3], [zAr T 0 m_shut 7 g_shut_4], [zAr T 0 m_here 7 g_here_5], [zO11 mo m_all m_has i_size i_next i_where i_token i_number i_word i_wrong i_farCrossing m_read i_z0 i_crossings i_inns m_posts m_shut m_here j_steps_1 j_done_2 i_at i_gone m_was m_came m_seenAt m_rowWorth m_farBy m_used i_everywhere i_again0 i_d0 i_never i_firstCame i_longRun i_moved i_crowd i_l0 i_fitMany i_fitLeast i_fitMost m_fitPost m_fitEnd m_keptPosts i_x0]] _ _ := G
    rcases hc_18 with ⟨rfl, h_20, h_21⟩ | ⟨rfl, h_22⟩
    · have h_20 : 0 ≤ (nI (rw_ % 8)).toInt := h_20
      have h_21 : (nI (rw_ % 8)).toInt < i_crossings.toInt := h_21
      refine lv_if_eq (tgt := 53) hx hb dX12_gameBy_41 (by decide) (fun q => absurd q (by decide)) (fun _ => ?_)
      refine lv_aload_n hx hb dX12_gameBy_44 rfl (lv_at hl 2 rfl) ?_
      refine lv_iload hx hb dX12_gameBy_45 (lv_at hl 0 rfl) ?_
      have ti_23 : (nI (rw_ % 8)).toInt = ((rw_ % 8 : Nat) : Int) := nI_toInt (by omega)
      refine z_Vi (bc := [[zO11 mo m_all m_has i_size i_next i_where i_token i_number i_word i_wrong i_farCrossing m_read i_z0 i_crossings i_inns m_posts m_shut m_here j_steps_1 j_done_2 i_at i_gone m_was m_came m_seenAt m_rowWorth m_farBy m_used i_everywhere i_again0 i_d0 i_never i_firstCame i_longRun i_moved i_crowd i_l0 i_fitMany i_fitLeast i_fitMost m_fitPost m_fitEnd m_keptPosts i_x0], [zAr T 0 m_all 3952 f_all]]) (br := [[zAr T 0 m_was 7 f_was], [zAr T 0 m_posts 7 g_posts_3], [zAr T 0 m_shut 7 g_shut_4], [zAr T 0 m_here 7 g_here_5]]) (As := [.int (nI (rw_ % 8))]) (rest := []) C G (c_m_isFree l T mo m_all m_has i_size i_next i_where i_token i_number i_word i_wrong i_farCrossing m_read i_z0 i_crossings i_inns m_posts m_shut m_here j_steps_1 j_done_2 i_at i_gone m_was m_came m_seenAt m_rowWorth m_farBy m_used i_everywhere i_again0 i_d0 i_never i_firstCame i_longRun i_moved i_crowd i_l0 i_fitMany i_fitLeast i_fitMost m_fitPost m_fitEnd m_keptPosts i_x0 f_all (nI (rw_ % 8)) (by first | with_reducible assumption | with_reducible rfl | omega | assumption | rfl | decide) (by first | with_reducible assumption | with_reducible rfl | omega | assumption | rfl | decide) (by first | with_reducible assumption | with_reducible rfl | omega | assumption | rfl | decide)) (kV_RX12_223 C.2.2.2.2 (Nat.le_of_ble_eq_true rfl) (Nat.le_of_ble_eq_true rfl)) [5, 1] [1, 3] rfl rfl (ci := 11) (qc := (RX12, TX12, 43)) rfl rfl (List.mem_flatten.mpr ⟨_, List.mem_of_getElem? (i := 0) rfl, List.mem_cons_self⟩) rfl rfl hl.1 dX12_gameBy_47 (Nat.le_of_ble_eq_true rfl) (Nat.le_of_ble_eq_true rfl) (fun r_25 b1 H locs hw G => ?_)
      refine zAn2 hw ?_
      intro hbs9 hc_24
      clear hw
      subst hbs9
      have G : zS T A s.heap s [[zAr T 0 m_was 7 f_was], [zAr T 0 m_posts 7 g_posts_3], [zAr T 0 m_shut 7 g_shut_4], [zAr T 0 m_here 7 g_here_5], [zO11 mo m_all m_has i_size i_next i_where i_token i_number i_word i_wrong i_farCrossing m_read i_z0 i_crossings i_inns m_posts m_shut m_here j_steps_1 j_done_2 i_at i_gone m_was m_came m_seenAt m_rowWorth m_farBy m_used i_everywhere i_again0 i_d0 i_never i_firstCame i_longRun i_moved i_crowd i_l0 i_fitMany i_fitLeast i_fitMost m_fitPost m_fitEnd m_keptPosts i_x0], [zAr T 0 m_all 3952 f_all]] _ _ := G
      rcases hc_24 with ⟨rfl, h_26, h_27⟩ | ⟨rfl, h_28⟩
      · have h_26 : ¬ zInn i_inns (nI (rw_ % 8)) := h_26
        have h_27 : 0 < (zRd f_all i_z0 (nI (rw_ % 8))).toInt := h_27
        have hf9 := aWo_1 (f := f_all) (z := i_z0) (n := i_inns) (c := nI (rw_ % 8)) (by first | with_reducible assumption | assumption) (by first | with_reducible assumption | assumption) (by omega) (by omega)
        rw [nD9] at hf9
        have hbi9 : ¬ zBit i_inns (nI (rw_ % 8)) = 1 := h_26
        refine lv_if_ne (tgt := 55) hx hb dX12_gameBy_50 (by decide) (fun _ => ?_) (fun q => absurd q (by decide))
        refine lv_aload_n hx hb dX12_gameBy_55 rfl (lv_at hl 2 rfl) ?_
        refine lv_iload hx hb dX12_gameBy_56 (lv_at hl 0 rfl) ?_
        have ti_29 : (nI (rw_ % 8)).toInt = ((rw_ % 8 : Nat) : Int) := nI_toInt (by omega)
        refine z_Vi (bc := [[zO11 mo m_all m_has i_size i_next i_where i_token i_number i_word i_wrong i_farCrossing m_read i_z0 i_crossings i_inns m_posts m_shut m_here j_steps_1 j_done_2 i_at i_gone m_was m_came m_seenAt m_rowWorth m_farBy m_used i_everywhere i_again0 i_d0 i_never i_firstCame i_longRun i_moved i_crowd i_l0 i_fitMany i_fitLeast i_fitMost m_fitPost m_fitEnd m_keptPosts i_x0], [zAr T 0 m_all 3952 f_all], [zAr T 0 m_posts 7 g_posts_3], [zAr T 0 m_shut 7 g_shut_4]]) (br := [[zAr T 0 m_was 7 f_was], [zAr T 0 m_here 7 g_here_5]]) (As := [.int (nI (rw_ % 8))]) (rest := []) C G (c_fm_turns l T mo m_all m_has i_size i_next i_where i_token i_number i_word i_wrong i_farCrossing m_read i_z0 i_crossings i_inns m_posts m_shut m_here j_steps_1 j_done_2 i_at i_gone m_was m_came m_seenAt m_rowWorth m_farBy m_used i_everywhere i_again0 i_d0 i_never i_firstCame i_longRun i_moved i_crowd i_l0 i_fitMany i_fitLeast i_fitMost m_fitPost m_fitEnd m_keptPosts i_x0 f_all g_posts_3 g_shut_4 (nI (rw_ % 8)) (by first | with_reducible assumption | with_reducible rfl | omega | assumption | rfl | decide) (by first | with_reducible assumption | with_reducible rfl | omega | assumption | rfl | decide) (by first | with_reducible assumption | with_reducible rfl | omega | assumption | rfl | decide) hV9 hQ9) (kV_RX12_205 C.2.2.2.2 (Nat.le_of_ble_eq_true rfl) (Nat.le_of_ble_eq_true rfl)) [4, 5, 1, 2] [1, 0, 1, 0] rfl rfl (ci := 11) (qc := (RX12, TX12, 43)) rfl rfl (List.mem_flatten.mpr ⟨_, List.mem_of_getElem? (i := 0) rfl, List.mem_cons_self⟩) rfl rfl hl.1 dX12_gameBy_58 (Nat.le_of_ble_eq_true rfl) (Nat.le_of_ble_eq_true rfl) (fun r_35 b1 H locs hw G => ?_)
        refine zEx1 hw ?_
        intro g_posts_30
        refine zCu5 ?_
        intro hbs9 h_31 h_32 h_33 hc_34
        clear hw
        subst hbs9
        have G : zS T A s.heap s [[zAr T 0 m_was 7 f_was], [zAr T 0 m_here 7 g_here_5], [zO11 mo m_all m_has i_size i_next i_where i_token i_number i_word i_wrong i_farCrossing m_read i_z0 i_crossings i_inns m_posts m_shut m_here j_steps_1 j_done_2 i_at i_gone m_was m_came m_seenAt m_rowWorth m_farBy m_used i_everywhere i_again0 i_d0 i_never i_firstCame i_longRun i_moved i_crowd i_l0 i_fitMany i_fitLeast i_fitMost m_fitPost m_fitEnd m_keptPosts i_x0], [zAr T 0 m_all 3952 f_all], [zAr T 0 m_posts 7 g_posts_30], [zAr T 0 m_shut 7 g_shut_4]] _ _ := G
        rcases hc_34 with ⟨rfl, h_36, h_37⟩ | ⟨rfl, h_38⟩
        · have h_36 : ¬ zTurn g_posts_3 g_shut_4 (zRo f_all i_z0) (nI (rw_ % 8)) = -1 := h_36
          have h_37 : 0 < (zRd f_all i_z0 (nI (rw_ % 8))).toInt := h_37
          have htu9 := gTu (n := i_inns) (w := (aRs (zWo f_all i_z0 i_inns) (zPo f_all i_z0) 7)) hL hQ9 hS9 (by omega) hf9.2 hbi9 hd0
          have hd1 : ∀ j, j < 7 → 0 < ((zWo f_all i_z0 i_inns) j).toInt → g_posts_30 j = aPo (zWo f_all i_z0 i_inns) (aTn (zWo f_all i_z0 i_inns) (aRs (zWo f_all i_z0 i_inns) (zPo f_all i_z0) 7) (rw_ % 8)) j := by rw [h_33]; exact htu9.2
          have hp1 : gPx (zWo f_all i_z0 i_inns) (aRs (zWo f_all i_z0 i_inns) (zPo f_all i_z0) 7) 1 rw_ = (true, (aTn (zWo f_all i_z0 i_inns) (aRs (zWo f_all i_z0 i_inns) (zPo f_all i_z0) 7) (rw_ % 8))) := gPx_t hp0 (by omega) rfl (by omega) hf9.2
          have hQ9 := h_31
          have hV9 := h_32
          refine lv_pop hx hb dX12_gameBy_61 rfl ?_
          refine lv_iinc (v := (-1)) (lv' := [(4, .int (-1)), (5, .int (nI (rw_ % 8))), (0, .ref mo), (1, .int (nI rw_)), (2, .int 1), (3, .int c_)]) hx hb dX12_gameBy_62 hl (k := 1) rfl (by decide) (by decide) (zLvf_h rfl) (fun ls hl => ?_)
          refine lv_goto (tgt := 9) hx hb dX12_gameBy_65 (by decide) ?_
          refine lv_iload hx hb dX12_gameBy_9 (lv_at hl 0 rfl) ?_
          refine lv_if_lt (tgt := 68) hx hb dX12_gameBy_11 (by decide) (fun _ => ?_) (fun q => absurd (by decide) q)
          refine lv_aload_n hx hb dX12_gameBy_68 rfl (lv_at hl 2 rfl) ?_
          refine lv_iload_n hx hb dX12_gameBy_69 rfl (lv_at hl 5 rfl) ?_
          refine z_Vi (bc := [[zO11 mo m_all m_has i_size i_next i_where i_token i_number i_word i_wrong i_farCrossing m_read i_z0 i_crossings i_inns m_posts m_shut m_here j_steps_1 j_done_2 i_at i_gone m_was m_came m_seenAt m_rowWorth m_farBy m_used i_everywhere i_again0 i_d0 i_never i_firstCame i_longRun i_moved i_crowd i_l0 i_fitMany i_fitLeast i_fitMost m_fitPost m_fitEnd m_keptPosts i_x0], [zAr T 0 m_all 3952 f_all], [zAr T 0 m_posts 7 g_posts_30], [zAr T 0 m_shut 7 g_shut_4], [zAr T 0 m_was 7 f_was]]) (br := [[zAr T 0 m_here 7 g_here_5]]) (As := [.int c_]) (rest := []) C G (c_fm_walks l T mo m_all m_has i_size i_next i_where i_token i_number i_word i_wrong i_farCrossing m_read i_z0 i_crossings i_inns m_posts m_shut m_here j_steps_1 j_done_2 i_at i_gone m_was m_came m_seenAt m_rowWorth m_farBy m_used i_everywhere i_again0 i_d0 i_never i_firstCame i_longRun i_moved i_crowd i_l0 i_fitMany i_fitLeast i_fitMost m_fitPost m_fitEnd m_keptPosts i_x0 f_all g_posts_30 g_shut_4 f_was c_ (by first | with_reducible assumption | with_reducible rfl | omega | assumption | rfl | decide) (by first | with_reducible assumption | with_reducible rfl | omega | assumption | rfl | decide) (by first | with_reducible assumption | with_reducible rfl | omega | assumption | rfl | decide) hV9 hQ9) (kV_RX12_217 C.2.2.2.2 (Nat.le_of_ble_eq_true rfl) (Nat.le_of_ble_eq_true rfl)) [2, 3, 4, 5, 0] [0, 1, 0, 0, 0] rfl rfl (ci := 11) (qc := (RX12, TX12, 43)) rfl rfl (List.mem_flatten.mpr ⟨_, List.mem_of_getElem? (i := 0) rfl, List.mem_cons_self⟩) rfl rfl hl.1 dX12_gameBy_70 (Nat.le_of_ble_eq_true rfl) (Nat.le_of_ble_eq_true rfl) (fun r_53 b1 H locs hw G => ?_)
          refine zEx4 hw ?_
          intro j_at_39 j_gone_40 g_posts_41 g_was_42
          refine zCu11 ?_
          intro hbs9 h_43 h_44 h_45 h_46 h_47 h_48 h_49 h_50 h_51 h_52
          clear hw
          subst hbs9
          have G : zS T A s.heap s [[zAr T 0 m_here 7 g_here_5], [zO11 mo m_all m_has i_size i_next i_where i_token i_number i_word i_wrong i_farCrossing m_read i_z0 i_crossings i_inns m_posts m_shut m_here j_steps_1 j_done_2 j_at_39 j_gone_40 m_was m_came m_seenAt m_rowWorth m_farBy m_used i_everywhere i_again0 i_d0 i_never i_firstCame i_longRun i_moved i_crowd i_l0 i_fitMany i_fitLeast i_fitMost m_fitPost m_fitEnd m_keptPosts i_x0], [zAr T 0 m_all 3952 f_all], [zAr T 0 m_posts 7 g_posts_41], [zAr T 0 m_shut 7 g_shut_4], [zAr T 0 m_was 7 g_was_42]] _ _ := G
          replace h_48 : zHd ((r_53 = 1 ∧ zBit i_inns j_at_39 = 1 ∨ r_53 = 0 ∧ ¬ zBit i_inns j_at_39 = 1)) := h_48
          have hRw := rWalkF (n := i_inns) (c := c_) (w := (aTn (zWo f_all i_z0 i_inns) (aRs (zWo f_all i_z0 i_inns) (zPo f_all i_z0) 7) (rw_ % 8))) hL hQ9 hS9 hd1 hc0 hc6
          have hat9 : j_at_39 = rWh (zWo f_all i_z0 i_inns) (zLo f_all i_z0) (aTn (zWo f_all i_z0 i_inns) (aRs (zWo f_all i_z0 i_inns) (zPo f_all i_z0) 7) (rw_ % 8)) c_ := h_50.trans hRw.1
          have hgo9 : j_gone_40 = nI (rStp (zWo f_all i_z0 i_inns) (zLo f_all i_z0) (aTn (zWo f_all i_z0 i_inns) (aRs (zWo f_all i_z0 i_inns) (zPo f_all i_z0) 7) (rw_ % 8)) c_) := by rw [h_51, hRw.2.1]
          have hgl9 : rStp (zWo f_all i_z0 i_inns) (zLo f_all i_z0) (aTn (zWo f_all i_z0 i_inns) (aRs (zWo f_all i_z0 i_inns) (zPo f_all i_z0) 7) (rw_ % 8)) c_ ≤ 499 := rStp_le
          refine lv_if_eq (tgt := 83) hx hb dX12_gameBy_73 (by decide) (fun c_54 => ?_) (fun c_54 => ?_)
          · have c_54n : r_53.toInt = (0 : Int) := (fa_eq _ _).mp c_54
            refine lv_sipush (v := 500) hx hb dX12_gameBy_83 (by decide) ?_
            have G := G.sub (bs' := [[zO11 mo m_all m_has i_size i_next i_where i_token i_number i_word i_wrong i_farCrossing m_read i_z0 i_crossings i_inns m_posts m_shut m_here j_steps_1 j_done_2 j_at_39 j_gone_40 m_was m_came m_seenAt m_rowWorth m_farBy m_used i_everywhere i_again0 i_d0 i_never i_firstCame i_longRun i_moved i_crowd i_l0 i_fitMany i_fitLeast i_fitMost m_fitPost m_fitEnd m_keptPosts i_x0], [zAr T 0 m_all 3952 f_all], [zAr T 0 m_posts 7 g_posts_41], [zAr T 0 m_shut 7 g_shut_4], [zAr T 0 m_here 7 g_here_5], [zAr T 0 m_was 7 g_was_42]]) [1, 2, 3, 4, 0, 5] rfl
            exact z_back hQz_ (z_iret C hr hlocks G (Nat.le_of_ble_eq_true rfl) (Nat.le_of_ble_eq_true rfl) dX12_gameBy_86 ⟨j_steps_1, j_done_2, j_at_39, j_gone_40, g_posts_41, g_shut_4, g_here_5, g_was_42, rfl, (by unfold gRw; rw [hp1, if_pos rfl]; show _ = ((gSn (zWo f_all i_z0 i_inns) (zLo f_all i_z0) i_inns (aTn (zWo f_all i_z0 i_inns) (aRs (zWo f_all i_z0 i_inns) (zPo f_all i_z0) 7) (rw_ % 8)) c_ : Nat) : Int); unfold gSn; rw [if_neg (by rw [← hat9]; rcases h_48 with e9 | e9 <;> first | exact e9.2 | (exfalso; have q9 := e9.1; first | omega | (have e7 := congrArg Int32.toInt q9; have e6 : (0 : Int32).toInt = 0 := rfl; have e5 : (1 : Int32).toInt = 1 := rfl; omega)))]; rfl)⟩)
          · have c_54n : ¬ r_53.toInt = (0 : Int) := fun q => c_54 ((fa_eq _ _).mpr q)
            refine lv_aload_n hx hb dX12_gameBy_76 rfl (lv_at hl 2 rfl) ?_
            refine z_get C G clX12 1 rfl 20 (by decide) m_fl_RX12_208 rfl dX12_gameBy_77 ?_
            refine lv_goto (tgt := 86) hx hb dX12_gameBy_80 (by decide) ?_
            have G := G.sub (bs' := [[zO11 mo m_all m_has i_size i_next i_where i_token i_number i_word i_wrong i_farCrossing m_read i_z0 i_crossings i_inns m_posts m_shut m_here j_steps_1 j_done_2 j_at_39 j_gone_40 m_was m_came m_seenAt m_rowWorth m_farBy m_used i_everywhere i_again0 i_d0 i_never i_firstCame i_longRun i_moved i_crowd i_l0 i_fitMany i_fitLeast i_fitMost m_fitPost m_fitEnd m_keptPosts i_x0], [zAr T 0 m_all 3952 f_all], [zAr T 0 m_posts 7 g_posts_41], [zAr T 0 m_shut 7 g_shut_4], [zAr T 0 m_here 7 g_here_5], [zAr T 0 m_was 7 g_was_42]]) [1, 2, 3, 4, 0, 5] rfl
            exact z_back hQz_ (z_iret C hr hlocks G (Nat.le_of_ble_eq_true rfl) (Nat.le_of_ble_eq_true rfl) dX12_gameBy_86 ⟨j_steps_1, j_done_2, j_at_39, j_gone_40, g_posts_41, g_shut_4, g_here_5, g_was_42, rfl, (by unfold gRw; rw [hp1, if_pos rfl]; show _ = ((gSn (zWo f_all i_z0 i_inns) (zLo f_all i_z0) i_inns (aTn (zWo f_all i_z0 i_inns) (aRs (zWo f_all i_z0 i_inns) (zPo f_all i_z0) 7) (rw_ % 8)) c_ : Nat) : Int); unfold gSn; rw [if_pos (by rw [← hat9]; rcases h_48 with e9 | e9 <;> first | exact e9.2 | (exfalso; have q9 := e9.1; first | omega | (have e7 := congrArg Int32.toInt q9; have e6 : (0 : Int32).toInt = 0 := rfl; have e5 : (1 : Int32).toInt = 1 := rfl; omega))), hgo9, nI_toInt (by omega)])⟩)
        · have h_38 : zTurn g_posts_3 g_shut_4 (zRo f_all i_z0) (nI (rw_ % 8)) = -1 := h_38
          have htu9 := gTu (n := i_inns) (w := (aRs (zWo f_all i_z0 i_inns) (zPo f_all i_z0) 7)) hL hQ9 hS9 (by omega) hf9.2 hbi9 hd0
          exact absurd h_38 htu9.1
      · have h_28 : (zInn i_inns (nI (rw_ % 8)) ∨ (zRd f_all i_z0 (nI (rw_ % 8))).toInt ≤ 0) := h_28
        have hf9 := aWo_0 (f := f_all) (z := i_z0) (n := i_inns) (c := nI (rw_ % 8)) (by first | with_reducible assumption | assumption) (by omega) (by omega)
        rw [nD9] at hf9
        have hno9 : ¬ 0 < ((zWo f_all i_z0 i_inns) (rw_ % 8)).toInt := by omega
        have hx1 : (gPx (zWo f_all i_z0 i_inns) (aRs (zWo f_all i_z0 i_inns) (zPo f_all i_z0) 7) 1 rw_).1 = false := gPx_x (c := rw_ % 8) rfl (by omega) hno9
        refine lv_if_ne (tgt := 55) hx hb dX12_gameBy_50 (by decide) (fun q => absurd (by decide) q) (fun _ => ?_)
        refine lv_iconst (v := (-1)) hx hb dX12_gameBy_53 (by decide) ?_
        have G := G.sub (bs' := [[zO11 mo m_all m_has i_size i_next i_where i_token i_number i_word i_wrong i_farCrossing m_read i_z0 i_crossings i_inns m_posts m_shut m_here j_steps_1 j_done_2 i_at i_gone m_was m_came m_seenAt m_rowWorth m_farBy m_used i_everywhere i_again0 i_d0 i_never i_firstCame i_longRun i_moved i_crowd i_l0 i_fitMany i_fitLeast i_fitMost m_fitPost m_fitEnd m_keptPosts i_x0], [zAr T 0 m_all 3952 f_all], [zAr T 0 m_posts 7 g_posts_3], [zAr T 0 m_shut 7 g_shut_4], [zAr T 0 m_here 7 g_here_5], [zAr T 0 m_was 7 f_was]]) [4, 5, 1, 2, 3, 0] rfl
        exact z_back hQz_ (z_iret C hr hlocks G (Nat.le_of_ble_eq_true rfl) (Nat.le_of_ble_eq_true rfl) dX12_gameBy_54 ⟨j_steps_1, j_done_2, i_at, i_gone, g_posts_3, g_shut_4, g_here_5, f_was, rfl, (by unfold gRw; rw [if_neg (by rw [hx1]; exact Bool.false_ne_true)]; rfl)⟩)
    · have h_22 : ((nI (rw_ % 8)).toInt < 0 ∨ i_crossings.toInt ≤ (nI (rw_ % 8)).toInt) := h_22
      have hno9 : ¬ 0 < ((zWo f_all i_z0 i_inns) (rw_ % 8)).toInt := fun q9 => by have q8 := zVZ_lt hZ (show rw_ % 8 < 7 by omega) q9; omega
      have hx1 : (gPx (zWo f_all i_z0 i_inns) (aRs (zWo f_all i_z0 i_inns) (zPo f_all i_z0) 7) 1 rw_).1 = false := gPx_x (c := rw_ % 8) rfl (by omega) hno9
      refine lv_if_eq (tgt := 53) hx hb dX12_gameBy_41 (by decide) (fun _ => ?_) (fun q => absurd (by decide) q)
      refine lv_iconst (v := (-1)) hx hb dX12_gameBy_53 (by decide) ?_
      have G := G.sub (bs' := [[zO11 mo m_all m_has i_size i_next i_where i_token i_number i_word i_wrong i_farCrossing m_read i_z0 i_crossings i_inns m_posts m_shut m_here j_steps_1 j_done_2 i_at i_gone m_was m_came m_seenAt m_rowWorth m_farBy m_used i_everywhere i_again0 i_d0 i_never i_firstCame i_longRun i_moved i_crowd i_l0 i_fitMany i_fitLeast i_fitMost m_fitPost m_fitEnd m_keptPosts i_x0], [zAr T 0 m_all 3952 f_all], [zAr T 0 m_posts 7 g_posts_3], [zAr T 0 m_shut 7 g_shut_4], [zAr T 0 m_here 7 g_here_5], [zAr T 0 m_was 7 f_was]]) [5, 1, 2, 3, 4, 0] rfl
      exact z_back hQz_ (z_iret C hr hlocks G (Nat.le_of_ble_eq_true rfl) (Nat.le_of_ble_eq_true rfl) dX12_gameBy_54 ⟨j_steps_1, j_done_2, i_at, i_gone, g_posts_3, g_shut_4, g_here_5, f_was, rfl, (by unfold gRw; rw [if_neg (by rw [hx1]; exact Bool.false_ne_true)]; rfl)⟩)
  · have c_16n : rw_ % 8 = 7 := (nI_eq (a := rw_ % 8) (b := 7) (by omega) (by omega)).mp c_16
    have hp1 : gPx (zWo f_all i_z0 i_inns) (aRs (zWo f_all i_z0 i_inns) (zPo f_all i_z0) 7) 1 rw_ = (true, (aRs (zWo f_all i_z0 i_inns) (zPo f_all i_z0) 7)) := gPx_7 hp0 (by omega) (by omega)
    have hd1 := hd0
    refine lv_goto (tgt := 62) hx hb dX12_gameBy_32 (by decide) ?_
    refine lv_iinc (v := (-1)) (lv' := [(4, .int (-1)), (5, .int (nI (rw_ % 8))), (0, .ref mo), (1, .int (nI rw_)), (2, .int 1), (3, .int c_)]) hx hb dX12_gameBy_62 hl (k := 1) rfl (by decide) (by decide) (zLvf_h rfl) (fun ls hl => ?_)
    refine lv_goto (tgt := 9) hx hb dX12_gameBy_65 (by decide) ?_
    refine lv_iload hx hb dX12_gameBy_9 (lv_at hl 0 rfl) ?_
    refine lv_if_lt (tgt := 68) hx hb dX12_gameBy_11 (by decide) (fun _ => ?_) (fun q => absurd (by decide) q)
    refine lv_aload_n hx hb dX12_gameBy_68 rfl (lv_at hl 2 rfl) ?_
    refine lv_iload_n hx hb dX12_gameBy_69 rfl (lv_at hl 5 rfl) ?_
    refine z_Vi (bc := [[zO11 mo m_all m_has i_size i_next i_where i_token i_number i_word i_wrong i_farCrossing m_read i_z0 i_crossings i_inns m_posts m_shut m_here j_steps_1 j_done_2 i_at i_gone m_was m_came m_seenAt m_rowWorth m_farBy m_used i_everywhere i_again0 i_d0 i_never i_firstCame i_longRun i_moved i_crowd i_l0 i_fitMany i_fitLeast i_fitMost m_fitPost m_fitEnd m_keptPosts i_x0], [zAr T 0 m_all 3952 f_all], [zAr T 0 m_posts 7 g_posts_3], [zAr T 0 m_shut 7 g_shut_4], [zAr T 0 m_was 7 f_was]]) (br := [[zAr T 0 m_here 7 g_here_5]]) (As := [.int c_]) (rest := []) C G (c_fm_walks l T mo m_all m_has i_size i_next i_where i_token i_number i_word i_wrong i_farCrossing m_read i_z0 i_crossings i_inns m_posts m_shut m_here j_steps_1 j_done_2 i_at i_gone m_was m_came m_seenAt m_rowWorth m_farBy m_used i_everywhere i_again0 i_d0 i_never i_firstCame i_longRun i_moved i_crowd i_l0 i_fitMany i_fitLeast i_fitMost m_fitPost m_fitEnd m_keptPosts i_x0 f_all g_posts_3 g_shut_4 f_was c_ (by first | with_reducible assumption | with_reducible rfl | omega | assumption | rfl | decide) (by first | with_reducible assumption | with_reducible rfl | omega | assumption | rfl | decide) (by first | with_reducible assumption | with_reducible rfl | omega | assumption | rfl | decide) hV9 hQ9) (kV_RX12_217 C.2.2.2.2 (Nat.le_of_ble_eq_true rfl) (Nat.le_of_ble_eq_true rfl)) [1, 2, 3, 4, 0] [0, 0, 0, 0, 0] rfl rfl (ci := 11) (qc := (RX12, TX12, 43)) rfl rfl (List.mem_flatten.mpr ⟨_, List.mem_of_getElem? (i := 0) rfl, List.mem_cons_self⟩) rfl rfl hl.1 dX12_gameBy_70 (Nat.le_of_ble_eq_true rfl) (Nat.le_of_ble_eq_true rfl) (fun r_69 b1 H locs hw G => ?_)
    refine zEx4 hw ?_
    intro j_at_55 j_gone_56 g_posts_57 g_was_58
    refine zCu11 ?_
    intro hbs9 h_59 h_60 h_61 h_62 h_63 h_64 h_65 h_66 h_67 h_68
    clear hw
    subst hbs9
    have G : zS T A s.heap s [[zAr T 0 m_here 7 g_here_5], [zO11 mo m_all m_has i_size i_next i_where i_token i_number i_word i_wrong i_farCrossing m_read i_z0 i_crossings i_inns m_posts m_shut m_here j_steps_1 j_done_2 j_at_55 j_gone_56 m_was m_came m_seenAt m_rowWorth m_farBy m_used i_everywhere i_again0 i_d0 i_never i_firstCame i_longRun i_moved i_crowd i_l0 i_fitMany i_fitLeast i_fitMost m_fitPost m_fitEnd m_keptPosts i_x0], [zAr T 0 m_all 3952 f_all], [zAr T 0 m_posts 7 g_posts_57], [zAr T 0 m_shut 7 g_shut_4], [zAr T 0 m_was 7 g_was_58]] _ _ := G
    replace h_64 : zHd ((r_69 = 1 ∧ zBit i_inns j_at_55 = 1 ∨ r_69 = 0 ∧ ¬ zBit i_inns j_at_55 = 1)) := h_64
    have hRw := rWalkF (n := i_inns) (c := c_) (w := (aRs (zWo f_all i_z0 i_inns) (zPo f_all i_z0) 7)) hL hQ9 hS9 hd1 hc0 hc6
    have hat9 : j_at_55 = rWh (zWo f_all i_z0 i_inns) (zLo f_all i_z0) (aRs (zWo f_all i_z0 i_inns) (zPo f_all i_z0) 7) c_ := h_66.trans hRw.1
    have hgo9 : j_gone_56 = nI (rStp (zWo f_all i_z0 i_inns) (zLo f_all i_z0) (aRs (zWo f_all i_z0 i_inns) (zPo f_all i_z0) 7) c_) := by rw [h_67, hRw.2.1]
    have hgl9 : rStp (zWo f_all i_z0 i_inns) (zLo f_all i_z0) (aRs (zWo f_all i_z0 i_inns) (zPo f_all i_z0) 7) c_ ≤ 499 := rStp_le
    refine lv_if_eq (tgt := 83) hx hb dX12_gameBy_73 (by decide) (fun c_70 => ?_) (fun c_70 => ?_)
    · have c_70n : r_69.toInt = (0 : Int) := (fa_eq _ _).mp c_70
      refine lv_sipush (v := 500) hx hb dX12_gameBy_83 (by decide) ?_
      have G := G.sub (bs' := [[zO11 mo m_all m_has i_size i_next i_where i_token i_number i_word i_wrong i_farCrossing m_read i_z0 i_crossings i_inns m_posts m_shut m_here j_steps_1 j_done_2 j_at_55 j_gone_56 m_was m_came m_seenAt m_rowWorth m_farBy m_used i_everywhere i_again0 i_d0 i_never i_firstCame i_longRun i_moved i_crowd i_l0 i_fitMany i_fitLeast i_fitMost m_fitPost m_fitEnd m_keptPosts i_x0], [zAr T 0 m_all 3952 f_all], [zAr T 0 m_posts 7 g_posts_57], [zAr T 0 m_shut 7 g_shut_4], [zAr T 0 m_here 7 g_here_5], [zAr T 0 m_was 7 g_was_58]]) [1, 2, 3, 4, 0, 5] rfl
      exact z_back hQz_ (z_iret C hr hlocks G (Nat.le_of_ble_eq_true rfl) (Nat.le_of_ble_eq_true rfl) dX12_gameBy_86 ⟨j_steps_1, j_done_2, j_at_55, j_gone_56, g_posts_57, g_shut_4, g_here_5, g_was_58, rfl, (by unfold gRw; rw [hp1, if_pos rfl]; show _ = ((gSn (zWo f_all i_z0 i_inns) (zLo f_all i_z0) i_inns (aRs (zWo f_all i_z0 i_inns) (zPo f_all i_z0) 7) c_ : Nat) : Int); unfold gSn; rw [if_neg (by rw [← hat9]; rcases h_64 with e9 | e9 <;> first | exact e9.2 | (exfalso; have q9 := e9.1; first | omega | (have e7 := congrArg Int32.toInt q9; have e6 : (0 : Int32).toInt = 0 := rfl; have e5 : (1 : Int32).toInt = 1 := rfl; omega)))]; rfl)⟩)
    · have c_70n : ¬ r_69.toInt = (0 : Int) := fun q => c_70 ((fa_eq _ _).mpr q)
      refine lv_aload_n hx hb dX12_gameBy_76 rfl (lv_at hl 2 rfl) ?_
      refine z_get C G clX12 1 rfl 20 (by decide) m_fl_RX12_208 rfl dX12_gameBy_77 ?_
      refine lv_goto (tgt := 86) hx hb dX12_gameBy_80 (by decide) ?_
      have G := G.sub (bs' := [[zO11 mo m_all m_has i_size i_next i_where i_token i_number i_word i_wrong i_farCrossing m_read i_z0 i_crossings i_inns m_posts m_shut m_here j_steps_1 j_done_2 j_at_55 j_gone_56 m_was m_came m_seenAt m_rowWorth m_farBy m_used i_everywhere i_again0 i_d0 i_never i_firstCame i_longRun i_moved i_crowd i_l0 i_fitMany i_fitLeast i_fitMost m_fitPost m_fitEnd m_keptPosts i_x0], [zAr T 0 m_all 3952 f_all], [zAr T 0 m_posts 7 g_posts_57], [zAr T 0 m_shut 7 g_shut_4], [zAr T 0 m_here 7 g_here_5], [zAr T 0 m_was 7 g_was_58]]) [1, 2, 3, 4, 0, 5] rfl
      exact z_back hQz_ (z_iret C hr hlocks G (Nat.le_of_ble_eq_true rfl) (Nat.le_of_ble_eq_true rfl) dX12_gameBy_86 ⟨j_steps_1, j_done_2, j_at_55, j_gone_56, g_posts_57, g_shut_4, g_here_5, g_was_58, rfl, (by unfold gRw; rw [hp1, if_pos rfl]; show _ = ((gSn (zWo f_all i_z0 i_inns) (zLo f_all i_z0) i_inns (aRs (zWo f_all i_z0 i_inns) (zPo f_all i_z0) 7) c_ : Nat) : Int); unfold gSn; rw [if_pos (by rw [← hat9]; rcases h_64 with e9 | e9 <;> first | exact e9.2 | (exfalso; have q9 := e9.1; first | omega | (have e7 := congrArg Int32.toInt q9; have e6 : (0 : Int32).toInt = 0 := rfl; have e5 : (1 : Int32).toInt = 1 := rfl; omega))), hgo9, nI_toInt (by omega)])⟩)
set_option maxHeartbeats 4000000 in
set_option maxRecDepth 100000 in
/-- c_fm_gameBy2 -/
theorem c_fm_gameBy2 (l : Launch) (T : zTy) (mo : Nat) (m_all : Nat) (m_has : Nat) (i_size : Int32) (i_next : Int32) (i_where : Int32) (i_token : Int32) (i_number : Int32) (i_word : Int32) (i_wrong : Int32) (i_farCrossing : Int32) (m_read : Nat) (i_z0 : Int32) (i_crossings : Int32) (i_inns : Int32) (m_posts : Nat) (m_shut : Nat) (m_here : Nat) (i_steps : Int32) (i_done : Int32) (i_at : Int32) (i_gone : Int32) (m_was : Nat) (m_came : Nat) (m_seenAt : Nat) (m_rowWorth : Nat) (m_farBy : Nat) (m_used : Nat) (i_everywhere : Int32) (i_again0 : Int32) (i_d0 : Int32) (i_never : Int32) (i_firstCame : Int32) (i_longRun : Int32) (i_moved : Int32) (i_crowd : Int32) (i_l0 : Int32) (i_fitMany : Int32) (i_fitLeast : Int32) (i_fitMost : Int32) (m_fitPost : Nat) (m_fitEnd : Nat) (m_keptPosts : Nat) (i_x0 : Int32) (f_all : Nat → Int32) (f_posts : Nat → Int32) (f_shut : Nat → Int32) (f_here : Nat → Int32) (f_was : Nat → Int32) (rw_ : Nat) (c_ : Int32) (hL : zML f_all i_z0 i_crossings) (hc0 : 0 ≤ c_.toInt) (hc6 : c_.toInt ≤ 6) (hVA : zVA f_all) (hZ : zVZ f_all i_z0 i_crossings) (hrw : rw_ < 64) : zMi l T yX12_gameBy cX12_gameBy 6 (some .int) 5 0 0 [.ref mo, .int (nI rw_), .int 2, .int c_] [[zO11 mo m_all m_has i_size i_next i_where i_token i_number i_word i_wrong i_farCrossing m_read i_z0 i_crossings i_inns m_posts m_shut m_here i_steps i_done i_at i_gone m_was m_came m_seenAt m_rowWorth m_farBy m_used i_everywhere i_again0 i_d0 i_never i_firstCame i_longRun i_moved i_crowd i_l0 i_fitMany i_fitLeast i_fitMost m_fitPost m_fitEnd m_keptPosts i_x0], [zAr T 0 m_all 3952 f_all], [zAr T 0 m_posts 7 f_posts], [zAr T 0 m_shut 7 f_shut], [zAr T 0 m_here 7 f_here], [zAr T 0 m_was 7 f_was]] (fun (r : Int32) bs => ∃ (j_steps : Int32) (j_done : Int32) (j_at : Int32) (j_gone : Int32) (g_posts : Nat → Int32) (g_shut : Nat → Int32) (g_here : Nat → Int32) (g_was : Nat → Int32), bs = [[zO11 mo m_all m_has i_size i_next i_where i_token i_number i_word i_wrong i_farCrossing m_read i_z0 i_crossings i_inns m_posts m_shut m_here j_steps j_done j_at j_gone m_was m_came m_seenAt m_rowWorth m_farBy m_used i_everywhere i_again0 i_d0 i_never i_firstCame i_longRun i_moved i_crowd i_l0 i_fitMany i_fitLeast i_fitMost m_fitPost m_fitEnd m_keptPosts i_x0], [zAr T 0 m_all 3952 f_all], [zAr T 0 m_posts 7 g_posts], [zAr T 0 m_shut 7 g_shut], [zAr T 0 m_here 7 g_here], [zAr T 0 m_was 7 g_was]] ∧ r.toInt = gRw (zWo f_all i_z0 i_inns) (zLo f_all i_z0) i_inns c_ (aRs (zWo f_all i_z0 i_inns) (zPo f_all i_z0) 7) 0 true 2 rw_) := by
  refine zMi_of (own := RX12) (by decide) rfl (Nat.le_of_ble_eq_true rfl) ?_
  intro p e s m args below meth c A ls C hr hlocks hnm hAe G hl
  refine zHide (fun Qz_ hQz_ => ?_)
  have hx := C.1
  have hb := C.2.1
  have hl : lv_has ls 6 [(0, .ref mo), (1, .int (nI rw_)), (2, .int 2), (3, .int c_)] := hl
  refine lv_aload_n hx hb dX12_gameBy_0 rfl (lv_at hl 0 rfl) ?_
  refine z_Vv (bc := [[zO11 mo m_all m_has i_size i_next i_where i_token i_number i_word i_wrong i_farCrossing m_read i_z0 i_crossings i_inns m_posts m_shut m_here i_steps i_done i_at i_gone m_was m_came m_seenAt m_rowWorth m_farBy m_used i_everywhere i_again0 i_d0 i_never i_firstCame i_longRun i_moved i_crowd i_l0 i_fitMany i_fitLeast i_fitMost m_fitPost m_fitEnd m_keptPosts i_x0], [zAr T 0 m_all 3952 f_all], [zAr T 0 m_posts 7 f_posts], [zAr T 0 m_shut 7 f_shut], [zAr T 0 m_here 7 f_here]]) (br := [[zAr T 0 m_was 7 f_was]]) (As := []) (rest := []) C G (c_m_begins l T mo m_all m_has i_size i_next i_where i_token i_number i_word i_wrong i_farCrossing m_read i_z0 i_crossings i_inns m_posts m_shut m_here i_steps i_done i_at i_gone m_was m_came m_seenAt m_rowWorth m_farBy m_used i_everywhere i_again0 i_d0 i_never i_firstCame i_longRun i_moved i_crowd i_l0 i_fitMany i_fitLeast i_fitMost m_fitPost m_fitEnd m_keptPosts i_x0 f_all f_posts f_shut f_here (by first | with_reducible assumption | with_reducible rfl | omega | assumption | rfl | decide)) (kV_RX12_175 C.2.2.2.2 (Nat.le_of_ble_eq_true rfl) (Nat.le_of_ble_eq_true rfl)) [0, 1, 2, 3, 4] [0, 0, 0, 0, 0] rfl rfl (ci := 11) (qc := (RX12, TX12, 43)) rfl rfl (List.mem_flatten.mpr ⟨_, List.mem_of_getElem? (i := 0) rfl, List.mem_cons_self⟩) rfl rfl hl.1 dX12_gameBy_1 (Nat.le_of_ble_eq_true rfl) (Nat.le_of_ble_eq_true rfl) (fun b1 H locs hw G => ?_)
  refine zEx5 hw ?_
  intro j_steps_1 j_done_2 g_posts_3 g_shut_4 g_here_5
  refine zCu7 ?_
  intro hbs9 h_6 h_7 h_8 h_9 h_10 h_11
  clear hw
  subst hbs9
  have G : zS T A s.heap s [[zAr T 0 m_was 7 f_was], [zO11 mo m_all m_has i_size i_next i_where i_token i_number i_word i_wrong i_farCrossing m_read i_z0 i_crossings i_inns m_posts m_shut m_here j_steps_1 j_done_2 i_at i_gone m_was m_came m_seenAt m_rowWorth m_farBy m_used i_everywhere i_again0 i_d0 i_never i_firstCame i_longRun i_moved i_crowd i_l0 i_fitMany i_fitLeast i_fitMost m_fitPost m_fitEnd m_keptPosts i_x0], [zAr T 0 m_all 3952 f_all], [zAr T 0 m_posts 7 g_posts_3], [zAr T 0 m_shut 7 g_shut_4], [zAr T 0 m_here 7 g_here_5]] _ _ := G
  have hz := hL.1
  have hcr := hL.cr
  have hTo9 := rTold (n := i_inns) hL.1 hVA hL.2.2
  have hS9 := h_9
  have hQ9 := h_11
  have hV9 : zMV (zRo f_all i_z0) g_posts_3 := zVA_z hVA hL.1 h_8
  have hd0 : ∀ j, j < 7 → 0 < ((zWo f_all i_z0 i_inns) j).toInt → g_posts_3 j = aPo (zWo f_all i_z0 i_inns) (aRs (zWo f_all i_z0 i_inns) (zPo f_all i_z0) 7) j := fun j hj hw => (h_8 j hj).trans (hTo9.2 j hj hw)
  have hp0 : gPx (zWo f_all i_z0 i_inns) (aRs (zWo f_all i_z0 i_inns) (zPo f_all i_z0) 7) 0 (rw_ / 64) = (true, (aRs (zWo f_all i_z0 i_inns) (zPo f_all i_z0) 7)) := rfl
  refine lv_iload_n hx hb dX12_gameBy_4 rfl (lv_at hl 2 rfl) ?_
  refine lv_iconst (v := 1) hx hb dX12_gameBy_5 (by decide) ?_
  refine lv_isub hx hb dX12_gameBy_6 ?_
  refine lv_topi (fun y_13 ey_13 => ?_)
  obtain rfl : y_13 = 1 := ey_13.trans (by decide)
  refine lv_istore (lv' := [(4, .int 1), (0, .ref mo), (1, .int (nI rw_)), (2, .int 2), (3, .int c_)]) hx hb dX12_gameBy_7 hl (by decide) (zLvf_h rfl) (fun ls hl => ?_)
  refine lv_iload hx hb dX12_gameBy_9 (lv_at hl 0 rfl) ?_
  refine lv_if_lt (tgt := 68) hx hb dX12_gameBy_11 (by decide) (fun q => absurd q (by decide)) (fun _ => ?_)
  refine lv_iload_n hx hb dX12_gameBy_14 rfl (lv_at hl 2 rfl) ?_
  refine lv_iconst (v := 3) hx hb dX12_gameBy_15 (by decide) ?_
  refine lv_iload hx hb dX12_gameBy_16 (lv_at hl 0 rfl) ?_
  refine lv_imul hx hb dX12_gameBy_18 ?_
  refine lv_topi (fun y_14 ey_14 => ?_)
  obtain rfl : y_14 = 3 := ey_14.trans (by decide)
  refine lv_ishr hx hb dX12_gameBy_19 ?_
  refine lv_bipush (v := 7) hx hb dX12_gameBy_20 (by decide) ?_
  refine lv_iand hx hb dX12_gameBy_22 ?_
  refine lv_topi (fun y_15 ey_15 => ?_)
  obtain rfl : y_15 = nI ((rw_ / 8) % 8) := ey_15.trans ((by first | rfl | (rw [pk_shrN (by omega) (3 &&& 31) 3 (by decide), aAn (by omega)] <;> exact congrArg nI (by first | omega | (rw [Nat.pow_zero, Nat.div_one]))) | (rw [pk_shrN (by omega) 3 3 (by decide), aAn (by omega)]) | (rw [pk_shrN (by omega) _ 3 (by decide), aAn (by omega)]; exact congrArg nI (by omega))))
  have tD9 := nI_toInt (n := (rw_ / 8) % 8) (by omega)
  have nD9 := nI_n (n := (rw_ / 8) % 8) (by omega)
  refine lv_istore (lv' := [(5, .int (nI ((rw_ / 8) % 8))), (4, .int 1), (0, .ref mo), (1, .int (nI rw_)), (2, .int 2), (3, .int c_)]) hx hb dX12_gameBy_23 hl (by decide) (zLvf_h rfl) (fun ls hl => ?_)
  refine lv_iload hx hb dX12_gameBy_25 (lv_at hl 0 rfl) ?_
  refine lv_bipush (v := 7) hx hb dX12_gameBy_27 (by decide) ?_
  refine lv_icmp_ne (tgt := 35) hx hb dX12_gameBy_29 (by decide) (fun c_16 => ?_) (fun c_16 => ?_)
  · have c_16n : ¬ (rw_ / 8) % 8 = 7 := fun q => c_16 ((nI_eq (a := (rw_ / 8) % 8) (b := 7) (by omega) (by omega)).mpr q)
    refine lv_aload_n hx hb dX12_gameBy_35 rfl (lv_at hl 2 rfl) ?_
    refine lv_iload hx hb dX12_gameBy_36 (lv_at hl 0 rfl) ?_
    have ti_17 : (nI ((rw_ / 8) % 8)).toInt = (((rw_ / 8) % 8 : Nat) : Int) := nI_toInt (by omega)
    refine z_Vi (bc := [[zO11 mo m_all m_has i_size i_next i_where i_token i_number i_word i_wrong i_farCrossing m_read i_z0 i_crossings i_inns m_posts m_shut m_here j_steps_1 j_done_2 i_at i_gone m_was m_came m_seenAt m_rowWorth m_farBy m_used i_everywhere i_again0 i_d0 i_never i_firstCame i_longRun i_moved i_crowd i_l0 i_fitMany i_fitLeast i_fitMost m_fitPost m_fitEnd m_keptPosts i_x0]]) (br := [[zAr T 0 m_was 7 f_was], [zAr T 0 m_all 3952 f_all], [zAr T 0 m_posts 7 g_posts_3], [zAr T 0 m_shut 7 g_shut_4], [zAr T 0 m_here 7 g_here_5]]) (As := [.int (nI ((rw_ / 8) % 8))]) (rest := []) C G (c_m_isCrossing l T mo m_all m_has i_size i_next i_where i_token i_number i_word i_wrong i_farCrossing m_read i_z0 i_crossings i_inns m_posts m_shut m_here j_steps_1 j_done_2 i_at i_gone m_was m_came m_seenAt m_rowWorth m_farBy m_used i_everywhere i_again0 i_d0 i_never i_firstCame i_longRun i_moved i_crowd i_l0 i_fitMany i_fitLeast i_fitMost m_fitPost m_fitEnd m_keptPosts i_x0 (nI ((rw_ / 8) % 8)) (by first | with_reducible assumption | with_reducible rfl | omega | assumption | rfl | decide)) (kV_RX12_187 C.2.2.2.2 (Nat.le_of_ble_eq_true rfl) (Nat.le_of_ble_eq_true rfl)) [1] [1] rfl rfl (ci := 11) (qc := (RX12, TX12, 43)) rfl rfl (List.mem_flatten.mpr ⟨_, List.mem_of_getElem? (i := 0) rfl, List.mem_cons_self⟩) rfl rfl hl.1 dX12_gameBy_38 (Nat.le_of_ble_eq_true rfl) (Nat.le_of_ble_eq_true rfl) (fun r_19 b1 H locs hw G => ?_)
    refine zAn2 hw ?_
    intro hbs9 hc_18
    clear hw
    subst hbs9
    have G : zS T A s.heap s [[zAr T 0 m_was 7 f_was], [zAr T 0 m_all 3952 f_all], [zAr T 0 m_posts 7 g_posts_3], [zAr T 0 m_shut 7 g_shut_4], [zAr T 0 m_here 7 g_here_5], [zO11 mo m_all m_has i_size i_next i_where i_token i_number i_word i_wrong i_farCrossing m_read i_z0 i_crossings i_inns m_posts m_shut m_here j_steps_1 j_done_2 i_at i_gone m_was m_came m_seenAt m_rowWorth m_farBy m_used i_everywhere i_again0 i_d0 i_never i_firstCame i_longRun i_moved i_crowd i_l0 i_fitMany i_fitLeast i_fitMost m_fitPost m_fitEnd m_keptPosts i_x0]] _ _ := G
    rcases hc_18 with ⟨rfl, h_20, h_21⟩ | ⟨rfl, h_22⟩
    · have h_20 : 0 ≤ (nI ((rw_ / 8) % 8)).toInt := h_20
      have h_21 : (nI ((rw_ / 8) % 8)).toInt < i_crossings.toInt := h_21
      refine lv_if_eq (tgt := 53) hx hb dX12_gameBy_41 (by decide) (fun q => absurd q (by decide)) (fun _ => ?_)
      refine lv_aload_n hx hb dX12_gameBy_44 rfl (lv_at hl 2 rfl) ?_
      refine lv_iload hx hb dX12_gameBy_45 (lv_at hl 0 rfl) ?_
      have ti_23 : (nI ((rw_ / 8) % 8)).toInt = (((rw_ / 8) % 8 : Nat) : Int) := nI_toInt (by omega)
      refine z_Vi (bc := [[zO11 mo m_all m_has i_size i_next i_where i_token i_number i_word i_wrong i_farCrossing m_read i_z0 i_crossings i_inns m_posts m_shut m_here j_steps_1 j_done_2 i_at i_gone m_was m_came m_seenAt m_rowWorth m_farBy m_used i_everywhere i_again0 i_d0 i_never i_firstCame i_longRun i_moved i_crowd i_l0 i_fitMany i_fitLeast i_fitMost m_fitPost m_fitEnd m_keptPosts i_x0], [zAr T 0 m_all 3952 f_all]]) (br := [[zAr T 0 m_was 7 f_was], [zAr T 0 m_posts 7 g_posts_3], [zAr T 0 m_shut 7 g_shut_4], [zAr T 0 m_here 7 g_here_5]]) (As := [.int (nI ((rw_ / 8) % 8))]) (rest := []) C G (c_m_isFree l T mo m_all m_has i_size i_next i_where i_token i_number i_word i_wrong i_farCrossing m_read i_z0 i_crossings i_inns m_posts m_shut m_here j_steps_1 j_done_2 i_at i_gone m_was m_came m_seenAt m_rowWorth m_farBy m_used i_everywhere i_again0 i_d0 i_never i_firstCame i_longRun i_moved i_crowd i_l0 i_fitMany i_fitLeast i_fitMost m_fitPost m_fitEnd m_keptPosts i_x0 f_all (nI ((rw_ / 8) % 8)) (by first | with_reducible assumption | with_reducible rfl | omega | assumption | rfl | decide) (by first | with_reducible assumption | with_reducible rfl | omega | assumption | rfl | decide) (by first | with_reducible assumption | with_reducible rfl | omega | assumption | rfl | decide)) (kV_RX12_223 C.2.2.2.2 (Nat.le_of_ble_eq_true rfl) (Nat.le_of_ble_eq_true rfl)) [5, 1] [1, 3] rfl rfl (ci := 11) (qc := (RX12, TX12, 43)) rfl rfl (List.mem_flatten.mpr ⟨_, List.mem_of_getElem? (i := 0) rfl, List.mem_cons_self⟩) rfl rfl hl.1 dX12_gameBy_47 (Nat.le_of_ble_eq_true rfl) (Nat.le_of_ble_eq_true rfl) (fun r_25 b1 H locs hw G => ?_)
      refine zAn2 hw ?_
      intro hbs9 hc_24
      clear hw
      subst hbs9
      have G : zS T A s.heap s [[zAr T 0 m_was 7 f_was], [zAr T 0 m_posts 7 g_posts_3], [zAr T 0 m_shut 7 g_shut_4], [zAr T 0 m_here 7 g_here_5], [zO11 mo m_all m_has i_size i_next i_where i_token i_number i_word i_wrong i_farCrossing m_read i_z0 i_crossings i_inns m_posts m_shut m_here j_steps_1 j_done_2 i_at i_gone m_was m_came m_seenAt m_rowWorth m_farBy m_used i_everywhere i_again0 i_d0 i_never i_firstCame i_longRun i_moved i_crowd i_l0 i_fitMany i_fitLeast i_fitMost m_fitPost m_fitEnd m_keptPosts i_x0], [zAr T 0 m_all 3952 f_all]] _ _ := G
      rcases hc_24 with ⟨rfl, h_26, h_27⟩ | ⟨rfl, h_28⟩
      · have h_26 : ¬ zInn i_inns (nI ((rw_ / 8) % 8)) := h_26
        have h_27 : 0 < (zRd f_all i_z0 (nI ((rw_ / 8) % 8))).toInt := h_27
        have hf9 := aWo_1 (f := f_all) (z := i_z0) (n := i_inns) (c := nI ((rw_ / 8) % 8)) (by first | with_reducible assumption | assumption) (by first | with_reducible assumption | assumption) (by omega) (by omega)
        rw [nD9] at hf9
        have hbi9 : ¬ zBit i_inns (nI ((rw_ / 8) % 8)) = 1 := h_26
        refine lv_if_ne (tgt := 55) hx hb dX12_gameBy_50 (by decide) (fun _ => ?_) (fun q => absurd q (by decide))
        refine lv_aload_n hx hb dX12_gameBy_55 rfl (lv_at hl 2 rfl) ?_
        refine lv_iload hx hb dX12_gameBy_56 (lv_at hl 0 rfl) ?_
        have ti_29 : (nI ((rw_ / 8) % 8)).toInt = (((rw_ / 8) % 8 : Nat) : Int) := nI_toInt (by omega)
        refine z_Vi (bc := [[zO11 mo m_all m_has i_size i_next i_where i_token i_number i_word i_wrong i_farCrossing m_read i_z0 i_crossings i_inns m_posts m_shut m_here j_steps_1 j_done_2 i_at i_gone m_was m_came m_seenAt m_rowWorth m_farBy m_used i_everywhere i_again0 i_d0 i_never i_firstCame i_longRun i_moved i_crowd i_l0 i_fitMany i_fitLeast i_fitMost m_fitPost m_fitEnd m_keptPosts i_x0], [zAr T 0 m_all 3952 f_all], [zAr T 0 m_posts 7 g_posts_3], [zAr T 0 m_shut 7 g_shut_4]]) (br := [[zAr T 0 m_was 7 f_was], [zAr T 0 m_here 7 g_here_5]]) (As := [.int (nI ((rw_ / 8) % 8))]) (rest := []) C G (c_fm_turns l T mo m_all m_has i_size i_next i_where i_token i_number i_word i_wrong i_farCrossing m_read i_z0 i_crossings i_inns m_posts m_shut m_here j_steps_1 j_done_2 i_at i_gone m_was m_came m_seenAt m_rowWorth m_farBy m_used i_everywhere i_again0 i_d0 i_never i_firstCame i_longRun i_moved i_crowd i_l0 i_fitMany i_fitLeast i_fitMost m_fitPost m_fitEnd m_keptPosts i_x0 f_all g_posts_3 g_shut_4 (nI ((rw_ / 8) % 8)) (by first | with_reducible assumption | with_reducible rfl | omega | assumption | rfl | decide) (by first | with_reducible assumption | with_reducible rfl | omega | assumption | rfl | decide) (by first | with_reducible assumption | with_reducible rfl | omega | assumption | rfl | decide) hV9 hQ9) (kV_RX12_205 C.2.2.2.2 (Nat.le_of_ble_eq_true rfl) (Nat.le_of_ble_eq_true rfl)) [4, 5, 1, 2] [1, 0, 1, 0] rfl rfl (ci := 11) (qc := (RX12, TX12, 43)) rfl rfl (List.mem_flatten.mpr ⟨_, List.mem_of_getElem? (i := 0) rfl, List.mem_cons_self⟩) rfl rfl hl.1 dX12_gameBy_58 (Nat.le_of_ble_eq_true rfl) (Nat.le_of_ble_eq_true rfl) (fun r_35 b1 H locs hw G => ?_)
        refine zEx1 hw ?_
        intro g_posts_30
        refine zCu5 ?_
        intro hbs9 h_31 h_32 h_33 hc_34
        clear hw
        subst hbs9
        have G : zS T A s.heap s [[zAr T 0 m_was 7 f_was], [zAr T 0 m_here 7 g_here_5], [zO11 mo m_all m_has i_size i_next i_where i_token i_number i_word i_wrong i_farCrossing m_read i_z0 i_crossings i_inns m_posts m_shut m_here j_steps_1 j_done_2 i_at i_gone m_was m_came m_seenAt m_rowWorth m_farBy m_used i_everywhere i_again0 i_d0 i_never i_firstCame i_longRun i_moved i_crowd i_l0 i_fitMany i_fitLeast i_fitMost m_fitPost m_fitEnd m_keptPosts i_x0], [zAr T 0 m_all 3952 f_all], [zAr T 0 m_posts 7 g_posts_30], [zAr T 0 m_shut 7 g_shut_4]] _ _ := G
        rcases hc_34 with ⟨rfl, h_36, h_37⟩ | ⟨rfl, h_38⟩
        · have h_36 : ¬ zTurn g_posts_3 g_shut_4 (zRo f_all i_z0) (nI ((rw_ / 8) % 8)) = -1 := h_36
          have h_37 : 0 < (zRd f_all i_z0 (nI ((rw_ / 8) % 8))).toInt := h_37
          have htu9 := gTu (n := i_inns) (w := (aRs (zWo f_all i_z0 i_inns) (zPo f_all i_z0) 7)) hL hQ9 hS9 (by omega) hf9.2 hbi9 hd0
          have hd1 : ∀ j, j < 7 → 0 < ((zWo f_all i_z0 i_inns) j).toInt → g_posts_30 j = aPo (zWo f_all i_z0 i_inns) (aTn (zWo f_all i_z0 i_inns) (aRs (zWo f_all i_z0 i_inns) (zPo f_all i_z0) 7) ((rw_ / 8) % 8)) j := by rw [h_33]; exact htu9.2
          have hp1 : gPx (zWo f_all i_z0 i_inns) (aRs (zWo f_all i_z0 i_inns) (zPo f_all i_z0) 7) 1 (rw_ / 8) = (true, (aTn (zWo f_all i_z0 i_inns) (aRs (zWo f_all i_z0 i_inns) (zPo f_all i_z0) 7) ((rw_ / 8) % 8))) := gPx_t hp0 (by omega) rfl (by omega) hf9.2
          have hQ9 := h_31
          have hV9 := h_32
          refine lv_pop hx hb dX12_gameBy_61 rfl ?_
          refine lv_iinc (v := 0) (lv' := [(4, .int 0), (5, .int (nI ((rw_ / 8) % 8))), (0, .ref mo), (1, .int (nI rw_)), (2, .int 2), (3, .int c_)]) hx hb dX12_gameBy_62 hl (k := 1) rfl (by decide) (by decide) (zLvf_h rfl) (fun ls hl => ?_)
          refine lv_goto (tgt := 9) hx hb dX12_gameBy_65 (by decide) ?_
          refine lv_iload hx hb dX12_gameBy_9 (lv_at hl 0 rfl) ?_
          refine lv_if_lt (tgt := 68) hx hb dX12_gameBy_11 (by decide) (fun q => absurd q (by decide)) (fun _ => ?_)
          refine lv_iload_n hx hb dX12_gameBy_14 rfl (lv_at hl 3 rfl) ?_
          refine lv_iconst (v := 3) hx hb dX12_gameBy_15 (by decide) ?_
          refine lv_iload hx hb dX12_gameBy_16 (lv_at hl 0 rfl) ?_
          refine lv_imul hx hb dX12_gameBy_18 ?_
          refine lv_topi (fun y_39 ey_39 => ?_)
          obtain rfl : y_39 = 0 := ey_39.trans (by decide)
          refine lv_ishr hx hb dX12_gameBy_19 ?_
          refine lv_bipush (v := 7) hx hb dX12_gameBy_20 (by decide) ?_
          refine lv_iand hx hb dX12_gameBy_22 ?_
          refine lv_topi (fun y_40 ey_40 => ?_)
          obtain rfl : y_40 = nI (rw_ % 8) := ey_40.trans ((by first | rfl | (rw [pk_shrN (by omega) (0 &&& 31) 0 (by decide), aAn (by omega)] <;> exact congrArg nI (by first | omega | (rw [Nat.pow_zero, Nat.div_one]))) | (rw [pk_shrN (by omega) 0 0 (by decide), aAn (by omega)]) | (rw [pk_shrN (by omega) _ 0 (by decide), aAn (by omega)]; exact congrArg nI (by omega))))
          have tD9 := nI_toInt (n := rw_ % 8) (by omega)
          have nD9 := nI_n (n := rw_ % 8) (by omega)
          refine lv_istore (lv' := [(5, .int (nI (rw_ % 8))), (4, .int 0), (0, .ref mo), (1, .int (nI rw_)), (2, .int 2), (3, .int c_)]) hx hb dX12_gameBy_23 hl (by decide) (zLvf_h rfl) (fun ls hl => ?_)
          refine lv_iload hx hb dX12_gameBy_25 (lv_at hl 0 rfl) ?_
          refine lv_bipush (v := 7) hx hb dX12_gameBy_27 (by decide) ?_
          refine lv_icmp_ne (tgt := 35) hx hb dX12_gameBy_29 (by decide) (fun c_41 => ?_) (fun c_41 => ?_)
          · have c_41n : ¬ rw_ % 8 = 7 := fun q => c_41 ((nI_eq (a := rw_ % 8) (b := 7) (by omega) (by omega)).mpr q)
            refine lv_aload_n hx hb dX12_gameBy_35 rfl (lv_at hl 2 rfl) ?_
            refine lv_iload hx hb dX12_gameBy_36 (lv_at hl 0 rfl) ?_
            have ti_42 : (nI (rw_ % 8)).toInt = ((rw_ % 8 : Nat) : Int) := nI_toInt (by omega)
            refine z_Vi (bc := [[zO11 mo m_all m_has i_size i_next i_where i_token i_number i_word i_wrong i_farCrossing m_read i_z0 i_crossings i_inns m_posts m_shut m_here j_steps_1 j_done_2 i_at i_gone m_was m_came m_seenAt m_rowWorth m_farBy m_used i_everywhere i_again0 i_d0 i_never i_firstCame i_longRun i_moved i_crowd i_l0 i_fitMany i_fitLeast i_fitMost m_fitPost m_fitEnd m_keptPosts i_x0]]) (br := [[zAr T 0 m_was 7 f_was], [zAr T 0 m_here 7 g_here_5], [zAr T 0 m_all 3952 f_all], [zAr T 0 m_posts 7 g_posts_30], [zAr T 0 m_shut 7 g_shut_4]]) (As := [.int (nI (rw_ % 8))]) (rest := []) C G (c_m_isCrossing l T mo m_all m_has i_size i_next i_where i_token i_number i_word i_wrong i_farCrossing m_read i_z0 i_crossings i_inns m_posts m_shut m_here j_steps_1 j_done_2 i_at i_gone m_was m_came m_seenAt m_rowWorth m_farBy m_used i_everywhere i_again0 i_d0 i_never i_firstCame i_longRun i_moved i_crowd i_l0 i_fitMany i_fitLeast i_fitMost m_fitPost m_fitEnd m_keptPosts i_x0 (nI (rw_ % 8)) (by first | with_reducible assumption | with_reducible rfl | omega | assumption | rfl | decide)) (kV_RX12_187 C.2.2.2.2 (Nat.le_of_ble_eq_true rfl) (Nat.le_of_ble_eq_true rfl)) [2] [2] rfl rfl (ci := 11) (qc := (RX12, TX12, 43)) rfl rfl (List.mem_flatten.mpr ⟨_, List.mem_of_getElem? (i := 0) rfl, List.mem_cons_self⟩) rfl rfl hl.1 dX12_gameBy_38 (Nat.le_of_ble_eq_true rfl) (Nat.le_of_ble_eq_true rfl) (fun r_44 b1 H locs hw G => ?_)
            refine zAn2 hw ?_
            intro hbs9 hc_43
            clear hw
            subst hbs9
            have G : zS T A s.heap s [[zAr T 0 m_was 7 f_was], [zAr T 0 m_here 7 g_here_5], [zAr T 0 m_all 3952 f_all], [zAr T 0 m_posts 7 g_posts_30], [zAr T 0 m_shut 7 g_shut_4], [zO11 mo m_all m_has i_size i_next i_where i_token i_number i_word i_wrong i_farCrossing m_read i_z0 i_crossings i_inns m_posts m_shut m_here j_steps_1 j_done_2 i_at i_gone m_was m_came m_seenAt m_rowWorth m_farBy m_used i_everywhere i_again0 i_d0 i_never i_firstCame i_longRun i_moved i_crowd i_l0 i_fitMany i_fitLeast i_fitMost m_fitPost m_fitEnd m_keptPosts i_x0]] _ _ := G
            rcases hc_43 with ⟨rfl, h_45, h_46⟩ | ⟨rfl, h_47⟩
            · have h_45 : 0 ≤ (nI (rw_ % 8)).toInt := h_45
              have h_46 : (nI (rw_ % 8)).toInt < i_crossings.toInt := h_46
              refine lv_if_eq (tgt := 53) hx hb dX12_gameBy_41 (by decide) (fun q => absurd q (by decide)) (fun _ => ?_)
              refine lv_aload_n hx hb dX12_gameBy_44 rfl (lv_at hl 2 rfl) ?_
              refine lv_iload hx hb dX12_gameBy_45 (lv_at hl 0 rfl) ?_
              have ti_48 : (nI (rw_ % 8)).toInt = ((rw_ % 8 : Nat) : Int) := nI_toInt (by omega)
              refine z_Vi (bc := [[zO11 mo m_all m_has i_size i_next i_where i_token i_number i_word i_wrong i_farCrossing m_read i_z0 i_crossings i_inns m_posts m_shut m_here j_steps_1 j_done_2 i_at i_gone m_was m_came m_seenAt m_rowWorth m_farBy m_used i_everywhere i_again0 i_d0 i_never i_firstCame i_longRun i_moved i_crowd i_l0 i_fitMany i_fitLeast i_fitMost m_fitPost m_fitEnd m_keptPosts i_x0], [zAr T 0 m_all 3952 f_all]]) (br := [[zAr T 0 m_was 7 f_was], [zAr T 0 m_here 7 g_here_5], [zAr T 0 m_posts 7 g_posts_30], [zAr T 0 m_shut 7 g_shut_4]]) (As := [.int (nI (rw_ % 8))]) (rest := []) C G (c_m_isFree l T mo m_all m_has i_size i_next i_where i_token i_number i_word i_wrong i_farCrossing m_read i_z0 i_crossings i_inns m_posts m_shut m_here j_steps_1 j_done_2 i_at i_gone m_was m_came m_seenAt m_rowWorth m_farBy m_used i_everywhere i_again0 i_d0 i_never i_firstCame i_longRun i_moved i_crowd i_l0 i_fitMany i_fitLeast i_fitMost m_fitPost m_fitEnd m_keptPosts i_x0 f_all (nI (rw_ % 8)) (by first | with_reducible assumption | with_reducible rfl | omega | assumption | rfl | decide) (by first | with_reducible assumption | with_reducible rfl | omega | assumption | rfl | decide) (by first | with_reducible assumption | with_reducible rfl | omega | assumption | rfl | decide)) (kV_RX12_223 C.2.2.2.2 (Nat.le_of_ble_eq_true rfl) (Nat.le_of_ble_eq_true rfl)) [5, 2] [2, 2] rfl rfl (ci := 11) (qc := (RX12, TX12, 43)) rfl rfl (List.mem_flatten.mpr ⟨_, List.mem_of_getElem? (i := 0) rfl, List.mem_cons_self⟩) rfl rfl hl.1 dX12_gameBy_47 (Nat.le_of_ble_eq_true rfl) (Nat.le_of_ble_eq_true rfl) (fun r_50 b1 H locs hw G => ?_)
              refine zAn2 hw ?_
              intro hbs9 hc_49
              clear hw
              subst hbs9
              have G : zS T A s.heap s [[zAr T 0 m_was 7 f_was], [zAr T 0 m_here 7 g_here_5], [zAr T 0 m_posts 7 g_posts_30], [zAr T 0 m_shut 7 g_shut_4], [zO11 mo m_all m_has i_size i_next i_where i_token i_number i_word i_wrong i_farCrossing m_read i_z0 i_crossings i_inns m_posts m_shut m_here j_steps_1 j_done_2 i_at i_gone m_was m_came m_seenAt m_rowWorth m_farBy m_used i_everywhere i_again0 i_d0 i_never i_firstCame i_longRun i_moved i_crowd i_l0 i_fitMany i_fitLeast i_fitMost m_fitPost m_fitEnd m_keptPosts i_x0], [zAr T 0 m_all 3952 f_all]] _ _ := G
              rcases hc_49 with ⟨rfl, h_51, h_52⟩ | ⟨rfl, h_53⟩
              · have h_51 : ¬ zInn i_inns (nI (rw_ % 8)) := h_51
                have h_52 : 0 < (zRd f_all i_z0 (nI (rw_ % 8))).toInt := h_52
                have hf9 := aWo_1 (f := f_all) (z := i_z0) (n := i_inns) (c := nI (rw_ % 8)) (by first | with_reducible assumption | assumption) (by first | with_reducible assumption | assumption) (by omega) (by omega)
                rw [nD9] at hf9
                have hbi9 : ¬ zBit i_inns (nI (rw_ % 8)) = 1 := h_51
                refine lv_if_ne (tgt := 55) hx hb dX12_gameBy_50 (by decide) (fun _ => ?_) (fun q => absurd q (by decide))
                refine lv_aload_n hx hb dX12_gameBy_55 rfl (lv_at hl 2 rfl) ?_
                refine lv_iload hx hb dX12_gameBy_56 (lv_at hl 0 rfl) ?_
                have ti_54 : (nI (rw_ % 8)).toInt = ((rw_ % 8 : Nat) : Int) := nI_toInt (by omega)
                refine z_Vi (bc := [[zO11 mo m_all m_has i_size i_next i_where i_token i_number i_word i_wrong i_farCrossing m_read i_z0 i_crossings i_inns m_posts m_shut m_here j_steps_1 j_done_2 i_at i_gone m_was m_came m_seenAt m_rowWorth m_farBy m_used i_everywhere i_again0 i_d0 i_never i_firstCame i_longRun i_moved i_crowd i_l0 i_fitMany i_fitLeast i_fitMost m_fitPost m_fitEnd m_keptPosts i_x0], [zAr T 0 m_all 3952 f_all], [zAr T 0 m_posts 7 g_posts_30], [zAr T 0 m_shut 7 g_shut_4]]) (br := [[zAr T 0 m_was 7 f_was], [zAr T 0 m_here 7 g_here_5]]) (As := [.int (nI (rw_ % 8))]) (rest := []) C G (c_fm_turns l T mo m_all m_has i_size i_next i_where i_token i_number i_word i_wrong i_farCrossing m_read i_z0 i_crossings i_inns m_posts m_shut m_here j_steps_1 j_done_2 i_at i_gone m_was m_came m_seenAt m_rowWorth m_farBy m_used i_everywhere i_again0 i_d0 i_never i_firstCame i_longRun i_moved i_crowd i_l0 i_fitMany i_fitLeast i_fitMost m_fitPost m_fitEnd m_keptPosts i_x0 f_all g_posts_30 g_shut_4 (nI (rw_ % 8)) (by first | with_reducible assumption | with_reducible rfl | omega | assumption | rfl | decide) (by first | with_reducible assumption | with_reducible rfl | omega | assumption | rfl | decide) (by first | with_reducible assumption | with_reducible rfl | omega | assumption | rfl | decide) hV9 hQ9) (kV_RX12_205 C.2.2.2.2 (Nat.le_of_ble_eq_true rfl) (Nat.le_of_ble_eq_true rfl)) [4, 5, 2, 3] [2, 0, 0, 0] rfl rfl (ci := 11) (qc := (RX12, TX12, 43)) rfl rfl (List.mem_flatten.mpr ⟨_, List.mem_of_getElem? (i := 0) rfl, List.mem_cons_self⟩) rfl rfl hl.1 dX12_gameBy_58 (Nat.le_of_ble_eq_true rfl) (Nat.le_of_ble_eq_true rfl) (fun r_60 b1 H locs hw G => ?_)
                refine zEx1 hw ?_
                intro g_posts_55
                refine zCu5 ?_
                intro hbs9 h_56 h_57 h_58 hc_59
                clear hw
                subst hbs9
                have G : zS T A s.heap s [[zAr T 0 m_was 7 f_was], [zAr T 0 m_here 7 g_here_5], [zO11 mo m_all m_has i_size i_next i_where i_token i_number i_word i_wrong i_farCrossing m_read i_z0 i_crossings i_inns m_posts m_shut m_here j_steps_1 j_done_2 i_at i_gone m_was m_came m_seenAt m_rowWorth m_farBy m_used i_everywhere i_again0 i_d0 i_never i_firstCame i_longRun i_moved i_crowd i_l0 i_fitMany i_fitLeast i_fitMost m_fitPost m_fitEnd m_keptPosts i_x0], [zAr T 0 m_all 3952 f_all], [zAr T 0 m_posts 7 g_posts_55], [zAr T 0 m_shut 7 g_shut_4]] _ _ := G
                rcases hc_59 with ⟨rfl, h_61, h_62⟩ | ⟨rfl, h_63⟩
                · have h_61 : ¬ zTurn g_posts_30 g_shut_4 (zRo f_all i_z0) (nI (rw_ % 8)) = -1 := h_61
                  have h_62 : 0 < (zRd f_all i_z0 (nI (rw_ % 8))).toInt := h_62
                  have htu9 := gTu (n := i_inns) (w := (aTn (zWo f_all i_z0 i_inns) (aRs (zWo f_all i_z0 i_inns) (zPo f_all i_z0) 7) ((rw_ / 8) % 8))) hL hQ9 hS9 (by omega) hf9.2 hbi9 hd1
                  have hd2 : ∀ j, j < 7 → 0 < ((zWo f_all i_z0 i_inns) j).toInt → g_posts_55 j = aPo (zWo f_all i_z0 i_inns) (aTn (zWo f_all i_z0 i_inns) (aTn (zWo f_all i_z0 i_inns) (aRs (zWo f_all i_z0 i_inns) (zPo f_all i_z0) 7) ((rw_ / 8) % 8)) (rw_ % 8)) j := by rw [h_58]; exact htu9.2
                  have hp2 : gPx (zWo f_all i_z0 i_inns) (aRs (zWo f_all i_z0 i_inns) (zPo f_all i_z0) 7) 2 rw_ = (true, (aTn (zWo f_all i_z0 i_inns) (aTn (zWo f_all i_z0 i_inns) (aRs (zWo f_all i_z0 i_inns) (zPo f_all i_z0) 7) ((rw_ / 8) % 8)) (rw_ % 8))) := gPx_t hp1 (by omega) rfl (by omega) hf9.2
                  have hQ9 := h_56
                  have hV9 := h_57
                  refine lv_pop hx hb dX12_gameBy_61 rfl ?_
                  refine lv_iinc (v := (-1)) (lv' := [(4, .int (-1)), (5, .int (nI (rw_ % 8))), (0, .ref mo), (1, .int (nI rw_)), (2, .int 2), (3, .int c_)]) hx hb dX12_gameBy_62 hl (k := 1) rfl (by decide) (by decide) (zLvf_h rfl) (fun ls hl => ?_)
                  refine lv_goto (tgt := 9) hx hb dX12_gameBy_65 (by decide) ?_
                  refine lv_iload hx hb dX12_gameBy_9 (lv_at hl 0 rfl) ?_
                  refine lv_if_lt (tgt := 68) hx hb dX12_gameBy_11 (by decide) (fun _ => ?_) (fun q => absurd (by decide) q)
                  refine lv_aload_n hx hb dX12_gameBy_68 rfl (lv_at hl 2 rfl) ?_
                  refine lv_iload_n hx hb dX12_gameBy_69 rfl (lv_at hl 5 rfl) ?_
                  refine z_Vi (bc := [[zO11 mo m_all m_has i_size i_next i_where i_token i_number i_word i_wrong i_farCrossing m_read i_z0 i_crossings i_inns m_posts m_shut m_here j_steps_1 j_done_2 i_at i_gone m_was m_came m_seenAt m_rowWorth m_farBy m_used i_everywhere i_again0 i_d0 i_never i_firstCame i_longRun i_moved i_crowd i_l0 i_fitMany i_fitLeast i_fitMost m_fitPost m_fitEnd m_keptPosts i_x0], [zAr T 0 m_all 3952 f_all], [zAr T 0 m_posts 7 g_posts_55], [zAr T 0 m_shut 7 g_shut_4], [zAr T 0 m_was 7 f_was]]) (br := [[zAr T 0 m_here 7 g_here_5]]) (As := [.int c_]) (rest := []) C G (c_fm_walks l T mo m_all m_has i_size i_next i_where i_token i_number i_word i_wrong i_farCrossing m_read i_z0 i_crossings i_inns m_posts m_shut m_here j_steps_1 j_done_2 i_at i_gone m_was m_came m_seenAt m_rowWorth m_farBy m_used i_everywhere i_again0 i_d0 i_never i_firstCame i_longRun i_moved i_crowd i_l0 i_fitMany i_fitLeast i_fitMost m_fitPost m_fitEnd m_keptPosts i_x0 f_all g_posts_55 g_shut_4 f_was c_ (by first | with_reducible assumption | with_reducible rfl | omega | assumption | rfl | decide) (by first | with_reducible assumption | with_reducible rfl | omega | assumption | rfl | decide) (by first | with_reducible assumption | with_reducible rfl | omega | assumption | rfl | decide) hV9 hQ9) (kV_RX12_217 C.2.2.2.2 (Nat.le_of_ble_eq_true rfl) (Nat.le_of_ble_eq_true rfl)) [2, 3, 4, 5, 0] [0, 1, 0, 0, 0] rfl rfl (ci := 11) (qc := (RX12, TX12, 43)) rfl rfl (List.mem_flatten.mpr ⟨_, List.mem_of_getElem? (i := 0) rfl, List.mem_cons_self⟩) rfl rfl hl.1 dX12_gameBy_70 (Nat.le_of_ble_eq_true rfl) (Nat.le_of_ble_eq_true rfl) (fun r_78 b1 H locs hw G => ?_)
                  refine zEx4 hw ?_
                  intro j_at_64 j_gone_65 g_posts_66 g_was_67
                  refine zCu11 ?_
                  intro hbs9 h_68 h_69 h_70 h_71 h_72 h_73 h_74 h_75 h_76 h_77
                  clear hw
                  subst hbs9
                  have G : zS T A s.heap s [[zAr T 0 m_here 7 g_here_5], [zO11 mo m_all m_has i_size i_next i_where i_token i_number i_word i_wrong i_farCrossing m_read i_z0 i_crossings i_inns m_posts m_shut m_here j_steps_1 j_done_2 j_at_64 j_gone_65 m_was m_came m_seenAt m_rowWorth m_farBy m_used i_everywhere i_again0 i_d0 i_never i_firstCame i_longRun i_moved i_crowd i_l0 i_fitMany i_fitLeast i_fitMost m_fitPost m_fitEnd m_keptPosts i_x0], [zAr T 0 m_all 3952 f_all], [zAr T 0 m_posts 7 g_posts_66], [zAr T 0 m_shut 7 g_shut_4], [zAr T 0 m_was 7 g_was_67]] _ _ := G
                  replace h_73 : zHd ((r_78 = 1 ∧ zBit i_inns j_at_64 = 1 ∨ r_78 = 0 ∧ ¬ zBit i_inns j_at_64 = 1)) := h_73
                  have hRw := rWalkF (n := i_inns) (c := c_) (w := (aTn (zWo f_all i_z0 i_inns) (aTn (zWo f_all i_z0 i_inns) (aRs (zWo f_all i_z0 i_inns) (zPo f_all i_z0) 7) ((rw_ / 8) % 8)) (rw_ % 8))) hL hQ9 hS9 hd2 hc0 hc6
                  have hat9 : j_at_64 = rWh (zWo f_all i_z0 i_inns) (zLo f_all i_z0) (aTn (zWo f_all i_z0 i_inns) (aTn (zWo f_all i_z0 i_inns) (aRs (zWo f_all i_z0 i_inns) (zPo f_all i_z0) 7) ((rw_ / 8) % 8)) (rw_ % 8)) c_ := h_75.trans hRw.1
                  have hgo9 : j_gone_65 = nI (rStp (zWo f_all i_z0 i_inns) (zLo f_all i_z0) (aTn (zWo f_all i_z0 i_inns) (aTn (zWo f_all i_z0 i_inns) (aRs (zWo f_all i_z0 i_inns) (zPo f_all i_z0) 7) ((rw_ / 8) % 8)) (rw_ % 8)) c_) := by rw [h_76, hRw.2.1]
                  have hgl9 : rStp (zWo f_all i_z0 i_inns) (zLo f_all i_z0) (aTn (zWo f_all i_z0 i_inns) (aTn (zWo f_all i_z0 i_inns) (aRs (zWo f_all i_z0 i_inns) (zPo f_all i_z0) 7) ((rw_ / 8) % 8)) (rw_ % 8)) c_ ≤ 499 := rStp_le
                  refine lv_if_eq (tgt := 83) hx hb dX12_gameBy_73 (by decide) (fun c_79 => ?_) (fun c_79 => ?_)
                  · have c_79n : r_78.toInt = (0 : Int) := (fa_eq _ _).mp c_79
                    refine lv_sipush (v := 500) hx hb dX12_gameBy_83 (by decide) ?_
                    have G := G.sub (bs' := [[zO11 mo m_all m_has i_size i_next i_where i_token i_number i_word i_wrong i_farCrossing m_read i_z0 i_crossings i_inns m_posts m_shut m_here j_steps_1 j_done_2 j_at_64 j_gone_65 m_was m_came m_seenAt m_rowWorth m_farBy m_used i_everywhere i_again0 i_d0 i_never i_firstCame i_longRun i_moved i_crowd i_l0 i_fitMany i_fitLeast i_fitMost m_fitPost m_fitEnd m_keptPosts i_x0], [zAr T 0 m_all 3952 f_all], [zAr T 0 m_posts 7 g_posts_66], [zAr T 0 m_shut 7 g_shut_4], [zAr T 0 m_here 7 g_here_5], [zAr T 0 m_was 7 g_was_67]]) [1, 2, 3, 4, 0, 5] rfl
                    exact z_back hQz_ (z_iret C hr hlocks G (Nat.le_of_ble_eq_true rfl) (Nat.le_of_ble_eq_true rfl) dX12_gameBy_86 ⟨j_steps_1, j_done_2, j_at_64, j_gone_65, g_posts_66, g_shut_4, g_here_5, g_was_67, rfl, (by unfold gRw; rw [hp2, if_pos rfl]; show _ = ((gSn (zWo f_all i_z0 i_inns) (zLo f_all i_z0) i_inns (aTn (zWo f_all i_z0 i_inns) (aTn (zWo f_all i_z0 i_inns) (aRs (zWo f_all i_z0 i_inns) (zPo f_all i_z0) 7) ((rw_ / 8) % 8)) (rw_ % 8)) c_ : Nat) : Int); unfold gSn; rw [if_neg (by rw [← hat9]; rcases h_73 with e9 | e9 <;> first | exact e9.2 | (exfalso; have q9 := e9.1; first | omega | (have e7 := congrArg Int32.toInt q9; have e6 : (0 : Int32).toInt = 0 := rfl; have e5 : (1 : Int32).toInt = 1 := rfl; omega)))]; rfl)⟩)
                  · have c_79n : ¬ r_78.toInt = (0 : Int) := fun q => c_79 ((fa_eq _ _).mpr q)
                    refine lv_aload_n hx hb dX12_gameBy_76 rfl (lv_at hl 2 rfl) ?_
                    refine z_get C G clX12 1 rfl 20 (by decide) m_fl_RX12_208 rfl dX12_gameBy_77 ?_
                    refine lv_goto (tgt := 86) hx hb dX12_gameBy_80 (by decide) ?_
                    have G := G.sub (bs' := [[zO11 mo m_all m_has i_size i_next i_where i_token i_number i_word i_wrong i_farCrossing m_read i_z0 i_crossings i_inns m_posts m_shut m_here j_steps_1 j_done_2 j_at_64 j_gone_65 m_was m_came m_seenAt m_rowWorth m_farBy m_used i_everywhere i_again0 i_d0 i_never i_firstCame i_longRun i_moved i_crowd i_l0 i_fitMany i_fitLeast i_fitMost m_fitPost m_fitEnd m_keptPosts i_x0], [zAr T 0 m_all 3952 f_all], [zAr T 0 m_posts 7 g_posts_66], [zAr T 0 m_shut 7 g_shut_4], [zAr T 0 m_here 7 g_here_5], [zAr T 0 m_was 7 g_was_67]]) [1, 2, 3, 4, 0, 5] rfl
                    exact z_back hQz_ (z_iret C hr hlocks G (Nat.le_of_ble_eq_true rfl) (Nat.le_of_ble_eq_true rfl) dX12_gameBy_86 ⟨j_steps_1, j_done_2, j_at_64, j_gone_65, g_posts_66, g_shut_4, g_here_5, g_was_67, rfl, (by unfold gRw; rw [hp2, if_pos rfl]; show _ = ((gSn (zWo f_all i_z0 i_inns) (zLo f_all i_z0) i_inns (aTn (zWo f_all i_z0 i_inns) (aTn (zWo f_all i_z0 i_inns) (aRs (zWo f_all i_z0 i_inns) (zPo f_all i_z0) 7) ((rw_ / 8) % 8)) (rw_ % 8)) c_ : Nat) : Int); unfold gSn; rw [if_pos (by rw [← hat9]; rcases h_73 with e9 | e9 <;> first | exact e9.2 | (exfalso; have q9 := e9.1; first | omega | (have e7 := congrArg Int32.toInt q9; have e6 : (0 : Int32).toInt = 0 := rfl; have e5 : (1 : Int32).toInt = 1 := rfl; omega))), hgo9, nI_toInt (by omega)])⟩)
                · have h_63 : zTurn g_posts_30 g_shut_4 (zRo f_all i_z0) (nI (rw_ % 8)) = -1 := h_63
                  have htu9 := gTu (n := i_inns) (w := (aTn (zWo f_all i_z0 i_inns) (aRs (zWo f_all i_z0 i_inns) (zPo f_all i_z0) 7) ((rw_ / 8) % 8))) hL hQ9 hS9 (by omega) hf9.2 hbi9 hd1
                  exact absurd h_63 htu9.1
              · have h_53 : (zInn i_inns (nI (rw_ % 8)) ∨ (zRd f_all i_z0 (nI (rw_ % 8))).toInt ≤ 0) := h_53
                have hf9 := aWo_0 (f := f_all) (z := i_z0) (n := i_inns) (c := nI (rw_ % 8)) (by first | with_reducible assumption | assumption) (by omega) (by omega)
                rw [nD9] at hf9
                have hno9 : ¬ 0 < ((zWo f_all i_z0 i_inns) (rw_ % 8)).toInt := by omega
                have hx2 : (gPx (zWo f_all i_z0 i_inns) (aRs (zWo f_all i_z0 i_inns) (zPo f_all i_z0) 7) 2 rw_).1 = false := gPx_x (c := rw_ % 8) rfl (by omega) hno9
                refine lv_if_ne (tgt := 55) hx hb dX12_gameBy_50 (by decide) (fun q => absurd (by decide) q) (fun _ => ?_)
                refine lv_iconst (v := (-1)) hx hb dX12_gameBy_53 (by decide) ?_
                have G := G.sub (bs' := [[zO11 mo m_all m_has i_size i_next i_where i_token i_number i_word i_wrong i_farCrossing m_read i_z0 i_crossings i_inns m_posts m_shut m_here j_steps_1 j_done_2 i_at i_gone m_was m_came m_seenAt m_rowWorth m_farBy m_used i_everywhere i_again0 i_d0 i_never i_firstCame i_longRun i_moved i_crowd i_l0 i_fitMany i_fitLeast i_fitMost m_fitPost m_fitEnd m_keptPosts i_x0], [zAr T 0 m_all 3952 f_all], [zAr T 0 m_posts 7 g_posts_30], [zAr T 0 m_shut 7 g_shut_4], [zAr T 0 m_here 7 g_here_5], [zAr T 0 m_was 7 f_was]]) [4, 5, 2, 3, 1, 0] rfl
                exact z_back hQz_ (z_iret C hr hlocks G (Nat.le_of_ble_eq_true rfl) (Nat.le_of_ble_eq_true rfl) dX12_gameBy_54 ⟨j_steps_1, j_done_2, i_at, i_gone, g_posts_30, g_shut_4, g_here_5, f_was, rfl, (by unfold gRw; rw [if_neg (by rw [hx2]; exact Bool.false_ne_true)]; rfl)⟩)
            · have h_47 : ((nI (rw_ % 8)).toInt < 0 ∨ i_crossings.toInt ≤ (nI (rw_ % 8)).toInt) := h_47
              have hno9 : ¬ 0 < ((zWo f_all i_z0 i_inns) (rw_ % 8)).toInt := fun q9 => by have q8 := zVZ_lt hZ (show rw_ % 8 < 7 by omega) q9; omega
              have hx2 : (gPx (zWo f_all i_z0 i_inns) (aRs (zWo f_all i_z0 i_inns) (zPo f_all i_z0) 7) 2 rw_).1 = false := gPx_x (c := rw_ % 8) rfl (by omega) hno9
              refine lv_if_eq (tgt := 53) hx hb dX12_gameBy_41 (by decide) (fun _ => ?_) (fun q => absurd (by decide) q)
              refine lv_iconst (v := (-1)) hx hb dX12_gameBy_53 (by decide) ?_
              have G := G.sub (bs' := [[zO11 mo m_all m_has i_size i_next i_where i_token i_number i_word i_wrong i_farCrossing m_read i_z0 i_crossings i_inns m_posts m_shut m_here j_steps_1 j_done_2 i_at i_gone m_was m_came m_seenAt m_rowWorth m_farBy m_used i_everywhere i_again0 i_d0 i_never i_firstCame i_longRun i_moved i_crowd i_l0 i_fitMany i_fitLeast i_fitMost m_fitPost m_fitEnd m_keptPosts i_x0], [zAr T 0 m_all 3952 f_all], [zAr T 0 m_posts 7 g_posts_30], [zAr T 0 m_shut 7 g_shut_4], [zAr T 0 m_here 7 g_here_5], [zAr T 0 m_was 7 f_was]]) [5, 2, 3, 4, 1, 0] rfl
              exact z_back hQz_ (z_iret C hr hlocks G (Nat.le_of_ble_eq_true rfl) (Nat.le_of_ble_eq_true rfl) dX12_gameBy_54 ⟨j_steps_1, j_done_2, i_at, i_gone, g_posts_30, g_shut_4, g_here_5, f_was, rfl, (by unfold gRw; rw [if_neg (by rw [hx2]; exact Bool.false_ne_true)]; rfl)⟩)
          · have c_41n : rw_ % 8 = 7 := (nI_eq (a := rw_ % 8) (b := 7) (by omega) (by omega)).mp c_41
            have hp2 : gPx (zWo f_all i_z0 i_inns) (aRs (zWo f_all i_z0 i_inns) (zPo f_all i_z0) 7) 2 rw_ = (true, (aTn (zWo f_all i_z0 i_inns) (aRs (zWo f_all i_z0 i_inns) (zPo f_all i_z0) 7) ((rw_ / 8) % 8))) := gPx_7 hp1 (by omega) (by omega)
            have hd2 := hd1
            refine lv_goto (tgt := 62) hx hb dX12_gameBy_32 (by decide) ?_
            refine lv_iinc (v := (-1)) (lv' := [(4, .int (-1)), (5, .int (nI (rw_ % 8))), (0, .ref mo), (1, .int (nI rw_)), (2, .int 2), (3, .int c_)]) hx hb dX12_gameBy_62 hl (k := 1) rfl (by decide) (by decide) (zLvf_h rfl) (fun ls hl => ?_)
            refine lv_goto (tgt := 9) hx hb dX12_gameBy_65 (by decide) ?_
            refine lv_iload hx hb dX12_gameBy_9 (lv_at hl 0 rfl) ?_
            refine lv_if_lt (tgt := 68) hx hb dX12_gameBy_11 (by decide) (fun _ => ?_) (fun q => absurd (by decide) q)
            refine lv_aload_n hx hb dX12_gameBy_68 rfl (lv_at hl 2 rfl) ?_
            refine lv_iload_n hx hb dX12_gameBy_69 rfl (lv_at hl 5 rfl) ?_
            refine z_Vi (bc := [[zO11 mo m_all m_has i_size i_next i_where i_token i_number i_word i_wrong i_farCrossing m_read i_z0 i_crossings i_inns m_posts m_shut m_here j_steps_1 j_done_2 i_at i_gone m_was m_came m_seenAt m_rowWorth m_farBy m_used i_everywhere i_again0 i_d0 i_never i_firstCame i_longRun i_moved i_crowd i_l0 i_fitMany i_fitLeast i_fitMost m_fitPost m_fitEnd m_keptPosts i_x0], [zAr T 0 m_all 3952 f_all], [zAr T 0 m_posts 7 g_posts_30], [zAr T 0 m_shut 7 g_shut_4], [zAr T 0 m_was 7 f_was]]) (br := [[zAr T 0 m_here 7 g_here_5]]) (As := [.int c_]) (rest := []) C G (c_fm_walks l T mo m_all m_has i_size i_next i_where i_token i_number i_word i_wrong i_farCrossing m_read i_z0 i_crossings i_inns m_posts m_shut m_here j_steps_1 j_done_2 i_at i_gone m_was m_came m_seenAt m_rowWorth m_farBy m_used i_everywhere i_again0 i_d0 i_never i_firstCame i_longRun i_moved i_crowd i_l0 i_fitMany i_fitLeast i_fitMost m_fitPost m_fitEnd m_keptPosts i_x0 f_all g_posts_30 g_shut_4 f_was c_ (by first | with_reducible assumption | with_reducible rfl | omega | assumption | rfl | decide) (by first | with_reducible assumption | with_reducible rfl | omega | assumption | rfl | decide) (by first | with_reducible assumption | with_reducible rfl | omega | assumption | rfl | decide) hV9 hQ9) (kV_RX12_217 C.2.2.2.2 (Nat.le_of_ble_eq_true rfl) (Nat.le_of_ble_eq_true rfl)) [2, 3, 4, 5, 0] [0, 1, 0, 0, 0] rfl rfl (ci := 11) (qc := (RX12, TX12, 43)) rfl rfl (List.mem_flatten.mpr ⟨_, List.mem_of_getElem? (i := 0) rfl, List.mem_cons_self⟩) rfl rfl hl.1 dX12_gameBy_70 (Nat.le_of_ble_eq_true rfl) (Nat.le_of_ble_eq_true rfl) (fun r_94 b1 H locs hw G => ?_)
            refine zEx4 hw ?_
            intro j_at_80 j_gone_81 g_posts_82 g_was_83
            refine zCu11 ?_
            intro hbs9 h_84 h_85 h_86 h_87 h_88 h_89 h_90 h_91 h_92 h_93
            clear hw
            subst hbs9
            have G : zS T A s.heap s [[zAr T 0 m_here 7 g_here_5], [zO11 mo m_all m_has i_size i_next i_where i_token i_number i_word i_wrong i_farCrossing m_read i_z0 i_crossings i_inns m_posts m_shut m_here j_steps_1 j_done_2 j_at_80 j_gone_81 m_was m_came m_seenAt m_rowWorth m_farBy m_used i_everywhere i_again0 i_d0 i_never i_firstCame i_longRun i_moved i_crowd i_l0 i_fitMany i_fitLeast i_fitMost m_fitPost m_fitEnd m_keptPosts i_x0], [zAr T 0 m_all 3952 f_all], [zAr T 0 m_posts 7 g_posts_82], [zAr T 0 m_shut 7 g_shut_4], [zAr T 0 m_was 7 g_was_83]] _ _ := G
            replace h_89 : zHd ((r_94 = 1 ∧ zBit i_inns j_at_80 = 1 ∨ r_94 = 0 ∧ ¬ zBit i_inns j_at_80 = 1)) := h_89
            have hRw := rWalkF (n := i_inns) (c := c_) (w := (aTn (zWo f_all i_z0 i_inns) (aRs (zWo f_all i_z0 i_inns) (zPo f_all i_z0) 7) ((rw_ / 8) % 8))) hL hQ9 hS9 hd2 hc0 hc6
            have hat9 : j_at_80 = rWh (zWo f_all i_z0 i_inns) (zLo f_all i_z0) (aTn (zWo f_all i_z0 i_inns) (aRs (zWo f_all i_z0 i_inns) (zPo f_all i_z0) 7) ((rw_ / 8) % 8)) c_ := h_91.trans hRw.1
            have hgo9 : j_gone_81 = nI (rStp (zWo f_all i_z0 i_inns) (zLo f_all i_z0) (aTn (zWo f_all i_z0 i_inns) (aRs (zWo f_all i_z0 i_inns) (zPo f_all i_z0) 7) ((rw_ / 8) % 8)) c_) := by rw [h_92, hRw.2.1]
            have hgl9 : rStp (zWo f_all i_z0 i_inns) (zLo f_all i_z0) (aTn (zWo f_all i_z0 i_inns) (aRs (zWo f_all i_z0 i_inns) (zPo f_all i_z0) 7) ((rw_ / 8) % 8)) c_ ≤ 499 := rStp_le
            refine lv_if_eq (tgt := 83) hx hb dX12_gameBy_73 (by decide) (fun c_95 => ?_) (fun c_95 => ?_)
            · have c_95n : r_94.toInt = (0 : Int) := (fa_eq _ _).mp c_95
              refine lv_sipush (v := 500) hx hb dX12_gameBy_83 (by decide) ?_
              have G := G.sub (bs' := [[zO11 mo m_all m_has i_size i_next i_where i_token i_number i_word i_wrong i_farCrossing m_read i_z0 i_crossings i_inns m_posts m_shut m_here j_steps_1 j_done_2 j_at_80 j_gone_81 m_was m_came m_seenAt m_rowWorth m_farBy m_used i_everywhere i_again0 i_d0 i_never i_firstCame i_longRun i_moved i_crowd i_l0 i_fitMany i_fitLeast i_fitMost m_fitPost m_fitEnd m_keptPosts i_x0], [zAr T 0 m_all 3952 f_all], [zAr T 0 m_posts 7 g_posts_82], [zAr T 0 m_shut 7 g_shut_4], [zAr T 0 m_here 7 g_here_5], [zAr T 0 m_was 7 g_was_83]]) [1, 2, 3, 4, 0, 5] rfl
              exact z_back hQz_ (z_iret C hr hlocks G (Nat.le_of_ble_eq_true rfl) (Nat.le_of_ble_eq_true rfl) dX12_gameBy_86 ⟨j_steps_1, j_done_2, j_at_80, j_gone_81, g_posts_82, g_shut_4, g_here_5, g_was_83, rfl, (by unfold gRw; rw [hp2, if_pos rfl]; show _ = ((gSn (zWo f_all i_z0 i_inns) (zLo f_all i_z0) i_inns (aTn (zWo f_all i_z0 i_inns) (aRs (zWo f_all i_z0 i_inns) (zPo f_all i_z0) 7) ((rw_ / 8) % 8)) c_ : Nat) : Int); unfold gSn; rw [if_neg (by rw [← hat9]; rcases h_89 with e9 | e9 <;> first | exact e9.2 | (exfalso; have q9 := e9.1; first | omega | (have e7 := congrArg Int32.toInt q9; have e6 : (0 : Int32).toInt = 0 := rfl; have e5 : (1 : Int32).toInt = 1 := rfl; omega)))]; rfl)⟩)
            · have c_95n : ¬ r_94.toInt = (0 : Int) := fun q => c_95 ((fa_eq _ _).mpr q)
              refine lv_aload_n hx hb dX12_gameBy_76 rfl (lv_at hl 2 rfl) ?_
              refine z_get C G clX12 1 rfl 20 (by decide) m_fl_RX12_208 rfl dX12_gameBy_77 ?_
              refine lv_goto (tgt := 86) hx hb dX12_gameBy_80 (by decide) ?_
              have G := G.sub (bs' := [[zO11 mo m_all m_has i_size i_next i_where i_token i_number i_word i_wrong i_farCrossing m_read i_z0 i_crossings i_inns m_posts m_shut m_here j_steps_1 j_done_2 j_at_80 j_gone_81 m_was m_came m_seenAt m_rowWorth m_farBy m_used i_everywhere i_again0 i_d0 i_never i_firstCame i_longRun i_moved i_crowd i_l0 i_fitMany i_fitLeast i_fitMost m_fitPost m_fitEnd m_keptPosts i_x0], [zAr T 0 m_all 3952 f_all], [zAr T 0 m_posts 7 g_posts_82], [zAr T 0 m_shut 7 g_shut_4], [zAr T 0 m_here 7 g_here_5], [zAr T 0 m_was 7 g_was_83]]) [1, 2, 3, 4, 0, 5] rfl
              exact z_back hQz_ (z_iret C hr hlocks G (Nat.le_of_ble_eq_true rfl) (Nat.le_of_ble_eq_true rfl) dX12_gameBy_86 ⟨j_steps_1, j_done_2, j_at_80, j_gone_81, g_posts_82, g_shut_4, g_here_5, g_was_83, rfl, (by unfold gRw; rw [hp2, if_pos rfl]; show _ = ((gSn (zWo f_all i_z0 i_inns) (zLo f_all i_z0) i_inns (aTn (zWo f_all i_z0 i_inns) (aRs (zWo f_all i_z0 i_inns) (zPo f_all i_z0) 7) ((rw_ / 8) % 8)) c_ : Nat) : Int); unfold gSn; rw [if_pos (by rw [← hat9]; rcases h_89 with e9 | e9 <;> first | exact e9.2 | (exfalso; have q9 := e9.1; first | omega | (have e7 := congrArg Int32.toInt q9; have e6 : (0 : Int32).toInt = 0 := rfl; have e5 : (1 : Int32).toInt = 1 := rfl; omega))), hgo9, nI_toInt (by omega)])⟩)
        · have h_38 : zTurn g_posts_3 g_shut_4 (zRo f_all i_z0) (nI ((rw_ / 8) % 8)) = -1 := h_38
          have htu9 := gTu (n := i_inns) (w := (aRs (zWo f_all i_z0 i_inns) (zPo f_all i_z0) 7)) hL hQ9 hS9 (by omega) hf9.2 hbi9 hd0
          exact absurd h_38 htu9.1
      · have h_28 : (zInn i_inns (nI ((rw_ / 8) % 8)) ∨ (zRd f_all i_z0 (nI ((rw_ / 8) % 8))).toInt ≤ 0) := h_28
        have hf9 := aWo_0 (f := f_all) (z := i_z0) (n := i_inns) (c := nI ((rw_ / 8) % 8)) (by first | with_reducible assumption | assumption) (by omega) (by omega)
        rw [nD9] at hf9
        have hno9 : ¬ 0 < ((zWo f_all i_z0 i_inns) ((rw_ / 8) % 8)).toInt := by omega
        have hx1 : (gPx (zWo f_all i_z0 i_inns) (aRs (zWo f_all i_z0 i_inns) (zPo f_all i_z0) 7) 1 (rw_ / 8)).1 = false := gPx_x (c := (rw_ / 8) % 8) rfl (by omega) hno9
        have hx2 : (gPx (zWo f_all i_z0 i_inns) (aRs (zWo f_all i_z0 i_inns) (zPo f_all i_z0) 7) 2 rw_).1 = false := gPx_f hx1 (by omega)
        refine lv_if_ne (tgt := 55) hx hb dX12_gameBy_50 (by decide) (fun q => absurd (by decide) q) (fun _ => ?_)
        refine lv_iconst (v := (-1)) hx hb dX12_gameBy_53 (by decide) ?_
        have G := G.sub (bs' := [[zO11 mo m_all m_has i_size i_next i_where i_token i_number i_word i_wrong i_farCrossing m_read i_z0 i_crossings i_inns m_posts m_shut m_here j_steps_1 j_done_2 i_at i_gone m_was m_came m_seenAt m_rowWorth m_farBy m_used i_everywhere i_again0 i_d0 i_never i_firstCame i_longRun i_moved i_crowd i_l0 i_fitMany i_fitLeast i_fitMost m_fitPost m_fitEnd m_keptPosts i_x0], [zAr T 0 m_all 3952 f_all], [zAr T 0 m_posts 7 g_posts_3], [zAr T 0 m_shut 7 g_shut_4], [zAr T 0 m_here 7 g_here_5], [zAr T 0 m_was 7 f_was]]) [4, 5, 1, 2, 3, 0] rfl
        exact z_back hQz_ (z_iret C hr hlocks G (Nat.le_of_ble_eq_true rfl) (Nat.le_of_ble_eq_true rfl) dX12_gameBy_54 ⟨j_steps_1, j_done_2, i_at, i_gone, g_posts_3, g_shut_4, g_here_5, f_was, rfl, (by unfold gRw; rw [if_neg (by rw [hx2]; exact Bool.false_ne_true)]; rfl)⟩)
    · have h_22 : ((nI ((rw_ / 8) % 8)).toInt < 0 ∨ i_crossings.toInt ≤ (nI ((rw_ / 8) % 8)).toInt) := h_22
      have hno9 : ¬ 0 < ((zWo f_all i_z0 i_inns) ((rw_ / 8) % 8)).toInt := fun q9 => by have q8 := zVZ_lt hZ (show (rw_ / 8) % 8 < 7 by omega) q9; omega
      have hx1 : (gPx (zWo f_all i_z0 i_inns) (aRs (zWo f_all i_z0 i_inns) (zPo f_all i_z0) 7) 1 (rw_ / 8)).1 = false := gPx_x (c := (rw_ / 8) % 8) rfl (by omega) hno9
      have hx2 : (gPx (zWo f_all i_z0 i_inns) (aRs (zWo f_all i_z0 i_inns) (zPo f_all i_z0) 7) 2 rw_).1 = false := gPx_f hx1 (by omega)
      refine lv_if_eq (tgt := 53) hx hb dX12_gameBy_41 (by decide) (fun _ => ?_) (fun q => absurd (by decide) q)
      refine lv_iconst (v := (-1)) hx hb dX12_gameBy_53 (by decide) ?_
      have G := G.sub (bs' := [[zO11 mo m_all m_has i_size i_next i_where i_token i_number i_word i_wrong i_farCrossing m_read i_z0 i_crossings i_inns m_posts m_shut m_here j_steps_1 j_done_2 i_at i_gone m_was m_came m_seenAt m_rowWorth m_farBy m_used i_everywhere i_again0 i_d0 i_never i_firstCame i_longRun i_moved i_crowd i_l0 i_fitMany i_fitLeast i_fitMost m_fitPost m_fitEnd m_keptPosts i_x0], [zAr T 0 m_all 3952 f_all], [zAr T 0 m_posts 7 g_posts_3], [zAr T 0 m_shut 7 g_shut_4], [zAr T 0 m_here 7 g_here_5], [zAr T 0 m_was 7 f_was]]) [5, 1, 2, 3, 4, 0] rfl
      exact z_back hQz_ (z_iret C hr hlocks G (Nat.le_of_ble_eq_true rfl) (Nat.le_of_ble_eq_true rfl) dX12_gameBy_54 ⟨j_steps_1, j_done_2, i_at, i_gone, g_posts_3, g_shut_4, g_here_5, f_was, rfl, (by unfold gRw; rw [if_neg (by rw [hx2]; exact Bool.false_ne_true)]; rfl)⟩)
  · have c_16n : (rw_ / 8) % 8 = 7 := (nI_eq (a := (rw_ / 8) % 8) (b := 7) (by omega) (by omega)).mp c_16
    have hp1 : gPx (zWo f_all i_z0 i_inns) (aRs (zWo f_all i_z0 i_inns) (zPo f_all i_z0) 7) 1 (rw_ / 8) = (true, (aRs (zWo f_all i_z0 i_inns) (zPo f_all i_z0) 7)) := gPx_7 hp0 (by omega) (by omega)
    have hd1 := hd0
    refine lv_goto (tgt := 62) hx hb dX12_gameBy_32 (by decide) ?_
    refine lv_iinc (v := 0) (lv' := [(4, .int 0), (5, .int (nI ((rw_ / 8) % 8))), (0, .ref mo), (1, .int (nI rw_)), (2, .int 2), (3, .int c_)]) hx hb dX12_gameBy_62 hl (k := 1) rfl (by decide) (by decide) (zLvf_h rfl) (fun ls hl => ?_)
    refine lv_goto (tgt := 9) hx hb dX12_gameBy_65 (by decide) ?_
    refine lv_iload hx hb dX12_gameBy_9 (lv_at hl 0 rfl) ?_
    refine lv_if_lt (tgt := 68) hx hb dX12_gameBy_11 (by decide) (fun q => absurd q (by decide)) (fun _ => ?_)
    refine lv_iload_n hx hb dX12_gameBy_14 rfl (lv_at hl 3 rfl) ?_
    refine lv_iconst (v := 3) hx hb dX12_gameBy_15 (by decide) ?_
    refine lv_iload hx hb dX12_gameBy_16 (lv_at hl 0 rfl) ?_
    refine lv_imul hx hb dX12_gameBy_18 ?_
    refine lv_topi (fun y_96 ey_96 => ?_)
    obtain rfl : y_96 = 0 := ey_96.trans (by decide)
    refine lv_ishr hx hb dX12_gameBy_19 ?_
    refine lv_bipush (v := 7) hx hb dX12_gameBy_20 (by decide) ?_
    refine lv_iand hx hb dX12_gameBy_22 ?_
    refine lv_topi (fun y_97 ey_97 => ?_)
    obtain rfl : y_97 = nI (rw_ % 8) := ey_97.trans ((by first | rfl | (rw [pk_shrN (by omega) (0 &&& 31) 0 (by decide), aAn (by omega)] <;> exact congrArg nI (by first | omega | (rw [Nat.pow_zero, Nat.div_one]))) | (rw [pk_shrN (by omega) 0 0 (by decide), aAn (by omega)]) | (rw [pk_shrN (by omega) _ 0 (by decide), aAn (by omega)]; exact congrArg nI (by omega))))
    have tD9 := nI_toInt (n := rw_ % 8) (by omega)
    have nD9 := nI_n (n := rw_ % 8) (by omega)
    refine lv_istore (lv' := [(5, .int (nI (rw_ % 8))), (4, .int 0), (0, .ref mo), (1, .int (nI rw_)), (2, .int 2), (3, .int c_)]) hx hb dX12_gameBy_23 hl (by decide) (zLvf_h rfl) (fun ls hl => ?_)
    refine lv_iload hx hb dX12_gameBy_25 (lv_at hl 0 rfl) ?_
    refine lv_bipush (v := 7) hx hb dX12_gameBy_27 (by decide) ?_
    refine lv_icmp_ne (tgt := 35) hx hb dX12_gameBy_29 (by decide) (fun c_98 => ?_) (fun c_98 => ?_)
    · have c_98n : ¬ rw_ % 8 = 7 := fun q => c_98 ((nI_eq (a := rw_ % 8) (b := 7) (by omega) (by omega)).mpr q)
      refine lv_aload_n hx hb dX12_gameBy_35 rfl (lv_at hl 2 rfl) ?_
      refine lv_iload hx hb dX12_gameBy_36 (lv_at hl 0 rfl) ?_
      have ti_99 : (nI (rw_ % 8)).toInt = ((rw_ % 8 : Nat) : Int) := nI_toInt (by omega)
      refine z_Vi (bc := [[zO11 mo m_all m_has i_size i_next i_where i_token i_number i_word i_wrong i_farCrossing m_read i_z0 i_crossings i_inns m_posts m_shut m_here j_steps_1 j_done_2 i_at i_gone m_was m_came m_seenAt m_rowWorth m_farBy m_used i_everywhere i_again0 i_d0 i_never i_firstCame i_longRun i_moved i_crowd i_l0 i_fitMany i_fitLeast i_fitMost m_fitPost m_fitEnd m_keptPosts i_x0]]) (br := [[zAr T 0 m_was 7 f_was], [zAr T 0 m_all 3952 f_all], [zAr T 0 m_posts 7 g_posts_3], [zAr T 0 m_shut 7 g_shut_4], [zAr T 0 m_here 7 g_here_5]]) (As := [.int (nI (rw_ % 8))]) (rest := []) C G (c_m_isCrossing l T mo m_all m_has i_size i_next i_where i_token i_number i_word i_wrong i_farCrossing m_read i_z0 i_crossings i_inns m_posts m_shut m_here j_steps_1 j_done_2 i_at i_gone m_was m_came m_seenAt m_rowWorth m_farBy m_used i_everywhere i_again0 i_d0 i_never i_firstCame i_longRun i_moved i_crowd i_l0 i_fitMany i_fitLeast i_fitMost m_fitPost m_fitEnd m_keptPosts i_x0 (nI (rw_ % 8)) (by first | with_reducible assumption | with_reducible rfl | omega | assumption | rfl | decide)) (kV_RX12_187 C.2.2.2.2 (Nat.le_of_ble_eq_true rfl) (Nat.le_of_ble_eq_true rfl)) [1] [1] rfl rfl (ci := 11) (qc := (RX12, TX12, 43)) rfl rfl (List.mem_flatten.mpr ⟨_, List.mem_of_getElem? (i := 0) rfl, List.mem_cons_self⟩) rfl rfl hl.1 dX12_gameBy_38 (Nat.le_of_ble_eq_true rfl) (Nat.le_of_ble_eq_true rfl) (fun r_101 b1 H locs hw G => ?_)
      refine zAn2 hw ?_
      intro hbs9 hc_100
      clear hw
      subst hbs9
      have G : zS T A s.heap s [[zAr T 0 m_was 7 f_was], [zAr T 0 m_all 3952 f_all], [zAr T 0 m_posts 7 g_posts_3], [zAr T 0 m_shut 7 g_shut_4], [zAr T 0 m_here 7 g_here_5], [zO11 mo m_all m_has i_size i_next i_where i_token i_number i_word i_wrong i_farCrossing m_read i_z0 i_crossings i_inns m_posts m_shut m_here j_steps_1 j_done_2 i_at i_gone m_was m_came m_seenAt m_rowWorth m_farBy m_used i_everywhere i_again0 i_d0 i_never i_firstCame i_longRun i_moved i_crowd i_l0 i_fitMany i_fitLeast i_fitMost m_fitPost m_fitEnd m_keptPosts i_x0]] _ _ := G
      rcases hc_100 with ⟨rfl, h_102, h_103⟩ | ⟨rfl, h_104⟩
      · have h_102 : 0 ≤ (nI (rw_ % 8)).toInt := h_102
        have h_103 : (nI (rw_ % 8)).toInt < i_crossings.toInt := h_103
        refine lv_if_eq (tgt := 53) hx hb dX12_gameBy_41 (by decide) (fun q => absurd q (by decide)) (fun _ => ?_)
        refine lv_aload_n hx hb dX12_gameBy_44 rfl (lv_at hl 2 rfl) ?_
        refine lv_iload hx hb dX12_gameBy_45 (lv_at hl 0 rfl) ?_
        have ti_105 : (nI (rw_ % 8)).toInt = ((rw_ % 8 : Nat) : Int) := nI_toInt (by omega)
        refine z_Vi (bc := [[zO11 mo m_all m_has i_size i_next i_where i_token i_number i_word i_wrong i_farCrossing m_read i_z0 i_crossings i_inns m_posts m_shut m_here j_steps_1 j_done_2 i_at i_gone m_was m_came m_seenAt m_rowWorth m_farBy m_used i_everywhere i_again0 i_d0 i_never i_firstCame i_longRun i_moved i_crowd i_l0 i_fitMany i_fitLeast i_fitMost m_fitPost m_fitEnd m_keptPosts i_x0], [zAr T 0 m_all 3952 f_all]]) (br := [[zAr T 0 m_was 7 f_was], [zAr T 0 m_posts 7 g_posts_3], [zAr T 0 m_shut 7 g_shut_4], [zAr T 0 m_here 7 g_here_5]]) (As := [.int (nI (rw_ % 8))]) (rest := []) C G (c_m_isFree l T mo m_all m_has i_size i_next i_where i_token i_number i_word i_wrong i_farCrossing m_read i_z0 i_crossings i_inns m_posts m_shut m_here j_steps_1 j_done_2 i_at i_gone m_was m_came m_seenAt m_rowWorth m_farBy m_used i_everywhere i_again0 i_d0 i_never i_firstCame i_longRun i_moved i_crowd i_l0 i_fitMany i_fitLeast i_fitMost m_fitPost m_fitEnd m_keptPosts i_x0 f_all (nI (rw_ % 8)) (by first | with_reducible assumption | with_reducible rfl | omega | assumption | rfl | decide) (by first | with_reducible assumption | with_reducible rfl | omega | assumption | rfl | decide) (by first | with_reducible assumption | with_reducible rfl | omega | assumption | rfl | decide)) (kV_RX12_223 C.2.2.2.2 (Nat.le_of_ble_eq_true rfl) (Nat.le_of_ble_eq_true rfl)) [5, 1] [1, 3] rfl rfl (ci := 11) (qc := (RX12, TX12, 43)) rfl rfl (List.mem_flatten.mpr ⟨_, List.mem_of_getElem? (i := 0) rfl, List.mem_cons_self⟩) rfl rfl hl.1 dX12_gameBy_47 (Nat.le_of_ble_eq_true rfl) (Nat.le_of_ble_eq_true rfl) (fun r_107 b1 H locs hw G => ?_)
        refine zAn2 hw ?_
        intro hbs9 hc_106
        clear hw
        subst hbs9
        have G : zS T A s.heap s [[zAr T 0 m_was 7 f_was], [zAr T 0 m_posts 7 g_posts_3], [zAr T 0 m_shut 7 g_shut_4], [zAr T 0 m_here 7 g_here_5], [zO11 mo m_all m_has i_size i_next i_where i_token i_number i_word i_wrong i_farCrossing m_read i_z0 i_crossings i_inns m_posts m_shut m_here j_steps_1 j_done_2 i_at i_gone m_was m_came m_seenAt m_rowWorth m_farBy m_used i_everywhere i_again0 i_d0 i_never i_firstCame i_longRun i_moved i_crowd i_l0 i_fitMany i_fitLeast i_fitMost m_fitPost m_fitEnd m_keptPosts i_x0], [zAr T 0 m_all 3952 f_all]] _ _ := G
        rcases hc_106 with ⟨rfl, h_108, h_109⟩ | ⟨rfl, h_110⟩
        · have h_108 : ¬ zInn i_inns (nI (rw_ % 8)) := h_108
          have h_109 : 0 < (zRd f_all i_z0 (nI (rw_ % 8))).toInt := h_109
          have hf9 := aWo_1 (f := f_all) (z := i_z0) (n := i_inns) (c := nI (rw_ % 8)) (by first | with_reducible assumption | assumption) (by first | with_reducible assumption | assumption) (by omega) (by omega)
          rw [nD9] at hf9
          have hbi9 : ¬ zBit i_inns (nI (rw_ % 8)) = 1 := h_108
          refine lv_if_ne (tgt := 55) hx hb dX12_gameBy_50 (by decide) (fun _ => ?_) (fun q => absurd q (by decide))
          refine lv_aload_n hx hb dX12_gameBy_55 rfl (lv_at hl 2 rfl) ?_
          refine lv_iload hx hb dX12_gameBy_56 (lv_at hl 0 rfl) ?_
          have ti_111 : (nI (rw_ % 8)).toInt = ((rw_ % 8 : Nat) : Int) := nI_toInt (by omega)
          refine z_Vi (bc := [[zO11 mo m_all m_has i_size i_next i_where i_token i_number i_word i_wrong i_farCrossing m_read i_z0 i_crossings i_inns m_posts m_shut m_here j_steps_1 j_done_2 i_at i_gone m_was m_came m_seenAt m_rowWorth m_farBy m_used i_everywhere i_again0 i_d0 i_never i_firstCame i_longRun i_moved i_crowd i_l0 i_fitMany i_fitLeast i_fitMost m_fitPost m_fitEnd m_keptPosts i_x0], [zAr T 0 m_all 3952 f_all], [zAr T 0 m_posts 7 g_posts_3], [zAr T 0 m_shut 7 g_shut_4]]) (br := [[zAr T 0 m_was 7 f_was], [zAr T 0 m_here 7 g_here_5]]) (As := [.int (nI (rw_ % 8))]) (rest := []) C G (c_fm_turns l T mo m_all m_has i_size i_next i_where i_token i_number i_word i_wrong i_farCrossing m_read i_z0 i_crossings i_inns m_posts m_shut m_here j_steps_1 j_done_2 i_at i_gone m_was m_came m_seenAt m_rowWorth m_farBy m_used i_everywhere i_again0 i_d0 i_never i_firstCame i_longRun i_moved i_crowd i_l0 i_fitMany i_fitLeast i_fitMost m_fitPost m_fitEnd m_keptPosts i_x0 f_all g_posts_3 g_shut_4 (nI (rw_ % 8)) (by first | with_reducible assumption | with_reducible rfl | omega | assumption | rfl | decide) (by first | with_reducible assumption | with_reducible rfl | omega | assumption | rfl | decide) (by first | with_reducible assumption | with_reducible rfl | omega | assumption | rfl | decide) hV9 hQ9) (kV_RX12_205 C.2.2.2.2 (Nat.le_of_ble_eq_true rfl) (Nat.le_of_ble_eq_true rfl)) [4, 5, 1, 2] [1, 0, 1, 0] rfl rfl (ci := 11) (qc := (RX12, TX12, 43)) rfl rfl (List.mem_flatten.mpr ⟨_, List.mem_of_getElem? (i := 0) rfl, List.mem_cons_self⟩) rfl rfl hl.1 dX12_gameBy_58 (Nat.le_of_ble_eq_true rfl) (Nat.le_of_ble_eq_true rfl) (fun r_117 b1 H locs hw G => ?_)
          refine zEx1 hw ?_
          intro g_posts_112
          refine zCu5 ?_
          intro hbs9 h_113 h_114 h_115 hc_116
          clear hw
          subst hbs9
          have G : zS T A s.heap s [[zAr T 0 m_was 7 f_was], [zAr T 0 m_here 7 g_here_5], [zO11 mo m_all m_has i_size i_next i_where i_token i_number i_word i_wrong i_farCrossing m_read i_z0 i_crossings i_inns m_posts m_shut m_here j_steps_1 j_done_2 i_at i_gone m_was m_came m_seenAt m_rowWorth m_farBy m_used i_everywhere i_again0 i_d0 i_never i_firstCame i_longRun i_moved i_crowd i_l0 i_fitMany i_fitLeast i_fitMost m_fitPost m_fitEnd m_keptPosts i_x0], [zAr T 0 m_all 3952 f_all], [zAr T 0 m_posts 7 g_posts_112], [zAr T 0 m_shut 7 g_shut_4]] _ _ := G
          rcases hc_116 with ⟨rfl, h_118, h_119⟩ | ⟨rfl, h_120⟩
          · have h_118 : ¬ zTurn g_posts_3 g_shut_4 (zRo f_all i_z0) (nI (rw_ % 8)) = -1 := h_118
            have h_119 : 0 < (zRd f_all i_z0 (nI (rw_ % 8))).toInt := h_119
            have htu9 := gTu (n := i_inns) (w := (aRs (zWo f_all i_z0 i_inns) (zPo f_all i_z0) 7)) hL hQ9 hS9 (by omega) hf9.2 hbi9 hd1
            have hd2 : ∀ j, j < 7 → 0 < ((zWo f_all i_z0 i_inns) j).toInt → g_posts_112 j = aPo (zWo f_all i_z0 i_inns) (aTn (zWo f_all i_z0 i_inns) (aRs (zWo f_all i_z0 i_inns) (zPo f_all i_z0) 7) (rw_ % 8)) j := by rw [h_115]; exact htu9.2
            have hp2 : gPx (zWo f_all i_z0 i_inns) (aRs (zWo f_all i_z0 i_inns) (zPo f_all i_z0) 7) 2 rw_ = (true, (aTn (zWo f_all i_z0 i_inns) (aRs (zWo f_all i_z0 i_inns) (zPo f_all i_z0) 7) (rw_ % 8))) := gPx_t hp1 (by omega) rfl (by omega) hf9.2
            have hQ9 := h_113
            have hV9 := h_114
            refine lv_pop hx hb dX12_gameBy_61 rfl ?_
            refine lv_iinc (v := (-1)) (lv' := [(4, .int (-1)), (5, .int (nI (rw_ % 8))), (0, .ref mo), (1, .int (nI rw_)), (2, .int 2), (3, .int c_)]) hx hb dX12_gameBy_62 hl (k := 1) rfl (by decide) (by decide) (zLvf_h rfl) (fun ls hl => ?_)
            refine lv_goto (tgt := 9) hx hb dX12_gameBy_65 (by decide) ?_
            refine lv_iload hx hb dX12_gameBy_9 (lv_at hl 0 rfl) ?_
            refine lv_if_lt (tgt := 68) hx hb dX12_gameBy_11 (by decide) (fun _ => ?_) (fun q => absurd (by decide) q)
            refine lv_aload_n hx hb dX12_gameBy_68 rfl (lv_at hl 2 rfl) ?_
            refine lv_iload_n hx hb dX12_gameBy_69 rfl (lv_at hl 5 rfl) ?_
            refine z_Vi (bc := [[zO11 mo m_all m_has i_size i_next i_where i_token i_number i_word i_wrong i_farCrossing m_read i_z0 i_crossings i_inns m_posts m_shut m_here j_steps_1 j_done_2 i_at i_gone m_was m_came m_seenAt m_rowWorth m_farBy m_used i_everywhere i_again0 i_d0 i_never i_firstCame i_longRun i_moved i_crowd i_l0 i_fitMany i_fitLeast i_fitMost m_fitPost m_fitEnd m_keptPosts i_x0], [zAr T 0 m_all 3952 f_all], [zAr T 0 m_posts 7 g_posts_112], [zAr T 0 m_shut 7 g_shut_4], [zAr T 0 m_was 7 f_was]]) (br := [[zAr T 0 m_here 7 g_here_5]]) (As := [.int c_]) (rest := []) C G (c_fm_walks l T mo m_all m_has i_size i_next i_where i_token i_number i_word i_wrong i_farCrossing m_read i_z0 i_crossings i_inns m_posts m_shut m_here j_steps_1 j_done_2 i_at i_gone m_was m_came m_seenAt m_rowWorth m_farBy m_used i_everywhere i_again0 i_d0 i_never i_firstCame i_longRun i_moved i_crowd i_l0 i_fitMany i_fitLeast i_fitMost m_fitPost m_fitEnd m_keptPosts i_x0 f_all g_posts_112 g_shut_4 f_was c_ (by first | with_reducible assumption | with_reducible rfl | omega | assumption | rfl | decide) (by first | with_reducible assumption | with_reducible rfl | omega | assumption | rfl | decide) (by first | with_reducible assumption | with_reducible rfl | omega | assumption | rfl | decide) hV9 hQ9) (kV_RX12_217 C.2.2.2.2 (Nat.le_of_ble_eq_true rfl) (Nat.le_of_ble_eq_true rfl)) [2, 3, 4, 5, 0] [0, 1, 0, 0, 0] rfl rfl (ci := 11) (qc := (RX12, TX12, 43)) rfl rfl (List.mem_flatten.mpr ⟨_, List.mem_of_getElem? (i := 0) rfl, List.mem_cons_self⟩) rfl rfl hl.1 dX12_gameBy_70 (Nat.le_of_ble_eq_true rfl) (Nat.le_of_ble_eq_true rfl) (fun r_135 b1 H locs hw G => ?_)
            refine zEx4 hw ?_
            intro j_at_121 j_gone_122 g_posts_123 g_was_124
            refine zCu11 ?_
            intro hbs9 h_125 h_126 h_127 h_128 h_129 h_130 h_131 h_132 h_133 h_134
            clear hw
            subst hbs9
            have G : zS T A s.heap s [[zAr T 0 m_here 7 g_here_5], [zO11 mo m_all m_has i_size i_next i_where i_token i_number i_word i_wrong i_farCrossing m_read i_z0 i_crossings i_inns m_posts m_shut m_here j_steps_1 j_done_2 j_at_121 j_gone_122 m_was m_came m_seenAt m_rowWorth m_farBy m_used i_everywhere i_again0 i_d0 i_never i_firstCame i_longRun i_moved i_crowd i_l0 i_fitMany i_fitLeast i_fitMost m_fitPost m_fitEnd m_keptPosts i_x0], [zAr T 0 m_all 3952 f_all], [zAr T 0 m_posts 7 g_posts_123], [zAr T 0 m_shut 7 g_shut_4], [zAr T 0 m_was 7 g_was_124]] _ _ := G
            replace h_130 : zHd ((r_135 = 1 ∧ zBit i_inns j_at_121 = 1 ∨ r_135 = 0 ∧ ¬ zBit i_inns j_at_121 = 1)) := h_130
            have hRw := rWalkF (n := i_inns) (c := c_) (w := (aTn (zWo f_all i_z0 i_inns) (aRs (zWo f_all i_z0 i_inns) (zPo f_all i_z0) 7) (rw_ % 8))) hL hQ9 hS9 hd2 hc0 hc6
            have hat9 : j_at_121 = rWh (zWo f_all i_z0 i_inns) (zLo f_all i_z0) (aTn (zWo f_all i_z0 i_inns) (aRs (zWo f_all i_z0 i_inns) (zPo f_all i_z0) 7) (rw_ % 8)) c_ := h_132.trans hRw.1
            have hgo9 : j_gone_122 = nI (rStp (zWo f_all i_z0 i_inns) (zLo f_all i_z0) (aTn (zWo f_all i_z0 i_inns) (aRs (zWo f_all i_z0 i_inns) (zPo f_all i_z0) 7) (rw_ % 8)) c_) := by rw [h_133, hRw.2.1]
            have hgl9 : rStp (zWo f_all i_z0 i_inns) (zLo f_all i_z0) (aTn (zWo f_all i_z0 i_inns) (aRs (zWo f_all i_z0 i_inns) (zPo f_all i_z0) 7) (rw_ % 8)) c_ ≤ 499 := rStp_le
            refine lv_if_eq (tgt := 83) hx hb dX12_gameBy_73 (by decide) (fun c_136 => ?_) (fun c_136 => ?_)
            · have c_136n : r_135.toInt = (0 : Int) := (fa_eq _ _).mp c_136
              refine lv_sipush (v := 500) hx hb dX12_gameBy_83 (by decide) ?_
              have G := G.sub (bs' := [[zO11 mo m_all m_has i_size i_next i_where i_token i_number i_word i_wrong i_farCrossing m_read i_z0 i_crossings i_inns m_posts m_shut m_here j_steps_1 j_done_2 j_at_121 j_gone_122 m_was m_came m_seenAt m_rowWorth m_farBy m_used i_everywhere i_again0 i_d0 i_never i_firstCame i_longRun i_moved i_crowd i_l0 i_fitMany i_fitLeast i_fitMost m_fitPost m_fitEnd m_keptPosts i_x0], [zAr T 0 m_all 3952 f_all], [zAr T 0 m_posts 7 g_posts_123], [zAr T 0 m_shut 7 g_shut_4], [zAr T 0 m_here 7 g_here_5], [zAr T 0 m_was 7 g_was_124]]) [1, 2, 3, 4, 0, 5] rfl
              exact z_back hQz_ (z_iret C hr hlocks G (Nat.le_of_ble_eq_true rfl) (Nat.le_of_ble_eq_true rfl) dX12_gameBy_86 ⟨j_steps_1, j_done_2, j_at_121, j_gone_122, g_posts_123, g_shut_4, g_here_5, g_was_124, rfl, (by unfold gRw; rw [hp2, if_pos rfl]; show _ = ((gSn (zWo f_all i_z0 i_inns) (zLo f_all i_z0) i_inns (aTn (zWo f_all i_z0 i_inns) (aRs (zWo f_all i_z0 i_inns) (zPo f_all i_z0) 7) (rw_ % 8)) c_ : Nat) : Int); unfold gSn; rw [if_neg (by rw [← hat9]; rcases h_130 with e9 | e9 <;> first | exact e9.2 | (exfalso; have q9 := e9.1; first | omega | (have e7 := congrArg Int32.toInt q9; have e6 : (0 : Int32).toInt = 0 := rfl; have e5 : (1 : Int32).toInt = 1 := rfl; omega)))]; rfl)⟩)
            · have c_136n : ¬ r_135.toInt = (0 : Int) := fun q => c_136 ((fa_eq _ _).mpr q)
              refine lv_aload_n hx hb dX12_gameBy_76 rfl (lv_at hl 2 rfl) ?_
              refine z_get C G clX12 1 rfl 20 (by decide) m_fl_RX12_208 rfl dX12_gameBy_77 ?_
              refine lv_goto (tgt := 86) hx hb dX12_gameBy_80 (by decide) ?_
              have G := G.sub (bs' := [[zO11 mo m_all m_has i_size i_next i_where i_token i_number i_word i_wrong i_farCrossing m_read i_z0 i_crossings i_inns m_posts m_shut m_here j_steps_1 j_done_2 j_at_121 j_gone_122 m_was m_came m_seenAt m_rowWorth m_farBy m_used i_everywhere i_again0 i_d0 i_never i_firstCame i_longRun i_moved i_crowd i_l0 i_fitMany i_fitLeast i_fitMost m_fitPost m_fitEnd m_keptPosts i_x0], [zAr T 0 m_all 3952 f_all], [zAr T 0 m_posts 7 g_posts_123], [zAr T 0 m_shut 7 g_shut_4], [zAr T 0 m_here 7 g_here_5], [zAr T 0 m_was 7 g_was_124]]) [1, 2, 3, 4, 0, 5] rfl
              exact z_back hQz_ (z_iret C hr hlocks G (Nat.le_of_ble_eq_true rfl) (Nat.le_of_ble_eq_true rfl) dX12_gameBy_86 ⟨j_steps_1, j_done_2, j_at_121, j_gone_122, g_posts_123, g_shut_4, g_here_5, g_was_124, rfl, (by unfold gRw; rw [hp2, if_pos rfl]; show _ = ((gSn (zWo f_all i_z0 i_inns) (zLo f_all i_z0) i_inns (aTn (zWo f_all i_z0 i_inns) (aRs (zWo f_all i_z0 i_inns) (zPo f_all i_z0) 7) (rw_ % 8)) c_ : Nat) : Int); unfold gSn; rw [if_pos (by rw [← hat9]; rcases h_130 with e9 | e9 <;> first | exact e9.2 | (exfalso; have q9 := e9.1; first | omega | (have e7 := congrArg Int32.toInt q9; have e6 : (0 : Int32).toInt = 0 := rfl; have e5 : (1 : Int32).toInt = 1 := rfl; omega))), hgo9, nI_toInt (by omega)])⟩)
          · have h_120 : zTurn g_posts_3 g_shut_4 (zRo f_all i_z0) (nI (rw_ % 8)) = -1 := h_120
            have htu9 := gTu (n := i_inns) (w := (aRs (zWo f_all i_z0 i_inns) (zPo f_all i_z0) 7)) hL hQ9 hS9 (by omega) hf9.2 hbi9 hd1
            exact absurd h_120 htu9.1
        · have h_110 : (zInn i_inns (nI (rw_ % 8)) ∨ (zRd f_all i_z0 (nI (rw_ % 8))).toInt ≤ 0) := h_110
          have hf9 := aWo_0 (f := f_all) (z := i_z0) (n := i_inns) (c := nI (rw_ % 8)) (by first | with_reducible assumption | assumption) (by omega) (by omega)
          rw [nD9] at hf9
          have hno9 : ¬ 0 < ((zWo f_all i_z0 i_inns) (rw_ % 8)).toInt := by omega
          have hx2 : (gPx (zWo f_all i_z0 i_inns) (aRs (zWo f_all i_z0 i_inns) (zPo f_all i_z0) 7) 2 rw_).1 = false := gPx_x (c := rw_ % 8) rfl (by omega) hno9
          refine lv_if_ne (tgt := 55) hx hb dX12_gameBy_50 (by decide) (fun q => absurd (by decide) q) (fun _ => ?_)
          refine lv_iconst (v := (-1)) hx hb dX12_gameBy_53 (by decide) ?_
          have G := G.sub (bs' := [[zO11 mo m_all m_has i_size i_next i_where i_token i_number i_word i_wrong i_farCrossing m_read i_z0 i_crossings i_inns m_posts m_shut m_here j_steps_1 j_done_2 i_at i_gone m_was m_came m_seenAt m_rowWorth m_farBy m_used i_everywhere i_again0 i_d0 i_never i_firstCame i_longRun i_moved i_crowd i_l0 i_fitMany i_fitLeast i_fitMost m_fitPost m_fitEnd m_keptPosts i_x0], [zAr T 0 m_all 3952 f_all], [zAr T 0 m_posts 7 g_posts_3], [zAr T 0 m_shut 7 g_shut_4], [zAr T 0 m_here 7 g_here_5], [zAr T 0 m_was 7 f_was]]) [4, 5, 1, 2, 3, 0] rfl
          exact z_back hQz_ (z_iret C hr hlocks G (Nat.le_of_ble_eq_true rfl) (Nat.le_of_ble_eq_true rfl) dX12_gameBy_54 ⟨j_steps_1, j_done_2, i_at, i_gone, g_posts_3, g_shut_4, g_here_5, f_was, rfl, (by unfold gRw; rw [if_neg (by rw [hx2]; exact Bool.false_ne_true)]; rfl)⟩)
      · have h_104 : ((nI (rw_ % 8)).toInt < 0 ∨ i_crossings.toInt ≤ (nI (rw_ % 8)).toInt) := h_104
        have hno9 : ¬ 0 < ((zWo f_all i_z0 i_inns) (rw_ % 8)).toInt := fun q9 => by have q8 := zVZ_lt hZ (show rw_ % 8 < 7 by omega) q9; omega
        have hx2 : (gPx (zWo f_all i_z0 i_inns) (aRs (zWo f_all i_z0 i_inns) (zPo f_all i_z0) 7) 2 rw_).1 = false := gPx_x (c := rw_ % 8) rfl (by omega) hno9
        refine lv_if_eq (tgt := 53) hx hb dX12_gameBy_41 (by decide) (fun _ => ?_) (fun q => absurd (by decide) q)
        refine lv_iconst (v := (-1)) hx hb dX12_gameBy_53 (by decide) ?_
        have G := G.sub (bs' := [[zO11 mo m_all m_has i_size i_next i_where i_token i_number i_word i_wrong i_farCrossing m_read i_z0 i_crossings i_inns m_posts m_shut m_here j_steps_1 j_done_2 i_at i_gone m_was m_came m_seenAt m_rowWorth m_farBy m_used i_everywhere i_again0 i_d0 i_never i_firstCame i_longRun i_moved i_crowd i_l0 i_fitMany i_fitLeast i_fitMost m_fitPost m_fitEnd m_keptPosts i_x0], [zAr T 0 m_all 3952 f_all], [zAr T 0 m_posts 7 g_posts_3], [zAr T 0 m_shut 7 g_shut_4], [zAr T 0 m_here 7 g_here_5], [zAr T 0 m_was 7 f_was]]) [5, 1, 2, 3, 4, 0] rfl
        exact z_back hQz_ (z_iret C hr hlocks G (Nat.le_of_ble_eq_true rfl) (Nat.le_of_ble_eq_true rfl) dX12_gameBy_54 ⟨j_steps_1, j_done_2, i_at, i_gone, g_posts_3, g_shut_4, g_here_5, f_was, rfl, (by unfold gRw; rw [if_neg (by rw [hx2]; exact Bool.false_ne_true)]; rfl)⟩)
    · have c_98n : rw_ % 8 = 7 := (nI_eq (a := rw_ % 8) (b := 7) (by omega) (by omega)).mp c_98
      have hp2 : gPx (zWo f_all i_z0 i_inns) (aRs (zWo f_all i_z0 i_inns) (zPo f_all i_z0) 7) 2 rw_ = (true, (aRs (zWo f_all i_z0 i_inns) (zPo f_all i_z0) 7)) := gPx_7 hp1 (by omega) (by omega)
      have hd2 := hd1
      refine lv_goto (tgt := 62) hx hb dX12_gameBy_32 (by decide) ?_
      refine lv_iinc (v := (-1)) (lv' := [(4, .int (-1)), (5, .int (nI (rw_ % 8))), (0, .ref mo), (1, .int (nI rw_)), (2, .int 2), (3, .int c_)]) hx hb dX12_gameBy_62 hl (k := 1) rfl (by decide) (by decide) (zLvf_h rfl) (fun ls hl => ?_)
      refine lv_goto (tgt := 9) hx hb dX12_gameBy_65 (by decide) ?_
      refine lv_iload hx hb dX12_gameBy_9 (lv_at hl 0 rfl) ?_
      refine lv_if_lt (tgt := 68) hx hb dX12_gameBy_11 (by decide) (fun _ => ?_) (fun q => absurd (by decide) q)
      refine lv_aload_n hx hb dX12_gameBy_68 rfl (lv_at hl 2 rfl) ?_
      refine lv_iload_n hx hb dX12_gameBy_69 rfl (lv_at hl 5 rfl) ?_
      refine z_Vi (bc := [[zO11 mo m_all m_has i_size i_next i_where i_token i_number i_word i_wrong i_farCrossing m_read i_z0 i_crossings i_inns m_posts m_shut m_here j_steps_1 j_done_2 i_at i_gone m_was m_came m_seenAt m_rowWorth m_farBy m_used i_everywhere i_again0 i_d0 i_never i_firstCame i_longRun i_moved i_crowd i_l0 i_fitMany i_fitLeast i_fitMost m_fitPost m_fitEnd m_keptPosts i_x0], [zAr T 0 m_all 3952 f_all], [zAr T 0 m_posts 7 g_posts_3], [zAr T 0 m_shut 7 g_shut_4], [zAr T 0 m_was 7 f_was]]) (br := [[zAr T 0 m_here 7 g_here_5]]) (As := [.int c_]) (rest := []) C G (c_fm_walks l T mo m_all m_has i_size i_next i_where i_token i_number i_word i_wrong i_farCrossing m_read i_z0 i_crossings i_inns m_posts m_shut m_here j_steps_1 j_done_2 i_at i_gone m_was m_came m_seenAt m_rowWorth m_farBy m_used i_everywhere i_again0 i_d0 i_never i_firstCame i_longRun i_moved i_crowd i_l0 i_fitMany i_fitLeast i_fitMost m_fitPost m_fitEnd m_keptPosts i_x0 f_all g_posts_3 g_shut_4 f_was c_ (by first | with_reducible assumption | with_reducible rfl | omega | assumption | rfl | decide) (by first | with_reducible assumption | with_reducible rfl | omega | assumption | rfl | decide) (by first | with_reducible assumption | with_reducible rfl | omega | assumption | rfl | decide) hV9 hQ9) (kV_RX12_217 C.2.2.2.2 (Nat.le_of_ble_eq_true rfl) (Nat.le_of_ble_eq_true rfl)) [1, 2, 3, 4, 0] [0, 0, 0, 0, 0] rfl rfl (ci := 11) (qc := (RX12, TX12, 43)) rfl rfl (List.mem_flatten.mpr ⟨_, List.mem_of_getElem? (i := 0) rfl, List.mem_cons_self⟩) rfl rfl hl.1 dX12_gameBy_70 (Nat.le_of_ble_eq_true rfl) (Nat.le_of_ble_eq_true rfl) (fun r_151 b1 H locs hw G => ?_)
      refine zEx4 hw ?_
      intro j_at_137 j_gone_138 g_posts_139 g_was_140
      refine zCu11 ?_
      intro hbs9 h_141 h_142 h_143 h_144 h_145 h_146 h_147 h_148 h_149 h_150
      clear hw
      subst hbs9
      have G : zS T A s.heap s [[zAr T 0 m_here 7 g_here_5], [zO11 mo m_all m_has i_size i_next i_where i_token i_number i_word i_wrong i_farCrossing m_read i_z0 i_crossings i_inns m_posts m_shut m_here j_steps_1 j_done_2 j_at_137 j_gone_138 m_was m_came m_seenAt m_rowWorth m_farBy m_used i_everywhere i_again0 i_d0 i_never i_firstCame i_longRun i_moved i_crowd i_l0 i_fitMany i_fitLeast i_fitMost m_fitPost m_fitEnd m_keptPosts i_x0], [zAr T 0 m_all 3952 f_all], [zAr T 0 m_posts 7 g_posts_139], [zAr T 0 m_shut 7 g_shut_4], [zAr T 0 m_was 7 g_was_140]] _ _ := G
      replace h_146 : zHd ((r_151 = 1 ∧ zBit i_inns j_at_137 = 1 ∨ r_151 = 0 ∧ ¬ zBit i_inns j_at_137 = 1)) := h_146
      have hRw := rWalkF (n := i_inns) (c := c_) (w := (aRs (zWo f_all i_z0 i_inns) (zPo f_all i_z0) 7)) hL hQ9 hS9 hd2 hc0 hc6
      have hat9 : j_at_137 = rWh (zWo f_all i_z0 i_inns) (zLo f_all i_z0) (aRs (zWo f_all i_z0 i_inns) (zPo f_all i_z0) 7) c_ := h_148.trans hRw.1
      have hgo9 : j_gone_138 = nI (rStp (zWo f_all i_z0 i_inns) (zLo f_all i_z0) (aRs (zWo f_all i_z0 i_inns) (zPo f_all i_z0) 7) c_) := by rw [h_149, hRw.2.1]
      have hgl9 : rStp (zWo f_all i_z0 i_inns) (zLo f_all i_z0) (aRs (zWo f_all i_z0 i_inns) (zPo f_all i_z0) 7) c_ ≤ 499 := rStp_le
      refine lv_if_eq (tgt := 83) hx hb dX12_gameBy_73 (by decide) (fun c_152 => ?_) (fun c_152 => ?_)
      · have c_152n : r_151.toInt = (0 : Int) := (fa_eq _ _).mp c_152
        refine lv_sipush (v := 500) hx hb dX12_gameBy_83 (by decide) ?_
        have G := G.sub (bs' := [[zO11 mo m_all m_has i_size i_next i_where i_token i_number i_word i_wrong i_farCrossing m_read i_z0 i_crossings i_inns m_posts m_shut m_here j_steps_1 j_done_2 j_at_137 j_gone_138 m_was m_came m_seenAt m_rowWorth m_farBy m_used i_everywhere i_again0 i_d0 i_never i_firstCame i_longRun i_moved i_crowd i_l0 i_fitMany i_fitLeast i_fitMost m_fitPost m_fitEnd m_keptPosts i_x0], [zAr T 0 m_all 3952 f_all], [zAr T 0 m_posts 7 g_posts_139], [zAr T 0 m_shut 7 g_shut_4], [zAr T 0 m_here 7 g_here_5], [zAr T 0 m_was 7 g_was_140]]) [1, 2, 3, 4, 0, 5] rfl
        exact z_back hQz_ (z_iret C hr hlocks G (Nat.le_of_ble_eq_true rfl) (Nat.le_of_ble_eq_true rfl) dX12_gameBy_86 ⟨j_steps_1, j_done_2, j_at_137, j_gone_138, g_posts_139, g_shut_4, g_here_5, g_was_140, rfl, (by unfold gRw; rw [hp2, if_pos rfl]; show _ = ((gSn (zWo f_all i_z0 i_inns) (zLo f_all i_z0) i_inns (aRs (zWo f_all i_z0 i_inns) (zPo f_all i_z0) 7) c_ : Nat) : Int); unfold gSn; rw [if_neg (by rw [← hat9]; rcases h_146 with e9 | e9 <;> first | exact e9.2 | (exfalso; have q9 := e9.1; first | omega | (have e7 := congrArg Int32.toInt q9; have e6 : (0 : Int32).toInt = 0 := rfl; have e5 : (1 : Int32).toInt = 1 := rfl; omega)))]; rfl)⟩)
      · have c_152n : ¬ r_151.toInt = (0 : Int) := fun q => c_152 ((fa_eq _ _).mpr q)
        refine lv_aload_n hx hb dX12_gameBy_76 rfl (lv_at hl 2 rfl) ?_
        refine z_get C G clX12 1 rfl 20 (by decide) m_fl_RX12_208 rfl dX12_gameBy_77 ?_
        refine lv_goto (tgt := 86) hx hb dX12_gameBy_80 (by decide) ?_
        have G := G.sub (bs' := [[zO11 mo m_all m_has i_size i_next i_where i_token i_number i_word i_wrong i_farCrossing m_read i_z0 i_crossings i_inns m_posts m_shut m_here j_steps_1 j_done_2 j_at_137 j_gone_138 m_was m_came m_seenAt m_rowWorth m_farBy m_used i_everywhere i_again0 i_d0 i_never i_firstCame i_longRun i_moved i_crowd i_l0 i_fitMany i_fitLeast i_fitMost m_fitPost m_fitEnd m_keptPosts i_x0], [zAr T 0 m_all 3952 f_all], [zAr T 0 m_posts 7 g_posts_139], [zAr T 0 m_shut 7 g_shut_4], [zAr T 0 m_here 7 g_here_5], [zAr T 0 m_was 7 g_was_140]]) [1, 2, 3, 4, 0, 5] rfl
        exact z_back hQz_ (z_iret C hr hlocks G (Nat.le_of_ble_eq_true rfl) (Nat.le_of_ble_eq_true rfl) dX12_gameBy_86 ⟨j_steps_1, j_done_2, j_at_137, j_gone_138, g_posts_139, g_shut_4, g_here_5, g_was_140, rfl, (by unfold gRw; rw [hp2, if_pos rfl]; show _ = ((gSn (zWo f_all i_z0 i_inns) (zLo f_all i_z0) i_inns (aRs (zWo f_all i_z0 i_inns) (zPo f_all i_z0) 7) c_ : Nat) : Int); unfold gSn; rw [if_pos (by rw [← hat9]; rcases h_146 with e9 | e9 <;> first | exact e9.2 | (exfalso; have q9 := e9.1; first | omega | (have e7 := congrArg Int32.toInt q9; have e6 : (0 : Int32).toInt = 0 := rfl; have e5 : (1 : Int32).toInt = 1 := rfl; omega))), hgo9, nI_toInt (by omega)])⟩)
set_option maxHeartbeats 4000000 in
set_option maxRecDepth 100000 in
/-- c_fm_gameBy3 -/
theorem c_fm_gameBy3 (l : Launch) (T : zTy) (mo : Nat) (m_all : Nat) (m_has : Nat) (i_size : Int32) (i_next : Int32) (i_where : Int32) (i_token : Int32) (i_number : Int32) (i_word : Int32) (i_wrong : Int32) (i_farCrossing : Int32) (m_read : Nat) (i_z0 : Int32) (i_crossings : Int32) (i_inns : Int32) (m_posts : Nat) (m_shut : Nat) (m_here : Nat) (i_steps : Int32) (i_done : Int32) (i_at : Int32) (i_gone : Int32) (m_was : Nat) (m_came : Nat) (m_seenAt : Nat) (m_rowWorth : Nat) (m_farBy : Nat) (m_used : Nat) (i_everywhere : Int32) (i_again0 : Int32) (i_d0 : Int32) (i_never : Int32) (i_firstCame : Int32) (i_longRun : Int32) (i_moved : Int32) (i_crowd : Int32) (i_l0 : Int32) (i_fitMany : Int32) (i_fitLeast : Int32) (i_fitMost : Int32) (m_fitPost : Nat) (m_fitEnd : Nat) (m_keptPosts : Nat) (i_x0 : Int32) (f_all : Nat → Int32) (f_posts : Nat → Int32) (f_shut : Nat → Int32) (f_here : Nat → Int32) (f_was : Nat → Int32) (rw_ : Nat) (c_ : Int32) (hL : zML f_all i_z0 i_crossings) (hc0 : 0 ≤ c_.toInt) (hc6 : c_.toInt ≤ 6) (hVA : zVA f_all) (hZ : zVZ f_all i_z0 i_crossings) (hrw : rw_ < 512) : zMi l T yX12_gameBy cX12_gameBy 6 (some .int) 5 0 0 [.ref mo, .int (nI rw_), .int 3, .int c_] [[zO11 mo m_all m_has i_size i_next i_where i_token i_number i_word i_wrong i_farCrossing m_read i_z0 i_crossings i_inns m_posts m_shut m_here i_steps i_done i_at i_gone m_was m_came m_seenAt m_rowWorth m_farBy m_used i_everywhere i_again0 i_d0 i_never i_firstCame i_longRun i_moved i_crowd i_l0 i_fitMany i_fitLeast i_fitMost m_fitPost m_fitEnd m_keptPosts i_x0], [zAr T 0 m_all 3952 f_all], [zAr T 0 m_posts 7 f_posts], [zAr T 0 m_shut 7 f_shut], [zAr T 0 m_here 7 f_here], [zAr T 0 m_was 7 f_was]] (fun (r : Int32) bs => ∃ (j_steps : Int32) (j_done : Int32) (j_at : Int32) (j_gone : Int32) (g_posts : Nat → Int32) (g_shut : Nat → Int32) (g_here : Nat → Int32) (g_was : Nat → Int32), bs = [[zO11 mo m_all m_has i_size i_next i_where i_token i_number i_word i_wrong i_farCrossing m_read i_z0 i_crossings i_inns m_posts m_shut m_here j_steps j_done j_at j_gone m_was m_came m_seenAt m_rowWorth m_farBy m_used i_everywhere i_again0 i_d0 i_never i_firstCame i_longRun i_moved i_crowd i_l0 i_fitMany i_fitLeast i_fitMost m_fitPost m_fitEnd m_keptPosts i_x0], [zAr T 0 m_all 3952 f_all], [zAr T 0 m_posts 7 g_posts], [zAr T 0 m_shut 7 g_shut], [zAr T 0 m_here 7 g_here], [zAr T 0 m_was 7 g_was]] ∧ r.toInt = gRw (zWo f_all i_z0 i_inns) (zLo f_all i_z0) i_inns c_ (aRs (zWo f_all i_z0 i_inns) (zPo f_all i_z0) 7) 0 true 3 rw_) := by
  refine zMi_of (own := RX12) (by decide) rfl (Nat.le_of_ble_eq_true rfl) ?_
  intro p e s m args below meth c A ls C hr hlocks hnm hAe G hl
  refine zHide (fun Qz_ hQz_ => ?_)
  have hx := C.1
  have hb := C.2.1
  have hl : lv_has ls 6 [(0, .ref mo), (1, .int (nI rw_)), (2, .int 3), (3, .int c_)] := hl
  refine lv_aload_n hx hb dX12_gameBy_0 rfl (lv_at hl 0 rfl) ?_
  refine z_Vv (bc := [[zO11 mo m_all m_has i_size i_next i_where i_token i_number i_word i_wrong i_farCrossing m_read i_z0 i_crossings i_inns m_posts m_shut m_here i_steps i_done i_at i_gone m_was m_came m_seenAt m_rowWorth m_farBy m_used i_everywhere i_again0 i_d0 i_never i_firstCame i_longRun i_moved i_crowd i_l0 i_fitMany i_fitLeast i_fitMost m_fitPost m_fitEnd m_keptPosts i_x0], [zAr T 0 m_all 3952 f_all], [zAr T 0 m_posts 7 f_posts], [zAr T 0 m_shut 7 f_shut], [zAr T 0 m_here 7 f_here]]) (br := [[zAr T 0 m_was 7 f_was]]) (As := []) (rest := []) C G (c_m_begins l T mo m_all m_has i_size i_next i_where i_token i_number i_word i_wrong i_farCrossing m_read i_z0 i_crossings i_inns m_posts m_shut m_here i_steps i_done i_at i_gone m_was m_came m_seenAt m_rowWorth m_farBy m_used i_everywhere i_again0 i_d0 i_never i_firstCame i_longRun i_moved i_crowd i_l0 i_fitMany i_fitLeast i_fitMost m_fitPost m_fitEnd m_keptPosts i_x0 f_all f_posts f_shut f_here (by first | with_reducible assumption | with_reducible rfl | omega | assumption | rfl | decide)) (kV_RX12_175 C.2.2.2.2 (Nat.le_of_ble_eq_true rfl) (Nat.le_of_ble_eq_true rfl)) [0, 1, 2, 3, 4] [0, 0, 0, 0, 0] rfl rfl (ci := 11) (qc := (RX12, TX12, 43)) rfl rfl (List.mem_flatten.mpr ⟨_, List.mem_of_getElem? (i := 0) rfl, List.mem_cons_self⟩) rfl rfl hl.1 dX12_gameBy_1 (Nat.le_of_ble_eq_true rfl) (Nat.le_of_ble_eq_true rfl) (fun b1 H locs hw G => ?_)
  refine zEx5 hw ?_
  intro j_steps_1 j_done_2 g_posts_3 g_shut_4 g_here_5
  refine zCu7 ?_
  intro hbs9 h_6 h_7 h_8 h_9 h_10 h_11
  clear hw
  subst hbs9
  have G : zS T A s.heap s [[zAr T 0 m_was 7 f_was], [zO11 mo m_all m_has i_size i_next i_where i_token i_number i_word i_wrong i_farCrossing m_read i_z0 i_crossings i_inns m_posts m_shut m_here j_steps_1 j_done_2 i_at i_gone m_was m_came m_seenAt m_rowWorth m_farBy m_used i_everywhere i_again0 i_d0 i_never i_firstCame i_longRun i_moved i_crowd i_l0 i_fitMany i_fitLeast i_fitMost m_fitPost m_fitEnd m_keptPosts i_x0], [zAr T 0 m_all 3952 f_all], [zAr T 0 m_posts 7 g_posts_3], [zAr T 0 m_shut 7 g_shut_4], [zAr T 0 m_here 7 g_here_5]] _ _ := G
  have hz := hL.1
  have hcr := hL.cr
  have hTo9 := rTold (n := i_inns) hL.1 hVA hL.2.2
  have hS9 := h_9
  have hQ9 := h_11
  have hV9 : zMV (zRo f_all i_z0) g_posts_3 := zVA_z hVA hL.1 h_8
  have hd0 : ∀ j, j < 7 → 0 < ((zWo f_all i_z0 i_inns) j).toInt → g_posts_3 j = aPo (zWo f_all i_z0 i_inns) (aRs (zWo f_all i_z0 i_inns) (zPo f_all i_z0) 7) j := fun j hj hw => (h_8 j hj).trans (hTo9.2 j hj hw)
  have hp0 : gPx (zWo f_all i_z0 i_inns) (aRs (zWo f_all i_z0 i_inns) (zPo f_all i_z0) 7) 0 (rw_ / 512) = (true, (aRs (zWo f_all i_z0 i_inns) (zPo f_all i_z0) 7)) := rfl
  refine lv_iload_n hx hb dX12_gameBy_4 rfl (lv_at hl 2 rfl) ?_
  refine lv_iconst (v := 1) hx hb dX12_gameBy_5 (by decide) ?_
  refine lv_isub hx hb dX12_gameBy_6 ?_
  refine lv_topi (fun y_13 ey_13 => ?_)
  obtain rfl : y_13 = 2 := ey_13.trans (by decide)
  refine lv_istore (lv' := [(4, .int 2), (0, .ref mo), (1, .int (nI rw_)), (2, .int 3), (3, .int c_)]) hx hb dX12_gameBy_7 hl (by decide) (zLvf_h rfl) (fun ls hl => ?_)
  refine lv_iload hx hb dX12_gameBy_9 (lv_at hl 0 rfl) ?_
  refine lv_if_lt (tgt := 68) hx hb dX12_gameBy_11 (by decide) (fun q => absurd q (by decide)) (fun _ => ?_)
  refine lv_iload_n hx hb dX12_gameBy_14 rfl (lv_at hl 2 rfl) ?_
  refine lv_iconst (v := 3) hx hb dX12_gameBy_15 (by decide) ?_
  refine lv_iload hx hb dX12_gameBy_16 (lv_at hl 0 rfl) ?_
  refine lv_imul hx hb dX12_gameBy_18 ?_
  refine lv_topi (fun y_14 ey_14 => ?_)
  obtain rfl : y_14 = 6 := ey_14.trans (by decide)
  refine lv_ishr hx hb dX12_gameBy_19 ?_
  refine lv_bipush (v := 7) hx hb dX12_gameBy_20 (by decide) ?_
  refine lv_iand hx hb dX12_gameBy_22 ?_
  refine lv_topi (fun y_15 ey_15 => ?_)
  obtain rfl : y_15 = nI ((rw_ / 64) % 8) := ey_15.trans ((by first | rfl | (rw [pk_shrN (by omega) (6 &&& 31) 6 (by decide), aAn (by omega)] <;> exact congrArg nI (by first | omega | (rw [Nat.pow_zero, Nat.div_one]))) | (rw [pk_shrN (by omega) 6 6 (by decide), aAn (by omega)]) | (rw [pk_shrN (by omega) _ 6 (by decide), aAn (by omega)]; exact congrArg nI (by omega))))
  have tD9 := nI_toInt (n := (rw_ / 64) % 8) (by omega)
  have nD9 := nI_n (n := (rw_ / 64) % 8) (by omega)
  refine lv_istore (lv' := [(5, .int (nI ((rw_ / 64) % 8))), (4, .int 2), (0, .ref mo), (1, .int (nI rw_)), (2, .int 3), (3, .int c_)]) hx hb dX12_gameBy_23 hl (by decide) (zLvf_h rfl) (fun ls hl => ?_)
  refine lv_iload hx hb dX12_gameBy_25 (lv_at hl 0 rfl) ?_
  refine lv_bipush (v := 7) hx hb dX12_gameBy_27 (by decide) ?_
  refine lv_icmp_ne (tgt := 35) hx hb dX12_gameBy_29 (by decide) (fun c_16 => ?_) (fun c_16 => ?_)
  · have c_16n : ¬ (rw_ / 64) % 8 = 7 := fun q => c_16 ((nI_eq (a := (rw_ / 64) % 8) (b := 7) (by omega) (by omega)).mpr q)
    refine lv_aload_n hx hb dX12_gameBy_35 rfl (lv_at hl 2 rfl) ?_
    refine lv_iload hx hb dX12_gameBy_36 (lv_at hl 0 rfl) ?_
    have ti_17 : (nI ((rw_ / 64) % 8)).toInt = (((rw_ / 64) % 8 : Nat) : Int) := nI_toInt (by omega)
    refine z_Vi (bc := [[zO11 mo m_all m_has i_size i_next i_where i_token i_number i_word i_wrong i_farCrossing m_read i_z0 i_crossings i_inns m_posts m_shut m_here j_steps_1 j_done_2 i_at i_gone m_was m_came m_seenAt m_rowWorth m_farBy m_used i_everywhere i_again0 i_d0 i_never i_firstCame i_longRun i_moved i_crowd i_l0 i_fitMany i_fitLeast i_fitMost m_fitPost m_fitEnd m_keptPosts i_x0]]) (br := [[zAr T 0 m_was 7 f_was], [zAr T 0 m_all 3952 f_all], [zAr T 0 m_posts 7 g_posts_3], [zAr T 0 m_shut 7 g_shut_4], [zAr T 0 m_here 7 g_here_5]]) (As := [.int (nI ((rw_ / 64) % 8))]) (rest := []) C G (c_m_isCrossing l T mo m_all m_has i_size i_next i_where i_token i_number i_word i_wrong i_farCrossing m_read i_z0 i_crossings i_inns m_posts m_shut m_here j_steps_1 j_done_2 i_at i_gone m_was m_came m_seenAt m_rowWorth m_farBy m_used i_everywhere i_again0 i_d0 i_never i_firstCame i_longRun i_moved i_crowd i_l0 i_fitMany i_fitLeast i_fitMost m_fitPost m_fitEnd m_keptPosts i_x0 (nI ((rw_ / 64) % 8)) (by first | with_reducible assumption | with_reducible rfl | omega | assumption | rfl | decide)) (kV_RX12_187 C.2.2.2.2 (Nat.le_of_ble_eq_true rfl) (Nat.le_of_ble_eq_true rfl)) [1] [1] rfl rfl (ci := 11) (qc := (RX12, TX12, 43)) rfl rfl (List.mem_flatten.mpr ⟨_, List.mem_of_getElem? (i := 0) rfl, List.mem_cons_self⟩) rfl rfl hl.1 dX12_gameBy_38 (Nat.le_of_ble_eq_true rfl) (Nat.le_of_ble_eq_true rfl) (fun r_19 b1 H locs hw G => ?_)
    refine zAn2 hw ?_
    intro hbs9 hc_18
    clear hw
    subst hbs9
    have G : zS T A s.heap s [[zAr T 0 m_was 7 f_was], [zAr T 0 m_all 3952 f_all], [zAr T 0 m_posts 7 g_posts_3], [zAr T 0 m_shut 7 g_shut_4], [zAr T 0 m_here 7 g_here_5], [zO11 mo m_all m_has i_size i_next i_where i_token i_number i_word i_wrong i_farCrossing m_read i_z0 i_crossings i_inns m_posts m_shut m_here j_steps_1 j_done_2 i_at i_gone m_was m_came m_seenAt m_rowWorth m_farBy m_used i_everywhere i_again0 i_d0 i_never i_firstCame i_longRun i_moved i_crowd i_l0 i_fitMany i_fitLeast i_fitMost m_fitPost m_fitEnd m_keptPosts i_x0]] _ _ := G
    rcases hc_18 with ⟨rfl, h_20, h_21⟩ | ⟨rfl, h_22⟩
    · have h_20 : 0 ≤ (nI ((rw_ / 64) % 8)).toInt := h_20
      have h_21 : (nI ((rw_ / 64) % 8)).toInt < i_crossings.toInt := h_21
      refine lv_if_eq (tgt := 53) hx hb dX12_gameBy_41 (by decide) (fun q => absurd q (by decide)) (fun _ => ?_)
      refine lv_aload_n hx hb dX12_gameBy_44 rfl (lv_at hl 2 rfl) ?_
      refine lv_iload hx hb dX12_gameBy_45 (lv_at hl 0 rfl) ?_
      have ti_23 : (nI ((rw_ / 64) % 8)).toInt = (((rw_ / 64) % 8 : Nat) : Int) := nI_toInt (by omega)
      refine z_Vi (bc := [[zO11 mo m_all m_has i_size i_next i_where i_token i_number i_word i_wrong i_farCrossing m_read i_z0 i_crossings i_inns m_posts m_shut m_here j_steps_1 j_done_2 i_at i_gone m_was m_came m_seenAt m_rowWorth m_farBy m_used i_everywhere i_again0 i_d0 i_never i_firstCame i_longRun i_moved i_crowd i_l0 i_fitMany i_fitLeast i_fitMost m_fitPost m_fitEnd m_keptPosts i_x0], [zAr T 0 m_all 3952 f_all]]) (br := [[zAr T 0 m_was 7 f_was], [zAr T 0 m_posts 7 g_posts_3], [zAr T 0 m_shut 7 g_shut_4], [zAr T 0 m_here 7 g_here_5]]) (As := [.int (nI ((rw_ / 64) % 8))]) (rest := []) C G (c_m_isFree l T mo m_all m_has i_size i_next i_where i_token i_number i_word i_wrong i_farCrossing m_read i_z0 i_crossings i_inns m_posts m_shut m_here j_steps_1 j_done_2 i_at i_gone m_was m_came m_seenAt m_rowWorth m_farBy m_used i_everywhere i_again0 i_d0 i_never i_firstCame i_longRun i_moved i_crowd i_l0 i_fitMany i_fitLeast i_fitMost m_fitPost m_fitEnd m_keptPosts i_x0 f_all (nI ((rw_ / 64) % 8)) (by first | with_reducible assumption | with_reducible rfl | omega | assumption | rfl | decide) (by first | with_reducible assumption | with_reducible rfl | omega | assumption | rfl | decide) (by first | with_reducible assumption | with_reducible rfl | omega | assumption | rfl | decide)) (kV_RX12_223 C.2.2.2.2 (Nat.le_of_ble_eq_true rfl) (Nat.le_of_ble_eq_true rfl)) [5, 1] [1, 3] rfl rfl (ci := 11) (qc := (RX12, TX12, 43)) rfl rfl (List.mem_flatten.mpr ⟨_, List.mem_of_getElem? (i := 0) rfl, List.mem_cons_self⟩) rfl rfl hl.1 dX12_gameBy_47 (Nat.le_of_ble_eq_true rfl) (Nat.le_of_ble_eq_true rfl) (fun r_25 b1 H locs hw G => ?_)
      refine zAn2 hw ?_
      intro hbs9 hc_24
      clear hw
      subst hbs9
      have G : zS T A s.heap s [[zAr T 0 m_was 7 f_was], [zAr T 0 m_posts 7 g_posts_3], [zAr T 0 m_shut 7 g_shut_4], [zAr T 0 m_here 7 g_here_5], [zO11 mo m_all m_has i_size i_next i_where i_token i_number i_word i_wrong i_farCrossing m_read i_z0 i_crossings i_inns m_posts m_shut m_here j_steps_1 j_done_2 i_at i_gone m_was m_came m_seenAt m_rowWorth m_farBy m_used i_everywhere i_again0 i_d0 i_never i_firstCame i_longRun i_moved i_crowd i_l0 i_fitMany i_fitLeast i_fitMost m_fitPost m_fitEnd m_keptPosts i_x0], [zAr T 0 m_all 3952 f_all]] _ _ := G
      rcases hc_24 with ⟨rfl, h_26, h_27⟩ | ⟨rfl, h_28⟩
      · have h_26 : ¬ zInn i_inns (nI ((rw_ / 64) % 8)) := h_26
        have h_27 : 0 < (zRd f_all i_z0 (nI ((rw_ / 64) % 8))).toInt := h_27
        have hf9 := aWo_1 (f := f_all) (z := i_z0) (n := i_inns) (c := nI ((rw_ / 64) % 8)) (by first | with_reducible assumption | assumption) (by first | with_reducible assumption | assumption) (by omega) (by omega)
        rw [nD9] at hf9
        have hbi9 : ¬ zBit i_inns (nI ((rw_ / 64) % 8)) = 1 := h_26
        refine lv_if_ne (tgt := 55) hx hb dX12_gameBy_50 (by decide) (fun _ => ?_) (fun q => absurd q (by decide))
        refine lv_aload_n hx hb dX12_gameBy_55 rfl (lv_at hl 2 rfl) ?_
        refine lv_iload hx hb dX12_gameBy_56 (lv_at hl 0 rfl) ?_
        have ti_29 : (nI ((rw_ / 64) % 8)).toInt = (((rw_ / 64) % 8 : Nat) : Int) := nI_toInt (by omega)
        refine z_Vi (bc := [[zO11 mo m_all m_has i_size i_next i_where i_token i_number i_word i_wrong i_farCrossing m_read i_z0 i_crossings i_inns m_posts m_shut m_here j_steps_1 j_done_2 i_at i_gone m_was m_came m_seenAt m_rowWorth m_farBy m_used i_everywhere i_again0 i_d0 i_never i_firstCame i_longRun i_moved i_crowd i_l0 i_fitMany i_fitLeast i_fitMost m_fitPost m_fitEnd m_keptPosts i_x0], [zAr T 0 m_all 3952 f_all], [zAr T 0 m_posts 7 g_posts_3], [zAr T 0 m_shut 7 g_shut_4]]) (br := [[zAr T 0 m_was 7 f_was], [zAr T 0 m_here 7 g_here_5]]) (As := [.int (nI ((rw_ / 64) % 8))]) (rest := []) C G (c_fm_turns l T mo m_all m_has i_size i_next i_where i_token i_number i_word i_wrong i_farCrossing m_read i_z0 i_crossings i_inns m_posts m_shut m_here j_steps_1 j_done_2 i_at i_gone m_was m_came m_seenAt m_rowWorth m_farBy m_used i_everywhere i_again0 i_d0 i_never i_firstCame i_longRun i_moved i_crowd i_l0 i_fitMany i_fitLeast i_fitMost m_fitPost m_fitEnd m_keptPosts i_x0 f_all g_posts_3 g_shut_4 (nI ((rw_ / 64) % 8)) (by first | with_reducible assumption | with_reducible rfl | omega | assumption | rfl | decide) (by first | with_reducible assumption | with_reducible rfl | omega | assumption | rfl | decide) (by first | with_reducible assumption | with_reducible rfl | omega | assumption | rfl | decide) hV9 hQ9) (kV_RX12_205 C.2.2.2.2 (Nat.le_of_ble_eq_true rfl) (Nat.le_of_ble_eq_true rfl)) [4, 5, 1, 2] [1, 0, 1, 0] rfl rfl (ci := 11) (qc := (RX12, TX12, 43)) rfl rfl (List.mem_flatten.mpr ⟨_, List.mem_of_getElem? (i := 0) rfl, List.mem_cons_self⟩) rfl rfl hl.1 dX12_gameBy_58 (Nat.le_of_ble_eq_true rfl) (Nat.le_of_ble_eq_true rfl) (fun r_35 b1 H locs hw G => ?_)
        refine zEx1 hw ?_
        intro g_posts_30
        refine zCu5 ?_
        intro hbs9 h_31 h_32 h_33 hc_34
        clear hw
        subst hbs9
        have G : zS T A s.heap s [[zAr T 0 m_was 7 f_was], [zAr T 0 m_here 7 g_here_5], [zO11 mo m_all m_has i_size i_next i_where i_token i_number i_word i_wrong i_farCrossing m_read i_z0 i_crossings i_inns m_posts m_shut m_here j_steps_1 j_done_2 i_at i_gone m_was m_came m_seenAt m_rowWorth m_farBy m_used i_everywhere i_again0 i_d0 i_never i_firstCame i_longRun i_moved i_crowd i_l0 i_fitMany i_fitLeast i_fitMost m_fitPost m_fitEnd m_keptPosts i_x0], [zAr T 0 m_all 3952 f_all], [zAr T 0 m_posts 7 g_posts_30], [zAr T 0 m_shut 7 g_shut_4]] _ _ := G
        rcases hc_34 with ⟨rfl, h_36, h_37⟩ | ⟨rfl, h_38⟩
        · have h_36 : ¬ zTurn g_posts_3 g_shut_4 (zRo f_all i_z0) (nI ((rw_ / 64) % 8)) = -1 := h_36
          have h_37 : 0 < (zRd f_all i_z0 (nI ((rw_ / 64) % 8))).toInt := h_37
          have htu9 := gTu (n := i_inns) (w := (aRs (zWo f_all i_z0 i_inns) (zPo f_all i_z0) 7)) hL hQ9 hS9 (by omega) hf9.2 hbi9 hd0
          have hd1 : ∀ j, j < 7 → 0 < ((zWo f_all i_z0 i_inns) j).toInt → g_posts_30 j = aPo (zWo f_all i_z0 i_inns) (aTn (zWo f_all i_z0 i_inns) (aRs (zWo f_all i_z0 i_inns) (zPo f_all i_z0) 7) ((rw_ / 64) % 8)) j := by rw [h_33]; exact htu9.2
          have hp1 : gPx (zWo f_all i_z0 i_inns) (aRs (zWo f_all i_z0 i_inns) (zPo f_all i_z0) 7) 1 (rw_ / 64) = (true, (aTn (zWo f_all i_z0 i_inns) (aRs (zWo f_all i_z0 i_inns) (zPo f_all i_z0) 7) ((rw_ / 64) % 8))) := gPx_t hp0 (by omega) rfl (by omega) hf9.2
          have hQ9 := h_31
          have hV9 := h_32
          refine lv_pop hx hb dX12_gameBy_61 rfl ?_
          refine lv_iinc (v := 1) (lv' := [(4, .int 1), (5, .int (nI ((rw_ / 64) % 8))), (0, .ref mo), (1, .int (nI rw_)), (2, .int 3), (3, .int c_)]) hx hb dX12_gameBy_62 hl (k := 1) rfl (by decide) (by decide) (zLvf_h rfl) (fun ls hl => ?_)
          refine lv_goto (tgt := 9) hx hb dX12_gameBy_65 (by decide) ?_
          refine lv_iload hx hb dX12_gameBy_9 (lv_at hl 0 rfl) ?_
          refine lv_if_lt (tgt := 68) hx hb dX12_gameBy_11 (by decide) (fun q => absurd q (by decide)) (fun _ => ?_)
          refine lv_iload_n hx hb dX12_gameBy_14 rfl (lv_at hl 3 rfl) ?_
          refine lv_iconst (v := 3) hx hb dX12_gameBy_15 (by decide) ?_
          refine lv_iload hx hb dX12_gameBy_16 (lv_at hl 0 rfl) ?_
          refine lv_imul hx hb dX12_gameBy_18 ?_
          refine lv_topi (fun y_39 ey_39 => ?_)
          obtain rfl : y_39 = 3 := ey_39.trans (by decide)
          refine lv_ishr hx hb dX12_gameBy_19 ?_
          refine lv_bipush (v := 7) hx hb dX12_gameBy_20 (by decide) ?_
          refine lv_iand hx hb dX12_gameBy_22 ?_
          refine lv_topi (fun y_40 ey_40 => ?_)
          obtain rfl : y_40 = nI ((rw_ / 8) % 8) := ey_40.trans ((by first | rfl | (rw [pk_shrN (by omega) (3 &&& 31) 3 (by decide), aAn (by omega)] <;> exact congrArg nI (by first | omega | (rw [Nat.pow_zero, Nat.div_one]))) | (rw [pk_shrN (by omega) 3 3 (by decide), aAn (by omega)]) | (rw [pk_shrN (by omega) _ 3 (by decide), aAn (by omega)]; exact congrArg nI (by omega))))
          have tD9 := nI_toInt (n := (rw_ / 8) % 8) (by omega)
          have nD9 := nI_n (n := (rw_ / 8) % 8) (by omega)
          refine lv_istore (lv' := [(5, .int (nI ((rw_ / 8) % 8))), (4, .int 1), (0, .ref mo), (1, .int (nI rw_)), (2, .int 3), (3, .int c_)]) hx hb dX12_gameBy_23 hl (by decide) (zLvf_h rfl) (fun ls hl => ?_)
          refine lv_iload hx hb dX12_gameBy_25 (lv_at hl 0 rfl) ?_
          refine lv_bipush (v := 7) hx hb dX12_gameBy_27 (by decide) ?_
          refine lv_icmp_ne (tgt := 35) hx hb dX12_gameBy_29 (by decide) (fun c_41 => ?_) (fun c_41 => ?_)
          · have c_41n : ¬ (rw_ / 8) % 8 = 7 := fun q => c_41 ((nI_eq (a := (rw_ / 8) % 8) (b := 7) (by omega) (by omega)).mpr q)
            refine lv_aload_n hx hb dX12_gameBy_35 rfl (lv_at hl 2 rfl) ?_
            refine lv_iload hx hb dX12_gameBy_36 (lv_at hl 0 rfl) ?_
            have ti_42 : (nI ((rw_ / 8) % 8)).toInt = (((rw_ / 8) % 8 : Nat) : Int) := nI_toInt (by omega)
            refine z_Vi (bc := [[zO11 mo m_all m_has i_size i_next i_where i_token i_number i_word i_wrong i_farCrossing m_read i_z0 i_crossings i_inns m_posts m_shut m_here j_steps_1 j_done_2 i_at i_gone m_was m_came m_seenAt m_rowWorth m_farBy m_used i_everywhere i_again0 i_d0 i_never i_firstCame i_longRun i_moved i_crowd i_l0 i_fitMany i_fitLeast i_fitMost m_fitPost m_fitEnd m_keptPosts i_x0]]) (br := [[zAr T 0 m_was 7 f_was], [zAr T 0 m_here 7 g_here_5], [zAr T 0 m_all 3952 f_all], [zAr T 0 m_posts 7 g_posts_30], [zAr T 0 m_shut 7 g_shut_4]]) (As := [.int (nI ((rw_ / 8) % 8))]) (rest := []) C G (c_m_isCrossing l T mo m_all m_has i_size i_next i_where i_token i_number i_word i_wrong i_farCrossing m_read i_z0 i_crossings i_inns m_posts m_shut m_here j_steps_1 j_done_2 i_at i_gone m_was m_came m_seenAt m_rowWorth m_farBy m_used i_everywhere i_again0 i_d0 i_never i_firstCame i_longRun i_moved i_crowd i_l0 i_fitMany i_fitLeast i_fitMost m_fitPost m_fitEnd m_keptPosts i_x0 (nI ((rw_ / 8) % 8)) (by first | with_reducible assumption | with_reducible rfl | omega | assumption | rfl | decide)) (kV_RX12_187 C.2.2.2.2 (Nat.le_of_ble_eq_true rfl) (Nat.le_of_ble_eq_true rfl)) [2] [2] rfl rfl (ci := 11) (qc := (RX12, TX12, 43)) rfl rfl (List.mem_flatten.mpr ⟨_, List.mem_of_getElem? (i := 0) rfl, List.mem_cons_self⟩) rfl rfl hl.1 dX12_gameBy_38 (Nat.le_of_ble_eq_true rfl) (Nat.le_of_ble_eq_true rfl) (fun r_44 b1 H locs hw G => ?_)
            refine zAn2 hw ?_
            intro hbs9 hc_43
            clear hw
            subst hbs9
            have G : zS T A s.heap s [[zAr T 0 m_was 7 f_was], [zAr T 0 m_here 7 g_here_5], [zAr T 0 m_all 3952 f_all], [zAr T 0 m_posts 7 g_posts_30], [zAr T 0 m_shut 7 g_shut_4], [zO11 mo m_all m_has i_size i_next i_where i_token i_number i_word i_wrong i_farCrossing m_read i_z0 i_crossings i_inns m_posts m_shut m_here j_steps_1 j_done_2 i_at i_gone m_was m_came m_seenAt m_rowWorth m_farBy m_used i_everywhere i_again0 i_d0 i_never i_firstCame i_longRun i_moved i_crowd i_l0 i_fitMany i_fitLeast i_fitMost m_fitPost m_fitEnd m_keptPosts i_x0]] _ _ := G
            rcases hc_43 with ⟨rfl, h_45, h_46⟩ | ⟨rfl, h_47⟩
            · have h_45 : 0 ≤ (nI ((rw_ / 8) % 8)).toInt := h_45
              have h_46 : (nI ((rw_ / 8) % 8)).toInt < i_crossings.toInt := h_46
              refine lv_if_eq (tgt := 53) hx hb dX12_gameBy_41 (by decide) (fun q => absurd q (by decide)) (fun _ => ?_)
              refine lv_aload_n hx hb dX12_gameBy_44 rfl (lv_at hl 2 rfl) ?_
              refine lv_iload hx hb dX12_gameBy_45 (lv_at hl 0 rfl) ?_
              have ti_48 : (nI ((rw_ / 8) % 8)).toInt = (((rw_ / 8) % 8 : Nat) : Int) := nI_toInt (by omega)
              refine z_Vi (bc := [[zO11 mo m_all m_has i_size i_next i_where i_token i_number i_word i_wrong i_farCrossing m_read i_z0 i_crossings i_inns m_posts m_shut m_here j_steps_1 j_done_2 i_at i_gone m_was m_came m_seenAt m_rowWorth m_farBy m_used i_everywhere i_again0 i_d0 i_never i_firstCame i_longRun i_moved i_crowd i_l0 i_fitMany i_fitLeast i_fitMost m_fitPost m_fitEnd m_keptPosts i_x0], [zAr T 0 m_all 3952 f_all]]) (br := [[zAr T 0 m_was 7 f_was], [zAr T 0 m_here 7 g_here_5], [zAr T 0 m_posts 7 g_posts_30], [zAr T 0 m_shut 7 g_shut_4]]) (As := [.int (nI ((rw_ / 8) % 8))]) (rest := []) C G (c_m_isFree l T mo m_all m_has i_size i_next i_where i_token i_number i_word i_wrong i_farCrossing m_read i_z0 i_crossings i_inns m_posts m_shut m_here j_steps_1 j_done_2 i_at i_gone m_was m_came m_seenAt m_rowWorth m_farBy m_used i_everywhere i_again0 i_d0 i_never i_firstCame i_longRun i_moved i_crowd i_l0 i_fitMany i_fitLeast i_fitMost m_fitPost m_fitEnd m_keptPosts i_x0 f_all (nI ((rw_ / 8) % 8)) (by first | with_reducible assumption | with_reducible rfl | omega | assumption | rfl | decide) (by first | with_reducible assumption | with_reducible rfl | omega | assumption | rfl | decide) (by first | with_reducible assumption | with_reducible rfl | omega | assumption | rfl | decide)) (kV_RX12_223 C.2.2.2.2 (Nat.le_of_ble_eq_true rfl) (Nat.le_of_ble_eq_true rfl)) [5, 2] [2, 2] rfl rfl (ci := 11) (qc := (RX12, TX12, 43)) rfl rfl (List.mem_flatten.mpr ⟨_, List.mem_of_getElem? (i := 0) rfl, List.mem_cons_self⟩) rfl rfl hl.1 dX12_gameBy_47 (Nat.le_of_ble_eq_true rfl) (Nat.le_of_ble_eq_true rfl) (fun r_50 b1 H locs hw G => ?_)
              refine zAn2 hw ?_
              intro hbs9 hc_49
              clear hw
              subst hbs9
              have G : zS T A s.heap s [[zAr T 0 m_was 7 f_was], [zAr T 0 m_here 7 g_here_5], [zAr T 0 m_posts 7 g_posts_30], [zAr T 0 m_shut 7 g_shut_4], [zO11 mo m_all m_has i_size i_next i_where i_token i_number i_word i_wrong i_farCrossing m_read i_z0 i_crossings i_inns m_posts m_shut m_here j_steps_1 j_done_2 i_at i_gone m_was m_came m_seenAt m_rowWorth m_farBy m_used i_everywhere i_again0 i_d0 i_never i_firstCame i_longRun i_moved i_crowd i_l0 i_fitMany i_fitLeast i_fitMost m_fitPost m_fitEnd m_keptPosts i_x0], [zAr T 0 m_all 3952 f_all]] _ _ := G
              rcases hc_49 with ⟨rfl, h_51, h_52⟩ | ⟨rfl, h_53⟩
              · have h_51 : ¬ zInn i_inns (nI ((rw_ / 8) % 8)) := h_51
                have h_52 : 0 < (zRd f_all i_z0 (nI ((rw_ / 8) % 8))).toInt := h_52
                have hf9 := aWo_1 (f := f_all) (z := i_z0) (n := i_inns) (c := nI ((rw_ / 8) % 8)) (by first | with_reducible assumption | assumption) (by first | with_reducible assumption | assumption) (by omega) (by omega)
                rw [nD9] at hf9
                have hbi9 : ¬ zBit i_inns (nI ((rw_ / 8) % 8)) = 1 := h_51
                refine lv_if_ne (tgt := 55) hx hb dX12_gameBy_50 (by decide) (fun _ => ?_) (fun q => absurd q (by decide))
                refine lv_aload_n hx hb dX12_gameBy_55 rfl (lv_at hl 2 rfl) ?_
                refine lv_iload hx hb dX12_gameBy_56 (lv_at hl 0 rfl) ?_
                have ti_54 : (nI ((rw_ / 8) % 8)).toInt = (((rw_ / 8) % 8 : Nat) : Int) := nI_toInt (by omega)
                refine z_Vi (bc := [[zO11 mo m_all m_has i_size i_next i_where i_token i_number i_word i_wrong i_farCrossing m_read i_z0 i_crossings i_inns m_posts m_shut m_here j_steps_1 j_done_2 i_at i_gone m_was m_came m_seenAt m_rowWorth m_farBy m_used i_everywhere i_again0 i_d0 i_never i_firstCame i_longRun i_moved i_crowd i_l0 i_fitMany i_fitLeast i_fitMost m_fitPost m_fitEnd m_keptPosts i_x0], [zAr T 0 m_all 3952 f_all], [zAr T 0 m_posts 7 g_posts_30], [zAr T 0 m_shut 7 g_shut_4]]) (br := [[zAr T 0 m_was 7 f_was], [zAr T 0 m_here 7 g_here_5]]) (As := [.int (nI ((rw_ / 8) % 8))]) (rest := []) C G (c_fm_turns l T mo m_all m_has i_size i_next i_where i_token i_number i_word i_wrong i_farCrossing m_read i_z0 i_crossings i_inns m_posts m_shut m_here j_steps_1 j_done_2 i_at i_gone m_was m_came m_seenAt m_rowWorth m_farBy m_used i_everywhere i_again0 i_d0 i_never i_firstCame i_longRun i_moved i_crowd i_l0 i_fitMany i_fitLeast i_fitMost m_fitPost m_fitEnd m_keptPosts i_x0 f_all g_posts_30 g_shut_4 (nI ((rw_ / 8) % 8)) (by first | with_reducible assumption | with_reducible rfl | omega | assumption | rfl | decide) (by first | with_reducible assumption | with_reducible rfl | omega | assumption | rfl | decide) (by first | with_reducible assumption | with_reducible rfl | omega | assumption | rfl | decide) hV9 hQ9) (kV_RX12_205 C.2.2.2.2 (Nat.le_of_ble_eq_true rfl) (Nat.le_of_ble_eq_true rfl)) [4, 5, 2, 3] [2, 0, 0, 0] rfl rfl (ci := 11) (qc := (RX12, TX12, 43)) rfl rfl (List.mem_flatten.mpr ⟨_, List.mem_of_getElem? (i := 0) rfl, List.mem_cons_self⟩) rfl rfl hl.1 dX12_gameBy_58 (Nat.le_of_ble_eq_true rfl) (Nat.le_of_ble_eq_true rfl) (fun r_60 b1 H locs hw G => ?_)
                refine zEx1 hw ?_
                intro g_posts_55
                refine zCu5 ?_
                intro hbs9 h_56 h_57 h_58 hc_59
                clear hw
                subst hbs9
                have G : zS T A s.heap s [[zAr T 0 m_was 7 f_was], [zAr T 0 m_here 7 g_here_5], [zO11 mo m_all m_has i_size i_next i_where i_token i_number i_word i_wrong i_farCrossing m_read i_z0 i_crossings i_inns m_posts m_shut m_here j_steps_1 j_done_2 i_at i_gone m_was m_came m_seenAt m_rowWorth m_farBy m_used i_everywhere i_again0 i_d0 i_never i_firstCame i_longRun i_moved i_crowd i_l0 i_fitMany i_fitLeast i_fitMost m_fitPost m_fitEnd m_keptPosts i_x0], [zAr T 0 m_all 3952 f_all], [zAr T 0 m_posts 7 g_posts_55], [zAr T 0 m_shut 7 g_shut_4]] _ _ := G
                rcases hc_59 with ⟨rfl, h_61, h_62⟩ | ⟨rfl, h_63⟩
                · have h_61 : ¬ zTurn g_posts_30 g_shut_4 (zRo f_all i_z0) (nI ((rw_ / 8) % 8)) = -1 := h_61
                  have h_62 : 0 < (zRd f_all i_z0 (nI ((rw_ / 8) % 8))).toInt := h_62
                  have htu9 := gTu (n := i_inns) (w := (aTn (zWo f_all i_z0 i_inns) (aRs (zWo f_all i_z0 i_inns) (zPo f_all i_z0) 7) ((rw_ / 64) % 8))) hL hQ9 hS9 (by omega) hf9.2 hbi9 hd1
                  have hd2 : ∀ j, j < 7 → 0 < ((zWo f_all i_z0 i_inns) j).toInt → g_posts_55 j = aPo (zWo f_all i_z0 i_inns) (aTn (zWo f_all i_z0 i_inns) (aTn (zWo f_all i_z0 i_inns) (aRs (zWo f_all i_z0 i_inns) (zPo f_all i_z0) 7) ((rw_ / 64) % 8)) ((rw_ / 8) % 8)) j := by rw [h_58]; exact htu9.2
                  have hp2 : gPx (zWo f_all i_z0 i_inns) (aRs (zWo f_all i_z0 i_inns) (zPo f_all i_z0) 7) 2 (rw_ / 8) = (true, (aTn (zWo f_all i_z0 i_inns) (aTn (zWo f_all i_z0 i_inns) (aRs (zWo f_all i_z0 i_inns) (zPo f_all i_z0) 7) ((rw_ / 64) % 8)) ((rw_ / 8) % 8))) := gPx_t hp1 (by omega) rfl (by omega) hf9.2
                  have hQ9 := h_56
                  have hV9 := h_57
                  refine lv_pop hx hb dX12_gameBy_61 rfl ?_
                  refine lv_iinc (v := 0) (lv' := [(4, .int 0), (5, .int (nI ((rw_ / 8) % 8))), (0, .ref mo), (1, .int (nI rw_)), (2, .int 3), (3, .int c_)]) hx hb dX12_gameBy_62 hl (k := 1) rfl (by decide) (by decide) (zLvf_h rfl) (fun ls hl => ?_)
                  refine lv_goto (tgt := 9) hx hb dX12_gameBy_65 (by decide) ?_
                  refine lv_iload hx hb dX12_gameBy_9 (lv_at hl 0 rfl) ?_
                  refine lv_if_lt (tgt := 68) hx hb dX12_gameBy_11 (by decide) (fun q => absurd q (by decide)) (fun _ => ?_)
                  refine lv_iload_n hx hb dX12_gameBy_14 rfl (lv_at hl 3 rfl) ?_
                  refine lv_iconst (v := 3) hx hb dX12_gameBy_15 (by decide) ?_
                  refine lv_iload hx hb dX12_gameBy_16 (lv_at hl 0 rfl) ?_
                  refine lv_imul hx hb dX12_gameBy_18 ?_
                  refine lv_topi (fun y_64 ey_64 => ?_)
                  obtain rfl : y_64 = 0 := ey_64.trans (by decide)
                  refine lv_ishr hx hb dX12_gameBy_19 ?_
                  refine lv_bipush (v := 7) hx hb dX12_gameBy_20 (by decide) ?_
                  refine lv_iand hx hb dX12_gameBy_22 ?_
                  refine lv_topi (fun y_65 ey_65 => ?_)
                  obtain rfl : y_65 = nI (rw_ % 8) := ey_65.trans ((by first | rfl | (rw [pk_shrN (by omega) (0 &&& 31) 0 (by decide), aAn (by omega)] <;> exact congrArg nI (by first | omega | (rw [Nat.pow_zero, Nat.div_one]))) | (rw [pk_shrN (by omega) 0 0 (by decide), aAn (by omega)]) | (rw [pk_shrN (by omega) _ 0 (by decide), aAn (by omega)]; exact congrArg nI (by omega))))
                  have tD9 := nI_toInt (n := rw_ % 8) (by omega)
                  have nD9 := nI_n (n := rw_ % 8) (by omega)
                  refine lv_istore (lv' := [(5, .int (nI (rw_ % 8))), (4, .int 0), (0, .ref mo), (1, .int (nI rw_)), (2, .int 3), (3, .int c_)]) hx hb dX12_gameBy_23 hl (by decide) (zLvf_h rfl) (fun ls hl => ?_)
                  refine lv_iload hx hb dX12_gameBy_25 (lv_at hl 0 rfl) ?_
                  refine lv_bipush (v := 7) hx hb dX12_gameBy_27 (by decide) ?_
                  refine lv_icmp_ne (tgt := 35) hx hb dX12_gameBy_29 (by decide) (fun c_66 => ?_) (fun c_66 => ?_)
                  · have c_66n : ¬ rw_ % 8 = 7 := fun q => c_66 ((nI_eq (a := rw_ % 8) (b := 7) (by omega) (by omega)).mpr q)
                    refine lv_aload_n hx hb dX12_gameBy_35 rfl (lv_at hl 2 rfl) ?_
                    refine lv_iload hx hb dX12_gameBy_36 (lv_at hl 0 rfl) ?_
                    have ti_67 : (nI (rw_ % 8)).toInt = ((rw_ % 8 : Nat) : Int) := nI_toInt (by omega)
                    refine z_Vi (bc := [[zO11 mo m_all m_has i_size i_next i_where i_token i_number i_word i_wrong i_farCrossing m_read i_z0 i_crossings i_inns m_posts m_shut m_here j_steps_1 j_done_2 i_at i_gone m_was m_came m_seenAt m_rowWorth m_farBy m_used i_everywhere i_again0 i_d0 i_never i_firstCame i_longRun i_moved i_crowd i_l0 i_fitMany i_fitLeast i_fitMost m_fitPost m_fitEnd m_keptPosts i_x0]]) (br := [[zAr T 0 m_was 7 f_was], [zAr T 0 m_here 7 g_here_5], [zAr T 0 m_all 3952 f_all], [zAr T 0 m_posts 7 g_posts_55], [zAr T 0 m_shut 7 g_shut_4]]) (As := [.int (nI (rw_ % 8))]) (rest := []) C G (c_m_isCrossing l T mo m_all m_has i_size i_next i_where i_token i_number i_word i_wrong i_farCrossing m_read i_z0 i_crossings i_inns m_posts m_shut m_here j_steps_1 j_done_2 i_at i_gone m_was m_came m_seenAt m_rowWorth m_farBy m_used i_everywhere i_again0 i_d0 i_never i_firstCame i_longRun i_moved i_crowd i_l0 i_fitMany i_fitLeast i_fitMost m_fitPost m_fitEnd m_keptPosts i_x0 (nI (rw_ % 8)) (by first | with_reducible assumption | with_reducible rfl | omega | assumption | rfl | decide)) (kV_RX12_187 C.2.2.2.2 (Nat.le_of_ble_eq_true rfl) (Nat.le_of_ble_eq_true rfl)) [2] [2] rfl rfl (ci := 11) (qc := (RX12, TX12, 43)) rfl rfl (List.mem_flatten.mpr ⟨_, List.mem_of_getElem? (i := 0) rfl, List.mem_cons_self⟩) rfl rfl hl.1 dX12_gameBy_38 (Nat.le_of_ble_eq_true rfl) (Nat.le_of_ble_eq_true rfl) (fun r_69 b1 H locs hw G => ?_)
                    refine zAn2 hw ?_
                    intro hbs9 hc_68
                    clear hw
                    subst hbs9
                    have G : zS T A s.heap s [[zAr T 0 m_was 7 f_was], [zAr T 0 m_here 7 g_here_5], [zAr T 0 m_all 3952 f_all], [zAr T 0 m_posts 7 g_posts_55], [zAr T 0 m_shut 7 g_shut_4], [zO11 mo m_all m_has i_size i_next i_where i_token i_number i_word i_wrong i_farCrossing m_read i_z0 i_crossings i_inns m_posts m_shut m_here j_steps_1 j_done_2 i_at i_gone m_was m_came m_seenAt m_rowWorth m_farBy m_used i_everywhere i_again0 i_d0 i_never i_firstCame i_longRun i_moved i_crowd i_l0 i_fitMany i_fitLeast i_fitMost m_fitPost m_fitEnd m_keptPosts i_x0]] _ _ := G
                    rcases hc_68 with ⟨rfl, h_70, h_71⟩ | ⟨rfl, h_72⟩
                    · have h_70 : 0 ≤ (nI (rw_ % 8)).toInt := h_70
                      have h_71 : (nI (rw_ % 8)).toInt < i_crossings.toInt := h_71
                      refine lv_if_eq (tgt := 53) hx hb dX12_gameBy_41 (by decide) (fun q => absurd q (by decide)) (fun _ => ?_)
                      refine lv_aload_n hx hb dX12_gameBy_44 rfl (lv_at hl 2 rfl) ?_
                      refine lv_iload hx hb dX12_gameBy_45 (lv_at hl 0 rfl) ?_
                      have ti_73 : (nI (rw_ % 8)).toInt = ((rw_ % 8 : Nat) : Int) := nI_toInt (by omega)
                      refine z_Vi (bc := [[zO11 mo m_all m_has i_size i_next i_where i_token i_number i_word i_wrong i_farCrossing m_read i_z0 i_crossings i_inns m_posts m_shut m_here j_steps_1 j_done_2 i_at i_gone m_was m_came m_seenAt m_rowWorth m_farBy m_used i_everywhere i_again0 i_d0 i_never i_firstCame i_longRun i_moved i_crowd i_l0 i_fitMany i_fitLeast i_fitMost m_fitPost m_fitEnd m_keptPosts i_x0], [zAr T 0 m_all 3952 f_all]]) (br := [[zAr T 0 m_was 7 f_was], [zAr T 0 m_here 7 g_here_5], [zAr T 0 m_posts 7 g_posts_55], [zAr T 0 m_shut 7 g_shut_4]]) (As := [.int (nI (rw_ % 8))]) (rest := []) C G (c_m_isFree l T mo m_all m_has i_size i_next i_where i_token i_number i_word i_wrong i_farCrossing m_read i_z0 i_crossings i_inns m_posts m_shut m_here j_steps_1 j_done_2 i_at i_gone m_was m_came m_seenAt m_rowWorth m_farBy m_used i_everywhere i_again0 i_d0 i_never i_firstCame i_longRun i_moved i_crowd i_l0 i_fitMany i_fitLeast i_fitMost m_fitPost m_fitEnd m_keptPosts i_x0 f_all (nI (rw_ % 8)) (by first | with_reducible assumption | with_reducible rfl | omega | assumption | rfl | decide) (by first | with_reducible assumption | with_reducible rfl | omega | assumption | rfl | decide) (by first | with_reducible assumption | with_reducible rfl | omega | assumption | rfl | decide)) (kV_RX12_223 C.2.2.2.2 (Nat.le_of_ble_eq_true rfl) (Nat.le_of_ble_eq_true rfl)) [5, 2] [2, 2] rfl rfl (ci := 11) (qc := (RX12, TX12, 43)) rfl rfl (List.mem_flatten.mpr ⟨_, List.mem_of_getElem? (i := 0) rfl, List.mem_cons_self⟩) rfl rfl hl.1 dX12_gameBy_47 (Nat.le_of_ble_eq_true rfl) (Nat.le_of_ble_eq_true rfl) (fun r_75 b1 H locs hw G => ?_)
                      refine zAn2 hw ?_
                      intro hbs9 hc_74
                      clear hw
                      subst hbs9
                      have G : zS T A s.heap s [[zAr T 0 m_was 7 f_was], [zAr T 0 m_here 7 g_here_5], [zAr T 0 m_posts 7 g_posts_55], [zAr T 0 m_shut 7 g_shut_4], [zO11 mo m_all m_has i_size i_next i_where i_token i_number i_word i_wrong i_farCrossing m_read i_z0 i_crossings i_inns m_posts m_shut m_here j_steps_1 j_done_2 i_at i_gone m_was m_came m_seenAt m_rowWorth m_farBy m_used i_everywhere i_again0 i_d0 i_never i_firstCame i_longRun i_moved i_crowd i_l0 i_fitMany i_fitLeast i_fitMost m_fitPost m_fitEnd m_keptPosts i_x0], [zAr T 0 m_all 3952 f_all]] _ _ := G
                      rcases hc_74 with ⟨rfl, h_76, h_77⟩ | ⟨rfl, h_78⟩
                      · have h_76 : ¬ zInn i_inns (nI (rw_ % 8)) := h_76
                        have h_77 : 0 < (zRd f_all i_z0 (nI (rw_ % 8))).toInt := h_77
                        have hf9 := aWo_1 (f := f_all) (z := i_z0) (n := i_inns) (c := nI (rw_ % 8)) (by first | with_reducible assumption | assumption) (by first | with_reducible assumption | assumption) (by omega) (by omega)
                        rw [nD9] at hf9
                        have hbi9 : ¬ zBit i_inns (nI (rw_ % 8)) = 1 := h_76
                        refine lv_if_ne (tgt := 55) hx hb dX12_gameBy_50 (by decide) (fun _ => ?_) (fun q => absurd q (by decide))
                        refine lv_aload_n hx hb dX12_gameBy_55 rfl (lv_at hl 2 rfl) ?_
                        refine lv_iload hx hb dX12_gameBy_56 (lv_at hl 0 rfl) ?_
                        have ti_79 : (nI (rw_ % 8)).toInt = ((rw_ % 8 : Nat) : Int) := nI_toInt (by omega)
                        refine z_Vi (bc := [[zO11 mo m_all m_has i_size i_next i_where i_token i_number i_word i_wrong i_farCrossing m_read i_z0 i_crossings i_inns m_posts m_shut m_here j_steps_1 j_done_2 i_at i_gone m_was m_came m_seenAt m_rowWorth m_farBy m_used i_everywhere i_again0 i_d0 i_never i_firstCame i_longRun i_moved i_crowd i_l0 i_fitMany i_fitLeast i_fitMost m_fitPost m_fitEnd m_keptPosts i_x0], [zAr T 0 m_all 3952 f_all], [zAr T 0 m_posts 7 g_posts_55], [zAr T 0 m_shut 7 g_shut_4]]) (br := [[zAr T 0 m_was 7 f_was], [zAr T 0 m_here 7 g_here_5]]) (As := [.int (nI (rw_ % 8))]) (rest := []) C G (c_fm_turns l T mo m_all m_has i_size i_next i_where i_token i_number i_word i_wrong i_farCrossing m_read i_z0 i_crossings i_inns m_posts m_shut m_here j_steps_1 j_done_2 i_at i_gone m_was m_came m_seenAt m_rowWorth m_farBy m_used i_everywhere i_again0 i_d0 i_never i_firstCame i_longRun i_moved i_crowd i_l0 i_fitMany i_fitLeast i_fitMost m_fitPost m_fitEnd m_keptPosts i_x0 f_all g_posts_55 g_shut_4 (nI (rw_ % 8)) (by first | with_reducible assumption | with_reducible rfl | omega | assumption | rfl | decide) (by first | with_reducible assumption | with_reducible rfl | omega | assumption | rfl | decide) (by first | with_reducible assumption | with_reducible rfl | omega | assumption | rfl | decide) hV9 hQ9) (kV_RX12_205 C.2.2.2.2 (Nat.le_of_ble_eq_true rfl) (Nat.le_of_ble_eq_true rfl)) [4, 5, 2, 3] [2, 0, 0, 0] rfl rfl (ci := 11) (qc := (RX12, TX12, 43)) rfl rfl (List.mem_flatten.mpr ⟨_, List.mem_of_getElem? (i := 0) rfl, List.mem_cons_self⟩) rfl rfl hl.1 dX12_gameBy_58 (Nat.le_of_ble_eq_true rfl) (Nat.le_of_ble_eq_true rfl) (fun r_85 b1 H locs hw G => ?_)
                        refine zEx1 hw ?_
                        intro g_posts_80
                        refine zCu5 ?_
                        intro hbs9 h_81 h_82 h_83 hc_84
                        clear hw
                        subst hbs9
                        have G : zS T A s.heap s [[zAr T 0 m_was 7 f_was], [zAr T 0 m_here 7 g_here_5], [zO11 mo m_all m_has i_size i_next i_where i_token i_number i_word i_wrong i_farCrossing m_read i_z0 i_crossings i_inns m_posts m_shut m_here j_steps_1 j_done_2 i_at i_gone m_was m_came m_seenAt m_rowWorth m_farBy m_used i_everywhere i_again0 i_d0 i_never i_firstCame i_longRun i_moved i_crowd i_l0 i_fitMany i_fitLeast i_fitMost m_fitPost m_fitEnd m_keptPosts i_x0], [zAr T 0 m_all 3952 f_all], [zAr T 0 m_posts 7 g_posts_80], [zAr T 0 m_shut 7 g_shut_4]] _ _ := G
                        rcases hc_84 with ⟨rfl, h_86, h_87⟩ | ⟨rfl, h_88⟩
                        · have h_86 : ¬ zTurn g_posts_55 g_shut_4 (zRo f_all i_z0) (nI (rw_ % 8)) = -1 := h_86
                          have h_87 : 0 < (zRd f_all i_z0 (nI (rw_ % 8))).toInt := h_87
                          have htu9 := gTu (n := i_inns) (w := (aTn (zWo f_all i_z0 i_inns) (aTn (zWo f_all i_z0 i_inns) (aRs (zWo f_all i_z0 i_inns) (zPo f_all i_z0) 7) ((rw_ / 64) % 8)) ((rw_ / 8) % 8))) hL hQ9 hS9 (by omega) hf9.2 hbi9 hd2
                          have hd3 : ∀ j, j < 7 → 0 < ((zWo f_all i_z0 i_inns) j).toInt → g_posts_80 j = aPo (zWo f_all i_z0 i_inns) (aTn (zWo f_all i_z0 i_inns) (aTn (zWo f_all i_z0 i_inns) (aTn (zWo f_all i_z0 i_inns) (aRs (zWo f_all i_z0 i_inns) (zPo f_all i_z0) 7) ((rw_ / 64) % 8)) ((rw_ / 8) % 8)) (rw_ % 8)) j := by rw [h_83]; exact htu9.2
                          have hp3 : gPx (zWo f_all i_z0 i_inns) (aRs (zWo f_all i_z0 i_inns) (zPo f_all i_z0) 7) 3 rw_ = (true, (aTn (zWo f_all i_z0 i_inns) (aTn (zWo f_all i_z0 i_inns) (aTn (zWo f_all i_z0 i_inns) (aRs (zWo f_all i_z0 i_inns) (zPo f_all i_z0) 7) ((rw_ / 64) % 8)) ((rw_ / 8) % 8)) (rw_ % 8))) := gPx_t hp2 (by omega) rfl (by omega) hf9.2
                          have hQ9 := h_81
                          have hV9 := h_82
                          refine lv_pop hx hb dX12_gameBy_61 rfl ?_
                          refine lv_iinc (v := (-1)) (lv' := [(4, .int (-1)), (5, .int (nI (rw_ % 8))), (0, .ref mo), (1, .int (nI rw_)), (2, .int 3), (3, .int c_)]) hx hb dX12_gameBy_62 hl (k := 1) rfl (by decide) (by decide) (zLvf_h rfl) (fun ls hl => ?_)
                          refine lv_goto (tgt := 9) hx hb dX12_gameBy_65 (by decide) ?_
                          refine lv_iload hx hb dX12_gameBy_9 (lv_at hl 0 rfl) ?_
                          refine lv_if_lt (tgt := 68) hx hb dX12_gameBy_11 (by decide) (fun _ => ?_) (fun q => absurd (by decide) q)
                          refine lv_aload_n hx hb dX12_gameBy_68 rfl (lv_at hl 2 rfl) ?_
                          refine lv_iload_n hx hb dX12_gameBy_69 rfl (lv_at hl 5 rfl) ?_
                          refine z_Vi (bc := [[zO11 mo m_all m_has i_size i_next i_where i_token i_number i_word i_wrong i_farCrossing m_read i_z0 i_crossings i_inns m_posts m_shut m_here j_steps_1 j_done_2 i_at i_gone m_was m_came m_seenAt m_rowWorth m_farBy m_used i_everywhere i_again0 i_d0 i_never i_firstCame i_longRun i_moved i_crowd i_l0 i_fitMany i_fitLeast i_fitMost m_fitPost m_fitEnd m_keptPosts i_x0], [zAr T 0 m_all 3952 f_all], [zAr T 0 m_posts 7 g_posts_80], [zAr T 0 m_shut 7 g_shut_4], [zAr T 0 m_was 7 f_was]]) (br := [[zAr T 0 m_here 7 g_here_5]]) (As := [.int c_]) (rest := []) C G (c_fm_walks l T mo m_all m_has i_size i_next i_where i_token i_number i_word i_wrong i_farCrossing m_read i_z0 i_crossings i_inns m_posts m_shut m_here j_steps_1 j_done_2 i_at i_gone m_was m_came m_seenAt m_rowWorth m_farBy m_used i_everywhere i_again0 i_d0 i_never i_firstCame i_longRun i_moved i_crowd i_l0 i_fitMany i_fitLeast i_fitMost m_fitPost m_fitEnd m_keptPosts i_x0 f_all g_posts_80 g_shut_4 f_was c_ (by first | with_reducible assumption | with_reducible rfl | omega | assumption | rfl | decide) (by first | with_reducible assumption | with_reducible rfl | omega | assumption | rfl | decide) (by first | with_reducible assumption | with_reducible rfl | omega | assumption | rfl | decide) hV9 hQ9) (kV_RX12_217 C.2.2.2.2 (Nat.le_of_ble_eq_true rfl) (Nat.le_of_ble_eq_true rfl)) [2, 3, 4, 5, 0] [0, 1, 0, 0, 0] rfl rfl (ci := 11) (qc := (RX12, TX12, 43)) rfl rfl (List.mem_flatten.mpr ⟨_, List.mem_of_getElem? (i := 0) rfl, List.mem_cons_self⟩) rfl rfl hl.1 dX12_gameBy_70 (Nat.le_of_ble_eq_true rfl) (Nat.le_of_ble_eq_true rfl) (fun r_103 b1 H locs hw G => ?_)
                          refine zEx4 hw ?_
                          intro j_at_89 j_gone_90 g_posts_91 g_was_92
                          refine zCu11 ?_
                          intro hbs9 h_93 h_94 h_95 h_96 h_97 h_98 h_99 h_100 h_101 h_102
                          clear hw
                          subst hbs9
                          have G : zS T A s.heap s [[zAr T 0 m_here 7 g_here_5], [zO11 mo m_all m_has i_size i_next i_where i_token i_number i_word i_wrong i_farCrossing m_read i_z0 i_crossings i_inns m_posts m_shut m_here j_steps_1 j_done_2 j_at_89 j_gone_90 m_was m_came m_seenAt m_rowWorth m_farBy m_used i_everywhere i_again0 i_d0 i_never i_firstCame i_longRun i_moved i_crowd i_l0 i_fitMany i_fitLeast i_fitMost m_fitPost m_fitEnd m_keptPosts i_x0], [zAr T 0 m_all 3952 f_all], [zAr T 0 m_posts 7 g_posts_91], [zAr T 0 m_shut 7 g_shut_4], [zAr T 0 m_was 7 g_was_92]] _ _ := G
                          replace h_98 : zHd ((r_103 = 1 ∧ zBit i_inns j_at_89 = 1 ∨ r_103 = 0 ∧ ¬ zBit i_inns j_at_89 = 1)) := h_98
                          have hRw := rWalkF (n := i_inns) (c := c_) (w := (aTn (zWo f_all i_z0 i_inns) (aTn (zWo f_all i_z0 i_inns) (aTn (zWo f_all i_z0 i_inns) (aRs (zWo f_all i_z0 i_inns) (zPo f_all i_z0) 7) ((rw_ / 64) % 8)) ((rw_ / 8) % 8)) (rw_ % 8))) hL hQ9 hS9 hd3 hc0 hc6
                          have hat9 : j_at_89 = rWh (zWo f_all i_z0 i_inns) (zLo f_all i_z0) (aTn (zWo f_all i_z0 i_inns) (aTn (zWo f_all i_z0 i_inns) (aTn (zWo f_all i_z0 i_inns) (aRs (zWo f_all i_z0 i_inns) (zPo f_all i_z0) 7) ((rw_ / 64) % 8)) ((rw_ / 8) % 8)) (rw_ % 8)) c_ := h_100.trans hRw.1
                          have hgo9 : j_gone_90 = nI (rStp (zWo f_all i_z0 i_inns) (zLo f_all i_z0) (aTn (zWo f_all i_z0 i_inns) (aTn (zWo f_all i_z0 i_inns) (aTn (zWo f_all i_z0 i_inns) (aRs (zWo f_all i_z0 i_inns) (zPo f_all i_z0) 7) ((rw_ / 64) % 8)) ((rw_ / 8) % 8)) (rw_ % 8)) c_) := by rw [h_101, hRw.2.1]
                          have hgl9 : rStp (zWo f_all i_z0 i_inns) (zLo f_all i_z0) (aTn (zWo f_all i_z0 i_inns) (aTn (zWo f_all i_z0 i_inns) (aTn (zWo f_all i_z0 i_inns) (aRs (zWo f_all i_z0 i_inns) (zPo f_all i_z0) 7) ((rw_ / 64) % 8)) ((rw_ / 8) % 8)) (rw_ % 8)) c_ ≤ 499 := rStp_le
                          refine lv_if_eq (tgt := 83) hx hb dX12_gameBy_73 (by decide) (fun c_104 => ?_) (fun c_104 => ?_)
                          · have c_104n : r_103.toInt = (0 : Int) := (fa_eq _ _).mp c_104
                            refine lv_sipush (v := 500) hx hb dX12_gameBy_83 (by decide) ?_
                            have G := G.sub (bs' := [[zO11 mo m_all m_has i_size i_next i_where i_token i_number i_word i_wrong i_farCrossing m_read i_z0 i_crossings i_inns m_posts m_shut m_here j_steps_1 j_done_2 j_at_89 j_gone_90 m_was m_came m_seenAt m_rowWorth m_farBy m_used i_everywhere i_again0 i_d0 i_never i_firstCame i_longRun i_moved i_crowd i_l0 i_fitMany i_fitLeast i_fitMost m_fitPost m_fitEnd m_keptPosts i_x0], [zAr T 0 m_all 3952 f_all], [zAr T 0 m_posts 7 g_posts_91], [zAr T 0 m_shut 7 g_shut_4], [zAr T 0 m_here 7 g_here_5], [zAr T 0 m_was 7 g_was_92]]) [1, 2, 3, 4, 0, 5] rfl
                            exact z_back hQz_ (z_iret C hr hlocks G (Nat.le_of_ble_eq_true rfl) (Nat.le_of_ble_eq_true rfl) dX12_gameBy_86 ⟨j_steps_1, j_done_2, j_at_89, j_gone_90, g_posts_91, g_shut_4, g_here_5, g_was_92, rfl, (by unfold gRw; rw [hp3, if_pos rfl]; show _ = ((gSn (zWo f_all i_z0 i_inns) (zLo f_all i_z0) i_inns (aTn (zWo f_all i_z0 i_inns) (aTn (zWo f_all i_z0 i_inns) (aTn (zWo f_all i_z0 i_inns) (aRs (zWo f_all i_z0 i_inns) (zPo f_all i_z0) 7) ((rw_ / 64) % 8)) ((rw_ / 8) % 8)) (rw_ % 8)) c_ : Nat) : Int); unfold gSn; rw [if_neg (by rw [← hat9]; rcases h_98 with e9 | e9 <;> first | exact e9.2 | (exfalso; have q9 := e9.1; first | omega | (have e7 := congrArg Int32.toInt q9; have e6 : (0 : Int32).toInt = 0 := rfl; have e5 : (1 : Int32).toInt = 1 := rfl; omega)))]; rfl)⟩)
                          · have c_104n : ¬ r_103.toInt = (0 : Int) := fun q => c_104 ((fa_eq _ _).mpr q)
                            refine lv_aload_n hx hb dX12_gameBy_76 rfl (lv_at hl 2 rfl) ?_
                            refine z_get C G clX12 1 rfl 20 (by decide) m_fl_RX12_208 rfl dX12_gameBy_77 ?_
                            refine lv_goto (tgt := 86) hx hb dX12_gameBy_80 (by decide) ?_
                            have G := G.sub (bs' := [[zO11 mo m_all m_has i_size i_next i_where i_token i_number i_word i_wrong i_farCrossing m_read i_z0 i_crossings i_inns m_posts m_shut m_here j_steps_1 j_done_2 j_at_89 j_gone_90 m_was m_came m_seenAt m_rowWorth m_farBy m_used i_everywhere i_again0 i_d0 i_never i_firstCame i_longRun i_moved i_crowd i_l0 i_fitMany i_fitLeast i_fitMost m_fitPost m_fitEnd m_keptPosts i_x0], [zAr T 0 m_all 3952 f_all], [zAr T 0 m_posts 7 g_posts_91], [zAr T 0 m_shut 7 g_shut_4], [zAr T 0 m_here 7 g_here_5], [zAr T 0 m_was 7 g_was_92]]) [1, 2, 3, 4, 0, 5] rfl
                            exact z_back hQz_ (z_iret C hr hlocks G (Nat.le_of_ble_eq_true rfl) (Nat.le_of_ble_eq_true rfl) dX12_gameBy_86 ⟨j_steps_1, j_done_2, j_at_89, j_gone_90, g_posts_91, g_shut_4, g_here_5, g_was_92, rfl, (by unfold gRw; rw [hp3, if_pos rfl]; show _ = ((gSn (zWo f_all i_z0 i_inns) (zLo f_all i_z0) i_inns (aTn (zWo f_all i_z0 i_inns) (aTn (zWo f_all i_z0 i_inns) (aTn (zWo f_all i_z0 i_inns) (aRs (zWo f_all i_z0 i_inns) (zPo f_all i_z0) 7) ((rw_ / 64) % 8)) ((rw_ / 8) % 8)) (rw_ % 8)) c_ : Nat) : Int); unfold gSn; rw [if_pos (by rw [← hat9]; rcases h_98 with e9 | e9 <;> first | exact e9.2 | (exfalso; have q9 := e9.1; first | omega | (have e7 := congrArg Int32.toInt q9; have e6 : (0 : Int32).toInt = 0 := rfl; have e5 : (1 : Int32).toInt = 1 := rfl; omega))), hgo9, nI_toInt (by omega)])⟩)
                        · have h_88 : zTurn g_posts_55 g_shut_4 (zRo f_all i_z0) (nI (rw_ % 8)) = -1 := h_88
                          have htu9 := gTu (n := i_inns) (w := (aTn (zWo f_all i_z0 i_inns) (aTn (zWo f_all i_z0 i_inns) (aRs (zWo f_all i_z0 i_inns) (zPo f_all i_z0) 7) ((rw_ / 64) % 8)) ((rw_ / 8) % 8))) hL hQ9 hS9 (by omega) hf9.2 hbi9 hd2
                          exact absurd h_88 htu9.1
                      · have h_78 : (zInn i_inns (nI (rw_ % 8)) ∨ (zRd f_all i_z0 (nI (rw_ % 8))).toInt ≤ 0) := h_78
                        have hf9 := aWo_0 (f := f_all) (z := i_z0) (n := i_inns) (c := nI (rw_ % 8)) (by first | with_reducible assumption | assumption) (by omega) (by omega)
                        rw [nD9] at hf9
                        have hno9 : ¬ 0 < ((zWo f_all i_z0 i_inns) (rw_ % 8)).toInt := by omega
                        have hx3 : (gPx (zWo f_all i_z0 i_inns) (aRs (zWo f_all i_z0 i_inns) (zPo f_all i_z0) 7) 3 rw_).1 = false := gPx_x (c := rw_ % 8) rfl (by omega) hno9
                        refine lv_if_ne (tgt := 55) hx hb dX12_gameBy_50 (by decide) (fun q => absurd (by decide) q) (fun _ => ?_)
                        refine lv_iconst (v := (-1)) hx hb dX12_gameBy_53 (by decide) ?_
                        have G := G.sub (bs' := [[zO11 mo m_all m_has i_size i_next i_where i_token i_number i_word i_wrong i_farCrossing m_read i_z0 i_crossings i_inns m_posts m_shut m_here j_steps_1 j_done_2 i_at i_gone m_was m_came m_seenAt m_rowWorth m_farBy m_used i_everywhere i_again0 i_d0 i_never i_firstCame i_longRun i_moved i_crowd i_l0 i_fitMany i_fitLeast i_fitMost m_fitPost m_fitEnd m_keptPosts i_x0], [zAr T 0 m_all 3952 f_all], [zAr T 0 m_posts 7 g_posts_55], [zAr T 0 m_shut 7 g_shut_4], [zAr T 0 m_here 7 g_here_5], [zAr T 0 m_was 7 f_was]]) [4, 5, 2, 3, 1, 0] rfl
                        exact z_back hQz_ (z_iret C hr hlocks G (Nat.le_of_ble_eq_true rfl) (Nat.le_of_ble_eq_true rfl) dX12_gameBy_54 ⟨j_steps_1, j_done_2, i_at, i_gone, g_posts_55, g_shut_4, g_here_5, f_was, rfl, (by unfold gRw; rw [if_neg (by rw [hx3]; exact Bool.false_ne_true)]; rfl)⟩)
                    · have h_72 : ((nI (rw_ % 8)).toInt < 0 ∨ i_crossings.toInt ≤ (nI (rw_ % 8)).toInt) := h_72
                      have hno9 : ¬ 0 < ((zWo f_all i_z0 i_inns) (rw_ % 8)).toInt := fun q9 => by have q8 := zVZ_lt hZ (show rw_ % 8 < 7 by omega) q9; omega
                      have hx3 : (gPx (zWo f_all i_z0 i_inns) (aRs (zWo f_all i_z0 i_inns) (zPo f_all i_z0) 7) 3 rw_).1 = false := gPx_x (c := rw_ % 8) rfl (by omega) hno9
                      refine lv_if_eq (tgt := 53) hx hb dX12_gameBy_41 (by decide) (fun _ => ?_) (fun q => absurd (by decide) q)
                      refine lv_iconst (v := (-1)) hx hb dX12_gameBy_53 (by decide) ?_
                      have G := G.sub (bs' := [[zO11 mo m_all m_has i_size i_next i_where i_token i_number i_word i_wrong i_farCrossing m_read i_z0 i_crossings i_inns m_posts m_shut m_here j_steps_1 j_done_2 i_at i_gone m_was m_came m_seenAt m_rowWorth m_farBy m_used i_everywhere i_again0 i_d0 i_never i_firstCame i_longRun i_moved i_crowd i_l0 i_fitMany i_fitLeast i_fitMost m_fitPost m_fitEnd m_keptPosts i_x0], [zAr T 0 m_all 3952 f_all], [zAr T 0 m_posts 7 g_posts_55], [zAr T 0 m_shut 7 g_shut_4], [zAr T 0 m_here 7 g_here_5], [zAr T 0 m_was 7 f_was]]) [5, 2, 3, 4, 1, 0] rfl
                      exact z_back hQz_ (z_iret C hr hlocks G (Nat.le_of_ble_eq_true rfl) (Nat.le_of_ble_eq_true rfl) dX12_gameBy_54 ⟨j_steps_1, j_done_2, i_at, i_gone, g_posts_55, g_shut_4, g_here_5, f_was, rfl, (by unfold gRw; rw [if_neg (by rw [hx3]; exact Bool.false_ne_true)]; rfl)⟩)
                  · have c_66n : rw_ % 8 = 7 := (nI_eq (a := rw_ % 8) (b := 7) (by omega) (by omega)).mp c_66
                    have hp3 : gPx (zWo f_all i_z0 i_inns) (aRs (zWo f_all i_z0 i_inns) (zPo f_all i_z0) 7) 3 rw_ = (true, (aTn (zWo f_all i_z0 i_inns) (aTn (zWo f_all i_z0 i_inns) (aRs (zWo f_all i_z0 i_inns) (zPo f_all i_z0) 7) ((rw_ / 64) % 8)) ((rw_ / 8) % 8))) := gPx_7 hp2 (by omega) (by omega)
                    have hd3 := hd2
                    refine lv_goto (tgt := 62) hx hb dX12_gameBy_32 (by decide) ?_
                    refine lv_iinc (v := (-1)) (lv' := [(4, .int (-1)), (5, .int (nI (rw_ % 8))), (0, .ref mo), (1, .int (nI rw_)), (2, .int 3), (3, .int c_)]) hx hb dX12_gameBy_62 hl (k := 1) rfl (by decide) (by decide) (zLvf_h rfl) (fun ls hl => ?_)
                    refine lv_goto (tgt := 9) hx hb dX12_gameBy_65 (by decide) ?_
                    refine lv_iload hx hb dX12_gameBy_9 (lv_at hl 0 rfl) ?_
                    refine lv_if_lt (tgt := 68) hx hb dX12_gameBy_11 (by decide) (fun _ => ?_) (fun q => absurd (by decide) q)
                    refine lv_aload_n hx hb dX12_gameBy_68 rfl (lv_at hl 2 rfl) ?_
                    refine lv_iload_n hx hb dX12_gameBy_69 rfl (lv_at hl 5 rfl) ?_
                    refine z_Vi (bc := [[zO11 mo m_all m_has i_size i_next i_where i_token i_number i_word i_wrong i_farCrossing m_read i_z0 i_crossings i_inns m_posts m_shut m_here j_steps_1 j_done_2 i_at i_gone m_was m_came m_seenAt m_rowWorth m_farBy m_used i_everywhere i_again0 i_d0 i_never i_firstCame i_longRun i_moved i_crowd i_l0 i_fitMany i_fitLeast i_fitMost m_fitPost m_fitEnd m_keptPosts i_x0], [zAr T 0 m_all 3952 f_all], [zAr T 0 m_posts 7 g_posts_55], [zAr T 0 m_shut 7 g_shut_4], [zAr T 0 m_was 7 f_was]]) (br := [[zAr T 0 m_here 7 g_here_5]]) (As := [.int c_]) (rest := []) C G (c_fm_walks l T mo m_all m_has i_size i_next i_where i_token i_number i_word i_wrong i_farCrossing m_read i_z0 i_crossings i_inns m_posts m_shut m_here j_steps_1 j_done_2 i_at i_gone m_was m_came m_seenAt m_rowWorth m_farBy m_used i_everywhere i_again0 i_d0 i_never i_firstCame i_longRun i_moved i_crowd i_l0 i_fitMany i_fitLeast i_fitMost m_fitPost m_fitEnd m_keptPosts i_x0 f_all g_posts_55 g_shut_4 f_was c_ (by first | with_reducible assumption | with_reducible rfl | omega | assumption | rfl | decide) (by first | with_reducible assumption | with_reducible rfl | omega | assumption | rfl | decide) (by first | with_reducible assumption | with_reducible rfl | omega | assumption | rfl | decide) hV9 hQ9) (kV_RX12_217 C.2.2.2.2 (Nat.le_of_ble_eq_true rfl) (Nat.le_of_ble_eq_true rfl)) [2, 3, 4, 5, 0] [0, 1, 0, 0, 0] rfl rfl (ci := 11) (qc := (RX12, TX12, 43)) rfl rfl (List.mem_flatten.mpr ⟨_, List.mem_of_getElem? (i := 0) rfl, List.mem_cons_self⟩) rfl rfl hl.1 dX12_gameBy_70 (Nat.le_of_ble_eq_true rfl) (Nat.le_of_ble_eq_true rfl) (fun r_119 b1 H locs hw G => ?_)
                    refine zEx4 hw ?_
                    intro j_at_105 j_gone_106 g_posts_107 g_was_108
                    refine zCu11 ?_
                    intro hbs9 h_109 h_110 h_111 h_112 h_113 h_114 h_115 h_116 h_117 h_118
                    clear hw
                    subst hbs9
                    have G : zS T A s.heap s [[zAr T 0 m_here 7 g_here_5], [zO11 mo m_all m_has i_size i_next i_where i_token i_number i_word i_wrong i_farCrossing m_read i_z0 i_crossings i_inns m_posts m_shut m_here j_steps_1 j_done_2 j_at_105 j_gone_106 m_was m_came m_seenAt m_rowWorth m_farBy m_used i_everywhere i_again0 i_d0 i_never i_firstCame i_longRun i_moved i_crowd i_l0 i_fitMany i_fitLeast i_fitMost m_fitPost m_fitEnd m_keptPosts i_x0], [zAr T 0 m_all 3952 f_all], [zAr T 0 m_posts 7 g_posts_107], [zAr T 0 m_shut 7 g_shut_4], [zAr T 0 m_was 7 g_was_108]] _ _ := G
                    replace h_114 : zHd ((r_119 = 1 ∧ zBit i_inns j_at_105 = 1 ∨ r_119 = 0 ∧ ¬ zBit i_inns j_at_105 = 1)) := h_114
                    have hRw := rWalkF (n := i_inns) (c := c_) (w := (aTn (zWo f_all i_z0 i_inns) (aTn (zWo f_all i_z0 i_inns) (aRs (zWo f_all i_z0 i_inns) (zPo f_all i_z0) 7) ((rw_ / 64) % 8)) ((rw_ / 8) % 8))) hL hQ9 hS9 hd3 hc0 hc6
                    have hat9 : j_at_105 = rWh (zWo f_all i_z0 i_inns) (zLo f_all i_z0) (aTn (zWo f_all i_z0 i_inns) (aTn (zWo f_all i_z0 i_inns) (aRs (zWo f_all i_z0 i_inns) (zPo f_all i_z0) 7) ((rw_ / 64) % 8)) ((rw_ / 8) % 8)) c_ := h_116.trans hRw.1
                    have hgo9 : j_gone_106 = nI (rStp (zWo f_all i_z0 i_inns) (zLo f_all i_z0) (aTn (zWo f_all i_z0 i_inns) (aTn (zWo f_all i_z0 i_inns) (aRs (zWo f_all i_z0 i_inns) (zPo f_all i_z0) 7) ((rw_ / 64) % 8)) ((rw_ / 8) % 8)) c_) := by rw [h_117, hRw.2.1]
                    have hgl9 : rStp (zWo f_all i_z0 i_inns) (zLo f_all i_z0) (aTn (zWo f_all i_z0 i_inns) (aTn (zWo f_all i_z0 i_inns) (aRs (zWo f_all i_z0 i_inns) (zPo f_all i_z0) 7) ((rw_ / 64) % 8)) ((rw_ / 8) % 8)) c_ ≤ 499 := rStp_le
                    refine lv_if_eq (tgt := 83) hx hb dX12_gameBy_73 (by decide) (fun c_120 => ?_) (fun c_120 => ?_)
                    · have c_120n : r_119.toInt = (0 : Int) := (fa_eq _ _).mp c_120
                      refine lv_sipush (v := 500) hx hb dX12_gameBy_83 (by decide) ?_
                      have G := G.sub (bs' := [[zO11 mo m_all m_has i_size i_next i_where i_token i_number i_word i_wrong i_farCrossing m_read i_z0 i_crossings i_inns m_posts m_shut m_here j_steps_1 j_done_2 j_at_105 j_gone_106 m_was m_came m_seenAt m_rowWorth m_farBy m_used i_everywhere i_again0 i_d0 i_never i_firstCame i_longRun i_moved i_crowd i_l0 i_fitMany i_fitLeast i_fitMost m_fitPost m_fitEnd m_keptPosts i_x0], [zAr T 0 m_all 3952 f_all], [zAr T 0 m_posts 7 g_posts_107], [zAr T 0 m_shut 7 g_shut_4], [zAr T 0 m_here 7 g_here_5], [zAr T 0 m_was 7 g_was_108]]) [1, 2, 3, 4, 0, 5] rfl
                      exact z_back hQz_ (z_iret C hr hlocks G (Nat.le_of_ble_eq_true rfl) (Nat.le_of_ble_eq_true rfl) dX12_gameBy_86 ⟨j_steps_1, j_done_2, j_at_105, j_gone_106, g_posts_107, g_shut_4, g_here_5, g_was_108, rfl, (by unfold gRw; rw [hp3, if_pos rfl]; show _ = ((gSn (zWo f_all i_z0 i_inns) (zLo f_all i_z0) i_inns (aTn (zWo f_all i_z0 i_inns) (aTn (zWo f_all i_z0 i_inns) (aRs (zWo f_all i_z0 i_inns) (zPo f_all i_z0) 7) ((rw_ / 64) % 8)) ((rw_ / 8) % 8)) c_ : Nat) : Int); unfold gSn; rw [if_neg (by rw [← hat9]; rcases h_114 with e9 | e9 <;> first | exact e9.2 | (exfalso; have q9 := e9.1; first | omega | (have e7 := congrArg Int32.toInt q9; have e6 : (0 : Int32).toInt = 0 := rfl; have e5 : (1 : Int32).toInt = 1 := rfl; omega)))]; rfl)⟩)
                    · have c_120n : ¬ r_119.toInt = (0 : Int) := fun q => c_120 ((fa_eq _ _).mpr q)
                      refine lv_aload_n hx hb dX12_gameBy_76 rfl (lv_at hl 2 rfl) ?_
                      refine z_get C G clX12 1 rfl 20 (by decide) m_fl_RX12_208 rfl dX12_gameBy_77 ?_
                      refine lv_goto (tgt := 86) hx hb dX12_gameBy_80 (by decide) ?_
                      have G := G.sub (bs' := [[zO11 mo m_all m_has i_size i_next i_where i_token i_number i_word i_wrong i_farCrossing m_read i_z0 i_crossings i_inns m_posts m_shut m_here j_steps_1 j_done_2 j_at_105 j_gone_106 m_was m_came m_seenAt m_rowWorth m_farBy m_used i_everywhere i_again0 i_d0 i_never i_firstCame i_longRun i_moved i_crowd i_l0 i_fitMany i_fitLeast i_fitMost m_fitPost m_fitEnd m_keptPosts i_x0], [zAr T 0 m_all 3952 f_all], [zAr T 0 m_posts 7 g_posts_107], [zAr T 0 m_shut 7 g_shut_4], [zAr T 0 m_here 7 g_here_5], [zAr T 0 m_was 7 g_was_108]]) [1, 2, 3, 4, 0, 5] rfl
                      exact z_back hQz_ (z_iret C hr hlocks G (Nat.le_of_ble_eq_true rfl) (Nat.le_of_ble_eq_true rfl) dX12_gameBy_86 ⟨j_steps_1, j_done_2, j_at_105, j_gone_106, g_posts_107, g_shut_4, g_here_5, g_was_108, rfl, (by unfold gRw; rw [hp3, if_pos rfl]; show _ = ((gSn (zWo f_all i_z0 i_inns) (zLo f_all i_z0) i_inns (aTn (zWo f_all i_z0 i_inns) (aTn (zWo f_all i_z0 i_inns) (aRs (zWo f_all i_z0 i_inns) (zPo f_all i_z0) 7) ((rw_ / 64) % 8)) ((rw_ / 8) % 8)) c_ : Nat) : Int); unfold gSn; rw [if_pos (by rw [← hat9]; rcases h_114 with e9 | e9 <;> first | exact e9.2 | (exfalso; have q9 := e9.1; first | omega | (have e7 := congrArg Int32.toInt q9; have e6 : (0 : Int32).toInt = 0 := rfl; have e5 : (1 : Int32).toInt = 1 := rfl; omega))), hgo9, nI_toInt (by omega)])⟩)
                · have h_63 : zTurn g_posts_30 g_shut_4 (zRo f_all i_z0) (nI ((rw_ / 8) % 8)) = -1 := h_63
                  have htu9 := gTu (n := i_inns) (w := (aTn (zWo f_all i_z0 i_inns) (aRs (zWo f_all i_z0 i_inns) (zPo f_all i_z0) 7) ((rw_ / 64) % 8))) hL hQ9 hS9 (by omega) hf9.2 hbi9 hd1
                  exact absurd h_63 htu9.1
              · have h_53 : (zInn i_inns (nI ((rw_ / 8) % 8)) ∨ (zRd f_all i_z0 (nI ((rw_ / 8) % 8))).toInt ≤ 0) := h_53
                have hf9 := aWo_0 (f := f_all) (z := i_z0) (n := i_inns) (c := nI ((rw_ / 8) % 8)) (by first | with_reducible assumption | assumption) (by omega) (by omega)
                rw [nD9] at hf9
                have hno9 : ¬ 0 < ((zWo f_all i_z0 i_inns) ((rw_ / 8) % 8)).toInt := by omega
                have hx2 : (gPx (zWo f_all i_z0 i_inns) (aRs (zWo f_all i_z0 i_inns) (zPo f_all i_z0) 7) 2 (rw_ / 8)).1 = false := gPx_x (c := (rw_ / 8) % 8) rfl (by omega) hno9
                have hx3 : (gPx (zWo f_all i_z0 i_inns) (aRs (zWo f_all i_z0 i_inns) (zPo f_all i_z0) 7) 3 rw_).1 = false := gPx_f hx2 (by omega)
                refine lv_if_ne (tgt := 55) hx hb dX12_gameBy_50 (by decide) (fun q => absurd (by decide) q) (fun _ => ?_)
                refine lv_iconst (v := (-1)) hx hb dX12_gameBy_53 (by decide) ?_
                have G := G.sub (bs' := [[zO11 mo m_all m_has i_size i_next i_where i_token i_number i_word i_wrong i_farCrossing m_read i_z0 i_crossings i_inns m_posts m_shut m_here j_steps_1 j_done_2 i_at i_gone m_was m_came m_seenAt m_rowWorth m_farBy m_used i_everywhere i_again0 i_d0 i_never i_firstCame i_longRun i_moved i_crowd i_l0 i_fitMany i_fitLeast i_fitMost m_fitPost m_fitEnd m_keptPosts i_x0], [zAr T 0 m_all 3952 f_all], [zAr T 0 m_posts 7 g_posts_30], [zAr T 0 m_shut 7 g_shut_4], [zAr T 0 m_here 7 g_here_5], [zAr T 0 m_was 7 f_was]]) [4, 5, 2, 3, 1, 0] rfl
                exact z_back hQz_ (z_iret C hr hlocks G (Nat.le_of_ble_eq_true rfl) (Nat.le_of_ble_eq_true rfl) dX12_gameBy_54 ⟨j_steps_1, j_done_2, i_at, i_gone, g_posts_30, g_shut_4, g_here_5, f_was, rfl, (by unfold gRw; rw [if_neg (by rw [hx3]; exact Bool.false_ne_true)]; rfl)⟩)
            · have h_47 : ((nI ((rw_ / 8) % 8)).toInt < 0 ∨ i_crossings.toInt ≤ (nI ((rw_ / 8) % 8)).toInt) := h_47
              have hno9 : ¬ 0 < ((zWo f_all i_z0 i_inns) ((rw_ / 8) % 8)).toInt := fun q9 => by have q8 := zVZ_lt hZ (show (rw_ / 8) % 8 < 7 by omega) q9; omega
              have hx2 : (gPx (zWo f_all i_z0 i_inns) (aRs (zWo f_all i_z0 i_inns) (zPo f_all i_z0) 7) 2 (rw_ / 8)).1 = false := gPx_x (c := (rw_ / 8) % 8) rfl (by omega) hno9
              have hx3 : (gPx (zWo f_all i_z0 i_inns) (aRs (zWo f_all i_z0 i_inns) (zPo f_all i_z0) 7) 3 rw_).1 = false := gPx_f hx2 (by omega)
              refine lv_if_eq (tgt := 53) hx hb dX12_gameBy_41 (by decide) (fun _ => ?_) (fun q => absurd (by decide) q)
              refine lv_iconst (v := (-1)) hx hb dX12_gameBy_53 (by decide) ?_
              have G := G.sub (bs' := [[zO11 mo m_all m_has i_size i_next i_where i_token i_number i_word i_wrong i_farCrossing m_read i_z0 i_crossings i_inns m_posts m_shut m_here j_steps_1 j_done_2 i_at i_gone m_was m_came m_seenAt m_rowWorth m_farBy m_used i_everywhere i_again0 i_d0 i_never i_firstCame i_longRun i_moved i_crowd i_l0 i_fitMany i_fitLeast i_fitMost m_fitPost m_fitEnd m_keptPosts i_x0], [zAr T 0 m_all 3952 f_all], [zAr T 0 m_posts 7 g_posts_30], [zAr T 0 m_shut 7 g_shut_4], [zAr T 0 m_here 7 g_here_5], [zAr T 0 m_was 7 f_was]]) [5, 2, 3, 4, 1, 0] rfl
              exact z_back hQz_ (z_iret C hr hlocks G (Nat.le_of_ble_eq_true rfl) (Nat.le_of_ble_eq_true rfl) dX12_gameBy_54 ⟨j_steps_1, j_done_2, i_at, i_gone, g_posts_30, g_shut_4, g_here_5, f_was, rfl, (by unfold gRw; rw [if_neg (by rw [hx3]; exact Bool.false_ne_true)]; rfl)⟩)
          · have c_41n : (rw_ / 8) % 8 = 7 := (nI_eq (a := (rw_ / 8) % 8) (b := 7) (by omega) (by omega)).mp c_41
            have hp2 : gPx (zWo f_all i_z0 i_inns) (aRs (zWo f_all i_z0 i_inns) (zPo f_all i_z0) 7) 2 (rw_ / 8) = (true, (aTn (zWo f_all i_z0 i_inns) (aRs (zWo f_all i_z0 i_inns) (zPo f_all i_z0) 7) ((rw_ / 64) % 8))) := gPx_7 hp1 (by omega) (by omega)
            have hd2 := hd1
            refine lv_goto (tgt := 62) hx hb dX12_gameBy_32 (by decide) ?_
            refine lv_iinc (v := 0) (lv' := [(4, .int 0), (5, .int (nI ((rw_ / 8) % 8))), (0, .ref mo), (1, .int (nI rw_)), (2, .int 3), (3, .int c_)]) hx hb dX12_gameBy_62 hl (k := 1) rfl (by decide) (by decide) (zLvf_h rfl) (fun ls hl => ?_)
            refine lv_goto (tgt := 9) hx hb dX12_gameBy_65 (by decide) ?_
            refine lv_iload hx hb dX12_gameBy_9 (lv_at hl 0 rfl) ?_
            refine lv_if_lt (tgt := 68) hx hb dX12_gameBy_11 (by decide) (fun q => absurd q (by decide)) (fun _ => ?_)
            refine lv_iload_n hx hb dX12_gameBy_14 rfl (lv_at hl 3 rfl) ?_
            refine lv_iconst (v := 3) hx hb dX12_gameBy_15 (by decide) ?_
            refine lv_iload hx hb dX12_gameBy_16 (lv_at hl 0 rfl) ?_
            refine lv_imul hx hb dX12_gameBy_18 ?_
            refine lv_topi (fun y_121 ey_121 => ?_)
            obtain rfl : y_121 = 0 := ey_121.trans (by decide)
            refine lv_ishr hx hb dX12_gameBy_19 ?_
            refine lv_bipush (v := 7) hx hb dX12_gameBy_20 (by decide) ?_
            refine lv_iand hx hb dX12_gameBy_22 ?_
            refine lv_topi (fun y_122 ey_122 => ?_)
            obtain rfl : y_122 = nI (rw_ % 8) := ey_122.trans ((by first | rfl | (rw [pk_shrN (by omega) (0 &&& 31) 0 (by decide), aAn (by omega)] <;> exact congrArg nI (by first | omega | (rw [Nat.pow_zero, Nat.div_one]))) | (rw [pk_shrN (by omega) 0 0 (by decide), aAn (by omega)]) | (rw [pk_shrN (by omega) _ 0 (by decide), aAn (by omega)]; exact congrArg nI (by omega))))
            have tD9 := nI_toInt (n := rw_ % 8) (by omega)
            have nD9 := nI_n (n := rw_ % 8) (by omega)
            refine lv_istore (lv' := [(5, .int (nI (rw_ % 8))), (4, .int 0), (0, .ref mo), (1, .int (nI rw_)), (2, .int 3), (3, .int c_)]) hx hb dX12_gameBy_23 hl (by decide) (zLvf_h rfl) (fun ls hl => ?_)
            refine lv_iload hx hb dX12_gameBy_25 (lv_at hl 0 rfl) ?_
            refine lv_bipush (v := 7) hx hb dX12_gameBy_27 (by decide) ?_
            refine lv_icmp_ne (tgt := 35) hx hb dX12_gameBy_29 (by decide) (fun c_123 => ?_) (fun c_123 => ?_)
            · have c_123n : ¬ rw_ % 8 = 7 := fun q => c_123 ((nI_eq (a := rw_ % 8) (b := 7) (by omega) (by omega)).mpr q)
              refine lv_aload_n hx hb dX12_gameBy_35 rfl (lv_at hl 2 rfl) ?_
              refine lv_iload hx hb dX12_gameBy_36 (lv_at hl 0 rfl) ?_
              have ti_124 : (nI (rw_ % 8)).toInt = ((rw_ % 8 : Nat) : Int) := nI_toInt (by omega)
              refine z_Vi (bc := [[zO11 mo m_all m_has i_size i_next i_where i_token i_number i_word i_wrong i_farCrossing m_read i_z0 i_crossings i_inns m_posts m_shut m_here j_steps_1 j_done_2 i_at i_gone m_was m_came m_seenAt m_rowWorth m_farBy m_used i_everywhere i_again0 i_d0 i_never i_firstCame i_longRun i_moved i_crowd i_l0 i_fitMany i_fitLeast i_fitMost m_fitPost m_fitEnd m_keptPosts i_x0]]) (br := [[zAr T 0 m_was 7 f_was], [zAr T 0 m_here 7 g_here_5], [zAr T 0 m_all 3952 f_all], [zAr T 0 m_posts 7 g_posts_30], [zAr T 0 m_shut 7 g_shut_4]]) (As := [.int (nI (rw_ % 8))]) (rest := []) C G (c_m_isCrossing l T mo m_all m_has i_size i_next i_where i_token i_number i_word i_wrong i_farCrossing m_read i_z0 i_crossings i_inns m_posts m_shut m_here j_steps_1 j_done_2 i_at i_gone m_was m_came m_seenAt m_rowWorth m_farBy m_used i_everywhere i_again0 i_d0 i_never i_firstCame i_longRun i_moved i_crowd i_l0 i_fitMany i_fitLeast i_fitMost m_fitPost m_fitEnd m_keptPosts i_x0 (nI (rw_ % 8)) (by first | with_reducible assumption | with_reducible rfl | omega | assumption | rfl | decide)) (kV_RX12_187 C.2.2.2.2 (Nat.le_of_ble_eq_true rfl) (Nat.le_of_ble_eq_true rfl)) [2] [2] rfl rfl (ci := 11) (qc := (RX12, TX12, 43)) rfl rfl (List.mem_flatten.mpr ⟨_, List.mem_of_getElem? (i := 0) rfl, List.mem_cons_self⟩) rfl rfl hl.1 dX12_gameBy_38 (Nat.le_of_ble_eq_true rfl) (Nat.le_of_ble_eq_true rfl) (fun r_126 b1 H locs hw G => ?_)
              refine zAn2 hw ?_
              intro hbs9 hc_125
              clear hw
              subst hbs9
              have G : zS T A s.heap s [[zAr T 0 m_was 7 f_was], [zAr T 0 m_here 7 g_here_5], [zAr T 0 m_all 3952 f_all], [zAr T 0 m_posts 7 g_posts_30], [zAr T 0 m_shut 7 g_shut_4], [zO11 mo m_all m_has i_size i_next i_where i_token i_number i_word i_wrong i_farCrossing m_read i_z0 i_crossings i_inns m_posts m_shut m_here j_steps_1 j_done_2 i_at i_gone m_was m_came m_seenAt m_rowWorth m_farBy m_used i_everywhere i_again0 i_d0 i_never i_firstCame i_longRun i_moved i_crowd i_l0 i_fitMany i_fitLeast i_fitMost m_fitPost m_fitEnd m_keptPosts i_x0]] _ _ := G
              rcases hc_125 with ⟨rfl, h_127, h_128⟩ | ⟨rfl, h_129⟩
              · have h_127 : 0 ≤ (nI (rw_ % 8)).toInt := h_127
                have h_128 : (nI (rw_ % 8)).toInt < i_crossings.toInt := h_128
                refine lv_if_eq (tgt := 53) hx hb dX12_gameBy_41 (by decide) (fun q => absurd q (by decide)) (fun _ => ?_)
                refine lv_aload_n hx hb dX12_gameBy_44 rfl (lv_at hl 2 rfl) ?_
                refine lv_iload hx hb dX12_gameBy_45 (lv_at hl 0 rfl) ?_
                have ti_130 : (nI (rw_ % 8)).toInt = ((rw_ % 8 : Nat) : Int) := nI_toInt (by omega)
                refine z_Vi (bc := [[zO11 mo m_all m_has i_size i_next i_where i_token i_number i_word i_wrong i_farCrossing m_read i_z0 i_crossings i_inns m_posts m_shut m_here j_steps_1 j_done_2 i_at i_gone m_was m_came m_seenAt m_rowWorth m_farBy m_used i_everywhere i_again0 i_d0 i_never i_firstCame i_longRun i_moved i_crowd i_l0 i_fitMany i_fitLeast i_fitMost m_fitPost m_fitEnd m_keptPosts i_x0], [zAr T 0 m_all 3952 f_all]]) (br := [[zAr T 0 m_was 7 f_was], [zAr T 0 m_here 7 g_here_5], [zAr T 0 m_posts 7 g_posts_30], [zAr T 0 m_shut 7 g_shut_4]]) (As := [.int (nI (rw_ % 8))]) (rest := []) C G (c_m_isFree l T mo m_all m_has i_size i_next i_where i_token i_number i_word i_wrong i_farCrossing m_read i_z0 i_crossings i_inns m_posts m_shut m_here j_steps_1 j_done_2 i_at i_gone m_was m_came m_seenAt m_rowWorth m_farBy m_used i_everywhere i_again0 i_d0 i_never i_firstCame i_longRun i_moved i_crowd i_l0 i_fitMany i_fitLeast i_fitMost m_fitPost m_fitEnd m_keptPosts i_x0 f_all (nI (rw_ % 8)) (by first | with_reducible assumption | with_reducible rfl | omega | assumption | rfl | decide) (by first | with_reducible assumption | with_reducible rfl | omega | assumption | rfl | decide) (by first | with_reducible assumption | with_reducible rfl | omega | assumption | rfl | decide)) (kV_RX12_223 C.2.2.2.2 (Nat.le_of_ble_eq_true rfl) (Nat.le_of_ble_eq_true rfl)) [5, 2] [2, 2] rfl rfl (ci := 11) (qc := (RX12, TX12, 43)) rfl rfl (List.mem_flatten.mpr ⟨_, List.mem_of_getElem? (i := 0) rfl, List.mem_cons_self⟩) rfl rfl hl.1 dX12_gameBy_47 (Nat.le_of_ble_eq_true rfl) (Nat.le_of_ble_eq_true rfl) (fun r_132 b1 H locs hw G => ?_)
                refine zAn2 hw ?_
                intro hbs9 hc_131
                clear hw
                subst hbs9
                have G : zS T A s.heap s [[zAr T 0 m_was 7 f_was], [zAr T 0 m_here 7 g_here_5], [zAr T 0 m_posts 7 g_posts_30], [zAr T 0 m_shut 7 g_shut_4], [zO11 mo m_all m_has i_size i_next i_where i_token i_number i_word i_wrong i_farCrossing m_read i_z0 i_crossings i_inns m_posts m_shut m_here j_steps_1 j_done_2 i_at i_gone m_was m_came m_seenAt m_rowWorth m_farBy m_used i_everywhere i_again0 i_d0 i_never i_firstCame i_longRun i_moved i_crowd i_l0 i_fitMany i_fitLeast i_fitMost m_fitPost m_fitEnd m_keptPosts i_x0], [zAr T 0 m_all 3952 f_all]] _ _ := G
                rcases hc_131 with ⟨rfl, h_133, h_134⟩ | ⟨rfl, h_135⟩
                · have h_133 : ¬ zInn i_inns (nI (rw_ % 8)) := h_133
                  have h_134 : 0 < (zRd f_all i_z0 (nI (rw_ % 8))).toInt := h_134
                  have hf9 := aWo_1 (f := f_all) (z := i_z0) (n := i_inns) (c := nI (rw_ % 8)) (by first | with_reducible assumption | assumption) (by first | with_reducible assumption | assumption) (by omega) (by omega)
                  rw [nD9] at hf9
                  have hbi9 : ¬ zBit i_inns (nI (rw_ % 8)) = 1 := h_133
                  refine lv_if_ne (tgt := 55) hx hb dX12_gameBy_50 (by decide) (fun _ => ?_) (fun q => absurd q (by decide))
                  refine lv_aload_n hx hb dX12_gameBy_55 rfl (lv_at hl 2 rfl) ?_
                  refine lv_iload hx hb dX12_gameBy_56 (lv_at hl 0 rfl) ?_
                  have ti_136 : (nI (rw_ % 8)).toInt = ((rw_ % 8 : Nat) : Int) := nI_toInt (by omega)
                  refine z_Vi (bc := [[zO11 mo m_all m_has i_size i_next i_where i_token i_number i_word i_wrong i_farCrossing m_read i_z0 i_crossings i_inns m_posts m_shut m_here j_steps_1 j_done_2 i_at i_gone m_was m_came m_seenAt m_rowWorth m_farBy m_used i_everywhere i_again0 i_d0 i_never i_firstCame i_longRun i_moved i_crowd i_l0 i_fitMany i_fitLeast i_fitMost m_fitPost m_fitEnd m_keptPosts i_x0], [zAr T 0 m_all 3952 f_all], [zAr T 0 m_posts 7 g_posts_30], [zAr T 0 m_shut 7 g_shut_4]]) (br := [[zAr T 0 m_was 7 f_was], [zAr T 0 m_here 7 g_here_5]]) (As := [.int (nI (rw_ % 8))]) (rest := []) C G (c_fm_turns l T mo m_all m_has i_size i_next i_where i_token i_number i_word i_wrong i_farCrossing m_read i_z0 i_crossings i_inns m_posts m_shut m_here j_steps_1 j_done_2 i_at i_gone m_was m_came m_seenAt m_rowWorth m_farBy m_used i_everywhere i_again0 i_d0 i_never i_firstCame i_longRun i_moved i_crowd i_l0 i_fitMany i_fitLeast i_fitMost m_fitPost m_fitEnd m_keptPosts i_x0 f_all g_posts_30 g_shut_4 (nI (rw_ % 8)) (by first | with_reducible assumption | with_reducible rfl | omega | assumption | rfl | decide) (by first | with_reducible assumption | with_reducible rfl | omega | assumption | rfl | decide) (by first | with_reducible assumption | with_reducible rfl | omega | assumption | rfl | decide) hV9 hQ9) (kV_RX12_205 C.2.2.2.2 (Nat.le_of_ble_eq_true rfl) (Nat.le_of_ble_eq_true rfl)) [4, 5, 2, 3] [2, 0, 0, 0] rfl rfl (ci := 11) (qc := (RX12, TX12, 43)) rfl rfl (List.mem_flatten.mpr ⟨_, List.mem_of_getElem? (i := 0) rfl, List.mem_cons_self⟩) rfl rfl hl.1 dX12_gameBy_58 (Nat.le_of_ble_eq_true rfl) (Nat.le_of_ble_eq_true rfl) (fun r_142 b1 H locs hw G => ?_)
                  refine zEx1 hw ?_
                  intro g_posts_137
                  refine zCu5 ?_
                  intro hbs9 h_138 h_139 h_140 hc_141
                  clear hw
                  subst hbs9
                  have G : zS T A s.heap s [[zAr T 0 m_was 7 f_was], [zAr T 0 m_here 7 g_here_5], [zO11 mo m_all m_has i_size i_next i_where i_token i_number i_word i_wrong i_farCrossing m_read i_z0 i_crossings i_inns m_posts m_shut m_here j_steps_1 j_done_2 i_at i_gone m_was m_came m_seenAt m_rowWorth m_farBy m_used i_everywhere i_again0 i_d0 i_never i_firstCame i_longRun i_moved i_crowd i_l0 i_fitMany i_fitLeast i_fitMost m_fitPost m_fitEnd m_keptPosts i_x0], [zAr T 0 m_all 3952 f_all], [zAr T 0 m_posts 7 g_posts_137], [zAr T 0 m_shut 7 g_shut_4]] _ _ := G
                  rcases hc_141 with ⟨rfl, h_143, h_144⟩ | ⟨rfl, h_145⟩
                  · have h_143 : ¬ zTurn g_posts_30 g_shut_4 (zRo f_all i_z0) (nI (rw_ % 8)) = -1 := h_143
                    have h_144 : 0 < (zRd f_all i_z0 (nI (rw_ % 8))).toInt := h_144
                    have htu9 := gTu (n := i_inns) (w := (aTn (zWo f_all i_z0 i_inns) (aRs (zWo f_all i_z0 i_inns) (zPo f_all i_z0) 7) ((rw_ / 64) % 8))) hL hQ9 hS9 (by omega) hf9.2 hbi9 hd2
                    have hd3 : ∀ j, j < 7 → 0 < ((zWo f_all i_z0 i_inns) j).toInt → g_posts_137 j = aPo (zWo f_all i_z0 i_inns) (aTn (zWo f_all i_z0 i_inns) (aTn (zWo f_all i_z0 i_inns) (aRs (zWo f_all i_z0 i_inns) (zPo f_all i_z0) 7) ((rw_ / 64) % 8)) (rw_ % 8)) j := by rw [h_140]; exact htu9.2
                    have hp3 : gPx (zWo f_all i_z0 i_inns) (aRs (zWo f_all i_z0 i_inns) (zPo f_all i_z0) 7) 3 rw_ = (true, (aTn (zWo f_all i_z0 i_inns) (aTn (zWo f_all i_z0 i_inns) (aRs (zWo f_all i_z0 i_inns) (zPo f_all i_z0) 7) ((rw_ / 64) % 8)) (rw_ % 8))) := gPx_t hp2 (by omega) rfl (by omega) hf9.2
                    have hQ9 := h_138
                    have hV9 := h_139
                    refine lv_pop hx hb dX12_gameBy_61 rfl ?_
                    refine lv_iinc (v := (-1)) (lv' := [(4, .int (-1)), (5, .int (nI (rw_ % 8))), (0, .ref mo), (1, .int (nI rw_)), (2, .int 3), (3, .int c_)]) hx hb dX12_gameBy_62 hl (k := 1) rfl (by decide) (by decide) (zLvf_h rfl) (fun ls hl => ?_)
                    refine lv_goto (tgt := 9) hx hb dX12_gameBy_65 (by decide) ?_
                    refine lv_iload hx hb dX12_gameBy_9 (lv_at hl 0 rfl) ?_
                    refine lv_if_lt (tgt := 68) hx hb dX12_gameBy_11 (by decide) (fun _ => ?_) (fun q => absurd (by decide) q)
                    refine lv_aload_n hx hb dX12_gameBy_68 rfl (lv_at hl 2 rfl) ?_
                    refine lv_iload_n hx hb dX12_gameBy_69 rfl (lv_at hl 5 rfl) ?_
                    refine z_Vi (bc := [[zO11 mo m_all m_has i_size i_next i_where i_token i_number i_word i_wrong i_farCrossing m_read i_z0 i_crossings i_inns m_posts m_shut m_here j_steps_1 j_done_2 i_at i_gone m_was m_came m_seenAt m_rowWorth m_farBy m_used i_everywhere i_again0 i_d0 i_never i_firstCame i_longRun i_moved i_crowd i_l0 i_fitMany i_fitLeast i_fitMost m_fitPost m_fitEnd m_keptPosts i_x0], [zAr T 0 m_all 3952 f_all], [zAr T 0 m_posts 7 g_posts_137], [zAr T 0 m_shut 7 g_shut_4], [zAr T 0 m_was 7 f_was]]) (br := [[zAr T 0 m_here 7 g_here_5]]) (As := [.int c_]) (rest := []) C G (c_fm_walks l T mo m_all m_has i_size i_next i_where i_token i_number i_word i_wrong i_farCrossing m_read i_z0 i_crossings i_inns m_posts m_shut m_here j_steps_1 j_done_2 i_at i_gone m_was m_came m_seenAt m_rowWorth m_farBy m_used i_everywhere i_again0 i_d0 i_never i_firstCame i_longRun i_moved i_crowd i_l0 i_fitMany i_fitLeast i_fitMost m_fitPost m_fitEnd m_keptPosts i_x0 f_all g_posts_137 g_shut_4 f_was c_ (by first | with_reducible assumption | with_reducible rfl | omega | assumption | rfl | decide) (by first | with_reducible assumption | with_reducible rfl | omega | assumption | rfl | decide) (by first | with_reducible assumption | with_reducible rfl | omega | assumption | rfl | decide) hV9 hQ9) (kV_RX12_217 C.2.2.2.2 (Nat.le_of_ble_eq_true rfl) (Nat.le_of_ble_eq_true rfl)) [2, 3, 4, 5, 0] [0, 1, 0, 0, 0] rfl rfl (ci := 11) (qc := (RX12, TX12, 43)) rfl rfl (List.mem_flatten.mpr ⟨_, List.mem_of_getElem? (i := 0) rfl, List.mem_cons_self⟩) rfl rfl hl.1 dX12_gameBy_70 (Nat.le_of_ble_eq_true rfl) (Nat.le_of_ble_eq_true rfl) (fun r_160 b1 H locs hw G => ?_)
                    refine zEx4 hw ?_
                    intro j_at_146 j_gone_147 g_posts_148 g_was_149
                    refine zCu11 ?_
                    intro hbs9 h_150 h_151 h_152 h_153 h_154 h_155 h_156 h_157 h_158 h_159
                    clear hw
                    subst hbs9
                    have G : zS T A s.heap s [[zAr T 0 m_here 7 g_here_5], [zO11 mo m_all m_has i_size i_next i_where i_token i_number i_word i_wrong i_farCrossing m_read i_z0 i_crossings i_inns m_posts m_shut m_here j_steps_1 j_done_2 j_at_146 j_gone_147 m_was m_came m_seenAt m_rowWorth m_farBy m_used i_everywhere i_again0 i_d0 i_never i_firstCame i_longRun i_moved i_crowd i_l0 i_fitMany i_fitLeast i_fitMost m_fitPost m_fitEnd m_keptPosts i_x0], [zAr T 0 m_all 3952 f_all], [zAr T 0 m_posts 7 g_posts_148], [zAr T 0 m_shut 7 g_shut_4], [zAr T 0 m_was 7 g_was_149]] _ _ := G
                    replace h_155 : zHd ((r_160 = 1 ∧ zBit i_inns j_at_146 = 1 ∨ r_160 = 0 ∧ ¬ zBit i_inns j_at_146 = 1)) := h_155
                    have hRw := rWalkF (n := i_inns) (c := c_) (w := (aTn (zWo f_all i_z0 i_inns) (aTn (zWo f_all i_z0 i_inns) (aRs (zWo f_all i_z0 i_inns) (zPo f_all i_z0) 7) ((rw_ / 64) % 8)) (rw_ % 8))) hL hQ9 hS9 hd3 hc0 hc6
                    have hat9 : j_at_146 = rWh (zWo f_all i_z0 i_inns) (zLo f_all i_z0) (aTn (zWo f_all i_z0 i_inns) (aTn (zWo f_all i_z0 i_inns) (aRs (zWo f_all i_z0 i_inns) (zPo f_all i_z0) 7) ((rw_ / 64) % 8)) (rw_ % 8)) c_ := h_157.trans hRw.1
                    have hgo9 : j_gone_147 = nI (rStp (zWo f_all i_z0 i_inns) (zLo f_all i_z0) (aTn (zWo f_all i_z0 i_inns) (aTn (zWo f_all i_z0 i_inns) (aRs (zWo f_all i_z0 i_inns) (zPo f_all i_z0) 7) ((rw_ / 64) % 8)) (rw_ % 8)) c_) := by rw [h_158, hRw.2.1]
                    have hgl9 : rStp (zWo f_all i_z0 i_inns) (zLo f_all i_z0) (aTn (zWo f_all i_z0 i_inns) (aTn (zWo f_all i_z0 i_inns) (aRs (zWo f_all i_z0 i_inns) (zPo f_all i_z0) 7) ((rw_ / 64) % 8)) (rw_ % 8)) c_ ≤ 499 := rStp_le
                    refine lv_if_eq (tgt := 83) hx hb dX12_gameBy_73 (by decide) (fun c_161 => ?_) (fun c_161 => ?_)
                    · have c_161n : r_160.toInt = (0 : Int) := (fa_eq _ _).mp c_161
                      refine lv_sipush (v := 500) hx hb dX12_gameBy_83 (by decide) ?_
                      have G := G.sub (bs' := [[zO11 mo m_all m_has i_size i_next i_where i_token i_number i_word i_wrong i_farCrossing m_read i_z0 i_crossings i_inns m_posts m_shut m_here j_steps_1 j_done_2 j_at_146 j_gone_147 m_was m_came m_seenAt m_rowWorth m_farBy m_used i_everywhere i_again0 i_d0 i_never i_firstCame i_longRun i_moved i_crowd i_l0 i_fitMany i_fitLeast i_fitMost m_fitPost m_fitEnd m_keptPosts i_x0], [zAr T 0 m_all 3952 f_all], [zAr T 0 m_posts 7 g_posts_148], [zAr T 0 m_shut 7 g_shut_4], [zAr T 0 m_here 7 g_here_5], [zAr T 0 m_was 7 g_was_149]]) [1, 2, 3, 4, 0, 5] rfl
                      exact z_back hQz_ (z_iret C hr hlocks G (Nat.le_of_ble_eq_true rfl) (Nat.le_of_ble_eq_true rfl) dX12_gameBy_86 ⟨j_steps_1, j_done_2, j_at_146, j_gone_147, g_posts_148, g_shut_4, g_here_5, g_was_149, rfl, (by unfold gRw; rw [hp3, if_pos rfl]; show _ = ((gSn (zWo f_all i_z0 i_inns) (zLo f_all i_z0) i_inns (aTn (zWo f_all i_z0 i_inns) (aTn (zWo f_all i_z0 i_inns) (aRs (zWo f_all i_z0 i_inns) (zPo f_all i_z0) 7) ((rw_ / 64) % 8)) (rw_ % 8)) c_ : Nat) : Int); unfold gSn; rw [if_neg (by rw [← hat9]; rcases h_155 with e9 | e9 <;> first | exact e9.2 | (exfalso; have q9 := e9.1; first | omega | (have e7 := congrArg Int32.toInt q9; have e6 : (0 : Int32).toInt = 0 := rfl; have e5 : (1 : Int32).toInt = 1 := rfl; omega)))]; rfl)⟩)
                    · have c_161n : ¬ r_160.toInt = (0 : Int) := fun q => c_161 ((fa_eq _ _).mpr q)
                      refine lv_aload_n hx hb dX12_gameBy_76 rfl (lv_at hl 2 rfl) ?_
                      refine z_get C G clX12 1 rfl 20 (by decide) m_fl_RX12_208 rfl dX12_gameBy_77 ?_
                      refine lv_goto (tgt := 86) hx hb dX12_gameBy_80 (by decide) ?_
                      have G := G.sub (bs' := [[zO11 mo m_all m_has i_size i_next i_where i_token i_number i_word i_wrong i_farCrossing m_read i_z0 i_crossings i_inns m_posts m_shut m_here j_steps_1 j_done_2 j_at_146 j_gone_147 m_was m_came m_seenAt m_rowWorth m_farBy m_used i_everywhere i_again0 i_d0 i_never i_firstCame i_longRun i_moved i_crowd i_l0 i_fitMany i_fitLeast i_fitMost m_fitPost m_fitEnd m_keptPosts i_x0], [zAr T 0 m_all 3952 f_all], [zAr T 0 m_posts 7 g_posts_148], [zAr T 0 m_shut 7 g_shut_4], [zAr T 0 m_here 7 g_here_5], [zAr T 0 m_was 7 g_was_149]]) [1, 2, 3, 4, 0, 5] rfl
                      exact z_back hQz_ (z_iret C hr hlocks G (Nat.le_of_ble_eq_true rfl) (Nat.le_of_ble_eq_true rfl) dX12_gameBy_86 ⟨j_steps_1, j_done_2, j_at_146, j_gone_147, g_posts_148, g_shut_4, g_here_5, g_was_149, rfl, (by unfold gRw; rw [hp3, if_pos rfl]; show _ = ((gSn (zWo f_all i_z0 i_inns) (zLo f_all i_z0) i_inns (aTn (zWo f_all i_z0 i_inns) (aTn (zWo f_all i_z0 i_inns) (aRs (zWo f_all i_z0 i_inns) (zPo f_all i_z0) 7) ((rw_ / 64) % 8)) (rw_ % 8)) c_ : Nat) : Int); unfold gSn; rw [if_pos (by rw [← hat9]; rcases h_155 with e9 | e9 <;> first | exact e9.2 | (exfalso; have q9 := e9.1; first | omega | (have e7 := congrArg Int32.toInt q9; have e6 : (0 : Int32).toInt = 0 := rfl; have e5 : (1 : Int32).toInt = 1 := rfl; omega))), hgo9, nI_toInt (by omega)])⟩)
                  · have h_145 : zTurn g_posts_30 g_shut_4 (zRo f_all i_z0) (nI (rw_ % 8)) = -1 := h_145
                    have htu9 := gTu (n := i_inns) (w := (aTn (zWo f_all i_z0 i_inns) (aRs (zWo f_all i_z0 i_inns) (zPo f_all i_z0) 7) ((rw_ / 64) % 8))) hL hQ9 hS9 (by omega) hf9.2 hbi9 hd2
                    exact absurd h_145 htu9.1
                · have h_135 : (zInn i_inns (nI (rw_ % 8)) ∨ (zRd f_all i_z0 (nI (rw_ % 8))).toInt ≤ 0) := h_135
                  have hf9 := aWo_0 (f := f_all) (z := i_z0) (n := i_inns) (c := nI (rw_ % 8)) (by first | with_reducible assumption | assumption) (by omega) (by omega)
                  rw [nD9] at hf9
                  have hno9 : ¬ 0 < ((zWo f_all i_z0 i_inns) (rw_ % 8)).toInt := by omega
                  have hx3 : (gPx (zWo f_all i_z0 i_inns) (aRs (zWo f_all i_z0 i_inns) (zPo f_all i_z0) 7) 3 rw_).1 = false := gPx_x (c := rw_ % 8) rfl (by omega) hno9
                  refine lv_if_ne (tgt := 55) hx hb dX12_gameBy_50 (by decide) (fun q => absurd (by decide) q) (fun _ => ?_)
                  refine lv_iconst (v := (-1)) hx hb dX12_gameBy_53 (by decide) ?_
                  have G := G.sub (bs' := [[zO11 mo m_all m_has i_size i_next i_where i_token i_number i_word i_wrong i_farCrossing m_read i_z0 i_crossings i_inns m_posts m_shut m_here j_steps_1 j_done_2 i_at i_gone m_was m_came m_seenAt m_rowWorth m_farBy m_used i_everywhere i_again0 i_d0 i_never i_firstCame i_longRun i_moved i_crowd i_l0 i_fitMany i_fitLeast i_fitMost m_fitPost m_fitEnd m_keptPosts i_x0], [zAr T 0 m_all 3952 f_all], [zAr T 0 m_posts 7 g_posts_30], [zAr T 0 m_shut 7 g_shut_4], [zAr T 0 m_here 7 g_here_5], [zAr T 0 m_was 7 f_was]]) [4, 5, 2, 3, 1, 0] rfl
                  exact z_back hQz_ (z_iret C hr hlocks G (Nat.le_of_ble_eq_true rfl) (Nat.le_of_ble_eq_true rfl) dX12_gameBy_54 ⟨j_steps_1, j_done_2, i_at, i_gone, g_posts_30, g_shut_4, g_here_5, f_was, rfl, (by unfold gRw; rw [if_neg (by rw [hx3]; exact Bool.false_ne_true)]; rfl)⟩)
              · have h_129 : ((nI (rw_ % 8)).toInt < 0 ∨ i_crossings.toInt ≤ (nI (rw_ % 8)).toInt) := h_129
                have hno9 : ¬ 0 < ((zWo f_all i_z0 i_inns) (rw_ % 8)).toInt := fun q9 => by have q8 := zVZ_lt hZ (show rw_ % 8 < 7 by omega) q9; omega
                have hx3 : (gPx (zWo f_all i_z0 i_inns) (aRs (zWo f_all i_z0 i_inns) (zPo f_all i_z0) 7) 3 rw_).1 = false := gPx_x (c := rw_ % 8) rfl (by omega) hno9
                refine lv_if_eq (tgt := 53) hx hb dX12_gameBy_41 (by decide) (fun _ => ?_) (fun q => absurd (by decide) q)
                refine lv_iconst (v := (-1)) hx hb dX12_gameBy_53 (by decide) ?_
                have G := G.sub (bs' := [[zO11 mo m_all m_has i_size i_next i_where i_token i_number i_word i_wrong i_farCrossing m_read i_z0 i_crossings i_inns m_posts m_shut m_here j_steps_1 j_done_2 i_at i_gone m_was m_came m_seenAt m_rowWorth m_farBy m_used i_everywhere i_again0 i_d0 i_never i_firstCame i_longRun i_moved i_crowd i_l0 i_fitMany i_fitLeast i_fitMost m_fitPost m_fitEnd m_keptPosts i_x0], [zAr T 0 m_all 3952 f_all], [zAr T 0 m_posts 7 g_posts_30], [zAr T 0 m_shut 7 g_shut_4], [zAr T 0 m_here 7 g_here_5], [zAr T 0 m_was 7 f_was]]) [5, 2, 3, 4, 1, 0] rfl
                exact z_back hQz_ (z_iret C hr hlocks G (Nat.le_of_ble_eq_true rfl) (Nat.le_of_ble_eq_true rfl) dX12_gameBy_54 ⟨j_steps_1, j_done_2, i_at, i_gone, g_posts_30, g_shut_4, g_here_5, f_was, rfl, (by unfold gRw; rw [if_neg (by rw [hx3]; exact Bool.false_ne_true)]; rfl)⟩)
            · have c_123n : rw_ % 8 = 7 := (nI_eq (a := rw_ % 8) (b := 7) (by omega) (by omega)).mp c_123
              have hp3 : gPx (zWo f_all i_z0 i_inns) (aRs (zWo f_all i_z0 i_inns) (zPo f_all i_z0) 7) 3 rw_ = (true, (aTn (zWo f_all i_z0 i_inns) (aRs (zWo f_all i_z0 i_inns) (zPo f_all i_z0) 7) ((rw_ / 64) % 8))) := gPx_7 hp2 (by omega) (by omega)
              have hd3 := hd2
              refine lv_goto (tgt := 62) hx hb dX12_gameBy_32 (by decide) ?_
              refine lv_iinc (v := (-1)) (lv' := [(4, .int (-1)), (5, .int (nI (rw_ % 8))), (0, .ref mo), (1, .int (nI rw_)), (2, .int 3), (3, .int c_)]) hx hb dX12_gameBy_62 hl (k := 1) rfl (by decide) (by decide) (zLvf_h rfl) (fun ls hl => ?_)
              refine lv_goto (tgt := 9) hx hb dX12_gameBy_65 (by decide) ?_
              refine lv_iload hx hb dX12_gameBy_9 (lv_at hl 0 rfl) ?_
              refine lv_if_lt (tgt := 68) hx hb dX12_gameBy_11 (by decide) (fun _ => ?_) (fun q => absurd (by decide) q)
              refine lv_aload_n hx hb dX12_gameBy_68 rfl (lv_at hl 2 rfl) ?_
              refine lv_iload_n hx hb dX12_gameBy_69 rfl (lv_at hl 5 rfl) ?_
              refine z_Vi (bc := [[zO11 mo m_all m_has i_size i_next i_where i_token i_number i_word i_wrong i_farCrossing m_read i_z0 i_crossings i_inns m_posts m_shut m_here j_steps_1 j_done_2 i_at i_gone m_was m_came m_seenAt m_rowWorth m_farBy m_used i_everywhere i_again0 i_d0 i_never i_firstCame i_longRun i_moved i_crowd i_l0 i_fitMany i_fitLeast i_fitMost m_fitPost m_fitEnd m_keptPosts i_x0], [zAr T 0 m_all 3952 f_all], [zAr T 0 m_posts 7 g_posts_30], [zAr T 0 m_shut 7 g_shut_4], [zAr T 0 m_was 7 f_was]]) (br := [[zAr T 0 m_here 7 g_here_5]]) (As := [.int c_]) (rest := []) C G (c_fm_walks l T mo m_all m_has i_size i_next i_where i_token i_number i_word i_wrong i_farCrossing m_read i_z0 i_crossings i_inns m_posts m_shut m_here j_steps_1 j_done_2 i_at i_gone m_was m_came m_seenAt m_rowWorth m_farBy m_used i_everywhere i_again0 i_d0 i_never i_firstCame i_longRun i_moved i_crowd i_l0 i_fitMany i_fitLeast i_fitMost m_fitPost m_fitEnd m_keptPosts i_x0 f_all g_posts_30 g_shut_4 f_was c_ (by first | with_reducible assumption | with_reducible rfl | omega | assumption | rfl | decide) (by first | with_reducible assumption | with_reducible rfl | omega | assumption | rfl | decide) (by first | with_reducible assumption | with_reducible rfl | omega | assumption | rfl | decide) hV9 hQ9) (kV_RX12_217 C.2.2.2.2 (Nat.le_of_ble_eq_true rfl) (Nat.le_of_ble_eq_true rfl)) [2, 3, 4, 5, 0] [0, 1, 0, 0, 0] rfl rfl (ci := 11) (qc := (RX12, TX12, 43)) rfl rfl (List.mem_flatten.mpr ⟨_, List.mem_of_getElem? (i := 0) rfl, List.mem_cons_self⟩) rfl rfl hl.1 dX12_gameBy_70 (Nat.le_of_ble_eq_true rfl) (Nat.le_of_ble_eq_true rfl) (fun r_176 b1 H locs hw G => ?_)
              refine zEx4 hw ?_
              intro j_at_162 j_gone_163 g_posts_164 g_was_165
              refine zCu11 ?_
              intro hbs9 h_166 h_167 h_168 h_169 h_170 h_171 h_172 h_173 h_174 h_175
              clear hw
              subst hbs9
              have G : zS T A s.heap s [[zAr T 0 m_here 7 g_here_5], [zO11 mo m_all m_has i_size i_next i_where i_token i_number i_word i_wrong i_farCrossing m_read i_z0 i_crossings i_inns m_posts m_shut m_here j_steps_1 j_done_2 j_at_162 j_gone_163 m_was m_came m_seenAt m_rowWorth m_farBy m_used i_everywhere i_again0 i_d0 i_never i_firstCame i_longRun i_moved i_crowd i_l0 i_fitMany i_fitLeast i_fitMost m_fitPost m_fitEnd m_keptPosts i_x0], [zAr T 0 m_all 3952 f_all], [zAr T 0 m_posts 7 g_posts_164], [zAr T 0 m_shut 7 g_shut_4], [zAr T 0 m_was 7 g_was_165]] _ _ := G
              replace h_171 : zHd ((r_176 = 1 ∧ zBit i_inns j_at_162 = 1 ∨ r_176 = 0 ∧ ¬ zBit i_inns j_at_162 = 1)) := h_171
              have hRw := rWalkF (n := i_inns) (c := c_) (w := (aTn (zWo f_all i_z0 i_inns) (aRs (zWo f_all i_z0 i_inns) (zPo f_all i_z0) 7) ((rw_ / 64) % 8))) hL hQ9 hS9 hd3 hc0 hc6
              have hat9 : j_at_162 = rWh (zWo f_all i_z0 i_inns) (zLo f_all i_z0) (aTn (zWo f_all i_z0 i_inns) (aRs (zWo f_all i_z0 i_inns) (zPo f_all i_z0) 7) ((rw_ / 64) % 8)) c_ := h_173.trans hRw.1
              have hgo9 : j_gone_163 = nI (rStp (zWo f_all i_z0 i_inns) (zLo f_all i_z0) (aTn (zWo f_all i_z0 i_inns) (aRs (zWo f_all i_z0 i_inns) (zPo f_all i_z0) 7) ((rw_ / 64) % 8)) c_) := by rw [h_174, hRw.2.1]
              have hgl9 : rStp (zWo f_all i_z0 i_inns) (zLo f_all i_z0) (aTn (zWo f_all i_z0 i_inns) (aRs (zWo f_all i_z0 i_inns) (zPo f_all i_z0) 7) ((rw_ / 64) % 8)) c_ ≤ 499 := rStp_le
              refine lv_if_eq (tgt := 83) hx hb dX12_gameBy_73 (by decide) (fun c_177 => ?_) (fun c_177 => ?_)
              · have c_177n : r_176.toInt = (0 : Int) := (fa_eq _ _).mp c_177
                refine lv_sipush (v := 500) hx hb dX12_gameBy_83 (by decide) ?_
                have G := G.sub (bs' := [[zO11 mo m_all m_has i_size i_next i_where i_token i_number i_word i_wrong i_farCrossing m_read i_z0 i_crossings i_inns m_posts m_shut m_here j_steps_1 j_done_2 j_at_162 j_gone_163 m_was m_came m_seenAt m_rowWorth m_farBy m_used i_everywhere i_again0 i_d0 i_never i_firstCame i_longRun i_moved i_crowd i_l0 i_fitMany i_fitLeast i_fitMost m_fitPost m_fitEnd m_keptPosts i_x0], [zAr T 0 m_all 3952 f_all], [zAr T 0 m_posts 7 g_posts_164], [zAr T 0 m_shut 7 g_shut_4], [zAr T 0 m_here 7 g_here_5], [zAr T 0 m_was 7 g_was_165]]) [1, 2, 3, 4, 0, 5] rfl
                exact z_back hQz_ (z_iret C hr hlocks G (Nat.le_of_ble_eq_true rfl) (Nat.le_of_ble_eq_true rfl) dX12_gameBy_86 ⟨j_steps_1, j_done_2, j_at_162, j_gone_163, g_posts_164, g_shut_4, g_here_5, g_was_165, rfl, (by unfold gRw; rw [hp3, if_pos rfl]; show _ = ((gSn (zWo f_all i_z0 i_inns) (zLo f_all i_z0) i_inns (aTn (zWo f_all i_z0 i_inns) (aRs (zWo f_all i_z0 i_inns) (zPo f_all i_z0) 7) ((rw_ / 64) % 8)) c_ : Nat) : Int); unfold gSn; rw [if_neg (by rw [← hat9]; rcases h_171 with e9 | e9 <;> first | exact e9.2 | (exfalso; have q9 := e9.1; first | omega | (have e7 := congrArg Int32.toInt q9; have e6 : (0 : Int32).toInt = 0 := rfl; have e5 : (1 : Int32).toInt = 1 := rfl; omega)))]; rfl)⟩)
              · have c_177n : ¬ r_176.toInt = (0 : Int) := fun q => c_177 ((fa_eq _ _).mpr q)
                refine lv_aload_n hx hb dX12_gameBy_76 rfl (lv_at hl 2 rfl) ?_
                refine z_get C G clX12 1 rfl 20 (by decide) m_fl_RX12_208 rfl dX12_gameBy_77 ?_
                refine lv_goto (tgt := 86) hx hb dX12_gameBy_80 (by decide) ?_
                have G := G.sub (bs' := [[zO11 mo m_all m_has i_size i_next i_where i_token i_number i_word i_wrong i_farCrossing m_read i_z0 i_crossings i_inns m_posts m_shut m_here j_steps_1 j_done_2 j_at_162 j_gone_163 m_was m_came m_seenAt m_rowWorth m_farBy m_used i_everywhere i_again0 i_d0 i_never i_firstCame i_longRun i_moved i_crowd i_l0 i_fitMany i_fitLeast i_fitMost m_fitPost m_fitEnd m_keptPosts i_x0], [zAr T 0 m_all 3952 f_all], [zAr T 0 m_posts 7 g_posts_164], [zAr T 0 m_shut 7 g_shut_4], [zAr T 0 m_here 7 g_here_5], [zAr T 0 m_was 7 g_was_165]]) [1, 2, 3, 4, 0, 5] rfl
                exact z_back hQz_ (z_iret C hr hlocks G (Nat.le_of_ble_eq_true rfl) (Nat.le_of_ble_eq_true rfl) dX12_gameBy_86 ⟨j_steps_1, j_done_2, j_at_162, j_gone_163, g_posts_164, g_shut_4, g_here_5, g_was_165, rfl, (by unfold gRw; rw [hp3, if_pos rfl]; show _ = ((gSn (zWo f_all i_z0 i_inns) (zLo f_all i_z0) i_inns (aTn (zWo f_all i_z0 i_inns) (aRs (zWo f_all i_z0 i_inns) (zPo f_all i_z0) 7) ((rw_ / 64) % 8)) c_ : Nat) : Int); unfold gSn; rw [if_pos (by rw [← hat9]; rcases h_171 with e9 | e9 <;> first | exact e9.2 | (exfalso; have q9 := e9.1; first | omega | (have e7 := congrArg Int32.toInt q9; have e6 : (0 : Int32).toInt = 0 := rfl; have e5 : (1 : Int32).toInt = 1 := rfl; omega))), hgo9, nI_toInt (by omega)])⟩)
        · have h_38 : zTurn g_posts_3 g_shut_4 (zRo f_all i_z0) (nI ((rw_ / 64) % 8)) = -1 := h_38
          have htu9 := gTu (n := i_inns) (w := (aRs (zWo f_all i_z0 i_inns) (zPo f_all i_z0) 7)) hL hQ9 hS9 (by omega) hf9.2 hbi9 hd0
          exact absurd h_38 htu9.1
      · have h_28 : (zInn i_inns (nI ((rw_ / 64) % 8)) ∨ (zRd f_all i_z0 (nI ((rw_ / 64) % 8))).toInt ≤ 0) := h_28
        have hf9 := aWo_0 (f := f_all) (z := i_z0) (n := i_inns) (c := nI ((rw_ / 64) % 8)) (by first | with_reducible assumption | assumption) (by omega) (by omega)
        rw [nD9] at hf9
        have hno9 : ¬ 0 < ((zWo f_all i_z0 i_inns) ((rw_ / 64) % 8)).toInt := by omega
        have hx1 : (gPx (zWo f_all i_z0 i_inns) (aRs (zWo f_all i_z0 i_inns) (zPo f_all i_z0) 7) 1 (rw_ / 64)).1 = false := gPx_x (c := (rw_ / 64) % 8) rfl (by omega) hno9
        have hx2 : (gPx (zWo f_all i_z0 i_inns) (aRs (zWo f_all i_z0 i_inns) (zPo f_all i_z0) 7) 2 (rw_ / 8)).1 = false := gPx_f hx1 (by omega)
        have hx3 : (gPx (zWo f_all i_z0 i_inns) (aRs (zWo f_all i_z0 i_inns) (zPo f_all i_z0) 7) 3 rw_).1 = false := gPx_f hx2 (by omega)
        refine lv_if_ne (tgt := 55) hx hb dX12_gameBy_50 (by decide) (fun q => absurd (by decide) q) (fun _ => ?_)
        refine lv_iconst (v := (-1)) hx hb dX12_gameBy_53 (by decide) ?_
        have G := G.sub (bs' := [[zO11 mo m_all m_has i_size i_next i_where i_token i_number i_word i_wrong i_farCrossing m_read i_z0 i_crossings i_inns m_posts m_shut m_here j_steps_1 j_done_2 i_at i_gone m_was m_came m_seenAt m_rowWorth m_farBy m_used i_everywhere i_again0 i_d0 i_never i_firstCame i_longRun i_moved i_crowd i_l0 i_fitMany i_fitLeast i_fitMost m_fitPost m_fitEnd m_keptPosts i_x0], [zAr T 0 m_all 3952 f_all], [zAr T 0 m_posts 7 g_posts_3], [zAr T 0 m_shut 7 g_shut_4], [zAr T 0 m_here 7 g_here_5], [zAr T 0 m_was 7 f_was]]) [4, 5, 1, 2, 3, 0] rfl
        exact z_back hQz_ (z_iret C hr hlocks G (Nat.le_of_ble_eq_true rfl) (Nat.le_of_ble_eq_true rfl) dX12_gameBy_54 ⟨j_steps_1, j_done_2, i_at, i_gone, g_posts_3, g_shut_4, g_here_5, f_was, rfl, (by unfold gRw; rw [if_neg (by rw [hx3]; exact Bool.false_ne_true)]; rfl)⟩)
    · have h_22 : ((nI ((rw_ / 64) % 8)).toInt < 0 ∨ i_crossings.toInt ≤ (nI ((rw_ / 64) % 8)).toInt) := h_22
      have hno9 : ¬ 0 < ((zWo f_all i_z0 i_inns) ((rw_ / 64) % 8)).toInt := fun q9 => by have q8 := zVZ_lt hZ (show (rw_ / 64) % 8 < 7 by omega) q9; omega
      have hx1 : (gPx (zWo f_all i_z0 i_inns) (aRs (zWo f_all i_z0 i_inns) (zPo f_all i_z0) 7) 1 (rw_ / 64)).1 = false := gPx_x (c := (rw_ / 64) % 8) rfl (by omega) hno9
      have hx2 : (gPx (zWo f_all i_z0 i_inns) (aRs (zWo f_all i_z0 i_inns) (zPo f_all i_z0) 7) 2 (rw_ / 8)).1 = false := gPx_f hx1 (by omega)
      have hx3 : (gPx (zWo f_all i_z0 i_inns) (aRs (zWo f_all i_z0 i_inns) (zPo f_all i_z0) 7) 3 rw_).1 = false := gPx_f hx2 (by omega)
      refine lv_if_eq (tgt := 53) hx hb dX12_gameBy_41 (by decide) (fun _ => ?_) (fun q => absurd (by decide) q)
      refine lv_iconst (v := (-1)) hx hb dX12_gameBy_53 (by decide) ?_
      have G := G.sub (bs' := [[zO11 mo m_all m_has i_size i_next i_where i_token i_number i_word i_wrong i_farCrossing m_read i_z0 i_crossings i_inns m_posts m_shut m_here j_steps_1 j_done_2 i_at i_gone m_was m_came m_seenAt m_rowWorth m_farBy m_used i_everywhere i_again0 i_d0 i_never i_firstCame i_longRun i_moved i_crowd i_l0 i_fitMany i_fitLeast i_fitMost m_fitPost m_fitEnd m_keptPosts i_x0], [zAr T 0 m_all 3952 f_all], [zAr T 0 m_posts 7 g_posts_3], [zAr T 0 m_shut 7 g_shut_4], [zAr T 0 m_here 7 g_here_5], [zAr T 0 m_was 7 f_was]]) [5, 1, 2, 3, 4, 0] rfl
      exact z_back hQz_ (z_iret C hr hlocks G (Nat.le_of_ble_eq_true rfl) (Nat.le_of_ble_eq_true rfl) dX12_gameBy_54 ⟨j_steps_1, j_done_2, i_at, i_gone, g_posts_3, g_shut_4, g_here_5, f_was, rfl, (by unfold gRw; rw [if_neg (by rw [hx3]; exact Bool.false_ne_true)]; rfl)⟩)
  · have c_16n : (rw_ / 64) % 8 = 7 := (nI_eq (a := (rw_ / 64) % 8) (b := 7) (by omega) (by omega)).mp c_16
    have hp1 : gPx (zWo f_all i_z0 i_inns) (aRs (zWo f_all i_z0 i_inns) (zPo f_all i_z0) 7) 1 (rw_ / 64) = (true, (aRs (zWo f_all i_z0 i_inns) (zPo f_all i_z0) 7)) := gPx_7 hp0 (by omega) (by omega)
    have hd1 := hd0
    refine lv_goto (tgt := 62) hx hb dX12_gameBy_32 (by decide) ?_
    refine lv_iinc (v := 1) (lv' := [(4, .int 1), (5, .int (nI ((rw_ / 64) % 8))), (0, .ref mo), (1, .int (nI rw_)), (2, .int 3), (3, .int c_)]) hx hb dX12_gameBy_62 hl (k := 1) rfl (by decide) (by decide) (zLvf_h rfl) (fun ls hl => ?_)
    refine lv_goto (tgt := 9) hx hb dX12_gameBy_65 (by decide) ?_
    refine lv_iload hx hb dX12_gameBy_9 (lv_at hl 0 rfl) ?_
    refine lv_if_lt (tgt := 68) hx hb dX12_gameBy_11 (by decide) (fun q => absurd q (by decide)) (fun _ => ?_)
    refine lv_iload_n hx hb dX12_gameBy_14 rfl (lv_at hl 3 rfl) ?_
    refine lv_iconst (v := 3) hx hb dX12_gameBy_15 (by decide) ?_
    refine lv_iload hx hb dX12_gameBy_16 (lv_at hl 0 rfl) ?_
    refine lv_imul hx hb dX12_gameBy_18 ?_
    refine lv_topi (fun y_178 ey_178 => ?_)
    obtain rfl : y_178 = 3 := ey_178.trans (by decide)
    refine lv_ishr hx hb dX12_gameBy_19 ?_
    refine lv_bipush (v := 7) hx hb dX12_gameBy_20 (by decide) ?_
    refine lv_iand hx hb dX12_gameBy_22 ?_
    refine lv_topi (fun y_179 ey_179 => ?_)
    obtain rfl : y_179 = nI ((rw_ / 8) % 8) := ey_179.trans ((by first | rfl | (rw [pk_shrN (by omega) (3 &&& 31) 3 (by decide), aAn (by omega)] <;> exact congrArg nI (by first | omega | (rw [Nat.pow_zero, Nat.div_one]))) | (rw [pk_shrN (by omega) 3 3 (by decide), aAn (by omega)]) | (rw [pk_shrN (by omega) _ 3 (by decide), aAn (by omega)]; exact congrArg nI (by omega))))
    have tD9 := nI_toInt (n := (rw_ / 8) % 8) (by omega)
    have nD9 := nI_n (n := (rw_ / 8) % 8) (by omega)
    refine lv_istore (lv' := [(5, .int (nI ((rw_ / 8) % 8))), (4, .int 1), (0, .ref mo), (1, .int (nI rw_)), (2, .int 3), (3, .int c_)]) hx hb dX12_gameBy_23 hl (by decide) (zLvf_h rfl) (fun ls hl => ?_)
    refine lv_iload hx hb dX12_gameBy_25 (lv_at hl 0 rfl) ?_
    refine lv_bipush (v := 7) hx hb dX12_gameBy_27 (by decide) ?_
    refine lv_icmp_ne (tgt := 35) hx hb dX12_gameBy_29 (by decide) (fun c_180 => ?_) (fun c_180 => ?_)
    · have c_180n : ¬ (rw_ / 8) % 8 = 7 := fun q => c_180 ((nI_eq (a := (rw_ / 8) % 8) (b := 7) (by omega) (by omega)).mpr q)
      refine lv_aload_n hx hb dX12_gameBy_35 rfl (lv_at hl 2 rfl) ?_
      refine lv_iload hx hb dX12_gameBy_36 (lv_at hl 0 rfl) ?_
      have ti_181 : (nI ((rw_ / 8) % 8)).toInt = (((rw_ / 8) % 8 : Nat) : Int) := nI_toInt (by omega)
      refine z_Vi (bc := [[zO11 mo m_all m_has i_size i_next i_where i_token i_number i_word i_wrong i_farCrossing m_read i_z0 i_crossings i_inns m_posts m_shut m_here j_steps_1 j_done_2 i_at i_gone m_was m_came m_seenAt m_rowWorth m_farBy m_used i_everywhere i_again0 i_d0 i_never i_firstCame i_longRun i_moved i_crowd i_l0 i_fitMany i_fitLeast i_fitMost m_fitPost m_fitEnd m_keptPosts i_x0]]) (br := [[zAr T 0 m_was 7 f_was], [zAr T 0 m_all 3952 f_all], [zAr T 0 m_posts 7 g_posts_3], [zAr T 0 m_shut 7 g_shut_4], [zAr T 0 m_here 7 g_here_5]]) (As := [.int (nI ((rw_ / 8) % 8))]) (rest := []) C G (c_m_isCrossing l T mo m_all m_has i_size i_next i_where i_token i_number i_word i_wrong i_farCrossing m_read i_z0 i_crossings i_inns m_posts m_shut m_here j_steps_1 j_done_2 i_at i_gone m_was m_came m_seenAt m_rowWorth m_farBy m_used i_everywhere i_again0 i_d0 i_never i_firstCame i_longRun i_moved i_crowd i_l0 i_fitMany i_fitLeast i_fitMost m_fitPost m_fitEnd m_keptPosts i_x0 (nI ((rw_ / 8) % 8)) (by first | with_reducible assumption | with_reducible rfl | omega | assumption | rfl | decide)) (kV_RX12_187 C.2.2.2.2 (Nat.le_of_ble_eq_true rfl) (Nat.le_of_ble_eq_true rfl)) [1] [1] rfl rfl (ci := 11) (qc := (RX12, TX12, 43)) rfl rfl (List.mem_flatten.mpr ⟨_, List.mem_of_getElem? (i := 0) rfl, List.mem_cons_self⟩) rfl rfl hl.1 dX12_gameBy_38 (Nat.le_of_ble_eq_true rfl) (Nat.le_of_ble_eq_true rfl) (fun r_183 b1 H locs hw G => ?_)
      refine zAn2 hw ?_
      intro hbs9 hc_182
      clear hw
      subst hbs9
      have G : zS T A s.heap s [[zAr T 0 m_was 7 f_was], [zAr T 0 m_all 3952 f_all], [zAr T 0 m_posts 7 g_posts_3], [zAr T 0 m_shut 7 g_shut_4], [zAr T 0 m_here 7 g_here_5], [zO11 mo m_all m_has i_size i_next i_where i_token i_number i_word i_wrong i_farCrossing m_read i_z0 i_crossings i_inns m_posts m_shut m_here j_steps_1 j_done_2 i_at i_gone m_was m_came m_seenAt m_rowWorth m_farBy m_used i_everywhere i_again0 i_d0 i_never i_firstCame i_longRun i_moved i_crowd i_l0 i_fitMany i_fitLeast i_fitMost m_fitPost m_fitEnd m_keptPosts i_x0]] _ _ := G
      rcases hc_182 with ⟨rfl, h_184, h_185⟩ | ⟨rfl, h_186⟩
      · have h_184 : 0 ≤ (nI ((rw_ / 8) % 8)).toInt := h_184
        have h_185 : (nI ((rw_ / 8) % 8)).toInt < i_crossings.toInt := h_185
        refine lv_if_eq (tgt := 53) hx hb dX12_gameBy_41 (by decide) (fun q => absurd q (by decide)) (fun _ => ?_)
        refine lv_aload_n hx hb dX12_gameBy_44 rfl (lv_at hl 2 rfl) ?_
        refine lv_iload hx hb dX12_gameBy_45 (lv_at hl 0 rfl) ?_
        have ti_187 : (nI ((rw_ / 8) % 8)).toInt = (((rw_ / 8) % 8 : Nat) : Int) := nI_toInt (by omega)
        refine z_Vi (bc := [[zO11 mo m_all m_has i_size i_next i_where i_token i_number i_word i_wrong i_farCrossing m_read i_z0 i_crossings i_inns m_posts m_shut m_here j_steps_1 j_done_2 i_at i_gone m_was m_came m_seenAt m_rowWorth m_farBy m_used i_everywhere i_again0 i_d0 i_never i_firstCame i_longRun i_moved i_crowd i_l0 i_fitMany i_fitLeast i_fitMost m_fitPost m_fitEnd m_keptPosts i_x0], [zAr T 0 m_all 3952 f_all]]) (br := [[zAr T 0 m_was 7 f_was], [zAr T 0 m_posts 7 g_posts_3], [zAr T 0 m_shut 7 g_shut_4], [zAr T 0 m_here 7 g_here_5]]) (As := [.int (nI ((rw_ / 8) % 8))]) (rest := []) C G (c_m_isFree l T mo m_all m_has i_size i_next i_where i_token i_number i_word i_wrong i_farCrossing m_read i_z0 i_crossings i_inns m_posts m_shut m_here j_steps_1 j_done_2 i_at i_gone m_was m_came m_seenAt m_rowWorth m_farBy m_used i_everywhere i_again0 i_d0 i_never i_firstCame i_longRun i_moved i_crowd i_l0 i_fitMany i_fitLeast i_fitMost m_fitPost m_fitEnd m_keptPosts i_x0 f_all (nI ((rw_ / 8) % 8)) (by first | with_reducible assumption | with_reducible rfl | omega | assumption | rfl | decide) (by first | with_reducible assumption | with_reducible rfl | omega | assumption | rfl | decide) (by first | with_reducible assumption | with_reducible rfl | omega | assumption | rfl | decide)) (kV_RX12_223 C.2.2.2.2 (Nat.le_of_ble_eq_true rfl) (Nat.le_of_ble_eq_true rfl)) [5, 1] [1, 3] rfl rfl (ci := 11) (qc := (RX12, TX12, 43)) rfl rfl (List.mem_flatten.mpr ⟨_, List.mem_of_getElem? (i := 0) rfl, List.mem_cons_self⟩) rfl rfl hl.1 dX12_gameBy_47 (Nat.le_of_ble_eq_true rfl) (Nat.le_of_ble_eq_true rfl) (fun r_189 b1 H locs hw G => ?_)
        refine zAn2 hw ?_
        intro hbs9 hc_188
        clear hw
        subst hbs9
        have G : zS T A s.heap s [[zAr T 0 m_was 7 f_was], [zAr T 0 m_posts 7 g_posts_3], [zAr T 0 m_shut 7 g_shut_4], [zAr T 0 m_here 7 g_here_5], [zO11 mo m_all m_has i_size i_next i_where i_token i_number i_word i_wrong i_farCrossing m_read i_z0 i_crossings i_inns m_posts m_shut m_here j_steps_1 j_done_2 i_at i_gone m_was m_came m_seenAt m_rowWorth m_farBy m_used i_everywhere i_again0 i_d0 i_never i_firstCame i_longRun i_moved i_crowd i_l0 i_fitMany i_fitLeast i_fitMost m_fitPost m_fitEnd m_keptPosts i_x0], [zAr T 0 m_all 3952 f_all]] _ _ := G
        rcases hc_188 with ⟨rfl, h_190, h_191⟩ | ⟨rfl, h_192⟩
        · have h_190 : ¬ zInn i_inns (nI ((rw_ / 8) % 8)) := h_190
          have h_191 : 0 < (zRd f_all i_z0 (nI ((rw_ / 8) % 8))).toInt := h_191
          have hf9 := aWo_1 (f := f_all) (z := i_z0) (n := i_inns) (c := nI ((rw_ / 8) % 8)) (by first | with_reducible assumption | assumption) (by first | with_reducible assumption | assumption) (by omega) (by omega)
          rw [nD9] at hf9
          have hbi9 : ¬ zBit i_inns (nI ((rw_ / 8) % 8)) = 1 := h_190
          refine lv_if_ne (tgt := 55) hx hb dX12_gameBy_50 (by decide) (fun _ => ?_) (fun q => absurd q (by decide))
          refine lv_aload_n hx hb dX12_gameBy_55 rfl (lv_at hl 2 rfl) ?_
          refine lv_iload hx hb dX12_gameBy_56 (lv_at hl 0 rfl) ?_
          have ti_193 : (nI ((rw_ / 8) % 8)).toInt = (((rw_ / 8) % 8 : Nat) : Int) := nI_toInt (by omega)
          refine z_Vi (bc := [[zO11 mo m_all m_has i_size i_next i_where i_token i_number i_word i_wrong i_farCrossing m_read i_z0 i_crossings i_inns m_posts m_shut m_here j_steps_1 j_done_2 i_at i_gone m_was m_came m_seenAt m_rowWorth m_farBy m_used i_everywhere i_again0 i_d0 i_never i_firstCame i_longRun i_moved i_crowd i_l0 i_fitMany i_fitLeast i_fitMost m_fitPost m_fitEnd m_keptPosts i_x0], [zAr T 0 m_all 3952 f_all], [zAr T 0 m_posts 7 g_posts_3], [zAr T 0 m_shut 7 g_shut_4]]) (br := [[zAr T 0 m_was 7 f_was], [zAr T 0 m_here 7 g_here_5]]) (As := [.int (nI ((rw_ / 8) % 8))]) (rest := []) C G (c_fm_turns l T mo m_all m_has i_size i_next i_where i_token i_number i_word i_wrong i_farCrossing m_read i_z0 i_crossings i_inns m_posts m_shut m_here j_steps_1 j_done_2 i_at i_gone m_was m_came m_seenAt m_rowWorth m_farBy m_used i_everywhere i_again0 i_d0 i_never i_firstCame i_longRun i_moved i_crowd i_l0 i_fitMany i_fitLeast i_fitMost m_fitPost m_fitEnd m_keptPosts i_x0 f_all g_posts_3 g_shut_4 (nI ((rw_ / 8) % 8)) (by first | with_reducible assumption | with_reducible rfl | omega | assumption | rfl | decide) (by first | with_reducible assumption | with_reducible rfl | omega | assumption | rfl | decide) (by first | with_reducible assumption | with_reducible rfl | omega | assumption | rfl | decide) hV9 hQ9) (kV_RX12_205 C.2.2.2.2 (Nat.le_of_ble_eq_true rfl) (Nat.le_of_ble_eq_true rfl)) [4, 5, 1, 2] [1, 0, 1, 0] rfl rfl (ci := 11) (qc := (RX12, TX12, 43)) rfl rfl (List.mem_flatten.mpr ⟨_, List.mem_of_getElem? (i := 0) rfl, List.mem_cons_self⟩) rfl rfl hl.1 dX12_gameBy_58 (Nat.le_of_ble_eq_true rfl) (Nat.le_of_ble_eq_true rfl) (fun r_199 b1 H locs hw G => ?_)
          refine zEx1 hw ?_
          intro g_posts_194
          refine zCu5 ?_
          intro hbs9 h_195 h_196 h_197 hc_198
          clear hw
          subst hbs9
          have G : zS T A s.heap s [[zAr T 0 m_was 7 f_was], [zAr T 0 m_here 7 g_here_5], [zO11 mo m_all m_has i_size i_next i_where i_token i_number i_word i_wrong i_farCrossing m_read i_z0 i_crossings i_inns m_posts m_shut m_here j_steps_1 j_done_2 i_at i_gone m_was m_came m_seenAt m_rowWorth m_farBy m_used i_everywhere i_again0 i_d0 i_never i_firstCame i_longRun i_moved i_crowd i_l0 i_fitMany i_fitLeast i_fitMost m_fitPost m_fitEnd m_keptPosts i_x0], [zAr T 0 m_all 3952 f_all], [zAr T 0 m_posts 7 g_posts_194], [zAr T 0 m_shut 7 g_shut_4]] _ _ := G
          rcases hc_198 with ⟨rfl, h_200, h_201⟩ | ⟨rfl, h_202⟩
          · have h_200 : ¬ zTurn g_posts_3 g_shut_4 (zRo f_all i_z0) (nI ((rw_ / 8) % 8)) = -1 := h_200
            have h_201 : 0 < (zRd f_all i_z0 (nI ((rw_ / 8) % 8))).toInt := h_201
            have htu9 := gTu (n := i_inns) (w := (aRs (zWo f_all i_z0 i_inns) (zPo f_all i_z0) 7)) hL hQ9 hS9 (by omega) hf9.2 hbi9 hd1
            have hd2 : ∀ j, j < 7 → 0 < ((zWo f_all i_z0 i_inns) j).toInt → g_posts_194 j = aPo (zWo f_all i_z0 i_inns) (aTn (zWo f_all i_z0 i_inns) (aRs (zWo f_all i_z0 i_inns) (zPo f_all i_z0) 7) ((rw_ / 8) % 8)) j := by rw [h_197]; exact htu9.2
            have hp2 : gPx (zWo f_all i_z0 i_inns) (aRs (zWo f_all i_z0 i_inns) (zPo f_all i_z0) 7) 2 (rw_ / 8) = (true, (aTn (zWo f_all i_z0 i_inns) (aRs (zWo f_all i_z0 i_inns) (zPo f_all i_z0) 7) ((rw_ / 8) % 8))) := gPx_t hp1 (by omega) rfl (by omega) hf9.2
            have hQ9 := h_195
            have hV9 := h_196
            refine lv_pop hx hb dX12_gameBy_61 rfl ?_
            refine lv_iinc (v := 0) (lv' := [(4, .int 0), (5, .int (nI ((rw_ / 8) % 8))), (0, .ref mo), (1, .int (nI rw_)), (2, .int 3), (3, .int c_)]) hx hb dX12_gameBy_62 hl (k := 1) rfl (by decide) (by decide) (zLvf_h rfl) (fun ls hl => ?_)
            refine lv_goto (tgt := 9) hx hb dX12_gameBy_65 (by decide) ?_
            refine lv_iload hx hb dX12_gameBy_9 (lv_at hl 0 rfl) ?_
            refine lv_if_lt (tgt := 68) hx hb dX12_gameBy_11 (by decide) (fun q => absurd q (by decide)) (fun _ => ?_)
            refine lv_iload_n hx hb dX12_gameBy_14 rfl (lv_at hl 3 rfl) ?_
            refine lv_iconst (v := 3) hx hb dX12_gameBy_15 (by decide) ?_
            refine lv_iload hx hb dX12_gameBy_16 (lv_at hl 0 rfl) ?_
            refine lv_imul hx hb dX12_gameBy_18 ?_
            refine lv_topi (fun y_203 ey_203 => ?_)
            obtain rfl : y_203 = 0 := ey_203.trans (by decide)
            refine lv_ishr hx hb dX12_gameBy_19 ?_
            refine lv_bipush (v := 7) hx hb dX12_gameBy_20 (by decide) ?_
            refine lv_iand hx hb dX12_gameBy_22 ?_
            refine lv_topi (fun y_204 ey_204 => ?_)
            obtain rfl : y_204 = nI (rw_ % 8) := ey_204.trans ((by first | rfl | (rw [pk_shrN (by omega) (0 &&& 31) 0 (by decide), aAn (by omega)] <;> exact congrArg nI (by first | omega | (rw [Nat.pow_zero, Nat.div_one]))) | (rw [pk_shrN (by omega) 0 0 (by decide), aAn (by omega)]) | (rw [pk_shrN (by omega) _ 0 (by decide), aAn (by omega)]; exact congrArg nI (by omega))))
            have tD9 := nI_toInt (n := rw_ % 8) (by omega)
            have nD9 := nI_n (n := rw_ % 8) (by omega)
            refine lv_istore (lv' := [(5, .int (nI (rw_ % 8))), (4, .int 0), (0, .ref mo), (1, .int (nI rw_)), (2, .int 3), (3, .int c_)]) hx hb dX12_gameBy_23 hl (by decide) (zLvf_h rfl) (fun ls hl => ?_)
            refine lv_iload hx hb dX12_gameBy_25 (lv_at hl 0 rfl) ?_
            refine lv_bipush (v := 7) hx hb dX12_gameBy_27 (by decide) ?_
            refine lv_icmp_ne (tgt := 35) hx hb dX12_gameBy_29 (by decide) (fun c_205 => ?_) (fun c_205 => ?_)
            · have c_205n : ¬ rw_ % 8 = 7 := fun q => c_205 ((nI_eq (a := rw_ % 8) (b := 7) (by omega) (by omega)).mpr q)
              refine lv_aload_n hx hb dX12_gameBy_35 rfl (lv_at hl 2 rfl) ?_
              refine lv_iload hx hb dX12_gameBy_36 (lv_at hl 0 rfl) ?_
              have ti_206 : (nI (rw_ % 8)).toInt = ((rw_ % 8 : Nat) : Int) := nI_toInt (by omega)
              refine z_Vi (bc := [[zO11 mo m_all m_has i_size i_next i_where i_token i_number i_word i_wrong i_farCrossing m_read i_z0 i_crossings i_inns m_posts m_shut m_here j_steps_1 j_done_2 i_at i_gone m_was m_came m_seenAt m_rowWorth m_farBy m_used i_everywhere i_again0 i_d0 i_never i_firstCame i_longRun i_moved i_crowd i_l0 i_fitMany i_fitLeast i_fitMost m_fitPost m_fitEnd m_keptPosts i_x0]]) (br := [[zAr T 0 m_was 7 f_was], [zAr T 0 m_here 7 g_here_5], [zAr T 0 m_all 3952 f_all], [zAr T 0 m_posts 7 g_posts_194], [zAr T 0 m_shut 7 g_shut_4]]) (As := [.int (nI (rw_ % 8))]) (rest := []) C G (c_m_isCrossing l T mo m_all m_has i_size i_next i_where i_token i_number i_word i_wrong i_farCrossing m_read i_z0 i_crossings i_inns m_posts m_shut m_here j_steps_1 j_done_2 i_at i_gone m_was m_came m_seenAt m_rowWorth m_farBy m_used i_everywhere i_again0 i_d0 i_never i_firstCame i_longRun i_moved i_crowd i_l0 i_fitMany i_fitLeast i_fitMost m_fitPost m_fitEnd m_keptPosts i_x0 (nI (rw_ % 8)) (by first | with_reducible assumption | with_reducible rfl | omega | assumption | rfl | decide)) (kV_RX12_187 C.2.2.2.2 (Nat.le_of_ble_eq_true rfl) (Nat.le_of_ble_eq_true rfl)) [2] [2] rfl rfl (ci := 11) (qc := (RX12, TX12, 43)) rfl rfl (List.mem_flatten.mpr ⟨_, List.mem_of_getElem? (i := 0) rfl, List.mem_cons_self⟩) rfl rfl hl.1 dX12_gameBy_38 (Nat.le_of_ble_eq_true rfl) (Nat.le_of_ble_eq_true rfl) (fun r_208 b1 H locs hw G => ?_)
              refine zAn2 hw ?_
              intro hbs9 hc_207
              clear hw
              subst hbs9
              have G : zS T A s.heap s [[zAr T 0 m_was 7 f_was], [zAr T 0 m_here 7 g_here_5], [zAr T 0 m_all 3952 f_all], [zAr T 0 m_posts 7 g_posts_194], [zAr T 0 m_shut 7 g_shut_4], [zO11 mo m_all m_has i_size i_next i_where i_token i_number i_word i_wrong i_farCrossing m_read i_z0 i_crossings i_inns m_posts m_shut m_here j_steps_1 j_done_2 i_at i_gone m_was m_came m_seenAt m_rowWorth m_farBy m_used i_everywhere i_again0 i_d0 i_never i_firstCame i_longRun i_moved i_crowd i_l0 i_fitMany i_fitLeast i_fitMost m_fitPost m_fitEnd m_keptPosts i_x0]] _ _ := G
              rcases hc_207 with ⟨rfl, h_209, h_210⟩ | ⟨rfl, h_211⟩
              · have h_209 : 0 ≤ (nI (rw_ % 8)).toInt := h_209
                have h_210 : (nI (rw_ % 8)).toInt < i_crossings.toInt := h_210
                refine lv_if_eq (tgt := 53) hx hb dX12_gameBy_41 (by decide) (fun q => absurd q (by decide)) (fun _ => ?_)
                refine lv_aload_n hx hb dX12_gameBy_44 rfl (lv_at hl 2 rfl) ?_
                refine lv_iload hx hb dX12_gameBy_45 (lv_at hl 0 rfl) ?_
                have ti_212 : (nI (rw_ % 8)).toInt = ((rw_ % 8 : Nat) : Int) := nI_toInt (by omega)
                refine z_Vi (bc := [[zO11 mo m_all m_has i_size i_next i_where i_token i_number i_word i_wrong i_farCrossing m_read i_z0 i_crossings i_inns m_posts m_shut m_here j_steps_1 j_done_2 i_at i_gone m_was m_came m_seenAt m_rowWorth m_farBy m_used i_everywhere i_again0 i_d0 i_never i_firstCame i_longRun i_moved i_crowd i_l0 i_fitMany i_fitLeast i_fitMost m_fitPost m_fitEnd m_keptPosts i_x0], [zAr T 0 m_all 3952 f_all]]) (br := [[zAr T 0 m_was 7 f_was], [zAr T 0 m_here 7 g_here_5], [zAr T 0 m_posts 7 g_posts_194], [zAr T 0 m_shut 7 g_shut_4]]) (As := [.int (nI (rw_ % 8))]) (rest := []) C G (c_m_isFree l T mo m_all m_has i_size i_next i_where i_token i_number i_word i_wrong i_farCrossing m_read i_z0 i_crossings i_inns m_posts m_shut m_here j_steps_1 j_done_2 i_at i_gone m_was m_came m_seenAt m_rowWorth m_farBy m_used i_everywhere i_again0 i_d0 i_never i_firstCame i_longRun i_moved i_crowd i_l0 i_fitMany i_fitLeast i_fitMost m_fitPost m_fitEnd m_keptPosts i_x0 f_all (nI (rw_ % 8)) (by first | with_reducible assumption | with_reducible rfl | omega | assumption | rfl | decide) (by first | with_reducible assumption | with_reducible rfl | omega | assumption | rfl | decide) (by first | with_reducible assumption | with_reducible rfl | omega | assumption | rfl | decide)) (kV_RX12_223 C.2.2.2.2 (Nat.le_of_ble_eq_true rfl) (Nat.le_of_ble_eq_true rfl)) [5, 2] [2, 2] rfl rfl (ci := 11) (qc := (RX12, TX12, 43)) rfl rfl (List.mem_flatten.mpr ⟨_, List.mem_of_getElem? (i := 0) rfl, List.mem_cons_self⟩) rfl rfl hl.1 dX12_gameBy_47 (Nat.le_of_ble_eq_true rfl) (Nat.le_of_ble_eq_true rfl) (fun r_214 b1 H locs hw G => ?_)
                refine zAn2 hw ?_
                intro hbs9 hc_213
                clear hw
                subst hbs9
                have G : zS T A s.heap s [[zAr T 0 m_was 7 f_was], [zAr T 0 m_here 7 g_here_5], [zAr T 0 m_posts 7 g_posts_194], [zAr T 0 m_shut 7 g_shut_4], [zO11 mo m_all m_has i_size i_next i_where i_token i_number i_word i_wrong i_farCrossing m_read i_z0 i_crossings i_inns m_posts m_shut m_here j_steps_1 j_done_2 i_at i_gone m_was m_came m_seenAt m_rowWorth m_farBy m_used i_everywhere i_again0 i_d0 i_never i_firstCame i_longRun i_moved i_crowd i_l0 i_fitMany i_fitLeast i_fitMost m_fitPost m_fitEnd m_keptPosts i_x0], [zAr T 0 m_all 3952 f_all]] _ _ := G
                rcases hc_213 with ⟨rfl, h_215, h_216⟩ | ⟨rfl, h_217⟩
                · have h_215 : ¬ zInn i_inns (nI (rw_ % 8)) := h_215
                  have h_216 : 0 < (zRd f_all i_z0 (nI (rw_ % 8))).toInt := h_216
                  have hf9 := aWo_1 (f := f_all) (z := i_z0) (n := i_inns) (c := nI (rw_ % 8)) (by first | with_reducible assumption | assumption) (by first | with_reducible assumption | assumption) (by omega) (by omega)
                  rw [nD9] at hf9
                  have hbi9 : ¬ zBit i_inns (nI (rw_ % 8)) = 1 := h_215
                  refine lv_if_ne (tgt := 55) hx hb dX12_gameBy_50 (by decide) (fun _ => ?_) (fun q => absurd q (by decide))
                  refine lv_aload_n hx hb dX12_gameBy_55 rfl (lv_at hl 2 rfl) ?_
                  refine lv_iload hx hb dX12_gameBy_56 (lv_at hl 0 rfl) ?_
                  have ti_218 : (nI (rw_ % 8)).toInt = ((rw_ % 8 : Nat) : Int) := nI_toInt (by omega)
                  refine z_Vi (bc := [[zO11 mo m_all m_has i_size i_next i_where i_token i_number i_word i_wrong i_farCrossing m_read i_z0 i_crossings i_inns m_posts m_shut m_here j_steps_1 j_done_2 i_at i_gone m_was m_came m_seenAt m_rowWorth m_farBy m_used i_everywhere i_again0 i_d0 i_never i_firstCame i_longRun i_moved i_crowd i_l0 i_fitMany i_fitLeast i_fitMost m_fitPost m_fitEnd m_keptPosts i_x0], [zAr T 0 m_all 3952 f_all], [zAr T 0 m_posts 7 g_posts_194], [zAr T 0 m_shut 7 g_shut_4]]) (br := [[zAr T 0 m_was 7 f_was], [zAr T 0 m_here 7 g_here_5]]) (As := [.int (nI (rw_ % 8))]) (rest := []) C G (c_fm_turns l T mo m_all m_has i_size i_next i_where i_token i_number i_word i_wrong i_farCrossing m_read i_z0 i_crossings i_inns m_posts m_shut m_here j_steps_1 j_done_2 i_at i_gone m_was m_came m_seenAt m_rowWorth m_farBy m_used i_everywhere i_again0 i_d0 i_never i_firstCame i_longRun i_moved i_crowd i_l0 i_fitMany i_fitLeast i_fitMost m_fitPost m_fitEnd m_keptPosts i_x0 f_all g_posts_194 g_shut_4 (nI (rw_ % 8)) (by first | with_reducible assumption | with_reducible rfl | omega | assumption | rfl | decide) (by first | with_reducible assumption | with_reducible rfl | omega | assumption | rfl | decide) (by first | with_reducible assumption | with_reducible rfl | omega | assumption | rfl | decide) hV9 hQ9) (kV_RX12_205 C.2.2.2.2 (Nat.le_of_ble_eq_true rfl) (Nat.le_of_ble_eq_true rfl)) [4, 5, 2, 3] [2, 0, 0, 0] rfl rfl (ci := 11) (qc := (RX12, TX12, 43)) rfl rfl (List.mem_flatten.mpr ⟨_, List.mem_of_getElem? (i := 0) rfl, List.mem_cons_self⟩) rfl rfl hl.1 dX12_gameBy_58 (Nat.le_of_ble_eq_true rfl) (Nat.le_of_ble_eq_true rfl) (fun r_224 b1 H locs hw G => ?_)
                  refine zEx1 hw ?_
                  intro g_posts_219
                  refine zCu5 ?_
                  intro hbs9 h_220 h_221 h_222 hc_223
                  clear hw
                  subst hbs9
                  have G : zS T A s.heap s [[zAr T 0 m_was 7 f_was], [zAr T 0 m_here 7 g_here_5], [zO11 mo m_all m_has i_size i_next i_where i_token i_number i_word i_wrong i_farCrossing m_read i_z0 i_crossings i_inns m_posts m_shut m_here j_steps_1 j_done_2 i_at i_gone m_was m_came m_seenAt m_rowWorth m_farBy m_used i_everywhere i_again0 i_d0 i_never i_firstCame i_longRun i_moved i_crowd i_l0 i_fitMany i_fitLeast i_fitMost m_fitPost m_fitEnd m_keptPosts i_x0], [zAr T 0 m_all 3952 f_all], [zAr T 0 m_posts 7 g_posts_219], [zAr T 0 m_shut 7 g_shut_4]] _ _ := G
                  rcases hc_223 with ⟨rfl, h_225, h_226⟩ | ⟨rfl, h_227⟩
                  · have h_225 : ¬ zTurn g_posts_194 g_shut_4 (zRo f_all i_z0) (nI (rw_ % 8)) = -1 := h_225
                    have h_226 : 0 < (zRd f_all i_z0 (nI (rw_ % 8))).toInt := h_226
                    have htu9 := gTu (n := i_inns) (w := (aTn (zWo f_all i_z0 i_inns) (aRs (zWo f_all i_z0 i_inns) (zPo f_all i_z0) 7) ((rw_ / 8) % 8))) hL hQ9 hS9 (by omega) hf9.2 hbi9 hd2
                    have hd3 : ∀ j, j < 7 → 0 < ((zWo f_all i_z0 i_inns) j).toInt → g_posts_219 j = aPo (zWo f_all i_z0 i_inns) (aTn (zWo f_all i_z0 i_inns) (aTn (zWo f_all i_z0 i_inns) (aRs (zWo f_all i_z0 i_inns) (zPo f_all i_z0) 7) ((rw_ / 8) % 8)) (rw_ % 8)) j := by rw [h_222]; exact htu9.2
                    have hp3 : gPx (zWo f_all i_z0 i_inns) (aRs (zWo f_all i_z0 i_inns) (zPo f_all i_z0) 7) 3 rw_ = (true, (aTn (zWo f_all i_z0 i_inns) (aTn (zWo f_all i_z0 i_inns) (aRs (zWo f_all i_z0 i_inns) (zPo f_all i_z0) 7) ((rw_ / 8) % 8)) (rw_ % 8))) := gPx_t hp2 (by omega) rfl (by omega) hf9.2
                    have hQ9 := h_220
                    have hV9 := h_221
                    refine lv_pop hx hb dX12_gameBy_61 rfl ?_
                    refine lv_iinc (v := (-1)) (lv' := [(4, .int (-1)), (5, .int (nI (rw_ % 8))), (0, .ref mo), (1, .int (nI rw_)), (2, .int 3), (3, .int c_)]) hx hb dX12_gameBy_62 hl (k := 1) rfl (by decide) (by decide) (zLvf_h rfl) (fun ls hl => ?_)
                    refine lv_goto (tgt := 9) hx hb dX12_gameBy_65 (by decide) ?_
                    refine lv_iload hx hb dX12_gameBy_9 (lv_at hl 0 rfl) ?_
                    refine lv_if_lt (tgt := 68) hx hb dX12_gameBy_11 (by decide) (fun _ => ?_) (fun q => absurd (by decide) q)
                    refine lv_aload_n hx hb dX12_gameBy_68 rfl (lv_at hl 2 rfl) ?_
                    refine lv_iload_n hx hb dX12_gameBy_69 rfl (lv_at hl 5 rfl) ?_
                    refine z_Vi (bc := [[zO11 mo m_all m_has i_size i_next i_where i_token i_number i_word i_wrong i_farCrossing m_read i_z0 i_crossings i_inns m_posts m_shut m_here j_steps_1 j_done_2 i_at i_gone m_was m_came m_seenAt m_rowWorth m_farBy m_used i_everywhere i_again0 i_d0 i_never i_firstCame i_longRun i_moved i_crowd i_l0 i_fitMany i_fitLeast i_fitMost m_fitPost m_fitEnd m_keptPosts i_x0], [zAr T 0 m_all 3952 f_all], [zAr T 0 m_posts 7 g_posts_219], [zAr T 0 m_shut 7 g_shut_4], [zAr T 0 m_was 7 f_was]]) (br := [[zAr T 0 m_here 7 g_here_5]]) (As := [.int c_]) (rest := []) C G (c_fm_walks l T mo m_all m_has i_size i_next i_where i_token i_number i_word i_wrong i_farCrossing m_read i_z0 i_crossings i_inns m_posts m_shut m_here j_steps_1 j_done_2 i_at i_gone m_was m_came m_seenAt m_rowWorth m_farBy m_used i_everywhere i_again0 i_d0 i_never i_firstCame i_longRun i_moved i_crowd i_l0 i_fitMany i_fitLeast i_fitMost m_fitPost m_fitEnd m_keptPosts i_x0 f_all g_posts_219 g_shut_4 f_was c_ (by first | with_reducible assumption | with_reducible rfl | omega | assumption | rfl | decide) (by first | with_reducible assumption | with_reducible rfl | omega | assumption | rfl | decide) (by first | with_reducible assumption | with_reducible rfl | omega | assumption | rfl | decide) hV9 hQ9) (kV_RX12_217 C.2.2.2.2 (Nat.le_of_ble_eq_true rfl) (Nat.le_of_ble_eq_true rfl)) [2, 3, 4, 5, 0] [0, 1, 0, 0, 0] rfl rfl (ci := 11) (qc := (RX12, TX12, 43)) rfl rfl (List.mem_flatten.mpr ⟨_, List.mem_of_getElem? (i := 0) rfl, List.mem_cons_self⟩) rfl rfl hl.1 dX12_gameBy_70 (Nat.le_of_ble_eq_true rfl) (Nat.le_of_ble_eq_true rfl) (fun r_242 b1 H locs hw G => ?_)
                    refine zEx4 hw ?_
                    intro j_at_228 j_gone_229 g_posts_230 g_was_231
                    refine zCu11 ?_
                    intro hbs9 h_232 h_233 h_234 h_235 h_236 h_237 h_238 h_239 h_240 h_241
                    clear hw
                    subst hbs9
                    have G : zS T A s.heap s [[zAr T 0 m_here 7 g_here_5], [zO11 mo m_all m_has i_size i_next i_where i_token i_number i_word i_wrong i_farCrossing m_read i_z0 i_crossings i_inns m_posts m_shut m_here j_steps_1 j_done_2 j_at_228 j_gone_229 m_was m_came m_seenAt m_rowWorth m_farBy m_used i_everywhere i_again0 i_d0 i_never i_firstCame i_longRun i_moved i_crowd i_l0 i_fitMany i_fitLeast i_fitMost m_fitPost m_fitEnd m_keptPosts i_x0], [zAr T 0 m_all 3952 f_all], [zAr T 0 m_posts 7 g_posts_230], [zAr T 0 m_shut 7 g_shut_4], [zAr T 0 m_was 7 g_was_231]] _ _ := G
                    replace h_237 : zHd ((r_242 = 1 ∧ zBit i_inns j_at_228 = 1 ∨ r_242 = 0 ∧ ¬ zBit i_inns j_at_228 = 1)) := h_237
                    have hRw := rWalkF (n := i_inns) (c := c_) (w := (aTn (zWo f_all i_z0 i_inns) (aTn (zWo f_all i_z0 i_inns) (aRs (zWo f_all i_z0 i_inns) (zPo f_all i_z0) 7) ((rw_ / 8) % 8)) (rw_ % 8))) hL hQ9 hS9 hd3 hc0 hc6
                    have hat9 : j_at_228 = rWh (zWo f_all i_z0 i_inns) (zLo f_all i_z0) (aTn (zWo f_all i_z0 i_inns) (aTn (zWo f_all i_z0 i_inns) (aRs (zWo f_all i_z0 i_inns) (zPo f_all i_z0) 7) ((rw_ / 8) % 8)) (rw_ % 8)) c_ := h_239.trans hRw.1
                    have hgo9 : j_gone_229 = nI (rStp (zWo f_all i_z0 i_inns) (zLo f_all i_z0) (aTn (zWo f_all i_z0 i_inns) (aTn (zWo f_all i_z0 i_inns) (aRs (zWo f_all i_z0 i_inns) (zPo f_all i_z0) 7) ((rw_ / 8) % 8)) (rw_ % 8)) c_) := by rw [h_240, hRw.2.1]
                    have hgl9 : rStp (zWo f_all i_z0 i_inns) (zLo f_all i_z0) (aTn (zWo f_all i_z0 i_inns) (aTn (zWo f_all i_z0 i_inns) (aRs (zWo f_all i_z0 i_inns) (zPo f_all i_z0) 7) ((rw_ / 8) % 8)) (rw_ % 8)) c_ ≤ 499 := rStp_le
                    refine lv_if_eq (tgt := 83) hx hb dX12_gameBy_73 (by decide) (fun c_243 => ?_) (fun c_243 => ?_)
                    · have c_243n : r_242.toInt = (0 : Int) := (fa_eq _ _).mp c_243
                      refine lv_sipush (v := 500) hx hb dX12_gameBy_83 (by decide) ?_
                      have G := G.sub (bs' := [[zO11 mo m_all m_has i_size i_next i_where i_token i_number i_word i_wrong i_farCrossing m_read i_z0 i_crossings i_inns m_posts m_shut m_here j_steps_1 j_done_2 j_at_228 j_gone_229 m_was m_came m_seenAt m_rowWorth m_farBy m_used i_everywhere i_again0 i_d0 i_never i_firstCame i_longRun i_moved i_crowd i_l0 i_fitMany i_fitLeast i_fitMost m_fitPost m_fitEnd m_keptPosts i_x0], [zAr T 0 m_all 3952 f_all], [zAr T 0 m_posts 7 g_posts_230], [zAr T 0 m_shut 7 g_shut_4], [zAr T 0 m_here 7 g_here_5], [zAr T 0 m_was 7 g_was_231]]) [1, 2, 3, 4, 0, 5] rfl
                      exact z_back hQz_ (z_iret C hr hlocks G (Nat.le_of_ble_eq_true rfl) (Nat.le_of_ble_eq_true rfl) dX12_gameBy_86 ⟨j_steps_1, j_done_2, j_at_228, j_gone_229, g_posts_230, g_shut_4, g_here_5, g_was_231, rfl, (by unfold gRw; rw [hp3, if_pos rfl]; show _ = ((gSn (zWo f_all i_z0 i_inns) (zLo f_all i_z0) i_inns (aTn (zWo f_all i_z0 i_inns) (aTn (zWo f_all i_z0 i_inns) (aRs (zWo f_all i_z0 i_inns) (zPo f_all i_z0) 7) ((rw_ / 8) % 8)) (rw_ % 8)) c_ : Nat) : Int); unfold gSn; rw [if_neg (by rw [← hat9]; rcases h_237 with e9 | e9 <;> first | exact e9.2 | (exfalso; have q9 := e9.1; first | omega | (have e7 := congrArg Int32.toInt q9; have e6 : (0 : Int32).toInt = 0 := rfl; have e5 : (1 : Int32).toInt = 1 := rfl; omega)))]; rfl)⟩)
                    · have c_243n : ¬ r_242.toInt = (0 : Int) := fun q => c_243 ((fa_eq _ _).mpr q)
                      refine lv_aload_n hx hb dX12_gameBy_76 rfl (lv_at hl 2 rfl) ?_
                      refine z_get C G clX12 1 rfl 20 (by decide) m_fl_RX12_208 rfl dX12_gameBy_77 ?_
                      refine lv_goto (tgt := 86) hx hb dX12_gameBy_80 (by decide) ?_
                      have G := G.sub (bs' := [[zO11 mo m_all m_has i_size i_next i_where i_token i_number i_word i_wrong i_farCrossing m_read i_z0 i_crossings i_inns m_posts m_shut m_here j_steps_1 j_done_2 j_at_228 j_gone_229 m_was m_came m_seenAt m_rowWorth m_farBy m_used i_everywhere i_again0 i_d0 i_never i_firstCame i_longRun i_moved i_crowd i_l0 i_fitMany i_fitLeast i_fitMost m_fitPost m_fitEnd m_keptPosts i_x0], [zAr T 0 m_all 3952 f_all], [zAr T 0 m_posts 7 g_posts_230], [zAr T 0 m_shut 7 g_shut_4], [zAr T 0 m_here 7 g_here_5], [zAr T 0 m_was 7 g_was_231]]) [1, 2, 3, 4, 0, 5] rfl
                      exact z_back hQz_ (z_iret C hr hlocks G (Nat.le_of_ble_eq_true rfl) (Nat.le_of_ble_eq_true rfl) dX12_gameBy_86 ⟨j_steps_1, j_done_2, j_at_228, j_gone_229, g_posts_230, g_shut_4, g_here_5, g_was_231, rfl, (by unfold gRw; rw [hp3, if_pos rfl]; show _ = ((gSn (zWo f_all i_z0 i_inns) (zLo f_all i_z0) i_inns (aTn (zWo f_all i_z0 i_inns) (aTn (zWo f_all i_z0 i_inns) (aRs (zWo f_all i_z0 i_inns) (zPo f_all i_z0) 7) ((rw_ / 8) % 8)) (rw_ % 8)) c_ : Nat) : Int); unfold gSn; rw [if_pos (by rw [← hat9]; rcases h_237 with e9 | e9 <;> first | exact e9.2 | (exfalso; have q9 := e9.1; first | omega | (have e7 := congrArg Int32.toInt q9; have e6 : (0 : Int32).toInt = 0 := rfl; have e5 : (1 : Int32).toInt = 1 := rfl; omega))), hgo9, nI_toInt (by omega)])⟩)
                  · have h_227 : zTurn g_posts_194 g_shut_4 (zRo f_all i_z0) (nI (rw_ % 8)) = -1 := h_227
                    have htu9 := gTu (n := i_inns) (w := (aTn (zWo f_all i_z0 i_inns) (aRs (zWo f_all i_z0 i_inns) (zPo f_all i_z0) 7) ((rw_ / 8) % 8))) hL hQ9 hS9 (by omega) hf9.2 hbi9 hd2
                    exact absurd h_227 htu9.1
                · have h_217 : (zInn i_inns (nI (rw_ % 8)) ∨ (zRd f_all i_z0 (nI (rw_ % 8))).toInt ≤ 0) := h_217
                  have hf9 := aWo_0 (f := f_all) (z := i_z0) (n := i_inns) (c := nI (rw_ % 8)) (by first | with_reducible assumption | assumption) (by omega) (by omega)
                  rw [nD9] at hf9
                  have hno9 : ¬ 0 < ((zWo f_all i_z0 i_inns) (rw_ % 8)).toInt := by omega
                  have hx3 : (gPx (zWo f_all i_z0 i_inns) (aRs (zWo f_all i_z0 i_inns) (zPo f_all i_z0) 7) 3 rw_).1 = false := gPx_x (c := rw_ % 8) rfl (by omega) hno9
                  refine lv_if_ne (tgt := 55) hx hb dX12_gameBy_50 (by decide) (fun q => absurd (by decide) q) (fun _ => ?_)
                  refine lv_iconst (v := (-1)) hx hb dX12_gameBy_53 (by decide) ?_
                  have G := G.sub (bs' := [[zO11 mo m_all m_has i_size i_next i_where i_token i_number i_word i_wrong i_farCrossing m_read i_z0 i_crossings i_inns m_posts m_shut m_here j_steps_1 j_done_2 i_at i_gone m_was m_came m_seenAt m_rowWorth m_farBy m_used i_everywhere i_again0 i_d0 i_never i_firstCame i_longRun i_moved i_crowd i_l0 i_fitMany i_fitLeast i_fitMost m_fitPost m_fitEnd m_keptPosts i_x0], [zAr T 0 m_all 3952 f_all], [zAr T 0 m_posts 7 g_posts_194], [zAr T 0 m_shut 7 g_shut_4], [zAr T 0 m_here 7 g_here_5], [zAr T 0 m_was 7 f_was]]) [4, 5, 2, 3, 1, 0] rfl
                  exact z_back hQz_ (z_iret C hr hlocks G (Nat.le_of_ble_eq_true rfl) (Nat.le_of_ble_eq_true rfl) dX12_gameBy_54 ⟨j_steps_1, j_done_2, i_at, i_gone, g_posts_194, g_shut_4, g_here_5, f_was, rfl, (by unfold gRw; rw [if_neg (by rw [hx3]; exact Bool.false_ne_true)]; rfl)⟩)
              · have h_211 : ((nI (rw_ % 8)).toInt < 0 ∨ i_crossings.toInt ≤ (nI (rw_ % 8)).toInt) := h_211
                have hno9 : ¬ 0 < ((zWo f_all i_z0 i_inns) (rw_ % 8)).toInt := fun q9 => by have q8 := zVZ_lt hZ (show rw_ % 8 < 7 by omega) q9; omega
                have hx3 : (gPx (zWo f_all i_z0 i_inns) (aRs (zWo f_all i_z0 i_inns) (zPo f_all i_z0) 7) 3 rw_).1 = false := gPx_x (c := rw_ % 8) rfl (by omega) hno9
                refine lv_if_eq (tgt := 53) hx hb dX12_gameBy_41 (by decide) (fun _ => ?_) (fun q => absurd (by decide) q)
                refine lv_iconst (v := (-1)) hx hb dX12_gameBy_53 (by decide) ?_
                have G := G.sub (bs' := [[zO11 mo m_all m_has i_size i_next i_where i_token i_number i_word i_wrong i_farCrossing m_read i_z0 i_crossings i_inns m_posts m_shut m_here j_steps_1 j_done_2 i_at i_gone m_was m_came m_seenAt m_rowWorth m_farBy m_used i_everywhere i_again0 i_d0 i_never i_firstCame i_longRun i_moved i_crowd i_l0 i_fitMany i_fitLeast i_fitMost m_fitPost m_fitEnd m_keptPosts i_x0], [zAr T 0 m_all 3952 f_all], [zAr T 0 m_posts 7 g_posts_194], [zAr T 0 m_shut 7 g_shut_4], [zAr T 0 m_here 7 g_here_5], [zAr T 0 m_was 7 f_was]]) [5, 2, 3, 4, 1, 0] rfl
                exact z_back hQz_ (z_iret C hr hlocks G (Nat.le_of_ble_eq_true rfl) (Nat.le_of_ble_eq_true rfl) dX12_gameBy_54 ⟨j_steps_1, j_done_2, i_at, i_gone, g_posts_194, g_shut_4, g_here_5, f_was, rfl, (by unfold gRw; rw [if_neg (by rw [hx3]; exact Bool.false_ne_true)]; rfl)⟩)
            · have c_205n : rw_ % 8 = 7 := (nI_eq (a := rw_ % 8) (b := 7) (by omega) (by omega)).mp c_205
              have hp3 : gPx (zWo f_all i_z0 i_inns) (aRs (zWo f_all i_z0 i_inns) (zPo f_all i_z0) 7) 3 rw_ = (true, (aTn (zWo f_all i_z0 i_inns) (aRs (zWo f_all i_z0 i_inns) (zPo f_all i_z0) 7) ((rw_ / 8) % 8))) := gPx_7 hp2 (by omega) (by omega)
              have hd3 := hd2
              refine lv_goto (tgt := 62) hx hb dX12_gameBy_32 (by decide) ?_
              refine lv_iinc (v := (-1)) (lv' := [(4, .int (-1)), (5, .int (nI (rw_ % 8))), (0, .ref mo), (1, .int (nI rw_)), (2, .int 3), (3, .int c_)]) hx hb dX12_gameBy_62 hl (k := 1) rfl (by decide) (by decide) (zLvf_h rfl) (fun ls hl => ?_)
              refine lv_goto (tgt := 9) hx hb dX12_gameBy_65 (by decide) ?_
              refine lv_iload hx hb dX12_gameBy_9 (lv_at hl 0 rfl) ?_
              refine lv_if_lt (tgt := 68) hx hb dX12_gameBy_11 (by decide) (fun _ => ?_) (fun q => absurd (by decide) q)
              refine lv_aload_n hx hb dX12_gameBy_68 rfl (lv_at hl 2 rfl) ?_
              refine lv_iload_n hx hb dX12_gameBy_69 rfl (lv_at hl 5 rfl) ?_
              refine z_Vi (bc := [[zO11 mo m_all m_has i_size i_next i_where i_token i_number i_word i_wrong i_farCrossing m_read i_z0 i_crossings i_inns m_posts m_shut m_here j_steps_1 j_done_2 i_at i_gone m_was m_came m_seenAt m_rowWorth m_farBy m_used i_everywhere i_again0 i_d0 i_never i_firstCame i_longRun i_moved i_crowd i_l0 i_fitMany i_fitLeast i_fitMost m_fitPost m_fitEnd m_keptPosts i_x0], [zAr T 0 m_all 3952 f_all], [zAr T 0 m_posts 7 g_posts_194], [zAr T 0 m_shut 7 g_shut_4], [zAr T 0 m_was 7 f_was]]) (br := [[zAr T 0 m_here 7 g_here_5]]) (As := [.int c_]) (rest := []) C G (c_fm_walks l T mo m_all m_has i_size i_next i_where i_token i_number i_word i_wrong i_farCrossing m_read i_z0 i_crossings i_inns m_posts m_shut m_here j_steps_1 j_done_2 i_at i_gone m_was m_came m_seenAt m_rowWorth m_farBy m_used i_everywhere i_again0 i_d0 i_never i_firstCame i_longRun i_moved i_crowd i_l0 i_fitMany i_fitLeast i_fitMost m_fitPost m_fitEnd m_keptPosts i_x0 f_all g_posts_194 g_shut_4 f_was c_ (by first | with_reducible assumption | with_reducible rfl | omega | assumption | rfl | decide) (by first | with_reducible assumption | with_reducible rfl | omega | assumption | rfl | decide) (by first | with_reducible assumption | with_reducible rfl | omega | assumption | rfl | decide) hV9 hQ9) (kV_RX12_217 C.2.2.2.2 (Nat.le_of_ble_eq_true rfl) (Nat.le_of_ble_eq_true rfl)) [2, 3, 4, 5, 0] [0, 1, 0, 0, 0] rfl rfl (ci := 11) (qc := (RX12, TX12, 43)) rfl rfl (List.mem_flatten.mpr ⟨_, List.mem_of_getElem? (i := 0) rfl, List.mem_cons_self⟩) rfl rfl hl.1 dX12_gameBy_70 (Nat.le_of_ble_eq_true rfl) (Nat.le_of_ble_eq_true rfl) (fun r_258 b1 H locs hw G => ?_)
              refine zEx4 hw ?_
              intro j_at_244 j_gone_245 g_posts_246 g_was_247
              refine zCu11 ?_
              intro hbs9 h_248 h_249 h_250 h_251 h_252 h_253 h_254 h_255 h_256 h_257
              clear hw
              subst hbs9
              have G : zS T A s.heap s [[zAr T 0 m_here 7 g_here_5], [zO11 mo m_all m_has i_size i_next i_where i_token i_number i_word i_wrong i_farCrossing m_read i_z0 i_crossings i_inns m_posts m_shut m_here j_steps_1 j_done_2 j_at_244 j_gone_245 m_was m_came m_seenAt m_rowWorth m_farBy m_used i_everywhere i_again0 i_d0 i_never i_firstCame i_longRun i_moved i_crowd i_l0 i_fitMany i_fitLeast i_fitMost m_fitPost m_fitEnd m_keptPosts i_x0], [zAr T 0 m_all 3952 f_all], [zAr T 0 m_posts 7 g_posts_246], [zAr T 0 m_shut 7 g_shut_4], [zAr T 0 m_was 7 g_was_247]] _ _ := G
              replace h_253 : zHd ((r_258 = 1 ∧ zBit i_inns j_at_244 = 1 ∨ r_258 = 0 ∧ ¬ zBit i_inns j_at_244 = 1)) := h_253
              have hRw := rWalkF (n := i_inns) (c := c_) (w := (aTn (zWo f_all i_z0 i_inns) (aRs (zWo f_all i_z0 i_inns) (zPo f_all i_z0) 7) ((rw_ / 8) % 8))) hL hQ9 hS9 hd3 hc0 hc6
              have hat9 : j_at_244 = rWh (zWo f_all i_z0 i_inns) (zLo f_all i_z0) (aTn (zWo f_all i_z0 i_inns) (aRs (zWo f_all i_z0 i_inns) (zPo f_all i_z0) 7) ((rw_ / 8) % 8)) c_ := h_255.trans hRw.1
              have hgo9 : j_gone_245 = nI (rStp (zWo f_all i_z0 i_inns) (zLo f_all i_z0) (aTn (zWo f_all i_z0 i_inns) (aRs (zWo f_all i_z0 i_inns) (zPo f_all i_z0) 7) ((rw_ / 8) % 8)) c_) := by rw [h_256, hRw.2.1]
              have hgl9 : rStp (zWo f_all i_z0 i_inns) (zLo f_all i_z0) (aTn (zWo f_all i_z0 i_inns) (aRs (zWo f_all i_z0 i_inns) (zPo f_all i_z0) 7) ((rw_ / 8) % 8)) c_ ≤ 499 := rStp_le
              refine lv_if_eq (tgt := 83) hx hb dX12_gameBy_73 (by decide) (fun c_259 => ?_) (fun c_259 => ?_)
              · have c_259n : r_258.toInt = (0 : Int) := (fa_eq _ _).mp c_259
                refine lv_sipush (v := 500) hx hb dX12_gameBy_83 (by decide) ?_
                have G := G.sub (bs' := [[zO11 mo m_all m_has i_size i_next i_where i_token i_number i_word i_wrong i_farCrossing m_read i_z0 i_crossings i_inns m_posts m_shut m_here j_steps_1 j_done_2 j_at_244 j_gone_245 m_was m_came m_seenAt m_rowWorth m_farBy m_used i_everywhere i_again0 i_d0 i_never i_firstCame i_longRun i_moved i_crowd i_l0 i_fitMany i_fitLeast i_fitMost m_fitPost m_fitEnd m_keptPosts i_x0], [zAr T 0 m_all 3952 f_all], [zAr T 0 m_posts 7 g_posts_246], [zAr T 0 m_shut 7 g_shut_4], [zAr T 0 m_here 7 g_here_5], [zAr T 0 m_was 7 g_was_247]]) [1, 2, 3, 4, 0, 5] rfl
                exact z_back hQz_ (z_iret C hr hlocks G (Nat.le_of_ble_eq_true rfl) (Nat.le_of_ble_eq_true rfl) dX12_gameBy_86 ⟨j_steps_1, j_done_2, j_at_244, j_gone_245, g_posts_246, g_shut_4, g_here_5, g_was_247, rfl, (by unfold gRw; rw [hp3, if_pos rfl]; show _ = ((gSn (zWo f_all i_z0 i_inns) (zLo f_all i_z0) i_inns (aTn (zWo f_all i_z0 i_inns) (aRs (zWo f_all i_z0 i_inns) (zPo f_all i_z0) 7) ((rw_ / 8) % 8)) c_ : Nat) : Int); unfold gSn; rw [if_neg (by rw [← hat9]; rcases h_253 with e9 | e9 <;> first | exact e9.2 | (exfalso; have q9 := e9.1; first | omega | (have e7 := congrArg Int32.toInt q9; have e6 : (0 : Int32).toInt = 0 := rfl; have e5 : (1 : Int32).toInt = 1 := rfl; omega)))]; rfl)⟩)
              · have c_259n : ¬ r_258.toInt = (0 : Int) := fun q => c_259 ((fa_eq _ _).mpr q)
                refine lv_aload_n hx hb dX12_gameBy_76 rfl (lv_at hl 2 rfl) ?_
                refine z_get C G clX12 1 rfl 20 (by decide) m_fl_RX12_208 rfl dX12_gameBy_77 ?_
                refine lv_goto (tgt := 86) hx hb dX12_gameBy_80 (by decide) ?_
                have G := G.sub (bs' := [[zO11 mo m_all m_has i_size i_next i_where i_token i_number i_word i_wrong i_farCrossing m_read i_z0 i_crossings i_inns m_posts m_shut m_here j_steps_1 j_done_2 j_at_244 j_gone_245 m_was m_came m_seenAt m_rowWorth m_farBy m_used i_everywhere i_again0 i_d0 i_never i_firstCame i_longRun i_moved i_crowd i_l0 i_fitMany i_fitLeast i_fitMost m_fitPost m_fitEnd m_keptPosts i_x0], [zAr T 0 m_all 3952 f_all], [zAr T 0 m_posts 7 g_posts_246], [zAr T 0 m_shut 7 g_shut_4], [zAr T 0 m_here 7 g_here_5], [zAr T 0 m_was 7 g_was_247]]) [1, 2, 3, 4, 0, 5] rfl
                exact z_back hQz_ (z_iret C hr hlocks G (Nat.le_of_ble_eq_true rfl) (Nat.le_of_ble_eq_true rfl) dX12_gameBy_86 ⟨j_steps_1, j_done_2, j_at_244, j_gone_245, g_posts_246, g_shut_4, g_here_5, g_was_247, rfl, (by unfold gRw; rw [hp3, if_pos rfl]; show _ = ((gSn (zWo f_all i_z0 i_inns) (zLo f_all i_z0) i_inns (aTn (zWo f_all i_z0 i_inns) (aRs (zWo f_all i_z0 i_inns) (zPo f_all i_z0) 7) ((rw_ / 8) % 8)) c_ : Nat) : Int); unfold gSn; rw [if_pos (by rw [← hat9]; rcases h_253 with e9 | e9 <;> first | exact e9.2 | (exfalso; have q9 := e9.1; first | omega | (have e7 := congrArg Int32.toInt q9; have e6 : (0 : Int32).toInt = 0 := rfl; have e5 : (1 : Int32).toInt = 1 := rfl; omega))), hgo9, nI_toInt (by omega)])⟩)
          · have h_202 : zTurn g_posts_3 g_shut_4 (zRo f_all i_z0) (nI ((rw_ / 8) % 8)) = -1 := h_202
            have htu9 := gTu (n := i_inns) (w := (aRs (zWo f_all i_z0 i_inns) (zPo f_all i_z0) 7)) hL hQ9 hS9 (by omega) hf9.2 hbi9 hd1
            exact absurd h_202 htu9.1
        · have h_192 : (zInn i_inns (nI ((rw_ / 8) % 8)) ∨ (zRd f_all i_z0 (nI ((rw_ / 8) % 8))).toInt ≤ 0) := h_192
          have hf9 := aWo_0 (f := f_all) (z := i_z0) (n := i_inns) (c := nI ((rw_ / 8) % 8)) (by first | with_reducible assumption | assumption) (by omega) (by omega)
          rw [nD9] at hf9
          have hno9 : ¬ 0 < ((zWo f_all i_z0 i_inns) ((rw_ / 8) % 8)).toInt := by omega
          have hx2 : (gPx (zWo f_all i_z0 i_inns) (aRs (zWo f_all i_z0 i_inns) (zPo f_all i_z0) 7) 2 (rw_ / 8)).1 = false := gPx_x (c := (rw_ / 8) % 8) rfl (by omega) hno9
          have hx3 : (gPx (zWo f_all i_z0 i_inns) (aRs (zWo f_all i_z0 i_inns) (zPo f_all i_z0) 7) 3 rw_).1 = false := gPx_f hx2 (by omega)
          refine lv_if_ne (tgt := 55) hx hb dX12_gameBy_50 (by decide) (fun q => absurd (by decide) q) (fun _ => ?_)
          refine lv_iconst (v := (-1)) hx hb dX12_gameBy_53 (by decide) ?_
          have G := G.sub (bs' := [[zO11 mo m_all m_has i_size i_next i_where i_token i_number i_word i_wrong i_farCrossing m_read i_z0 i_crossings i_inns m_posts m_shut m_here j_steps_1 j_done_2 i_at i_gone m_was m_came m_seenAt m_rowWorth m_farBy m_used i_everywhere i_again0 i_d0 i_never i_firstCame i_longRun i_moved i_crowd i_l0 i_fitMany i_fitLeast i_fitMost m_fitPost m_fitEnd m_keptPosts i_x0], [zAr T 0 m_all 3952 f_all], [zAr T 0 m_posts 7 g_posts_3], [zAr T 0 m_shut 7 g_shut_4], [zAr T 0 m_here 7 g_here_5], [zAr T 0 m_was 7 f_was]]) [4, 5, 1, 2, 3, 0] rfl
          exact z_back hQz_ (z_iret C hr hlocks G (Nat.le_of_ble_eq_true rfl) (Nat.le_of_ble_eq_true rfl) dX12_gameBy_54 ⟨j_steps_1, j_done_2, i_at, i_gone, g_posts_3, g_shut_4, g_here_5, f_was, rfl, (by unfold gRw; rw [if_neg (by rw [hx3]; exact Bool.false_ne_true)]; rfl)⟩)
      · have h_186 : ((nI ((rw_ / 8) % 8)).toInt < 0 ∨ i_crossings.toInt ≤ (nI ((rw_ / 8) % 8)).toInt) := h_186
        have hno9 : ¬ 0 < ((zWo f_all i_z0 i_inns) ((rw_ / 8) % 8)).toInt := fun q9 => by have q8 := zVZ_lt hZ (show (rw_ / 8) % 8 < 7 by omega) q9; omega
        have hx2 : (gPx (zWo f_all i_z0 i_inns) (aRs (zWo f_all i_z0 i_inns) (zPo f_all i_z0) 7) 2 (rw_ / 8)).1 = false := gPx_x (c := (rw_ / 8) % 8) rfl (by omega) hno9
        have hx3 : (gPx (zWo f_all i_z0 i_inns) (aRs (zWo f_all i_z0 i_inns) (zPo f_all i_z0) 7) 3 rw_).1 = false := gPx_f hx2 (by omega)
        refine lv_if_eq (tgt := 53) hx hb dX12_gameBy_41 (by decide) (fun _ => ?_) (fun q => absurd (by decide) q)
        refine lv_iconst (v := (-1)) hx hb dX12_gameBy_53 (by decide) ?_
        have G := G.sub (bs' := [[zO11 mo m_all m_has i_size i_next i_where i_token i_number i_word i_wrong i_farCrossing m_read i_z0 i_crossings i_inns m_posts m_shut m_here j_steps_1 j_done_2 i_at i_gone m_was m_came m_seenAt m_rowWorth m_farBy m_used i_everywhere i_again0 i_d0 i_never i_firstCame i_longRun i_moved i_crowd i_l0 i_fitMany i_fitLeast i_fitMost m_fitPost m_fitEnd m_keptPosts i_x0], [zAr T 0 m_all 3952 f_all], [zAr T 0 m_posts 7 g_posts_3], [zAr T 0 m_shut 7 g_shut_4], [zAr T 0 m_here 7 g_here_5], [zAr T 0 m_was 7 f_was]]) [5, 1, 2, 3, 4, 0] rfl
        exact z_back hQz_ (z_iret C hr hlocks G (Nat.le_of_ble_eq_true rfl) (Nat.le_of_ble_eq_true rfl) dX12_gameBy_54 ⟨j_steps_1, j_done_2, i_at, i_gone, g_posts_3, g_shut_4, g_here_5, f_was, rfl, (by unfold gRw; rw [if_neg (by rw [hx3]; exact Bool.false_ne_true)]; rfl)⟩)
    · have c_180n : (rw_ / 8) % 8 = 7 := (nI_eq (a := (rw_ / 8) % 8) (b := 7) (by omega) (by omega)).mp c_180
      have hp2 : gPx (zWo f_all i_z0 i_inns) (aRs (zWo f_all i_z0 i_inns) (zPo f_all i_z0) 7) 2 (rw_ / 8) = (true, (aRs (zWo f_all i_z0 i_inns) (zPo f_all i_z0) 7)) := gPx_7 hp1 (by omega) (by omega)
      have hd2 := hd1
      refine lv_goto (tgt := 62) hx hb dX12_gameBy_32 (by decide) ?_
      refine lv_iinc (v := 0) (lv' := [(4, .int 0), (5, .int (nI ((rw_ / 8) % 8))), (0, .ref mo), (1, .int (nI rw_)), (2, .int 3), (3, .int c_)]) hx hb dX12_gameBy_62 hl (k := 1) rfl (by decide) (by decide) (zLvf_h rfl) (fun ls hl => ?_)
      refine lv_goto (tgt := 9) hx hb dX12_gameBy_65 (by decide) ?_
      refine lv_iload hx hb dX12_gameBy_9 (lv_at hl 0 rfl) ?_
      refine lv_if_lt (tgt := 68) hx hb dX12_gameBy_11 (by decide) (fun q => absurd q (by decide)) (fun _ => ?_)
      refine lv_iload_n hx hb dX12_gameBy_14 rfl (lv_at hl 3 rfl) ?_
      refine lv_iconst (v := 3) hx hb dX12_gameBy_15 (by decide) ?_
      refine lv_iload hx hb dX12_gameBy_16 (lv_at hl 0 rfl) ?_
      refine lv_imul hx hb dX12_gameBy_18 ?_
      refine lv_topi (fun y_260 ey_260 => ?_)
      obtain rfl : y_260 = 0 := ey_260.trans (by decide)
      refine lv_ishr hx hb dX12_gameBy_19 ?_
      refine lv_bipush (v := 7) hx hb dX12_gameBy_20 (by decide) ?_
      refine lv_iand hx hb dX12_gameBy_22 ?_
      refine lv_topi (fun y_261 ey_261 => ?_)
      obtain rfl : y_261 = nI (rw_ % 8) := ey_261.trans ((by first | rfl | (rw [pk_shrN (by omega) (0 &&& 31) 0 (by decide), aAn (by omega)] <;> exact congrArg nI (by first | omega | (rw [Nat.pow_zero, Nat.div_one]))) | (rw [pk_shrN (by omega) 0 0 (by decide), aAn (by omega)]) | (rw [pk_shrN (by omega) _ 0 (by decide), aAn (by omega)]; exact congrArg nI (by omega))))
      have tD9 := nI_toInt (n := rw_ % 8) (by omega)
      have nD9 := nI_n (n := rw_ % 8) (by omega)
      refine lv_istore (lv' := [(5, .int (nI (rw_ % 8))), (4, .int 0), (0, .ref mo), (1, .int (nI rw_)), (2, .int 3), (3, .int c_)]) hx hb dX12_gameBy_23 hl (by decide) (zLvf_h rfl) (fun ls hl => ?_)
      refine lv_iload hx hb dX12_gameBy_25 (lv_at hl 0 rfl) ?_
      refine lv_bipush (v := 7) hx hb dX12_gameBy_27 (by decide) ?_
      refine lv_icmp_ne (tgt := 35) hx hb dX12_gameBy_29 (by decide) (fun c_262 => ?_) (fun c_262 => ?_)
      · have c_262n : ¬ rw_ % 8 = 7 := fun q => c_262 ((nI_eq (a := rw_ % 8) (b := 7) (by omega) (by omega)).mpr q)
        refine lv_aload_n hx hb dX12_gameBy_35 rfl (lv_at hl 2 rfl) ?_
        refine lv_iload hx hb dX12_gameBy_36 (lv_at hl 0 rfl) ?_
        have ti_263 : (nI (rw_ % 8)).toInt = ((rw_ % 8 : Nat) : Int) := nI_toInt (by omega)
        refine z_Vi (bc := [[zO11 mo m_all m_has i_size i_next i_where i_token i_number i_word i_wrong i_farCrossing m_read i_z0 i_crossings i_inns m_posts m_shut m_here j_steps_1 j_done_2 i_at i_gone m_was m_came m_seenAt m_rowWorth m_farBy m_used i_everywhere i_again0 i_d0 i_never i_firstCame i_longRun i_moved i_crowd i_l0 i_fitMany i_fitLeast i_fitMost m_fitPost m_fitEnd m_keptPosts i_x0]]) (br := [[zAr T 0 m_was 7 f_was], [zAr T 0 m_all 3952 f_all], [zAr T 0 m_posts 7 g_posts_3], [zAr T 0 m_shut 7 g_shut_4], [zAr T 0 m_here 7 g_here_5]]) (As := [.int (nI (rw_ % 8))]) (rest := []) C G (c_m_isCrossing l T mo m_all m_has i_size i_next i_where i_token i_number i_word i_wrong i_farCrossing m_read i_z0 i_crossings i_inns m_posts m_shut m_here j_steps_1 j_done_2 i_at i_gone m_was m_came m_seenAt m_rowWorth m_farBy m_used i_everywhere i_again0 i_d0 i_never i_firstCame i_longRun i_moved i_crowd i_l0 i_fitMany i_fitLeast i_fitMost m_fitPost m_fitEnd m_keptPosts i_x0 (nI (rw_ % 8)) (by first | with_reducible assumption | with_reducible rfl | omega | assumption | rfl | decide)) (kV_RX12_187 C.2.2.2.2 (Nat.le_of_ble_eq_true rfl) (Nat.le_of_ble_eq_true rfl)) [1] [1] rfl rfl (ci := 11) (qc := (RX12, TX12, 43)) rfl rfl (List.mem_flatten.mpr ⟨_, List.mem_of_getElem? (i := 0) rfl, List.mem_cons_self⟩) rfl rfl hl.1 dX12_gameBy_38 (Nat.le_of_ble_eq_true rfl) (Nat.le_of_ble_eq_true rfl) (fun r_265 b1 H locs hw G => ?_)
        refine zAn2 hw ?_
        intro hbs9 hc_264
        clear hw
        subst hbs9
        have G : zS T A s.heap s [[zAr T 0 m_was 7 f_was], [zAr T 0 m_all 3952 f_all], [zAr T 0 m_posts 7 g_posts_3], [zAr T 0 m_shut 7 g_shut_4], [zAr T 0 m_here 7 g_here_5], [zO11 mo m_all m_has i_size i_next i_where i_token i_number i_word i_wrong i_farCrossing m_read i_z0 i_crossings i_inns m_posts m_shut m_here j_steps_1 j_done_2 i_at i_gone m_was m_came m_seenAt m_rowWorth m_farBy m_used i_everywhere i_again0 i_d0 i_never i_firstCame i_longRun i_moved i_crowd i_l0 i_fitMany i_fitLeast i_fitMost m_fitPost m_fitEnd m_keptPosts i_x0]] _ _ := G
        rcases hc_264 with ⟨rfl, h_266, h_267⟩ | ⟨rfl, h_268⟩
        · have h_266 : 0 ≤ (nI (rw_ % 8)).toInt := h_266
          have h_267 : (nI (rw_ % 8)).toInt < i_crossings.toInt := h_267
          refine lv_if_eq (tgt := 53) hx hb dX12_gameBy_41 (by decide) (fun q => absurd q (by decide)) (fun _ => ?_)
          refine lv_aload_n hx hb dX12_gameBy_44 rfl (lv_at hl 2 rfl) ?_
          refine lv_iload hx hb dX12_gameBy_45 (lv_at hl 0 rfl) ?_
          have ti_269 : (nI (rw_ % 8)).toInt = ((rw_ % 8 : Nat) : Int) := nI_toInt (by omega)
          refine z_Vi (bc := [[zO11 mo m_all m_has i_size i_next i_where i_token i_number i_word i_wrong i_farCrossing m_read i_z0 i_crossings i_inns m_posts m_shut m_here j_steps_1 j_done_2 i_at i_gone m_was m_came m_seenAt m_rowWorth m_farBy m_used i_everywhere i_again0 i_d0 i_never i_firstCame i_longRun i_moved i_crowd i_l0 i_fitMany i_fitLeast i_fitMost m_fitPost m_fitEnd m_keptPosts i_x0], [zAr T 0 m_all 3952 f_all]]) (br := [[zAr T 0 m_was 7 f_was], [zAr T 0 m_posts 7 g_posts_3], [zAr T 0 m_shut 7 g_shut_4], [zAr T 0 m_here 7 g_here_5]]) (As := [.int (nI (rw_ % 8))]) (rest := []) C G (c_m_isFree l T mo m_all m_has i_size i_next i_where i_token i_number i_word i_wrong i_farCrossing m_read i_z0 i_crossings i_inns m_posts m_shut m_here j_steps_1 j_done_2 i_at i_gone m_was m_came m_seenAt m_rowWorth m_farBy m_used i_everywhere i_again0 i_d0 i_never i_firstCame i_longRun i_moved i_crowd i_l0 i_fitMany i_fitLeast i_fitMost m_fitPost m_fitEnd m_keptPosts i_x0 f_all (nI (rw_ % 8)) (by first | with_reducible assumption | with_reducible rfl | omega | assumption | rfl | decide) (by first | with_reducible assumption | with_reducible rfl | omega | assumption | rfl | decide) (by first | with_reducible assumption | with_reducible rfl | omega | assumption | rfl | decide)) (kV_RX12_223 C.2.2.2.2 (Nat.le_of_ble_eq_true rfl) (Nat.le_of_ble_eq_true rfl)) [5, 1] [1, 3] rfl rfl (ci := 11) (qc := (RX12, TX12, 43)) rfl rfl (List.mem_flatten.mpr ⟨_, List.mem_of_getElem? (i := 0) rfl, List.mem_cons_self⟩) rfl rfl hl.1 dX12_gameBy_47 (Nat.le_of_ble_eq_true rfl) (Nat.le_of_ble_eq_true rfl) (fun r_271 b1 H locs hw G => ?_)
          refine zAn2 hw ?_
          intro hbs9 hc_270
          clear hw
          subst hbs9
          have G : zS T A s.heap s [[zAr T 0 m_was 7 f_was], [zAr T 0 m_posts 7 g_posts_3], [zAr T 0 m_shut 7 g_shut_4], [zAr T 0 m_here 7 g_here_5], [zO11 mo m_all m_has i_size i_next i_where i_token i_number i_word i_wrong i_farCrossing m_read i_z0 i_crossings i_inns m_posts m_shut m_here j_steps_1 j_done_2 i_at i_gone m_was m_came m_seenAt m_rowWorth m_farBy m_used i_everywhere i_again0 i_d0 i_never i_firstCame i_longRun i_moved i_crowd i_l0 i_fitMany i_fitLeast i_fitMost m_fitPost m_fitEnd m_keptPosts i_x0], [zAr T 0 m_all 3952 f_all]] _ _ := G
          rcases hc_270 with ⟨rfl, h_272, h_273⟩ | ⟨rfl, h_274⟩
          · have h_272 : ¬ zInn i_inns (nI (rw_ % 8)) := h_272
            have h_273 : 0 < (zRd f_all i_z0 (nI (rw_ % 8))).toInt := h_273
            have hf9 := aWo_1 (f := f_all) (z := i_z0) (n := i_inns) (c := nI (rw_ % 8)) (by first | with_reducible assumption | assumption) (by first | with_reducible assumption | assumption) (by omega) (by omega)
            rw [nD9] at hf9
            have hbi9 : ¬ zBit i_inns (nI (rw_ % 8)) = 1 := h_272
            refine lv_if_ne (tgt := 55) hx hb dX12_gameBy_50 (by decide) (fun _ => ?_) (fun q => absurd q (by decide))
            refine lv_aload_n hx hb dX12_gameBy_55 rfl (lv_at hl 2 rfl) ?_
            refine lv_iload hx hb dX12_gameBy_56 (lv_at hl 0 rfl) ?_
            have ti_275 : (nI (rw_ % 8)).toInt = ((rw_ % 8 : Nat) : Int) := nI_toInt (by omega)
            refine z_Vi (bc := [[zO11 mo m_all m_has i_size i_next i_where i_token i_number i_word i_wrong i_farCrossing m_read i_z0 i_crossings i_inns m_posts m_shut m_here j_steps_1 j_done_2 i_at i_gone m_was m_came m_seenAt m_rowWorth m_farBy m_used i_everywhere i_again0 i_d0 i_never i_firstCame i_longRun i_moved i_crowd i_l0 i_fitMany i_fitLeast i_fitMost m_fitPost m_fitEnd m_keptPosts i_x0], [zAr T 0 m_all 3952 f_all], [zAr T 0 m_posts 7 g_posts_3], [zAr T 0 m_shut 7 g_shut_4]]) (br := [[zAr T 0 m_was 7 f_was], [zAr T 0 m_here 7 g_here_5]]) (As := [.int (nI (rw_ % 8))]) (rest := []) C G (c_fm_turns l T mo m_all m_has i_size i_next i_where i_token i_number i_word i_wrong i_farCrossing m_read i_z0 i_crossings i_inns m_posts m_shut m_here j_steps_1 j_done_2 i_at i_gone m_was m_came m_seenAt m_rowWorth m_farBy m_used i_everywhere i_again0 i_d0 i_never i_firstCame i_longRun i_moved i_crowd i_l0 i_fitMany i_fitLeast i_fitMost m_fitPost m_fitEnd m_keptPosts i_x0 f_all g_posts_3 g_shut_4 (nI (rw_ % 8)) (by first | with_reducible assumption | with_reducible rfl | omega | assumption | rfl | decide) (by first | with_reducible assumption | with_reducible rfl | omega | assumption | rfl | decide) (by first | with_reducible assumption | with_reducible rfl | omega | assumption | rfl | decide) hV9 hQ9) (kV_RX12_205 C.2.2.2.2 (Nat.le_of_ble_eq_true rfl) (Nat.le_of_ble_eq_true rfl)) [4, 5, 1, 2] [1, 0, 1, 0] rfl rfl (ci := 11) (qc := (RX12, TX12, 43)) rfl rfl (List.mem_flatten.mpr ⟨_, List.mem_of_getElem? (i := 0) rfl, List.mem_cons_self⟩) rfl rfl hl.1 dX12_gameBy_58 (Nat.le_of_ble_eq_true rfl) (Nat.le_of_ble_eq_true rfl) (fun r_281 b1 H locs hw G => ?_)
            refine zEx1 hw ?_
            intro g_posts_276
            refine zCu5 ?_
            intro hbs9 h_277 h_278 h_279 hc_280
            clear hw
            subst hbs9
            have G : zS T A s.heap s [[zAr T 0 m_was 7 f_was], [zAr T 0 m_here 7 g_here_5], [zO11 mo m_all m_has i_size i_next i_where i_token i_number i_word i_wrong i_farCrossing m_read i_z0 i_crossings i_inns m_posts m_shut m_here j_steps_1 j_done_2 i_at i_gone m_was m_came m_seenAt m_rowWorth m_farBy m_used i_everywhere i_again0 i_d0 i_never i_firstCame i_longRun i_moved i_crowd i_l0 i_fitMany i_fitLeast i_fitMost m_fitPost m_fitEnd m_keptPosts i_x0], [zAr T 0 m_all 3952 f_all], [zAr T 0 m_posts 7 g_posts_276], [zAr T 0 m_shut 7 g_shut_4]] _ _ := G
            rcases hc_280 with ⟨rfl, h_282, h_283⟩ | ⟨rfl, h_284⟩
            · have h_282 : ¬ zTurn g_posts_3 g_shut_4 (zRo f_all i_z0) (nI (rw_ % 8)) = -1 := h_282
              have h_283 : 0 < (zRd f_all i_z0 (nI (rw_ % 8))).toInt := h_283
              have htu9 := gTu (n := i_inns) (w := (aRs (zWo f_all i_z0 i_inns) (zPo f_all i_z0) 7)) hL hQ9 hS9 (by omega) hf9.2 hbi9 hd2
              have hd3 : ∀ j, j < 7 → 0 < ((zWo f_all i_z0 i_inns) j).toInt → g_posts_276 j = aPo (zWo f_all i_z0 i_inns) (aTn (zWo f_all i_z0 i_inns) (aRs (zWo f_all i_z0 i_inns) (zPo f_all i_z0) 7) (rw_ % 8)) j := by rw [h_279]; exact htu9.2
              have hp3 : gPx (zWo f_all i_z0 i_inns) (aRs (zWo f_all i_z0 i_inns) (zPo f_all i_z0) 7) 3 rw_ = (true, (aTn (zWo f_all i_z0 i_inns) (aRs (zWo f_all i_z0 i_inns) (zPo f_all i_z0) 7) (rw_ % 8))) := gPx_t hp2 (by omega) rfl (by omega) hf9.2
              have hQ9 := h_277
              have hV9 := h_278
              refine lv_pop hx hb dX12_gameBy_61 rfl ?_
              refine lv_iinc (v := (-1)) (lv' := [(4, .int (-1)), (5, .int (nI (rw_ % 8))), (0, .ref mo), (1, .int (nI rw_)), (2, .int 3), (3, .int c_)]) hx hb dX12_gameBy_62 hl (k := 1) rfl (by decide) (by decide) (zLvf_h rfl) (fun ls hl => ?_)
              refine lv_goto (tgt := 9) hx hb dX12_gameBy_65 (by decide) ?_
              refine lv_iload hx hb dX12_gameBy_9 (lv_at hl 0 rfl) ?_
              refine lv_if_lt (tgt := 68) hx hb dX12_gameBy_11 (by decide) (fun _ => ?_) (fun q => absurd (by decide) q)
              refine lv_aload_n hx hb dX12_gameBy_68 rfl (lv_at hl 2 rfl) ?_
              refine lv_iload_n hx hb dX12_gameBy_69 rfl (lv_at hl 5 rfl) ?_
              refine z_Vi (bc := [[zO11 mo m_all m_has i_size i_next i_where i_token i_number i_word i_wrong i_farCrossing m_read i_z0 i_crossings i_inns m_posts m_shut m_here j_steps_1 j_done_2 i_at i_gone m_was m_came m_seenAt m_rowWorth m_farBy m_used i_everywhere i_again0 i_d0 i_never i_firstCame i_longRun i_moved i_crowd i_l0 i_fitMany i_fitLeast i_fitMost m_fitPost m_fitEnd m_keptPosts i_x0], [zAr T 0 m_all 3952 f_all], [zAr T 0 m_posts 7 g_posts_276], [zAr T 0 m_shut 7 g_shut_4], [zAr T 0 m_was 7 f_was]]) (br := [[zAr T 0 m_here 7 g_here_5]]) (As := [.int c_]) (rest := []) C G (c_fm_walks l T mo m_all m_has i_size i_next i_where i_token i_number i_word i_wrong i_farCrossing m_read i_z0 i_crossings i_inns m_posts m_shut m_here j_steps_1 j_done_2 i_at i_gone m_was m_came m_seenAt m_rowWorth m_farBy m_used i_everywhere i_again0 i_d0 i_never i_firstCame i_longRun i_moved i_crowd i_l0 i_fitMany i_fitLeast i_fitMost m_fitPost m_fitEnd m_keptPosts i_x0 f_all g_posts_276 g_shut_4 f_was c_ (by first | with_reducible assumption | with_reducible rfl | omega | assumption | rfl | decide) (by first | with_reducible assumption | with_reducible rfl | omega | assumption | rfl | decide) (by first | with_reducible assumption | with_reducible rfl | omega | assumption | rfl | decide) hV9 hQ9) (kV_RX12_217 C.2.2.2.2 (Nat.le_of_ble_eq_true rfl) (Nat.le_of_ble_eq_true rfl)) [2, 3, 4, 5, 0] [0, 1, 0, 0, 0] rfl rfl (ci := 11) (qc := (RX12, TX12, 43)) rfl rfl (List.mem_flatten.mpr ⟨_, List.mem_of_getElem? (i := 0) rfl, List.mem_cons_self⟩) rfl rfl hl.1 dX12_gameBy_70 (Nat.le_of_ble_eq_true rfl) (Nat.le_of_ble_eq_true rfl) (fun r_299 b1 H locs hw G => ?_)
              refine zEx4 hw ?_
              intro j_at_285 j_gone_286 g_posts_287 g_was_288
              refine zCu11 ?_
              intro hbs9 h_289 h_290 h_291 h_292 h_293 h_294 h_295 h_296 h_297 h_298
              clear hw
              subst hbs9
              have G : zS T A s.heap s [[zAr T 0 m_here 7 g_here_5], [zO11 mo m_all m_has i_size i_next i_where i_token i_number i_word i_wrong i_farCrossing m_read i_z0 i_crossings i_inns m_posts m_shut m_here j_steps_1 j_done_2 j_at_285 j_gone_286 m_was m_came m_seenAt m_rowWorth m_farBy m_used i_everywhere i_again0 i_d0 i_never i_firstCame i_longRun i_moved i_crowd i_l0 i_fitMany i_fitLeast i_fitMost m_fitPost m_fitEnd m_keptPosts i_x0], [zAr T 0 m_all 3952 f_all], [zAr T 0 m_posts 7 g_posts_287], [zAr T 0 m_shut 7 g_shut_4], [zAr T 0 m_was 7 g_was_288]] _ _ := G
              replace h_294 : zHd ((r_299 = 1 ∧ zBit i_inns j_at_285 = 1 ∨ r_299 = 0 ∧ ¬ zBit i_inns j_at_285 = 1)) := h_294
              have hRw := rWalkF (n := i_inns) (c := c_) (w := (aTn (zWo f_all i_z0 i_inns) (aRs (zWo f_all i_z0 i_inns) (zPo f_all i_z0) 7) (rw_ % 8))) hL hQ9 hS9 hd3 hc0 hc6
              have hat9 : j_at_285 = rWh (zWo f_all i_z0 i_inns) (zLo f_all i_z0) (aTn (zWo f_all i_z0 i_inns) (aRs (zWo f_all i_z0 i_inns) (zPo f_all i_z0) 7) (rw_ % 8)) c_ := h_296.trans hRw.1
              have hgo9 : j_gone_286 = nI (rStp (zWo f_all i_z0 i_inns) (zLo f_all i_z0) (aTn (zWo f_all i_z0 i_inns) (aRs (zWo f_all i_z0 i_inns) (zPo f_all i_z0) 7) (rw_ % 8)) c_) := by rw [h_297, hRw.2.1]
              have hgl9 : rStp (zWo f_all i_z0 i_inns) (zLo f_all i_z0) (aTn (zWo f_all i_z0 i_inns) (aRs (zWo f_all i_z0 i_inns) (zPo f_all i_z0) 7) (rw_ % 8)) c_ ≤ 499 := rStp_le
              refine lv_if_eq (tgt := 83) hx hb dX12_gameBy_73 (by decide) (fun c_300 => ?_) (fun c_300 => ?_)
              · have c_300n : r_299.toInt = (0 : Int) := (fa_eq _ _).mp c_300
                refine lv_sipush (v := 500) hx hb dX12_gameBy_83 (by decide) ?_
                have G := G.sub (bs' := [[zO11 mo m_all m_has i_size i_next i_where i_token i_number i_word i_wrong i_farCrossing m_read i_z0 i_crossings i_inns m_posts m_shut m_here j_steps_1 j_done_2 j_at_285 j_gone_286 m_was m_came m_seenAt m_rowWorth m_farBy m_used i_everywhere i_again0 i_d0 i_never i_firstCame i_longRun i_moved i_crowd i_l0 i_fitMany i_fitLeast i_fitMost m_fitPost m_fitEnd m_keptPosts i_x0], [zAr T 0 m_all 3952 f_all], [zAr T 0 m_posts 7 g_posts_287], [zAr T 0 m_shut 7 g_shut_4], [zAr T 0 m_here 7 g_here_5], [zAr T 0 m_was 7 g_was_288]]) [1, 2, 3, 4, 0, 5] rfl
                exact z_back hQz_ (z_iret C hr hlocks G (Nat.le_of_ble_eq_true rfl) (Nat.le_of_ble_eq_true rfl) dX12_gameBy_86 ⟨j_steps_1, j_done_2, j_at_285, j_gone_286, g_posts_287, g_shut_4, g_here_5, g_was_288, rfl, (by unfold gRw; rw [hp3, if_pos rfl]; show _ = ((gSn (zWo f_all i_z0 i_inns) (zLo f_all i_z0) i_inns (aTn (zWo f_all i_z0 i_inns) (aRs (zWo f_all i_z0 i_inns) (zPo f_all i_z0) 7) (rw_ % 8)) c_ : Nat) : Int); unfold gSn; rw [if_neg (by rw [← hat9]; rcases h_294 with e9 | e9 <;> first | exact e9.2 | (exfalso; have q9 := e9.1; first | omega | (have e7 := congrArg Int32.toInt q9; have e6 : (0 : Int32).toInt = 0 := rfl; have e5 : (1 : Int32).toInt = 1 := rfl; omega)))]; rfl)⟩)
              · have c_300n : ¬ r_299.toInt = (0 : Int) := fun q => c_300 ((fa_eq _ _).mpr q)
                refine lv_aload_n hx hb dX12_gameBy_76 rfl (lv_at hl 2 rfl) ?_
                refine z_get C G clX12 1 rfl 20 (by decide) m_fl_RX12_208 rfl dX12_gameBy_77 ?_
                refine lv_goto (tgt := 86) hx hb dX12_gameBy_80 (by decide) ?_
                have G := G.sub (bs' := [[zO11 mo m_all m_has i_size i_next i_where i_token i_number i_word i_wrong i_farCrossing m_read i_z0 i_crossings i_inns m_posts m_shut m_here j_steps_1 j_done_2 j_at_285 j_gone_286 m_was m_came m_seenAt m_rowWorth m_farBy m_used i_everywhere i_again0 i_d0 i_never i_firstCame i_longRun i_moved i_crowd i_l0 i_fitMany i_fitLeast i_fitMost m_fitPost m_fitEnd m_keptPosts i_x0], [zAr T 0 m_all 3952 f_all], [zAr T 0 m_posts 7 g_posts_287], [zAr T 0 m_shut 7 g_shut_4], [zAr T 0 m_here 7 g_here_5], [zAr T 0 m_was 7 g_was_288]]) [1, 2, 3, 4, 0, 5] rfl
                exact z_back hQz_ (z_iret C hr hlocks G (Nat.le_of_ble_eq_true rfl) (Nat.le_of_ble_eq_true rfl) dX12_gameBy_86 ⟨j_steps_1, j_done_2, j_at_285, j_gone_286, g_posts_287, g_shut_4, g_here_5, g_was_288, rfl, (by unfold gRw; rw [hp3, if_pos rfl]; show _ = ((gSn (zWo f_all i_z0 i_inns) (zLo f_all i_z0) i_inns (aTn (zWo f_all i_z0 i_inns) (aRs (zWo f_all i_z0 i_inns) (zPo f_all i_z0) 7) (rw_ % 8)) c_ : Nat) : Int); unfold gSn; rw [if_pos (by rw [← hat9]; rcases h_294 with e9 | e9 <;> first | exact e9.2 | (exfalso; have q9 := e9.1; first | omega | (have e7 := congrArg Int32.toInt q9; have e6 : (0 : Int32).toInt = 0 := rfl; have e5 : (1 : Int32).toInt = 1 := rfl; omega))), hgo9, nI_toInt (by omega)])⟩)
            · have h_284 : zTurn g_posts_3 g_shut_4 (zRo f_all i_z0) (nI (rw_ % 8)) = -1 := h_284
              have htu9 := gTu (n := i_inns) (w := (aRs (zWo f_all i_z0 i_inns) (zPo f_all i_z0) 7)) hL hQ9 hS9 (by omega) hf9.2 hbi9 hd2
              exact absurd h_284 htu9.1
          · have h_274 : (zInn i_inns (nI (rw_ % 8)) ∨ (zRd f_all i_z0 (nI (rw_ % 8))).toInt ≤ 0) := h_274
            have hf9 := aWo_0 (f := f_all) (z := i_z0) (n := i_inns) (c := nI (rw_ % 8)) (by first | with_reducible assumption | assumption) (by omega) (by omega)
            rw [nD9] at hf9
            have hno9 : ¬ 0 < ((zWo f_all i_z0 i_inns) (rw_ % 8)).toInt := by omega
            have hx3 : (gPx (zWo f_all i_z0 i_inns) (aRs (zWo f_all i_z0 i_inns) (zPo f_all i_z0) 7) 3 rw_).1 = false := gPx_x (c := rw_ % 8) rfl (by omega) hno9
            refine lv_if_ne (tgt := 55) hx hb dX12_gameBy_50 (by decide) (fun q => absurd (by decide) q) (fun _ => ?_)
            refine lv_iconst (v := (-1)) hx hb dX12_gameBy_53 (by decide) ?_
            have G := G.sub (bs' := [[zO11 mo m_all m_has i_size i_next i_where i_token i_number i_word i_wrong i_farCrossing m_read i_z0 i_crossings i_inns m_posts m_shut m_here j_steps_1 j_done_2 i_at i_gone m_was m_came m_seenAt m_rowWorth m_farBy m_used i_everywhere i_again0 i_d0 i_never i_firstCame i_longRun i_moved i_crowd i_l0 i_fitMany i_fitLeast i_fitMost m_fitPost m_fitEnd m_keptPosts i_x0], [zAr T 0 m_all 3952 f_all], [zAr T 0 m_posts 7 g_posts_3], [zAr T 0 m_shut 7 g_shut_4], [zAr T 0 m_here 7 g_here_5], [zAr T 0 m_was 7 f_was]]) [4, 5, 1, 2, 3, 0] rfl
            exact z_back hQz_ (z_iret C hr hlocks G (Nat.le_of_ble_eq_true rfl) (Nat.le_of_ble_eq_true rfl) dX12_gameBy_54 ⟨j_steps_1, j_done_2, i_at, i_gone, g_posts_3, g_shut_4, g_here_5, f_was, rfl, (by unfold gRw; rw [if_neg (by rw [hx3]; exact Bool.false_ne_true)]; rfl)⟩)
        · have h_268 : ((nI (rw_ % 8)).toInt < 0 ∨ i_crossings.toInt ≤ (nI (rw_ % 8)).toInt) := h_268
          have hno9 : ¬ 0 < ((zWo f_all i_z0 i_inns) (rw_ % 8)).toInt := fun q9 => by have q8 := zVZ_lt hZ (show rw_ % 8 < 7 by omega) q9; omega
          have hx3 : (gPx (zWo f_all i_z0 i_inns) (aRs (zWo f_all i_z0 i_inns) (zPo f_all i_z0) 7) 3 rw_).1 = false := gPx_x (c := rw_ % 8) rfl (by omega) hno9
          refine lv_if_eq (tgt := 53) hx hb dX12_gameBy_41 (by decide) (fun _ => ?_) (fun q => absurd (by decide) q)
          refine lv_iconst (v := (-1)) hx hb dX12_gameBy_53 (by decide) ?_
          have G := G.sub (bs' := [[zO11 mo m_all m_has i_size i_next i_where i_token i_number i_word i_wrong i_farCrossing m_read i_z0 i_crossings i_inns m_posts m_shut m_here j_steps_1 j_done_2 i_at i_gone m_was m_came m_seenAt m_rowWorth m_farBy m_used i_everywhere i_again0 i_d0 i_never i_firstCame i_longRun i_moved i_crowd i_l0 i_fitMany i_fitLeast i_fitMost m_fitPost m_fitEnd m_keptPosts i_x0], [zAr T 0 m_all 3952 f_all], [zAr T 0 m_posts 7 g_posts_3], [zAr T 0 m_shut 7 g_shut_4], [zAr T 0 m_here 7 g_here_5], [zAr T 0 m_was 7 f_was]]) [5, 1, 2, 3, 4, 0] rfl
          exact z_back hQz_ (z_iret C hr hlocks G (Nat.le_of_ble_eq_true rfl) (Nat.le_of_ble_eq_true rfl) dX12_gameBy_54 ⟨j_steps_1, j_done_2, i_at, i_gone, g_posts_3, g_shut_4, g_here_5, f_was, rfl, (by unfold gRw; rw [if_neg (by rw [hx3]; exact Bool.false_ne_true)]; rfl)⟩)
      · have c_262n : rw_ % 8 = 7 := (nI_eq (a := rw_ % 8) (b := 7) (by omega) (by omega)).mp c_262
        have hp3 : gPx (zWo f_all i_z0 i_inns) (aRs (zWo f_all i_z0 i_inns) (zPo f_all i_z0) 7) 3 rw_ = (true, (aRs (zWo f_all i_z0 i_inns) (zPo f_all i_z0) 7)) := gPx_7 hp2 (by omega) (by omega)
        have hd3 := hd2
        refine lv_goto (tgt := 62) hx hb dX12_gameBy_32 (by decide) ?_
        refine lv_iinc (v := (-1)) (lv' := [(4, .int (-1)), (5, .int (nI (rw_ % 8))), (0, .ref mo), (1, .int (nI rw_)), (2, .int 3), (3, .int c_)]) hx hb dX12_gameBy_62 hl (k := 1) rfl (by decide) (by decide) (zLvf_h rfl) (fun ls hl => ?_)
        refine lv_goto (tgt := 9) hx hb dX12_gameBy_65 (by decide) ?_
        refine lv_iload hx hb dX12_gameBy_9 (lv_at hl 0 rfl) ?_
        refine lv_if_lt (tgt := 68) hx hb dX12_gameBy_11 (by decide) (fun _ => ?_) (fun q => absurd (by decide) q)
        refine lv_aload_n hx hb dX12_gameBy_68 rfl (lv_at hl 2 rfl) ?_
        refine lv_iload_n hx hb dX12_gameBy_69 rfl (lv_at hl 5 rfl) ?_
        refine z_Vi (bc := [[zO11 mo m_all m_has i_size i_next i_where i_token i_number i_word i_wrong i_farCrossing m_read i_z0 i_crossings i_inns m_posts m_shut m_here j_steps_1 j_done_2 i_at i_gone m_was m_came m_seenAt m_rowWorth m_farBy m_used i_everywhere i_again0 i_d0 i_never i_firstCame i_longRun i_moved i_crowd i_l0 i_fitMany i_fitLeast i_fitMost m_fitPost m_fitEnd m_keptPosts i_x0], [zAr T 0 m_all 3952 f_all], [zAr T 0 m_posts 7 g_posts_3], [zAr T 0 m_shut 7 g_shut_4], [zAr T 0 m_was 7 f_was]]) (br := [[zAr T 0 m_here 7 g_here_5]]) (As := [.int c_]) (rest := []) C G (c_fm_walks l T mo m_all m_has i_size i_next i_where i_token i_number i_word i_wrong i_farCrossing m_read i_z0 i_crossings i_inns m_posts m_shut m_here j_steps_1 j_done_2 i_at i_gone m_was m_came m_seenAt m_rowWorth m_farBy m_used i_everywhere i_again0 i_d0 i_never i_firstCame i_longRun i_moved i_crowd i_l0 i_fitMany i_fitLeast i_fitMost m_fitPost m_fitEnd m_keptPosts i_x0 f_all g_posts_3 g_shut_4 f_was c_ (by first | with_reducible assumption | with_reducible rfl | omega | assumption | rfl | decide) (by first | with_reducible assumption | with_reducible rfl | omega | assumption | rfl | decide) (by first | with_reducible assumption | with_reducible rfl | omega | assumption | rfl | decide) hV9 hQ9) (kV_RX12_217 C.2.2.2.2 (Nat.le_of_ble_eq_true rfl) (Nat.le_of_ble_eq_true rfl)) [1, 2, 3, 4, 0] [0, 0, 0, 0, 0] rfl rfl (ci := 11) (qc := (RX12, TX12, 43)) rfl rfl (List.mem_flatten.mpr ⟨_, List.mem_of_getElem? (i := 0) rfl, List.mem_cons_self⟩) rfl rfl hl.1 dX12_gameBy_70 (Nat.le_of_ble_eq_true rfl) (Nat.le_of_ble_eq_true rfl) (fun r_315 b1 H locs hw G => ?_)
        refine zEx4 hw ?_
        intro j_at_301 j_gone_302 g_posts_303 g_was_304
        refine zCu11 ?_
        intro hbs9 h_305 h_306 h_307 h_308 h_309 h_310 h_311 h_312 h_313 h_314
        clear hw
        subst hbs9
        have G : zS T A s.heap s [[zAr T 0 m_here 7 g_here_5], [zO11 mo m_all m_has i_size i_next i_where i_token i_number i_word i_wrong i_farCrossing m_read i_z0 i_crossings i_inns m_posts m_shut m_here j_steps_1 j_done_2 j_at_301 j_gone_302 m_was m_came m_seenAt m_rowWorth m_farBy m_used i_everywhere i_again0 i_d0 i_never i_firstCame i_longRun i_moved i_crowd i_l0 i_fitMany i_fitLeast i_fitMost m_fitPost m_fitEnd m_keptPosts i_x0], [zAr T 0 m_all 3952 f_all], [zAr T 0 m_posts 7 g_posts_303], [zAr T 0 m_shut 7 g_shut_4], [zAr T 0 m_was 7 g_was_304]] _ _ := G
        replace h_310 : zHd ((r_315 = 1 ∧ zBit i_inns j_at_301 = 1 ∨ r_315 = 0 ∧ ¬ zBit i_inns j_at_301 = 1)) := h_310
        have hRw := rWalkF (n := i_inns) (c := c_) (w := (aRs (zWo f_all i_z0 i_inns) (zPo f_all i_z0) 7)) hL hQ9 hS9 hd3 hc0 hc6
        have hat9 : j_at_301 = rWh (zWo f_all i_z0 i_inns) (zLo f_all i_z0) (aRs (zWo f_all i_z0 i_inns) (zPo f_all i_z0) 7) c_ := h_312.trans hRw.1
        have hgo9 : j_gone_302 = nI (rStp (zWo f_all i_z0 i_inns) (zLo f_all i_z0) (aRs (zWo f_all i_z0 i_inns) (zPo f_all i_z0) 7) c_) := by rw [h_313, hRw.2.1]
        have hgl9 : rStp (zWo f_all i_z0 i_inns) (zLo f_all i_z0) (aRs (zWo f_all i_z0 i_inns) (zPo f_all i_z0) 7) c_ ≤ 499 := rStp_le
        refine lv_if_eq (tgt := 83) hx hb dX12_gameBy_73 (by decide) (fun c_316 => ?_) (fun c_316 => ?_)
        · have c_316n : r_315.toInt = (0 : Int) := (fa_eq _ _).mp c_316
          refine lv_sipush (v := 500) hx hb dX12_gameBy_83 (by decide) ?_
          have G := G.sub (bs' := [[zO11 mo m_all m_has i_size i_next i_where i_token i_number i_word i_wrong i_farCrossing m_read i_z0 i_crossings i_inns m_posts m_shut m_here j_steps_1 j_done_2 j_at_301 j_gone_302 m_was m_came m_seenAt m_rowWorth m_farBy m_used i_everywhere i_again0 i_d0 i_never i_firstCame i_longRun i_moved i_crowd i_l0 i_fitMany i_fitLeast i_fitMost m_fitPost m_fitEnd m_keptPosts i_x0], [zAr T 0 m_all 3952 f_all], [zAr T 0 m_posts 7 g_posts_303], [zAr T 0 m_shut 7 g_shut_4], [zAr T 0 m_here 7 g_here_5], [zAr T 0 m_was 7 g_was_304]]) [1, 2, 3, 4, 0, 5] rfl
          exact z_back hQz_ (z_iret C hr hlocks G (Nat.le_of_ble_eq_true rfl) (Nat.le_of_ble_eq_true rfl) dX12_gameBy_86 ⟨j_steps_1, j_done_2, j_at_301, j_gone_302, g_posts_303, g_shut_4, g_here_5, g_was_304, rfl, (by unfold gRw; rw [hp3, if_pos rfl]; show _ = ((gSn (zWo f_all i_z0 i_inns) (zLo f_all i_z0) i_inns (aRs (zWo f_all i_z0 i_inns) (zPo f_all i_z0) 7) c_ : Nat) : Int); unfold gSn; rw [if_neg (by rw [← hat9]; rcases h_310 with e9 | e9 <;> first | exact e9.2 | (exfalso; have q9 := e9.1; first | omega | (have e7 := congrArg Int32.toInt q9; have e6 : (0 : Int32).toInt = 0 := rfl; have e5 : (1 : Int32).toInt = 1 := rfl; omega)))]; rfl)⟩)
        · have c_316n : ¬ r_315.toInt = (0 : Int) := fun q => c_316 ((fa_eq _ _).mpr q)
          refine lv_aload_n hx hb dX12_gameBy_76 rfl (lv_at hl 2 rfl) ?_
          refine z_get C G clX12 1 rfl 20 (by decide) m_fl_RX12_208 rfl dX12_gameBy_77 ?_
          refine lv_goto (tgt := 86) hx hb dX12_gameBy_80 (by decide) ?_
          have G := G.sub (bs' := [[zO11 mo m_all m_has i_size i_next i_where i_token i_number i_word i_wrong i_farCrossing m_read i_z0 i_crossings i_inns m_posts m_shut m_here j_steps_1 j_done_2 j_at_301 j_gone_302 m_was m_came m_seenAt m_rowWorth m_farBy m_used i_everywhere i_again0 i_d0 i_never i_firstCame i_longRun i_moved i_crowd i_l0 i_fitMany i_fitLeast i_fitMost m_fitPost m_fitEnd m_keptPosts i_x0], [zAr T 0 m_all 3952 f_all], [zAr T 0 m_posts 7 g_posts_303], [zAr T 0 m_shut 7 g_shut_4], [zAr T 0 m_here 7 g_here_5], [zAr T 0 m_was 7 g_was_304]]) [1, 2, 3, 4, 0, 5] rfl
          exact z_back hQz_ (z_iret C hr hlocks G (Nat.le_of_ble_eq_true rfl) (Nat.le_of_ble_eq_true rfl) dX12_gameBy_86 ⟨j_steps_1, j_done_2, j_at_301, j_gone_302, g_posts_303, g_shut_4, g_here_5, g_was_304, rfl, (by unfold gRw; rw [hp3, if_pos rfl]; show _ = ((gSn (zWo f_all i_z0 i_inns) (zLo f_all i_z0) i_inns (aRs (zWo f_all i_z0 i_inns) (zPo f_all i_z0) 7) c_ : Nat) : Int); unfold gSn; rw [if_pos (by rw [← hat9]; rcases h_310 with e9 | e9 <;> first | exact e9.2 | (exfalso; have q9 := e9.1; first | omega | (have e7 := congrArg Int32.toInt q9; have e6 : (0 : Int32).toInt = 0 := rfl; have e5 : (1 : Int32).toInt = 1 := rfl; omega))), hgo9, nI_toInt (by omega)])⟩)


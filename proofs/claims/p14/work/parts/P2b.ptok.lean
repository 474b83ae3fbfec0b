theorem z_allS {P : Int32 → Bool} {f : Nat → Int32} {q x : Nat} (h : ∀ j, q ≤ j → j < x → P (f j) = true) (hx : P (f x) = true) : ∀ j, q ≤ j → j < x + 1 → P (f j) = true := by
  intro j h1 h2
  by_cases e : j = x
  · rw [e]; exact hx
  · exact h j h1 (by omega)
theorem z_digV {f : Nat → Int32} {q x : Nat} {y y1 : Int32} (hq : q ≤ x) (hall : ∀ j, q ≤ j → j < x → tkD (f j) = true) (hd : tkD (f x) = true) (hv : x ≤ q + 2 → y.toInt = tkV f q x) (e : y1.toInt = y.toInt * 10 + (f x).toInt - 48) : x + 1 ≤ q + 2 → (if (1000 : Int32) < y1 then (1000 : Int32) else y1).toInt = tkV f q (x + 1) := by
  intro h
  have a := tkV_s (g := f) hq (by omega)
  have b := tkV_bd (z_allS hall hd) (by omega) h
  have c := hv (by omega)
  have d : y1.toInt = tkV f q (x + 1) := by omega
  rw [if_neg (fun z => by have z2 : (1000 : Int) < y1.toInt := (fa_lt _ _).mp z; omega)]
  exact d
theorem zChar_b : ∀ i, i < 12 → ∀ k, k < zLen.getD i 0 → zChar i k = (zByt.getD i []).getD k 0 := by decide +kernel
theorem zWI_fl {g : Nat → Int32} {w e i : Nat} (h : ¬ e - w = zLen.getD i 0) : zWI g w e i = false := by unfold zWI; exact decide_eq_false (fun q => h q.1)
theorem zWI_fb {g : Nat → Int32} {w e i k : Nat} (hi : i < 12) (hk : k < zLen.getD i 0) (h : ¬ g (w + k) = zChar i k) : zWI g w e i = false := by unfold zWI; exact decide_eq_false (fun q => h ((q.2 k hk).trans (zChar_b i hi k hk).symm))
theorem zWI_t {g : Nat → Int32} {w e i : Nat} (h : e - w = zLen.getD i 0) (h2 : ∀ j, j < zLen.getD i 0 → g (w + j) = (zByt.getD i []).getD j 0) : zWI g w e i = true := by unfold zWI; exact decide_eq_true ⟨h, h2⟩
theorem z_allE {f : Nat → Int32} {w i k : Nat} (h : ∀ j, j < k → f (w + j) = (zByt.getD i []).getD j 0) (hx : f (w + k) = (zByt.getD i []).getD k 0) : ∀ j, j < k + 1 → f (w + j) = (zByt.getD i []).getD j 0 := by
  intro j h1
  by_cases e : j = k
  · rw [e]; exact hx
  · exact h j (by omega)
def zNo (i : Nat) : Nat := [1, 2, 3, 4, 11, 12, 5, 6, 7, 8, 9, 10].getD i 0
theorem zWI_u {g : Nat → Int32} {w e i j : Nat} (hi : i < 12) (hj : j < 12) (h1 : zWI g w e i = true) (h2 : zWI g w e j = true) : i = j := by
  unfold zWI at h1 h2
  have a := of_decide_eq_true h1
  have b := of_decide_eq_true h2
  have key : ∀ i, i < 12 → ∀ j, j < 12 → i = j ∨ ¬ zLen.getD i 0 = zLen.getD j 0 ∨ ∃ k, k < zLen.getD i 0 ∧ ¬ (zByt.getD i []).getD k 0 = (zByt.getD j []).getD k 0 := by decide +kernel
  rcases key i hi j hj with c | c | ⟨k, c1, c2⟩
  · exact c
  · exact absurd (a.1.symm.trans b.1) c
  · have e1 : zLen.getD i 0 = zLen.getD j 0 := a.1.symm.trans b.1
    exact absurd ((a.2 k c1).symm.trans (b.2 k (by omega))) c2
theorem zWd_k (g : Nat → Int32) (w e : Nat) : (∃ i, i < 12 ∧ zWI g w e i = true ∧ zWordAt g w e = zNo i) ∨ (zWordAt g w e = 99 ∧ ∀ i, i < 12 → ¬ zWI g w e i = true) := by
  unfold zWordAt
  by_cases h0 : zWI g w e 0 = true
  · exact Or.inl ⟨0, by decide, h0, if_pos h0⟩
  rw [if_neg h0]
  by_cases h1 : zWI g w e 1 = true
  · exact Or.inl ⟨1, by decide, h1, if_pos h1⟩
  rw [if_neg h1]
  by_cases h2 : zWI g w e 2 = true
  · exact Or.inl ⟨2, by decide, h2, if_pos h2⟩
  rw [if_neg h2]
  by_cases h3 : zWI g w e 3 = true
  · exact Or.inl ⟨3, by decide, h3, if_pos h3⟩
  rw [if_neg h3]
  by_cases h6 : zWI g w e 6 = true
  · exact Or.inl ⟨6, by decide, h6, if_pos h6⟩
  rw [if_neg h6]
  by_cases h7 : zWI g w e 7 = true
  · exact Or.inl ⟨7, by decide, h7, if_pos h7⟩
  rw [if_neg h7]
  by_cases h8 : zWI g w e 8 = true
  · exact Or.inl ⟨8, by decide, h8, if_pos h8⟩
  rw [if_neg h8]
  by_cases h9 : zWI g w e 9 = true
  · exact Or.inl ⟨9, by decide, h9, if_pos h9⟩
  rw [if_neg h9]
  by_cases h10 : zWI g w e 10 = true
  · exact Or.inl ⟨10, by decide, h10, if_pos h10⟩
  rw [if_neg h10]
  by_cases h11 : zWI g w e 11 = true
  · exact Or.inl ⟨11, by decide, h11, if_pos h11⟩
  rw [if_neg h11]
  by_cases h4 : zWI g w e 4 = true
  · exact Or.inl ⟨4, by decide, h4, if_pos h4⟩
  rw [if_neg h4]
  by_cases h5 : zWI g w e 5 = true
  · exact Or.inl ⟨5, by decide, h5, if_pos h5⟩
  exact Or.inr ⟨if_neg h5, fun i hi => match i, hi with | 0, _ => h0 | 1, _ => h1 | 2, _ => h2 | 3, _ => h3 | 4, _ => h4 | 5, _ => h5 | 6, _ => h6 | 7, _ => h7 | 8, _ => h8 | 9, _ => h9 | 10, _ => h10 | 11, _ => h11 | k + 12, h => absurd h (by omega)⟩
theorem zWd_c (g : Nat → Int32) (w e : Nat) : (∃ i, i < 12 ∧ zWI g w e i = true ∧ zWordAt g w e = zNo i) ∨ zWordAt g w e = 99 := (zWd_k g w e).elim Or.inl (fun h => Or.inr h.1)
theorem zNo_u : ∀ i, i < 12 → ∀ j, j < 12 → zNo i = zNo j → i = j := by decide +kernel
theorem zNo_99 : ∀ i, i < 12 → ¬ zNo i = 99 := by decide +kernel
theorem zWd_t {g : Nat → Int32} {w e i : Nat} (hi : i < 12) (h : zWI g w e i = true) : zWordAt g w e = zNo i := by
  rcases zWd_k g w e with ⟨j, hj, a, b⟩ | b
  · rw [b, zWI_u hi hj h a]
  · exact absurd h (b.2 i hi)
theorem zWd_f {g : Nat → Int32} {w e i : Nat} (hi : i < 12) (h : zWI g w e i = false) : ¬ zWordAt g w e = zNo i := by
  intro q
  rcases zWd_c g w e with ⟨j, hj, a, b⟩ | b
  · rw [zNo_u i hi j hj (q.symm.trans b), a] at h
    cases h
  · exact zNo_99 i hi (q.symm.trans b)
/-- a word's number among those of a sort, as the program counts them -/
def zWc (s wd : Nat) : Int32 := if s = 0 then (if 1 ≤ wd ∧ wd ≤ 4 then Int32.ofNat (wd - 1) else -1) else if s = 1 then (if 5 ≤ wd ∧ wd ≤ 10 then Int32.ofNat (wd - 5) else -1) else (if 11 ≤ wd ∧ wd ≤ 12 then Int32.ofNat (wd - 11) else -1)
theorem zWc_0 {wd : Nat} (h0 : ¬ wd = 1) (h1 : ¬ wd = 2) (h2 : ¬ wd = 3) (h3 : ¬ wd = 4) : (-1 : Int32) = zWc 0 wd := by unfold zWc; rw [if_pos rfl, if_neg (by omega)]
theorem zWc_1 {wd : Nat} (h0 : ¬ wd = 5) (h1 : ¬ wd = 6) (h2 : ¬ wd = 7) (h3 : ¬ wd = 8) (h4 : ¬ wd = 9) (h5 : ¬ wd = 10) : (-1 : Int32) = zWc 1 wd := by unfold zWc; rw [if_neg (by decide), if_pos rfl, if_neg (by omega)]
theorem zWc_2 {wd : Nat} (h0 : ¬ wd = 11) (h1 : ¬ wd = 12) : (-1 : Int32) = zWc 2 wd := by unfold zWc; rw [if_neg (by decide), if_neg (by decide), if_neg (by omega)]
set_option maxHeartbeats 4000000 in
set_option maxRecDepth 100000 in
/-- c_f_isBlank -/
theorem c_f_isBlank (l : Launch) (T : zTy) (x : Int32) : zMi l T yX7_isBlank cX7_isBlank 1 (some .boolean) 1 0 0 [.int x] [] (fun (r : Int32) bs => bs = [] ∧ ((r = 1 ∧ tkB x = true) ∨ (r = 0 ∧ tkB x = false))) := by
  refine zMi_of (own := RX7) (by decide) rfl (Nat.le_of_ble_eq_true rfl) ?_
  intro p e s m args below meth c A ls C hr hlocks hnm hAe G hl
  refine zHide (fun Qz_ hQz_ => ?_)
  have hx := C.1
  have hb := C.2.1
  have hl : lv_has ls 1 [(0, .int x)] := hl
  refine lv_iload_n hx hb dX7_isBlank_0 rfl (lv_at hl 0 rfl) ?_
  refine lv_bipush (v := 10) hx hb dX7_isBlank_1 (by decide) ?_
  refine lv_icmp_eq (tgt := 12) hx hb dX7_isBlank_3 (by decide) (fun c_1 => ?_) (fun c_1 => ?_)
  · have c_1n : x.toInt = (10 : Int) := (fa_eq _ _).mp c_1
    refine lv_iconst (v := 1) hx hb dX7_isBlank_12 (by decide) ?_
    refine lv_goto (tgt := 17) hx hb dX7_isBlank_13 (by decide) ?_
    exact z_back hQz_ (z_zret C hr hlocks G (Nat.le_of_ble_eq_true rfl) (Nat.le_of_ble_eq_true rfl) dX7_isBlank_17 rfl ⟨rfl, (Or.inl (⟨rfl, (tkB_iff.mpr (by omega))⟩))⟩)
  · have c_1n : ¬ x.toInt = (10 : Int) := fun q => c_1 ((fa_eq _ _).mpr q)
    refine lv_iload_n hx hb dX7_isBlank_6 rfl (lv_at hl 0 rfl) ?_
    refine lv_bipush (v := 32) hx hb dX7_isBlank_7 (by decide) ?_
    refine lv_icmp_ne (tgt := 16) hx hb dX7_isBlank_9 (by decide) (fun c_2 => ?_) (fun c_2 => ?_)
    · have c_2n : ¬ x.toInt = (32 : Int) := fun q => c_2 ((fa_eq _ _).mpr q)
      refine lv_iconst (v := 0) hx hb dX7_isBlank_16 (by decide) ?_
      exact z_back hQz_ (z_zret C hr hlocks G (Nat.le_of_ble_eq_true rfl) (Nat.le_of_ble_eq_true rfl) dX7_isBlank_17 rfl ⟨rfl, (Or.inr (⟨rfl, (tkB_f (by omega) (by omega))⟩))⟩)
    · have c_2n : x.toInt = (32 : Int) := (fa_eq _ _).mp c_2
      refine lv_iconst (v := 1) hx hb dX7_isBlank_12 (by decide) ?_
      refine lv_goto (tgt := 17) hx hb dX7_isBlank_13 (by decide) ?_
      exact z_back hQz_ (z_zret C hr hlocks G (Nat.le_of_ble_eq_true rfl) (Nat.le_of_ble_eq_true rfl) dX7_isBlank_17 rfl ⟨rfl, (Or.inl (⟨rfl, (tkB_iff.mpr (by omega))⟩))⟩)
set_option maxHeartbeats 4000000 in
set_option maxRecDepth 100000 in
/-- c_f_isLetter -/
theorem c_f_isLetter (l : Launch) (T : zTy) (x : Int32) : zMi l T yX7_isLetter cX7_isLetter 1 (some .boolean) 1 0 0 [.int x] [] (fun (r : Int32) bs => bs = [] ∧ ((r = 1 ∧ tkL x = true) ∨ (r = 0 ∧ tkL x = false))) := by
  refine zMi_of (own := RX7) (by decide) rfl (Nat.le_of_ble_eq_true rfl) ?_
  intro p e s m args below meth c A ls C hr hlocks hnm hAe G hl
  refine zHide (fun Qz_ hQz_ => ?_)
  have hx := C.1
  have hb := C.2.1
  have hl : lv_has ls 1 [(0, .int x)] := hl
  refine lv_iload_n hx hb dX7_isLetter_0 rfl (lv_at hl 0 rfl) ?_
  refine lv_bipush (v := 97) hx hb dX7_isLetter_1 (by decide) ?_
  refine lv_icmp_lt (tgt := 16) hx hb dX7_isLetter_3 (by decide) (fun c_1 => ?_) (fun c_1 => ?_)
  · have c_1n : x.toInt < (97 : Int) := (fa_lt _ _).mp c_1
    refine lv_iconst (v := 0) hx hb dX7_isLetter_16 (by decide) ?_
    exact z_back hQz_ (z_zret C hr hlocks G (Nat.le_of_ble_eq_true rfl) (Nat.le_of_ble_eq_true rfl) dX7_isLetter_17 rfl ⟨rfl, (Or.inr (⟨rfl, (tkL_f (by omega))⟩))⟩)
  · have c_1n : ¬ x.toInt < (97 : Int) := fun q => c_1 ((fa_lt _ _).mpr q)
    refine lv_iload_n hx hb dX7_isLetter_6 rfl (lv_at hl 0 rfl) ?_
    refine lv_bipush (v := 122) hx hb dX7_isLetter_7 (by decide) ?_
    refine lv_icmp_gt (tgt := 16) hx hb dX7_isLetter_9 (by decide) (fun c_2 => ?_) (fun c_2 => ?_)
    · have c_2n : (122 : Int) < x.toInt := (fa_lt _ _).mp c_2
      refine lv_iconst (v := 0) hx hb dX7_isLetter_16 (by decide) ?_
      exact z_back hQz_ (z_zret C hr hlocks G (Nat.le_of_ble_eq_true rfl) (Nat.le_of_ble_eq_true rfl) dX7_isLetter_17 rfl ⟨rfl, (Or.inr (⟨rfl, (tkL_f (by omega))⟩))⟩)
    · have c_2n : ¬ (122 : Int) < x.toInt := fun q => c_2 ((fa_lt _ _).mpr q)
      refine lv_iconst (v := 1) hx hb dX7_isLetter_12 (by decide) ?_
      refine lv_goto (tgt := 17) hx hb dX7_isLetter_13 (by decide) ?_
      exact z_back hQz_ (z_zret C hr hlocks G (Nat.le_of_ble_eq_true rfl) (Nat.le_of_ble_eq_true rfl) dX7_isLetter_17 rfl ⟨rfl, (Or.inl (⟨rfl, (tkL_iff.mpr (by omega))⟩))⟩)
set_option maxHeartbeats 4000000 in
set_option maxRecDepth 100000 in
/-- c_f_isDigit -/
theorem c_f_isDigit (l : Launch) (T : zTy) (x : Int32) : zMi l T yX7_isDigit cX7_isDigit 1 (some .boolean) 1 0 0 [.int x] [] (fun (r : Int32) bs => bs = [] ∧ ((r = 1 ∧ tkD x = true) ∨ (r = 0 ∧ tkD x = false))) := by
  refine zMi_of (own := RX7) (by decide) rfl (Nat.le_of_ble_eq_true rfl) ?_
  intro p e s m args below meth c A ls C hr hlocks hnm hAe G hl
  refine zHide (fun Qz_ hQz_ => ?_)
  have hx := C.1
  have hb := C.2.1
  have hl : lv_has ls 1 [(0, .int x)] := hl
  refine lv_iload_n hx hb dX7_isDigit_0 rfl (lv_at hl 0 rfl) ?_
  refine lv_bipush (v := 48) hx hb dX7_isDigit_1 (by decide) ?_
  refine lv_icmp_lt (tgt := 16) hx hb dX7_isDigit_3 (by decide) (fun c_1 => ?_) (fun c_1 => ?_)
  · have c_1n : x.toInt < (48 : Int) := (fa_lt _ _).mp c_1
    refine lv_iconst (v := 0) hx hb dX7_isDigit_16 (by decide) ?_
    exact z_back hQz_ (z_zret C hr hlocks G (Nat.le_of_ble_eq_true rfl) (Nat.le_of_ble_eq_true rfl) dX7_isDigit_17 rfl ⟨rfl, (Or.inr (⟨rfl, (tkD_f (by omega))⟩))⟩)
  · have c_1n : ¬ x.toInt < (48 : Int) := fun q => c_1 ((fa_lt _ _).mpr q)
    refine lv_iload_n hx hb dX7_isDigit_6 rfl (lv_at hl 0 rfl) ?_
    refine lv_bipush (v := 57) hx hb dX7_isDigit_7 (by decide) ?_
    refine lv_icmp_gt (tgt := 16) hx hb dX7_isDigit_9 (by decide) (fun c_2 => ?_) (fun c_2 => ?_)
    · have c_2n : (57 : Int) < x.toInt := (fa_lt _ _).mp c_2
      refine lv_iconst (v := 0) hx hb dX7_isDigit_16 (by decide) ?_
      exact z_back hQz_ (z_zret C hr hlocks G (Nat.le_of_ble_eq_true rfl) (Nat.le_of_ble_eq_true rfl) dX7_isDigit_17 rfl ⟨rfl, (Or.inr (⟨rfl, (tkD_f (by omega))⟩))⟩)
    · have c_2n : ¬ (57 : Int) < x.toInt := fun q => c_2 ((fa_lt _ _).mpr q)
      refine lv_iconst (v := 1) hx hb dX7_isDigit_12 (by decide) ?_
      refine lv_goto (tgt := 17) hx hb dX7_isDigit_13 (by decide) ?_
      exact z_back hQz_ (z_zret C hr hlocks G (Nat.le_of_ble_eq_true rfl) (Nat.le_of_ble_eq_true rfl) dX7_isDigit_17 rfl ⟨rfl, (Or.inl (⟨rfl, (tkD_iff.mpr (by omega))⟩))⟩)
set_option maxHeartbeats 4000000 in
set_option maxRecDepth 100000 in
/-- c_f_takeLetters -/
theorem c_f_takeLetters (l : Launch) (T : zTy) (rd : Nat) (rl : Nat) (rdd : Nat) (rg : Nat) (tp : Nat) (r0 : Int32) (r1 : Int32) (r2 : Int32) (r3 : Int32) (r4 : Int32) (r5 : Int32) (r6 : Int32) (r7 : Int32) (r8 : Int32) (ft : Nat → Int32) (q : Nat) (n : Nat) (hp : r3 = nI q) (hqn : q ≤ n) (hn : r2 = nI n) (hn6 : n ≤ 600) : zMv l T yX7_takeLetters cX7_takeLetters 1 2 0 0 [.ref rd] [[zO7 rd rl rdd rg r0 r1 tp r2 r3 r4 r5 r6 r7 r8], [zAr T 1 tp 600 ft]] (fun bs => ∃ (u3 : Int32) (u4 : Int32), bs = [[zO7 rd rl rdd rg r0 r1 tp r2 u3 u4 r5 r6 r7 r8], [zAr T 1 tp 600 ft]] ∧ u3 = nI (zEnd tkL ft n q) ∧ u4 = 1) := by
  refine zMv_of (own := RX7) (by decide) rfl (Nat.le_of_ble_eq_true rfl) ?_
  intro p e s m args below meth c A ls C hr hlocks hnm hAe G hl
  refine zHide (fun Qz_ hQz_ => ?_)
  have hx := C.1
  have hb := C.2.1
  have hl : lv_has ls 1 [(0, .ref rd)] := hl
  subst hp
  subst hn
  refine lv_aload_n hx hb dX7_takeLetters_0 rfl (lv_at hl 0 rfl) ?_
  refine lv_iconst (v := 1) hx hb dX7_takeLetters_1 (by decide) ?_
  refine z_put C G clX7 0 rfl 8 (by decide) m_fl_RX7_74 rfl rfl rfl (Nat.le_of_ble_eq_true rfl) dX7_takeLetters_2 (fun H locs G => ?_)
  have G : zS T A s.heap s [[zO7 rd rl rdd rg r0 r1 tp (nI n) (nI q) 1 r5 r6 r7 r8], [zAr T 1 tp 600 ft]] _ _ := G
  refine z_lp1 (T := T) 5 (fun (x : Nat) => [[zO7 rd rl rdd rg r0 r1 tp (nI n) (nI x) 1 r5 r6 r7 r8], [zAr T 1 tp 600 ft]]) (fun (x : Nat) => [(0, .ref rd)]) (fun (x : Nat) => (q ≤ x ∧ x ≤ n) ∧ (∀ j, q ≤ j → j < x → tkL (ft j) = true)) (fun (x : Nat) => n - x) ?_ q (show (q ≤ q ∧ q ≤ n) ∧ (∀ j, q ≤ j → j < q → tkL (ft j) = true) from ⟨(by omega), (fun j h1 h2 => by omega)⟩) G (lv_sub hl [0] rfl)
  intro x hI9 ih_5 H locs ls G hl
  replace hI9 : (q ≤ x ∧ x ≤ n) ∧ (∀ j, q ≤ j → j < x → tkL (ft j) = true) := hI9
  refine zAn2 hI9 ?_
  intro hxq hall
  clear hI9
  replace G : zS T A s.heap s [[zO7 rd rl rdd rg r0 r1 tp (nI n) (nI x) 1 r5 r6 r7 r8], [zAr T 1 tp 600 ft]] _ _ := G
  replace hl : lv_has ls 1 [(0, .ref rd)] := hl
  refine lv_aload_n hx hb dX7_takeLetters_5 rfl (lv_at hl 0 rfl) ?_
  refine z_get C G clX7 0 rfl 7 (by decide) m_fl_RX7_46 rfl dX7_takeLetters_6 ?_
  refine lv_aload_n hx hb dX7_takeLetters_9 rfl (lv_at hl 0 rfl) ?_
  refine z_get C G clX7 0 rfl 6 (by decide) m_fl_RX7_42 rfl dX7_takeLetters_10 ?_
  refine lv_icmp_ge (tgt := 44) hx hb dX7_takeLetters_13 (by decide) (fun c_1 => ?_) (fun c_1 => ?_)
  · have c_1n : n ≤ x := (nI_leI (a := n) (b := x) (by omega) (by omega)).mp c_1
    have hE : x = zEnd tkL ft n q := zRun_eq ⟨hxq.1, Or.inl hxq.2, hall, fun h9 => by first | omega | assumption⟩
    exact z_back hQz_ (z_vret C hr hlocks G (Nat.le_of_ble_eq_true rfl) (Nat.le_of_ble_eq_true rfl) dX7_takeLetters_44 ⟨(nI x), 1, rfl, (congrArg nI hE), rfl⟩)
  · have c_1n : ¬ n ≤ x := fun q => c_1 ((nI_leI (a := n) (b := x) (by omega) (by omega)).mpr q)
    refine lv_aload_n hx hb dX7_takeLetters_16 rfl (lv_at hl 0 rfl) ?_
    refine z_get C G clX7 0 rfl 5 (by decide) m_fl_RX7_32 rfl dX7_takeLetters_17 ?_
    refine lv_aload_n hx hb dX7_takeLetters_20 rfl (lv_at hl 0 rfl) ?_
    refine z_get C G clX7 0 rfl 7 (by decide) m_fl_RX7_46 rfl dX7_takeLetters_21 ?_
    refine z_bld C G 1 rfl (vp_in_nI (by omega) (by decide)) dX7_takeLetters_24 ?_
    refine lv_topi (fun v_2 ev_2 => ?_)
    rw [nI_clamp (by omega)] at ev_2
    subst ev_2
    refine z_Si (bc := []) (br := [[zO7 rd rl rdd rg r0 r1 tp (nI n) (nI x) 1 r5 r6 r7 r8], [zAr T 1 tp 600 ft]]) (As := [.int (ft x)]) (rest := []) C G (c_f_isLetter l T (ft x)) (kS_RX7_148 C.2.2.2.2 (Nat.le_of_ble_eq_true rfl) (Nat.le_of_ble_eq_true rfl)) [] [] rfl rfl rfl rfl hl.1 dX7_takeLetters_25 (Nat.le_of_ble_eq_true rfl) (Nat.le_of_ble_eq_true rfl) (fun r_4 b1 H locs hw G => ?_)
    refine zAn2 hw ?_
    intro hbs9 hc_3
    clear hw
    subst hbs9
    have G : zS T A s.heap s [[zO7 rd rl rdd rg r0 r1 tp (nI n) (nI x) 1 r5 r6 r7 r8], [zAr T 1 tp 600 ft]] _ _ := G
    rcases hc_3 with ⟨rfl, h_5⟩ | ⟨rfl, h_6⟩
    · have h_5 : tkL (ft x) = true := h_5
      refine lv_if_eq (tgt := 44) hx hb dX7_takeLetters_28 (by decide) (fun q => absurd q (by decide)) (fun _ => ?_)
      refine lv_aload_n hx hb dX7_takeLetters_31 rfl (lv_at hl 0 rfl) ?_
      refine lv_dup hx hb dX7_takeLetters_32 rfl ?_
      refine z_get C G clX7 0 rfl 7 (by decide) m_fl_RX7_46 rfl dX7_takeLetters_33 ?_
      refine lv_iconst (v := 1) hx hb dX7_takeLetters_36 (by decide) ?_
      refine lv_iadd hx hb dX7_takeLetters_37 ?_
      refine lv_topi (fun y_7 ey_7 => ?_)
      obtain rfl : y_7 = nI (x + 1) := ey_7.trans (z_iaddn x 1 rfl rfl)
      refine z_put C G clX7 0 rfl 7 (by decide) m_fl_RX7_46 rfl rfl rfl (Nat.le_of_ble_eq_true rfl) dX7_takeLetters_38 (fun H locs G => ?_)
      have G : zS T A s.heap s [[zO7 rd rl rdd rg r0 r1 tp (nI n) (nI (x + 1)) 1 r5 r6 r7 r8], [zAr T 1 tp 600 ft]] _ _ := G
      refine lv_goto (tgt := 5) hx hb dX7_takeLetters_41 (by decide) ?_
      exact ih_5 (x + 1) (show (q ≤ (x + 1) ∧ (x + 1) ≤ n) ∧ (∀ j, q ≤ j → j < (x + 1) → tkL (ft j) = true) from ⟨(by omega), (z_allS hall (by first | with_reducible assumption | assumption))⟩) (show n - (x + 1) < n - x from by omega) _ _ ls G (lv_sub hl [0] rfl)
    · have h_6 : tkL (ft x) = false := h_6
      refine lv_if_eq (tgt := 44) hx hb dX7_takeLetters_28 (by decide) (fun _ => ?_) (fun q => absurd (by decide) q)
      have hE : x = zEnd tkL ft n q := zRun_eq ⟨hxq.1, Or.inl hxq.2, hall, fun h9 => by first | omega | assumption⟩
      exact z_back hQz_ (z_vret C hr hlocks G (Nat.le_of_ble_eq_true rfl) (Nat.le_of_ble_eq_true rfl) dX7_takeLetters_44 ⟨(nI x), 1, rfl, (congrArg nI hE), rfl⟩)
set_option maxHeartbeats 4000000 in
set_option maxRecDepth 100000 in
/-- c_f_takeDigits -/
theorem c_f_takeDigits (l : Launch) (T : zTy) (rd : Nat) (rl : Nat) (rdd : Nat) (rg : Nat) (tp : Nat) (r0 : Int32) (r1 : Int32) (r2 : Int32) (r3 : Int32) (r4 : Int32) (r5 : Int32) (r6 : Int32) (r7 : Int32) (r8 : Int32) (ft : Nat → Int32) (q : Nat) (n : Nat) (hp : r3 = nI q) (hpl : r5 = nI q) (hqn : q ≤ n) (hn : r2 = nI n) (hn6 : n ≤ 600) : zMv l T yX7_takeDigits cX7_takeDigits 1 2 0 0 [.ref rd] [[zO7 rd rl rdd rg r0 r1 tp r2 r3 r4 r5 r6 r7 r8], [zAr T 1 tp 600 ft]] (fun bs => ∃ (u3 : Int32) (u4 : Int32) (u6 : Int32), bs = [[zO7 rd rl rdd rg r0 r1 tp r2 u3 u4 r5 u6 r7 r8], [zAr T 1 tp 600 ft]] ∧ u3 = nI (zEnd tkD ft n q) ∧ u4 = nI (if zEnd tkD ft n q - q ≤ 2 then 2 else 4) ∧ (zEnd tkD ft n q - q ≤ 2 → u6 = Int32.ofInt (tkV ft q (zEnd tkD ft n q)))) := by
  refine zMv_of (own := RX7) (by decide) rfl (Nat.le_of_ble_eq_true rfl) ?_
  intro p e s m args below meth c A ls C hr hlocks hnm hAe G hl
  refine zHide (fun Qz_ hQz_ => ?_)
  have hx := C.1
  have hb := C.2.1
  have hl : lv_has ls 1 [(0, .ref rd)] := hl
  subst hp
  subst hpl
  subst hn
  refine lv_aload_n hx hb dX7_takeDigits_0 rfl (lv_at hl 0 rfl) ?_
  refine lv_iconst (v := 0) hx hb dX7_takeDigits_1 (by decide) ?_
  refine z_put C G clX7 0 rfl 10 (by decide) m_fl_RX7_141 rfl rfl rfl (Nat.le_of_ble_eq_true rfl) dX7_takeDigits_2 (fun H locs G => ?_)
  have G : zS T A s.heap s [[zO7 rd rl rdd rg r0 r1 tp (nI n) (nI q) r4 (nI q) 0 r7 r8], [zAr T 1 tp 600 ft]] _ _ := G
  refine z_lp2 (T := T) 5 (fun (x : Nat) (y : Int32) => [[zO7 rd rl rdd rg r0 r1 tp (nI n) (nI x) r4 (nI q) y r7 r8], [zAr T 1 tp 600 ft]]) (fun (x : Nat) (y : Int32) => [(0, .ref rd)]) (fun (x : Nat) (y : Int32) => (q ≤ x ∧ x ≤ n) ∧ (∀ j, q ≤ j → j < x → tkD (ft j) = true) ∧ (x ≤ q + 2 → y.toInt = tkV ft q x) ∧ (0 ≤ y.toInt ∧ y.toInt ≤ 1000)) (fun (x : Nat) (y : Int32) => n - x) ?_ q 0 (show (q ≤ q ∧ q ≤ n) ∧ (∀ j, q ≤ j → j < q → tkD (ft j) = true) ∧ (q ≤ q + 2 → (0 : Int32).toInt = tkV ft q q) ∧ (0 ≤ (0 : Int32).toInt ∧ (0 : Int32).toInt ≤ 1000) from ⟨(by omega), (fun j h1 h2 => by omega), (fun _ => (tkV_0 rfl).symm), (by decide)⟩) G (lv_sub hl [0] rfl)
  intro x y hI9 ih_5 H locs ls G hl
  replace hI9 : (q ≤ x ∧ x ≤ n) ∧ (∀ j, q ≤ j → j < x → tkD (ft j) = true) ∧ (x ≤ q + 2 → y.toInt = tkV ft q x) ∧ (0 ≤ y.toInt ∧ y.toInt ≤ 1000) := hI9
  refine zAn4 hI9 ?_
  intro hxq hall hv hy
  clear hI9
  replace G : zS T A s.heap s [[zO7 rd rl rdd rg r0 r1 tp (nI n) (nI x) r4 (nI q) y r7 r8], [zAr T 1 tp 600 ft]] _ _ := G
  replace hl : lv_has ls 1 [(0, .ref rd)] := hl
  refine lv_aload_n hx hb dX7_takeDigits_5 rfl (lv_at hl 0 rfl) ?_
  refine z_get C G clX7 0 rfl 7 (by decide) m_fl_RX7_46 rfl dX7_takeDigits_6 ?_
  refine lv_aload_n hx hb dX7_takeDigits_9 rfl (lv_at hl 0 rfl) ?_
  refine z_get C G clX7 0 rfl 6 (by decide) m_fl_RX7_42 rfl dX7_takeDigits_10 ?_
  refine lv_icmp_ge (tgt := 74) hx hb dX7_takeDigits_13 (by decide) (fun c_1 => ?_) (fun c_1 => ?_)
  · have c_1n : n ≤ x := (nI_leI (a := n) (b := x) (by omega) (by omega)).mp c_1
    have hE : x = zEnd tkD ft n q := zRun_eq ⟨hxq.1, Or.inl hxq.2, hall, fun h9 => by first | omega | assumption⟩
    refine lv_aload_n hx hb dX7_takeDigits_74 rfl (lv_at hl 0 rfl) ?_
    refine lv_aload_n hx hb dX7_takeDigits_75 rfl (lv_at hl 0 rfl) ?_
    refine z_get C G clX7 0 rfl 7 (by decide) m_fl_RX7_46 rfl dX7_takeDigits_76 ?_
    refine lv_aload_n hx hb dX7_takeDigits_79 rfl (lv_at hl 0 rfl) ?_
    refine z_get C G clX7 0 rfl 9 (by decide) m_fl_RX7_84 rfl dX7_takeDigits_80 ?_
    refine lv_isub hx hb dX7_takeDigits_83 ?_
    refine lv_topi (fun y_2 ey_2 => ?_)
    have ey_2i : y_2.toInt = (x : Int) - (q : Int) := by rw [ey_2]; exact (z_isubI (x := (nI x)) (y := (nI q)) (by rw [nI_toInt (n := x) (by omega), nI_toInt (n := q) (by omega)]; show -2147483648 ≤ (x : Int) - (q : Int); omega) (by rw [nI_toInt (n := x) (by omega), nI_toInt (n := q) (by omega)]; show (x : Int) - (q : Int) < 2147483648; omega)).trans (by rw [nI_toInt (n := x) (by omega), nI_toInt (n := q) (by omega)] <;> rfl)
    refine lv_iconst (v := 2) hx hb dX7_takeDigits_84 (by decide) ?_
    refine lv_icmp_gt (tgt := 92) hx hb dX7_takeDigits_85 (by decide) (fun c_3 => ?_) (fun c_3 => ?_)
    · have c_3n : (2 : Int) < y_2.toInt := (fa_lt _ _).mp c_3
      refine lv_iconst (v := 4) hx hb dX7_takeDigits_92 (by decide) ?_
      refine z_put C G clX7 0 rfl 8 (by decide) m_fl_RX7_74 rfl rfl rfl (Nat.le_of_ble_eq_true rfl) dX7_takeDigits_93 (fun H locs G => ?_)
      have G : zS T A s.heap s [[zO7 rd rl rdd rg r0 r1 tp (nI n) (nI x) 4 (nI q) y r7 r8], [zAr T 1 tp 600 ft]] _ _ := G
      exact z_back hQz_ (z_vret C hr hlocks G (Nat.le_of_ble_eq_true rfl) (Nat.le_of_ble_eq_true rfl) dX7_takeDigits_96 ⟨(nI x), 4, y, rfl, (congrArg nI hE), (by rw [← hE, if_neg (by omega)]; rfl), (fun h9 => tk_of (by rw [← hE] at h9 ⊢; exact hv (by omega)))⟩)
    · have c_3n : ¬ (2 : Int) < y_2.toInt := fun q => c_3 ((fa_lt _ _).mpr q)
      refine lv_iconst (v := 2) hx hb dX7_takeDigits_88 (by decide) ?_
      refine lv_goto (tgt := 93) hx hb dX7_takeDigits_89 (by decide) ?_
      refine z_put C G clX7 0 rfl 8 (by decide) m_fl_RX7_74 rfl rfl rfl (Nat.le_of_ble_eq_true rfl) dX7_takeDigits_93 (fun H locs G => ?_)
      have G : zS T A s.heap s [[zO7 rd rl rdd rg r0 r1 tp (nI n) (nI x) 2 (nI q) y r7 r8], [zAr T 1 tp 600 ft]] _ _ := G
      exact z_back hQz_ (z_vret C hr hlocks G (Nat.le_of_ble_eq_true rfl) (Nat.le_of_ble_eq_true rfl) dX7_takeDigits_96 ⟨(nI x), 2, y, rfl, (congrArg nI hE), (by rw [← hE, if_pos (by omega)]; rfl), (fun h9 => tk_of (by rw [← hE] at h9 ⊢; exact hv (by omega)))⟩)
  · have c_1n : ¬ n ≤ x := fun q => c_1 ((nI_leI (a := n) (b := x) (by omega) (by omega)).mpr q)
    refine lv_aload_n hx hb dX7_takeDigits_16 rfl (lv_at hl 0 rfl) ?_
    refine z_get C G clX7 0 rfl 5 (by decide) m_fl_RX7_32 rfl dX7_takeDigits_17 ?_
    refine lv_aload_n hx hb dX7_takeDigits_20 rfl (lv_at hl 0 rfl) ?_
    refine z_get C G clX7 0 rfl 7 (by decide) m_fl_RX7_46 rfl dX7_takeDigits_21 ?_
    refine z_bld C G 1 rfl (vp_in_nI (by omega) (by decide)) dX7_takeDigits_24 ?_
    refine lv_topi (fun v_4 ev_4 => ?_)
    rw [nI_clamp (by omega)] at ev_4
    subst ev_4
    refine z_Si (bc := []) (br := [[zO7 rd rl rdd rg r0 r1 tp (nI n) (nI x) r4 (nI q) y r7 r8], [zAr T 1 tp 600 ft]]) (As := [.int (ft x)]) (rest := []) C G (c_f_isDigit l T (ft x)) (kS_RX7_154 C.2.2.2.2 (Nat.le_of_ble_eq_true rfl) (Nat.le_of_ble_eq_true rfl)) [] [] rfl rfl rfl rfl hl.1 dX7_takeDigits_25 (Nat.le_of_ble_eq_true rfl) (Nat.le_of_ble_eq_true rfl) (fun r_6 b1 H locs hw G => ?_)
    refine zAn2 hw ?_
    intro hbs9 hc_5
    clear hw
    subst hbs9
    have G : zS T A s.heap s [[zO7 rd rl rdd rg r0 r1 tp (nI n) (nI x) r4 (nI q) y r7 r8], [zAr T 1 tp 600 ft]] _ _ := G
    rcases hc_5 with ⟨rfl, h_7⟩ | ⟨rfl, h_8⟩
    · have h_7 : tkD (ft x) = true := h_7
      have hd9 := tkD_iff.mp h_7
      refine lv_if_eq (tgt := 74) hx hb dX7_takeDigits_28 (by decide) (fun q => absurd q (by decide)) (fun _ => ?_)
      refine lv_aload_n hx hb dX7_takeDigits_31 rfl (lv_at hl 0 rfl) ?_
      refine lv_aload_n hx hb dX7_takeDigits_32 rfl (lv_at hl 0 rfl) ?_
      refine z_get C G clX7 0 rfl 10 (by decide) m_fl_RX7_141 rfl dX7_takeDigits_33 ?_
      refine lv_bipush (v := 10) hx hb dX7_takeDigits_36 (by decide) ?_
      refine lv_imul hx hb dX7_takeDigits_38 ?_
      refine lv_topi (fun y_9 ey_9 => ?_)
      have ey_9i : y_9.toInt = y.toInt * (10 : Int) := by rw [ey_9]; exact z_imulI (x := y) (y := (10 : Int32)) (by show -2147483648 ≤ y.toInt * (10 : Int); omega) (by show y.toInt * (10 : Int) < 2147483648; omega)
      refine lv_aload_n hx hb dX7_takeDigits_39 rfl (lv_at hl 0 rfl) ?_
      refine z_get C G clX7 0 rfl 5 (by decide) m_fl_RX7_32 rfl dX7_takeDigits_40 ?_
      refine lv_aload_n hx hb dX7_takeDigits_43 rfl (lv_at hl 0 rfl) ?_
      refine z_get C G clX7 0 rfl 7 (by decide) m_fl_RX7_46 rfl dX7_takeDigits_44 ?_
      refine z_bld C G 1 rfl (vp_in_nI (by omega) (by decide)) dX7_takeDigits_47 ?_
      refine lv_topi (fun v_10 ev_10 => ?_)
      rw [nI_clamp (by omega)] at ev_10
      subst ev_10
      refine lv_iadd hx hb dX7_takeDigits_48 ?_
      refine lv_topi (fun y_11 ey_11 => ?_)
      have ey_11i : y_11.toInt = y_9.toInt + (ft x).toInt := by rw [ey_11]; exact z_iaddI (x := y_9) (y := (ft x)) (by show -2147483648 ≤ y_9.toInt + (ft x).toInt; omega) (by show y_9.toInt + (ft x).toInt < 2147483648; omega)
      refine lv_bipush (v := 48) hx hb dX7_takeDigits_49 (by decide) ?_
      refine lv_isub hx hb dX7_takeDigits_51 ?_
      refine lv_topi (fun y_12 ey_12 => ?_)
      have ey_12i : y_12.toInt = y_11.toInt - (48 : Int) := by rw [ey_12]; exact z_isubI (x := y_11) (y := (48 : Int32)) (by show -2147483648 ≤ y_11.toInt - (48 : Int); omega) (by show y_11.toInt - (48 : Int) < 2147483648; omega)
      refine lv_sipush (v := 1000) hx hb dX7_takeDigits_52 (by decide) ?_
      refine va_mmin hx hb (C.2.2.1.trans hl.1.symm) C.2.2.2.1 (C.2.2.2.2 _ m_ml_RX7_36) (C.2.2.2.2 _ m_st_math_min) (C.2.2.2.2 _ m_ii_math) (C.2.2.2.2 _ m_co_math_min) (Nat.le_of_ble_eq_true rfl) (Nat.le_of_ble_eq_true rfl) (Nat.le_of_ble_eq_true rfl) (Nat.le_of_ble_eq_true rfl) dX7_takeDigits_55 ?_
      refine lv_topi (fun v_13 ev_13 => ?_)
      subst ev_13
      refine z_put C G clX7 0 rfl 10 (by decide) m_fl_RX7_141 rfl rfl rfl (Nat.le_of_ble_eq_true rfl) dX7_takeDigits_58 (fun H locs G => ?_)
      have G : zS T A s.heap s [[zO7 rd rl rdd rg r0 r1 tp (nI n) (nI x) r4 (nI q) (if 1000 < y_12 then 1000 else y_12) r7 r8], [zAr T 1 tp 600 ft]] _ _ := G
      refine lv_aload_n hx hb dX7_takeDigits_61 rfl (lv_at hl 0 rfl) ?_
      refine lv_dup hx hb dX7_takeDigits_62 rfl ?_
      refine z_get C G clX7 0 rfl 7 (by decide) m_fl_RX7_46 rfl dX7_takeDigits_63 ?_
      refine lv_iconst (v := 1) hx hb dX7_takeDigits_66 (by decide) ?_
      refine lv_iadd hx hb dX7_takeDigits_67 ?_
      refine lv_topi (fun y_14 ey_14 => ?_)
      obtain rfl : y_14 = nI (x + 1) := ey_14.trans (z_iaddn x 1 rfl rfl)
      refine z_put C G clX7 0 rfl 7 (by decide) m_fl_RX7_46 rfl rfl rfl (Nat.le_of_ble_eq_true rfl) dX7_takeDigits_68 (fun H locs G => ?_)
      have G : zS T A s.heap s [[zO7 rd rl rdd rg r0 r1 tp (nI n) (nI (x + 1)) r4 (nI q) (if 1000 < y_12 then 1000 else y_12) r7 r8], [zAr T 1 tp 600 ft]] _ _ := G
      refine lv_goto (tgt := 5) hx hb dX7_takeDigits_71 (by decide) ?_
      exact ih_5 (x + 1) (if 1000 < y_12 then 1000 else y_12) (show (q ≤ (x + 1) ∧ (x + 1) ≤ n) ∧ (∀ j, q ≤ j → j < (x + 1) → tkD (ft j) = true) ∧ ((x + 1) ≤ q + 2 → (if 1000 < y_12 then 1000 else y_12).toInt = tkV ft q (x + 1)) ∧ (0 ≤ (if 1000 < y_12 then 1000 else y_12).toInt ∧ (if 1000 < y_12 then 1000 else y_12).toInt ≤ 1000) from ⟨(by omega), (z_allS hall (by first | with_reducible assumption | assumption)), (z_digV (y1 := y_12) hxq.1 hall (by first | with_reducible assumption | assumption) hv (by omega)), (z_min1k (by omega))⟩) (show n - (x + 1) < n - x from by omega) _ _ ls G (lv_sub hl [0] rfl)
    · have h_8 : tkD (ft x) = false := h_8
      refine lv_if_eq (tgt := 74) hx hb dX7_takeDigits_28 (by decide) (fun _ => ?_) (fun q => absurd (by decide) q)
      have hE : x = zEnd tkD ft n q := zRun_eq ⟨hxq.1, Or.inl hxq.2, hall, fun h9 => by first | omega | assumption⟩
      refine lv_aload_n hx hb dX7_takeDigits_74 rfl (lv_at hl 0 rfl) ?_
      refine lv_aload_n hx hb dX7_takeDigits_75 rfl (lv_at hl 0 rfl) ?_
      refine z_get C G clX7 0 rfl 7 (by decide) m_fl_RX7_46 rfl dX7_takeDigits_76 ?_
      refine lv_aload_n hx hb dX7_takeDigits_79 rfl (lv_at hl 0 rfl) ?_
      refine z_get C G clX7 0 rfl 9 (by decide) m_fl_RX7_84 rfl dX7_takeDigits_80 ?_
      refine lv_isub hx hb dX7_takeDigits_83 ?_
      refine lv_topi (fun y_15 ey_15 => ?_)
      have ey_15i : y_15.toInt = (x : Int) - (q : Int) := by rw [ey_15]; exact (z_isubI (x := (nI x)) (y := (nI q)) (by rw [nI_toInt (n := x) (by omega), nI_toInt (n := q) (by omega)]; show -2147483648 ≤ (x : Int) - (q : Int); omega) (by rw [nI_toInt (n := x) (by omega), nI_toInt (n := q) (by omega)]; show (x : Int) - (q : Int) < 2147483648; omega)).trans (by rw [nI_toInt (n := x) (by omega), nI_toInt (n := q) (by omega)] <;> rfl)
      refine lv_iconst (v := 2) hx hb dX7_takeDigits_84 (by decide) ?_
      refine lv_icmp_gt (tgt := 92) hx hb dX7_takeDigits_85 (by decide) (fun c_16 => ?_) (fun c_16 => ?_)
      · have c_16n : (2 : Int) < y_15.toInt := (fa_lt _ _).mp c_16
        refine lv_iconst (v := 4) hx hb dX7_takeDigits_92 (by decide) ?_
        refine z_put C G clX7 0 rfl 8 (by decide) m_fl_RX7_74 rfl rfl rfl (Nat.le_of_ble_eq_true rfl) dX7_takeDigits_93 (fun H locs G => ?_)
        have G : zS T A s.heap s [[zO7 rd rl rdd rg r0 r1 tp (nI n) (nI x) 4 (nI q) y r7 r8], [zAr T 1 tp 600 ft]] _ _ := G
        exact z_back hQz_ (z_vret C hr hlocks G (Nat.le_of_ble_eq_true rfl) (Nat.le_of_ble_eq_true rfl) dX7_takeDigits_96 ⟨(nI x), 4, y, rfl, (congrArg nI hE), (by rw [← hE, if_neg (by omega)]; rfl), (fun h9 => tk_of (by rw [← hE] at h9 ⊢; exact hv (by omega)))⟩)
      · have c_16n : ¬ (2 : Int) < y_15.toInt := fun q => c_16 ((fa_lt _ _).mpr q)
        refine lv_iconst (v := 2) hx hb dX7_takeDigits_88 (by decide) ?_
        refine lv_goto (tgt := 93) hx hb dX7_takeDigits_89 (by decide) ?_
        refine z_put C G clX7 0 rfl 8 (by decide) m_fl_RX7_74 rfl rfl rfl (Nat.le_of_ble_eq_true rfl) dX7_takeDigits_93 (fun H locs G => ?_)
        have G : zS T A s.heap s [[zO7 rd rl rdd rg r0 r1 tp (nI n) (nI x) 2 (nI q) y r7 r8], [zAr T 1 tp 600 ft]] _ _ := G
        exact z_back hQz_ (z_vret C hr hlocks G (Nat.le_of_ble_eq_true rfl) (Nat.le_of_ble_eq_true rfl) dX7_takeDigits_96 ⟨(nI x), 2, y, rfl, (congrArg nI hE), (by rw [← hE, if_pos (by omega)]; rfl), (fun h9 => tk_of (by rw [← hE] at h9 ⊢; exact hv (by omega)))⟩)
set_option maxHeartbeats 4000000 in
set_option maxRecDepth 100000 in
/-- c_f_nextToken -/
theorem c_f_nextToken (l : Launch) (T : zTy) (rd : Nat) (rl : Nat) (rdd : Nat) (rg : Nat) (tp : Nat) (r0 : Int32) (r1 : Int32) (r2 : Int32) (r3 : Int32) (r4 : Int32) (r5 : Int32) (r6 : Int32) (r7 : Int32) (r8 : Int32) (ft : Nat → Int32) (pp : Nat) (n : Nat) (k : pT) (hp : r3 = nI pp) (hpn : pp ≤ n) (hk : k = tkT ft n) (hn : r2 = nI n) (hn6 : n ≤ 600) : zMv l T yX7_nextToken cX7_nextToken 2 3 0 0 [.ref rd] [[zO7 rd rl rdd rg r0 r1 tp r2 r3 r4 r5 r6 r7 r8], [zAr T 1 tp 600 ft]] (fun bs => ∃ (u3 : Int32) (u4 : Int32) (u5 : Int32) (u6 : Int32), bs = [[zO7 rd rl rdd rg r0 r1 tp r2 u3 u4 u5 u6 r7 r8], [zAr T 1 tp 600 ft]] ∧ zTokC k pp u3 u4 u5 u6) := by
  refine zMv_of (own := RX7) (by decide) rfl (Nat.le_of_ble_eq_true rfl) ?_
  intro p e s m args below meth c A ls C hr hlocks hnm hAe G hl
  refine zHide (fun Qz_ hQz_ => ?_)
  have hx := C.1
  have hb := C.2.1
  have hl : lv_has ls 2 [(0, .ref rd)] := hl
  subst hp
  subst hn
  subst hk
  refine lv_aload_n hx hb dX7_nextToken_0 rfl (lv_at hl 0 rfl) ?_
  refine z_get C G clX7 0 rfl 7 (by decide) m_fl_RX7_46 rfl dX7_nextToken_1 ?_
  refine lv_istore_n (lv' := [(1, .int (nI pp)), (0, .ref rd)]) hx hb dX7_nextToken_4 rfl hl (by decide) (zLvf_h rfl) (fun ls hl => ?_)
  refine z_lp1 (T := T) 5 (fun (x : Nat) => [[zO7 rd rl rdd rg r0 r1 tp (nI n) (nI x) r4 r5 r6 r7 r8], [zAr T 1 tp 600 ft]]) (fun (x : Nat) => [(1, .int (nI x)), (0, .ref rd)]) (fun (x : Nat) => (pp ≤ x ∧ x ≤ n) ∧ (∀ j, pp ≤ j → j < x → tkB (ft j) = true)) (fun (x : Nat) => n - x) ?_ pp (show (pp ≤ pp ∧ pp ≤ n) ∧ (∀ j, pp ≤ j → j < pp → tkB (ft j) = true) from ⟨(by omega), (fun j h1 h2 => by omega)⟩) G (lv_sub hl [0, 1] rfl)
  intro x hI9 ih_5 H locs ls G hl
  replace hI9 : (pp ≤ x ∧ x ≤ n) ∧ (∀ j, pp ≤ j → j < x → tkB (ft j) = true) := hI9
  refine zAn2 hI9 ?_
  intro hxq hall
  clear hI9
  replace G : zS T A s.heap s [[zO7 rd rl rdd rg r0 r1 tp (nI n) (nI x) r4 r5 r6 r7 r8], [zAr T 1 tp 600 ft]] _ _ := G
  replace hl : lv_has ls 2 [(1, .int (nI x)), (0, .ref rd)] := hl
  refine lv_iload_n hx hb dX7_nextToken_5 rfl (lv_at hl 0 rfl) ?_
  refine lv_aload_n hx hb dX7_nextToken_6 rfl (lv_at hl 1 rfl) ?_
  refine z_get C G clX7 0 rfl 6 (by decide) m_fl_RX7_42 rfl dX7_nextToken_7 ?_
  refine lv_icmp_ge (tgt := 38) hx hb dX7_nextToken_10 (by decide) (fun c_1 => ?_) (fun c_1 => ?_)
  · have c_1n : n ≤ x := (nI_leI (a := n) (b := x) (by omega) (by omega)).mp c_1
    have hB : zRun tkB ft n pp x := ⟨hxq.1, Or.inl hxq.2, hall, fun h9 => by first | omega | assumption⟩
    refine lv_aload_n hx hb dX7_nextToken_38 rfl (lv_at hl 1 rfl) ?_
    refine lv_aload_n hx hb dX7_nextToken_39 rfl (lv_at hl 1 rfl) ?_
    refine z_get C G clX7 0 rfl 7 (by decide) m_fl_RX7_46 rfl dX7_nextToken_40 ?_
    refine z_put C G clX7 0 rfl 9 (by decide) m_fl_RX7_84 rfl rfl rfl (Nat.le_of_ble_eq_true rfl) dX7_nextToken_43 (fun H locs G => ?_)
    have G : zS T A s.heap s [[zO7 rd rl rdd rg r0 r1 tp (nI n) (nI x) r4 (nI x) r6 r7 r8], [zAr T 1 tp 600 ft]] _ _ := G
    refine lv_aload_n hx hb dX7_nextToken_46 rfl (lv_at hl 1 rfl) ?_
    refine z_get C G clX7 0 rfl 7 (by decide) m_fl_RX7_46 rfl dX7_nextToken_47 ?_
    refine lv_aload_n hx hb dX7_nextToken_50 rfl (lv_at hl 1 rfl) ?_
    refine z_get C G clX7 0 rfl 6 (by decide) m_fl_RX7_42 rfl dX7_nextToken_51 ?_
    refine lv_icmp_lt (tgt := 65) hx hb dX7_nextToken_54 (by decide) (fun c_2 => ?_) (fun c_2 => ?_)
    · have c_2n : x < n := (nI_ltI (a := x) (b := n) (by omega) (by omega)).mp c_2
      refine lv_aload_n hx hb dX7_nextToken_65 rfl (lv_at hl 1 rfl) ?_
      refine z_get C G clX7 0 rfl 5 (by decide) m_fl_RX7_32 rfl dX7_nextToken_66 ?_
      refine lv_aload_n hx hb dX7_nextToken_69 rfl (lv_at hl 1 rfl) ?_
      refine z_get C G clX7 0 rfl 7 (by decide) m_fl_RX7_46 rfl dX7_nextToken_70 ?_
      refine z_bld C G 1 rfl (vp_in_nI (by omega) (by decide)) dX7_nextToken_73 ?_
      refine lv_topi (fun v_3 ev_3 => ?_)
      rw [nI_clamp (by omega)] at ev_3
      subst ev_3
      refine z_Si (bc := []) (br := [[zO7 rd rl rdd rg r0 r1 tp (nI n) (nI x) r4 (nI x) r6 r7 r8], [zAr T 1 tp 600 ft]]) (As := [.int (ft x)]) (rest := []) C G (c_f_isLetter l T (ft x)) (kS_RX7_148 C.2.2.2.2 (Nat.le_of_ble_eq_true rfl) (Nat.le_of_ble_eq_true rfl)) [] [] rfl rfl rfl rfl hl.1 dX7_nextToken_74 (Nat.le_of_ble_eq_true rfl) (Nat.le_of_ble_eq_true rfl) (fun r_5 b1 H locs hw G => ?_)
      refine zAn2 hw ?_
      intro hbs9 hc_4
      clear hw
      subst hbs9
      have G : zS T A s.heap s [[zO7 rd rl rdd rg r0 r1 tp (nI n) (nI x) r4 (nI x) r6 r7 r8], [zAr T 1 tp 600 ft]] _ _ := G
      rcases hc_4 with ⟨rfl, h_6⟩ | ⟨rfl, h_7⟩
      · have h_6 : tkL (ft x) = true := h_6
        refine lv_if_eq (tgt := 87) hx hb dX7_nextToken_77 (by decide) (fun q => absurd q (by decide)) (fun _ => ?_)
        refine lv_aload_n hx hb dX7_nextToken_80 rfl (lv_at hl 1 rfl) ?_
        refine z_Vv (bc := [[zO7 rd rl rdd rg r0 r1 tp (nI n) (nI x) r4 (nI x) r6 r7 r8], [zAr T 1 tp 600 ft]]) (br := []) (As := []) (rest := []) C G (c_f_takeLetters l T rd rl rdd rg tp r0 r1 (nI n) (nI x) r4 (nI x) r6 r7 r8 ft x n rfl (by omega) rfl (by first | with_reducible assumption | with_reducible rfl | omega | assumption | rfl)) (kV_RX7_151 C.2.2.2.2 (Nat.le_of_ble_eq_true rfl) (Nat.le_of_ble_eq_true rfl)) [0, 1] [0, 0] rfl rfl (ci := 7) (qc := (RX7, TX7, 13)) rfl rfl (List.mem_flatten.mpr ⟨_, List.mem_of_getElem? (i := 0) rfl, List.mem_cons_self⟩) rfl rfl hl.1 dX7_nextToken_81 (Nat.le_of_ble_eq_true rfl) (Nat.le_of_ble_eq_true rfl) (fun b1 H locs hw G => ?_)
        refine zEx2 hw ?_
        intro u3_8 u4_9
        refine zCu3 ?_
        intro hbs9 h_10 h_11
        clear hw
        subst hbs9
        have G : zS T A s.heap s [[zO7 rd rl rdd rg r0 r1 tp (nI n) u3_8 u4_9 (nI x) r6 r7 r8], [zAr T 1 tp 600 ft]] _ _ := G
        refine lv_goto (tgt := 142) hx hb dX7_nextToken_84 (by decide) ?_
        exact z_back hQz_ (z_vret C hr hlocks G (Nat.le_of_ble_eq_true rfl) (Nat.le_of_ble_eq_true rfl) dX7_nextToken_142 ⟨u3_8, u4_9, (nI x), r6, rfl, (by rw [h_10, h_11]; exact zTokC_of (c := 1) (tk_L hB (by omega) (by first | with_reducible assumption | assumption) (zEnd_run _ _ _ _)) (fun h9 => absurd h9 (by decide)))⟩)
      · have h_7 : tkL (ft x) = false := h_7
        refine lv_if_eq (tgt := 87) hx hb dX7_nextToken_77 (by decide) (fun _ => ?_) (fun q => absurd (by decide) q)
        refine lv_aload_n hx hb dX7_nextToken_87 rfl (lv_at hl 1 rfl) ?_
        refine z_get C G clX7 0 rfl 5 (by decide) m_fl_RX7_32 rfl dX7_nextToken_88 ?_
        refine lv_aload_n hx hb dX7_nextToken_91 rfl (lv_at hl 1 rfl) ?_
        refine z_get C G clX7 0 rfl 7 (by decide) m_fl_RX7_46 rfl dX7_nextToken_92 ?_
        refine z_bld C G 1 rfl (vp_in_nI (by omega) (by decide)) dX7_nextToken_95 ?_
        refine lv_topi (fun v_13 ev_13 => ?_)
        rw [nI_clamp (by omega)] at ev_13
        subst ev_13
        refine z_Si (bc := []) (br := [[zO7 rd rl rdd rg r0 r1 tp (nI n) (nI x) r4 (nI x) r6 r7 r8], [zAr T 1 tp 600 ft]]) (As := [.int (ft x)]) (rest := []) C G (c_f_isDigit l T (ft x)) (kS_RX7_154 C.2.2.2.2 (Nat.le_of_ble_eq_true rfl) (Nat.le_of_ble_eq_true rfl)) [] [] rfl rfl rfl rfl hl.1 dX7_nextToken_96 (Nat.le_of_ble_eq_true rfl) (Nat.le_of_ble_eq_true rfl) (fun r_15 b1 H locs hw G => ?_)
        refine zAn2 hw ?_
        intro hbs9 hc_14
        clear hw
        subst hbs9
        have G : zS T A s.heap s [[zO7 rd rl rdd rg r0 r1 tp (nI n) (nI x) r4 (nI x) r6 r7 r8], [zAr T 1 tp 600 ft]] _ _ := G
        rcases hc_14 with ⟨rfl, h_16⟩ | ⟨rfl, h_17⟩
        · have h_16 : tkD (ft x) = true := h_16
          refine lv_if_eq (tgt := 109) hx hb dX7_nextToken_99 (by decide) (fun q => absurd q (by decide)) (fun _ => ?_)
          refine lv_aload_n hx hb dX7_nextToken_102 rfl (lv_at hl 1 rfl) ?_
          refine z_Vv (bc := [[zO7 rd rl rdd rg r0 r1 tp (nI n) (nI x) r4 (nI x) r6 r7 r8], [zAr T 1 tp 600 ft]]) (br := []) (As := []) (rest := []) C G (c_f_takeDigits l T rd rl rdd rg tp r0 r1 (nI n) (nI x) r4 (nI x) r6 r7 r8 ft x n rfl rfl (by omega) rfl (by first | with_reducible assumption | with_reducible rfl | omega | assumption | rfl)) (kV_RX7_157 C.2.2.2.2 (Nat.le_of_ble_eq_true rfl) (Nat.le_of_ble_eq_true rfl)) [0, 1] [0, 0] rfl rfl (ci := 7) (qc := (RX7, TX7, 13)) rfl rfl (List.mem_flatten.mpr ⟨_, List.mem_of_getElem? (i := 0) rfl, List.mem_cons_self⟩) rfl rfl hl.1 dX7_nextToken_103 (Nat.le_of_ble_eq_true rfl) (Nat.le_of_ble_eq_true rfl) (fun b1 H locs hw G => ?_)
          refine zEx3 hw ?_
          intro u3_18 u4_19 u6_20
          refine zCu4 ?_
          intro hbs9 h_21 h_22 h_23
          clear hw
          subst hbs9
          have G : zS T A s.heap s [[zO7 rd rl rdd rg r0 r1 tp (nI n) u3_18 u4_19 (nI x) u6_20 r7 r8], [zAr T 1 tp 600 ft]] _ _ := G
          refine lv_goto (tgt := 142) hx hb dX7_nextToken_106 (by decide) ?_
          exact z_back hQz_ (z_vret C hr hlocks G (Nat.le_of_ble_eq_true rfl) (Nat.le_of_ble_eq_true rfl) dX7_nextToken_142 ⟨u3_18, u4_19, (nI x), u6_20, rfl, (by
    rw [h_21, h_22]
    refine zTokC_of (tk_D hB (by omega) (by first | with_reducible assumption | assumption) (by first | with_reducible assumption | assumption) (zEnd_run _ _ _ _)) (fun h9 => ?_)
    by_cases q9 : zEnd tkD ft n x - x ≤ 2
    · rw [if_pos q9]; exact h_23 q9
    · rw [if_neg q9] at h9; exact absurd h9 (by decide))⟩)
        · have h_17 : tkD (ft x) = false := h_17
          refine lv_if_eq (tgt := 109) hx hb dX7_nextToken_99 (by decide) (fun _ => ?_) (fun q => absurd (by decide) q)
          refine lv_aload_n hx hb dX7_nextToken_109 rfl (lv_at hl 1 rfl) ?_
          refine lv_aload_n hx hb dX7_nextToken_110 rfl (lv_at hl 1 rfl) ?_
          refine z_get C G clX7 0 rfl 5 (by decide) m_fl_RX7_32 rfl dX7_nextToken_111 ?_
          refine lv_aload_n hx hb dX7_nextToken_114 rfl (lv_at hl 1 rfl) ?_
          refine z_get C G clX7 0 rfl 7 (by decide) m_fl_RX7_46 rfl dX7_nextToken_115 ?_
          refine z_bld C G 1 rfl (vp_in_nI (by omega) (by decide)) dX7_nextToken_118 ?_
          refine lv_topi (fun v_25 ev_25 => ?_)
          rw [nI_clamp (by omega)] at ev_25
          subst ev_25
          refine lv_bipush (v := 59) hx hb dX7_nextToken_119 (by decide) ?_
          refine lv_icmp_ne (tgt := 128) hx hb dX7_nextToken_121 (by decide) (fun c_26 => ?_) (fun c_26 => ?_)
          · have c_26n : ¬ (ft x).toInt = (59 : Int) := fun q => c_26 ((fa_eq _ _).mpr q)
            refine lv_iconst (v := 4) hx hb dX7_nextToken_128 (by decide) ?_
            refine z_put C G clX7 0 rfl 8 (by decide) m_fl_RX7_74 rfl rfl rfl (Nat.le_of_ble_eq_true rfl) dX7_nextToken_129 (fun H locs G => ?_)
            have G : zS T A s.heap s [[zO7 rd rl rdd rg r0 r1 tp (nI n) (nI x) 4 (nI x) r6 r7 r8], [zAr T 1 tp 600 ft]] _ _ := G
            refine lv_aload_n hx hb dX7_nextToken_132 rfl (lv_at hl 1 rfl) ?_
            refine lv_dup hx hb dX7_nextToken_133 rfl ?_
            refine z_get C G clX7 0 rfl 7 (by decide) m_fl_RX7_46 rfl dX7_nextToken_134 ?_
            refine lv_iconst (v := 1) hx hb dX7_nextToken_137 (by decide) ?_
            refine lv_iadd hx hb dX7_nextToken_138 ?_
            refine lv_topi (fun y_27 ey_27 => ?_)
            obtain rfl : y_27 = nI (x + 1) := ey_27.trans (z_iaddn x 1 rfl rfl)
            refine z_put C G clX7 0 rfl 7 (by decide) m_fl_RX7_46 rfl rfl rfl (Nat.le_of_ble_eq_true rfl) dX7_nextToken_139 (fun H locs G => ?_)
            have G : zS T A s.heap s [[zO7 rd rl rdd rg r0 r1 tp (nI n) (nI (x + 1)) 4 (nI x) r6 r7 r8], [zAr T 1 tp 600 ft]] _ _ := G
            exact z_back hQz_ (z_vret C hr hlocks G (Nat.le_of_ble_eq_true rfl) (Nat.le_of_ble_eq_true rfl) dX7_nextToken_142 ⟨(nI (x + 1)), 4, (nI x), r6, rfl, (zTokC_of (w := x) (e := x + 1) (c := 4) (wd := 0) (nm := 0) ((tk_S hB (by omega) (by first | with_reducible assumption | assumption) (by first | with_reducible assumption | assumption)).trans (by rw [if_neg (by omega)])) (fun h9 => absurd h9 (by decide)))⟩)
          · have c_26n : (ft x).toInt = (59 : Int) := (fa_eq _ _).mp c_26
            refine lv_iconst (v := 3) hx hb dX7_nextToken_124 (by decide) ?_
            refine lv_goto (tgt := 129) hx hb dX7_nextToken_125 (by decide) ?_
            refine z_put C G clX7 0 rfl 8 (by decide) m_fl_RX7_74 rfl rfl rfl (Nat.le_of_ble_eq_true rfl) dX7_nextToken_129 (fun H locs G => ?_)
            have G : zS T A s.heap s [[zO7 rd rl rdd rg r0 r1 tp (nI n) (nI x) 3 (nI x) r6 r7 r8], [zAr T 1 tp 600 ft]] _ _ := G
            refine lv_aload_n hx hb dX7_nextToken_132 rfl (lv_at hl 1 rfl) ?_
            refine lv_dup hx hb dX7_nextToken_133 rfl ?_
            refine z_get C G clX7 0 rfl 7 (by decide) m_fl_RX7_46 rfl dX7_nextToken_134 ?_
            refine lv_iconst (v := 1) hx hb dX7_nextToken_137 (by decide) ?_
            refine lv_iadd hx hb dX7_nextToken_138 ?_
            refine lv_topi (fun y_28 ey_28 => ?_)
            obtain rfl : y_28 = nI (x + 1) := ey_28.trans (z_iaddn x 1 rfl rfl)
            refine z_put C G clX7 0 rfl 7 (by decide) m_fl_RX7_46 rfl rfl rfl (Nat.le_of_ble_eq_true rfl) dX7_nextToken_139 (fun H locs G => ?_)
            have G : zS T A s.heap s [[zO7 rd rl rdd rg r0 r1 tp (nI n) (nI (x + 1)) 3 (nI x) r6 r7 r8], [zAr T 1 tp 600 ft]] _ _ := G
            exact z_back hQz_ (z_vret C hr hlocks G (Nat.le_of_ble_eq_true rfl) (Nat.le_of_ble_eq_true rfl) dX7_nextToken_142 ⟨(nI (x + 1)), 3, (nI x), r6, rfl, (zTokC_of (w := x) (e := x + 1) (c := 3) (wd := 0) (nm := 0) ((tk_S hB (by omega) (by first | with_reducible assumption | assumption) (by first | with_reducible assumption | assumption)).trans (by rw [if_pos (by omega)])) (fun h9 => absurd h9 (by decide)))⟩)
    · have c_2n : ¬ x < n := fun q => c_2 ((nI_ltI (a := x) (b := n) (by omega) (by omega)).mpr q)
      refine lv_aload_n hx hb dX7_nextToken_57 rfl (lv_at hl 1 rfl) ?_
      refine lv_iconst (v := 0) hx hb dX7_nextToken_58 (by decide) ?_
      refine z_put C G clX7 0 rfl 8 (by decide) m_fl_RX7_74 rfl rfl rfl (Nat.le_of_ble_eq_true rfl) dX7_nextToken_59 (fun H locs G => ?_)
      have G : zS T A s.heap s [[zO7 rd rl rdd rg r0 r1 tp (nI n) (nI x) 0 (nI x) r6 r7 r8], [zAr T 1 tp 600 ft]] _ _ := G
      refine lv_goto (tgt := 142) hx hb dX7_nextToken_62 (by decide) ?_
      exact z_back hQz_ (z_vret C hr hlocks G (Nat.le_of_ble_eq_true rfl) (Nat.le_of_ble_eq_true rfl) dX7_nextToken_142 ⟨(nI x), 0, (nI x), r6, rfl, (zTokC_of (c := 0) (tk_0 hB (by omega)) (fun h9 => absurd h9 (by decide)))⟩)
  · have c_1n : ¬ n ≤ x := fun q => c_1 ((nI_leI (a := n) (b := x) (by omega) (by omega)).mpr q)
    refine lv_aload_n hx hb dX7_nextToken_13 rfl (lv_at hl 1 rfl) ?_
    refine z_get C G clX7 0 rfl 5 (by decide) m_fl_RX7_32 rfl dX7_nextToken_14 ?_
    refine lv_iload_n hx hb dX7_nextToken_17 rfl (lv_at hl 0 rfl) ?_
    refine z_bld C G 1 rfl (vp_in_nI (by omega) (by decide)) dX7_nextToken_18 ?_
    refine lv_topi (fun v_29 ev_29 => ?_)
    rw [nI_clamp (by omega)] at ev_29
    subst ev_29
    refine z_Si (bc := []) (br := [[zO7 rd rl rdd rg r0 r1 tp (nI n) (nI x) r4 r5 r6 r7 r8], [zAr T 1 tp 600 ft]]) (As := [.int (ft x)]) (rest := []) C G (c_f_isBlank l T (ft x)) (kS_RX7_144 C.2.2.2.2 (Nat.le_of_ble_eq_true rfl) (Nat.le_of_ble_eq_true rfl)) [] [] rfl rfl rfl rfl hl.1 dX7_nextToken_19 (Nat.le_of_ble_eq_true rfl) (Nat.le_of_ble_eq_true rfl) (fun r_31 b1 H locs hw G => ?_)
    refine zAn2 hw ?_
    intro hbs9 hc_30
    clear hw
    subst hbs9
    have G : zS T A s.heap s [[zO7 rd rl rdd rg r0 r1 tp (nI n) (nI x) r4 r5 r6 r7 r8], [zAr T 1 tp 600 ft]] _ _ := G
    rcases hc_30 with ⟨rfl, h_32⟩ | ⟨rfl, h_33⟩
    · have h_32 : tkB (ft x) = true := h_32
      refine lv_if_eq (tgt := 38) hx hb dX7_nextToken_22 (by decide) (fun q => absurd q (by decide)) (fun _ => ?_)
      refine lv_aload_n hx hb dX7_nextToken_25 rfl (lv_at hl 1 rfl) ?_
      refine lv_iload_n hx hb dX7_nextToken_26 rfl (lv_at hl 0 rfl) ?_
      refine lv_iconst (v := 1) hx hb dX7_nextToken_27 (by decide) ?_
      refine lv_iadd hx hb dX7_nextToken_28 ?_
      refine lv_topi (fun y_34 ey_34 => ?_)
      obtain rfl : y_34 = nI (x + 1) := ey_34.trans (z_iaddn x 1 rfl rfl)
      refine z_put C G clX7 0 rfl 7 (by decide) m_fl_RX7_46 rfl rfl rfl (Nat.le_of_ble_eq_true rfl) dX7_nextToken_29 (fun H locs G => ?_)
      have G : zS T A s.heap s [[zO7 rd rl rdd rg r0 r1 tp (nI n) (nI (x + 1)) r4 r5 r6 r7 r8], [zAr T 1 tp 600 ft]] _ _ := G
      refine lv_iinc (v := nI (x + 1)) (lv' := [(1, .int (nI (x + 1))), (0, .ref rd)]) hx hb dX7_nextToken_32 hl (k := 0) rfl (z_inc x 1) (by decide) (zLvf_h rfl) (fun ls hl => ?_)
      refine lv_goto (tgt := 5) hx hb dX7_nextToken_35 (by decide) ?_
      exact ih_5 (x + 1) (show (pp ≤ (x + 1) ∧ (x + 1) ≤ n) ∧ (∀ j, pp ≤ j → j < (x + 1) → tkB (ft j) = true) from ⟨(by omega), (z_allS hall (by first | with_reducible assumption | assumption))⟩) (show n - (x + 1) < n - x from by omega) _ _ ls G (lv_sub hl [0, 1] rfl)
    · have h_33 : tkB (ft x) = false := h_33
      refine lv_if_eq (tgt := 38) hx hb dX7_nextToken_22 (by decide) (fun _ => ?_) (fun q => absurd (by decide) q)
      have hB : zRun tkB ft n pp x := ⟨hxq.1, Or.inl hxq.2, hall, fun h9 => by first | omega | assumption⟩
      refine lv_aload_n hx hb dX7_nextToken_38 rfl (lv_at hl 1 rfl) ?_
      refine lv_aload_n hx hb dX7_nextToken_39 rfl (lv_at hl 1 rfl) ?_
      refine z_get C G clX7 0 rfl 7 (by decide) m_fl_RX7_46 rfl dX7_nextToken_40 ?_
      refine z_put C G clX7 0 rfl 9 (by decide) m_fl_RX7_84 rfl rfl rfl (Nat.le_of_ble_eq_true rfl) dX7_nextToken_43 (fun H locs G => ?_)
      have G : zS T A s.heap s [[zO7 rd rl rdd rg r0 r1 tp (nI n) (nI x) r4 (nI x) r6 r7 r8], [zAr T 1 tp 600 ft]] _ _ := G
      refine lv_aload_n hx hb dX7_nextToken_46 rfl (lv_at hl 1 rfl) ?_
      refine z_get C G clX7 0 rfl 7 (by decide) m_fl_RX7_46 rfl dX7_nextToken_47 ?_
      refine lv_aload_n hx hb dX7_nextToken_50 rfl (lv_at hl 1 rfl) ?_
      refine z_get C G clX7 0 rfl 6 (by decide) m_fl_RX7_42 rfl dX7_nextToken_51 ?_
      refine lv_icmp_lt (tgt := 65) hx hb dX7_nextToken_54 (by decide) (fun c_35 => ?_) (fun c_35 => ?_)
      · have c_35n : x < n := (nI_ltI (a := x) (b := n) (by omega) (by omega)).mp c_35
        refine lv_aload_n hx hb dX7_nextToken_65 rfl (lv_at hl 1 rfl) ?_
        refine z_get C G clX7 0 rfl 5 (by decide) m_fl_RX7_32 rfl dX7_nextToken_66 ?_
        refine lv_aload_n hx hb dX7_nextToken_69 rfl (lv_at hl 1 rfl) ?_
        refine z_get C G clX7 0 rfl 7 (by decide) m_fl_RX7_46 rfl dX7_nextToken_70 ?_
        refine z_bld C G 1 rfl (vp_in_nI (by omega) (by decide)) dX7_nextToken_73 ?_
        refine lv_topi (fun v_36 ev_36 => ?_)
        rw [nI_clamp (by omega)] at ev_36
        subst ev_36
        refine z_Si (bc := []) (br := [[zO7 rd rl rdd rg r0 r1 tp (nI n) (nI x) r4 (nI x) r6 r7 r8], [zAr T 1 tp 600 ft]]) (As := [.int (ft x)]) (rest := []) C G (c_f_isLetter l T (ft x)) (kS_RX7_148 C.2.2.2.2 (Nat.le_of_ble_eq_true rfl) (Nat.le_of_ble_eq_true rfl)) [] [] rfl rfl rfl rfl hl.1 dX7_nextToken_74 (Nat.le_of_ble_eq_true rfl) (Nat.le_of_ble_eq_true rfl) (fun r_38 b1 H locs hw G => ?_)
        refine zAn2 hw ?_
        intro hbs9 hc_37
        clear hw
        subst hbs9
        have G : zS T A s.heap s [[zO7 rd rl rdd rg r0 r1 tp (nI n) (nI x) r4 (nI x) r6 r7 r8], [zAr T 1 tp 600 ft]] _ _ := G
        rcases hc_37 with ⟨rfl, h_39⟩ | ⟨rfl, h_40⟩
        · have h_39 : tkL (ft x) = true := h_39
          refine lv_if_eq (tgt := 87) hx hb dX7_nextToken_77 (by decide) (fun q => absurd q (by decide)) (fun _ => ?_)
          refine lv_aload_n hx hb dX7_nextToken_80 rfl (lv_at hl 1 rfl) ?_
          refine z_Vv (bc := [[zO7 rd rl rdd rg r0 r1 tp (nI n) (nI x) r4 (nI x) r6 r7 r8], [zAr T 1 tp 600 ft]]) (br := []) (As := []) (rest := []) C G (c_f_takeLetters l T rd rl rdd rg tp r0 r1 (nI n) (nI x) r4 (nI x) r6 r7 r8 ft x n rfl (by omega) rfl (by first | with_reducible assumption | with_reducible rfl | omega | assumption | rfl)) (kV_RX7_151 C.2.2.2.2 (Nat.le_of_ble_eq_true rfl) (Nat.le_of_ble_eq_true rfl)) [0, 1] [0, 0] rfl rfl (ci := 7) (qc := (RX7, TX7, 13)) rfl rfl (List.mem_flatten.mpr ⟨_, List.mem_of_getElem? (i := 0) rfl, List.mem_cons_self⟩) rfl rfl hl.1 dX7_nextToken_81 (Nat.le_of_ble_eq_true rfl) (Nat.le_of_ble_eq_true rfl) (fun b1 H locs hw G => ?_)
          refine zEx2 hw ?_
          intro u3_41 u4_42
          refine zCu3 ?_
          intro hbs9 h_43 h_44
          clear hw
          subst hbs9
          have G : zS T A s.heap s [[zO7 rd rl rdd rg r0 r1 tp (nI n) u3_41 u4_42 (nI x) r6 r7 r8], [zAr T 1 tp 600 ft]] _ _ := G
          refine lv_goto (tgt := 142) hx hb dX7_nextToken_84 (by decide) ?_
          exact z_back hQz_ (z_vret C hr hlocks G (Nat.le_of_ble_eq_true rfl) (Nat.le_of_ble_eq_true rfl) dX7_nextToken_142 ⟨u3_41, u4_42, (nI x), r6, rfl, (by rw [h_43, h_44]; exact zTokC_of (c := 1) (tk_L hB (by omega) (by first | with_reducible assumption | assumption) (zEnd_run _ _ _ _)) (fun h9 => absurd h9 (by decide)))⟩)
        · have h_40 : tkL (ft x) = false := h_40
          refine lv_if_eq (tgt := 87) hx hb dX7_nextToken_77 (by decide) (fun _ => ?_) (fun q => absurd (by decide) q)
          refine lv_aload_n hx hb dX7_nextToken_87 rfl (lv_at hl 1 rfl) ?_
          refine z_get C G clX7 0 rfl 5 (by decide) m_fl_RX7_32 rfl dX7_nextToken_88 ?_
          refine lv_aload_n hx hb dX7_nextToken_91 rfl (lv_at hl 1 rfl) ?_
          refine z_get C G clX7 0 rfl 7 (by decide) m_fl_RX7_46 rfl dX7_nextToken_92 ?_
          refine z_bld C G 1 rfl (vp_in_nI (by omega) (by decide)) dX7_nextToken_95 ?_
          refine lv_topi (fun v_46 ev_46 => ?_)
          rw [nI_clamp (by omega)] at ev_46
          subst ev_46
          refine z_Si (bc := []) (br := [[zO7 rd rl rdd rg r0 r1 tp (nI n) (nI x) r4 (nI x) r6 r7 r8], [zAr T 1 tp 600 ft]]) (As := [.int (ft x)]) (rest := []) C G (c_f_isDigit l T (ft x)) (kS_RX7_154 C.2.2.2.2 (Nat.le_of_ble_eq_true rfl) (Nat.le_of_ble_eq_true rfl)) [] [] rfl rfl rfl rfl hl.1 dX7_nextToken_96 (Nat.le_of_ble_eq_true rfl) (Nat.le_of_ble_eq_true rfl) (fun r_48 b1 H locs hw G => ?_)
          refine zAn2 hw ?_
          intro hbs9 hc_47
          clear hw
          subst hbs9
          have G : zS T A s.heap s [[zO7 rd rl rdd rg r0 r1 tp (nI n) (nI x) r4 (nI x) r6 r7 r8], [zAr T 1 tp 600 ft]] _ _ := G
          rcases hc_47 with ⟨rfl, h_49⟩ | ⟨rfl, h_50⟩
          · have h_49 : tkD (ft x) = true := h_49
            refine lv_if_eq (tgt := 109) hx hb dX7_nextToken_99 (by decide) (fun q => absurd q (by decide)) (fun _ => ?_)
            refine lv_aload_n hx hb dX7_nextToken_102 rfl (lv_at hl 1 rfl) ?_
            refine z_Vv (bc := [[zO7 rd rl rdd rg r0 r1 tp (nI n) (nI x) r4 (nI x) r6 r7 r8], [zAr T 1 tp 600 ft]]) (br := []) (As := []) (rest := []) C G (c_f_takeDigits l T rd rl rdd rg tp r0 r1 (nI n) (nI x) r4 (nI x) r6 r7 r8 ft x n rfl rfl (by omega) rfl (by first | with_reducible assumption | with_reducible rfl | omega | assumption | rfl)) (kV_RX7_157 C.2.2.2.2 (Nat.le_of_ble_eq_true rfl) (Nat.le_of_ble_eq_true rfl)) [0, 1] [0, 0] rfl rfl (ci := 7) (qc := (RX7, TX7, 13)) rfl rfl (List.mem_flatten.mpr ⟨_, List.mem_of_getElem? (i := 0) rfl, List.mem_cons_self⟩) rfl rfl hl.1 dX7_nextToken_103 (Nat.le_of_ble_eq_true rfl) (Nat.le_of_ble_eq_true rfl) (fun b1 H locs hw G => ?_)
            refine zEx3 hw ?_
            intro u3_51 u4_52 u6_53
            refine zCu4 ?_
            intro hbs9 h_54 h_55 h_56
            clear hw
            subst hbs9
            have G : zS T A s.heap s [[zO7 rd rl rdd rg r0 r1 tp (nI n) u3_51 u4_52 (nI x) u6_53 r7 r8], [zAr T 1 tp 600 ft]] _ _ := G
            refine lv_goto (tgt := 142) hx hb dX7_nextToken_106 (by decide) ?_
            exact z_back hQz_ (z_vret C hr hlocks G (Nat.le_of_ble_eq_true rfl) (Nat.le_of_ble_eq_true rfl) dX7_nextToken_142 ⟨u3_51, u4_52, (nI x), u6_53, rfl, (by
    rw [h_54, h_55]
    refine zTokC_of (tk_D hB (by omega) (by first | with_reducible assumption | assumption) (by first | with_reducible assumption | assumption) (zEnd_run _ _ _ _)) (fun h9 => ?_)
    by_cases q9 : zEnd tkD ft n x - x ≤ 2
    · rw [if_pos q9]; exact h_56 q9
    · rw [if_neg q9] at h9; exact absurd h9 (by decide))⟩)
          · have h_50 : tkD (ft x) = false := h_50
            refine lv_if_eq (tgt := 109) hx hb dX7_nextToken_99 (by decide) (fun _ => ?_) (fun q => absurd (by decide) q)
            refine lv_aload_n hx hb dX7_nextToken_109 rfl (lv_at hl 1 rfl) ?_
            refine lv_aload_n hx hb dX7_nextToken_110 rfl (lv_at hl 1 rfl) ?_
            refine z_get C G clX7 0 rfl 5 (by decide) m_fl_RX7_32 rfl dX7_nextToken_111 ?_
            refine lv_aload_n hx hb dX7_nextToken_114 rfl (lv_at hl 1 rfl) ?_
            refine z_get C G clX7 0 rfl 7 (by decide) m_fl_RX7_46 rfl dX7_nextToken_115 ?_
            refine z_bld C G 1 rfl (vp_in_nI (by omega) (by decide)) dX7_nextToken_118 ?_
            refine lv_topi (fun v_58 ev_58 => ?_)
            rw [nI_clamp (by omega)] at ev_58
            subst ev_58
            refine lv_bipush (v := 59) hx hb dX7_nextToken_119 (by decide) ?_
            refine lv_icmp_ne (tgt := 128) hx hb dX7_nextToken_121 (by decide) (fun c_59 => ?_) (fun c_59 => ?_)
            · have c_59n : ¬ (ft x).toInt = (59 : Int) := fun q => c_59 ((fa_eq _ _).mpr q)
              refine lv_iconst (v := 4) hx hb dX7_nextToken_128 (by decide) ?_
              refine z_put C G clX7 0 rfl 8 (by decide) m_fl_RX7_74 rfl rfl rfl (Nat.le_of_ble_eq_true rfl) dX7_nextToken_129 (fun H locs G => ?_)
              have G : zS T A s.heap s [[zO7 rd rl rdd rg r0 r1 tp (nI n) (nI x) 4 (nI x) r6 r7 r8], [zAr T 1 tp 600 ft]] _ _ := G
              refine lv_aload_n hx hb dX7_nextToken_132 rfl (lv_at hl 1 rfl) ?_
              refine lv_dup hx hb dX7_nextToken_133 rfl ?_
              refine z_get C G clX7 0 rfl 7 (by decide) m_fl_RX7_46 rfl dX7_nextToken_134 ?_
              refine lv_iconst (v := 1) hx hb dX7_nextToken_137 (by decide) ?_
              refine lv_iadd hx hb dX7_nextToken_138 ?_
              refine lv_topi (fun y_60 ey_60 => ?_)
              obtain rfl : y_60 = nI (x + 1) := ey_60.trans (z_iaddn x 1 rfl rfl)
              refine z_put C G clX7 0 rfl 7 (by decide) m_fl_RX7_46 rfl rfl rfl (Nat.le_of_ble_eq_true rfl) dX7_nextToken_139 (fun H locs G => ?_)
              have G : zS T A s.heap s [[zO7 rd rl rdd rg r0 r1 tp (nI n) (nI (x + 1)) 4 (nI x) r6 r7 r8], [zAr T 1 tp 600 ft]] _ _ := G
              exact z_back hQz_ (z_vret C hr hlocks G (Nat.le_of_ble_eq_true rfl) (Nat.le_of_ble_eq_true rfl) dX7_nextToken_142 ⟨(nI (x + 1)), 4, (nI x), r6, rfl, (zTokC_of (w := x) (e := x + 1) (c := 4) (wd := 0) (nm := 0) ((tk_S hB (by omega) (by first | with_reducible assumption | assumption) (by first | with_reducible assumption | assumption)).trans (by rw [if_neg (by omega)])) (fun h9 => absurd h9 (by decide)))⟩)
            · have c_59n : (ft x).toInt = (59 : Int) := (fa_eq _ _).mp c_59
              refine lv_iconst (v := 3) hx hb dX7_nextToken_124 (by decide) ?_
              refine lv_goto (tgt := 129) hx hb dX7_nextToken_125 (by decide) ?_
              refine z_put C G clX7 0 rfl 8 (by decide) m_fl_RX7_74 rfl rfl rfl (Nat.le_of_ble_eq_true rfl) dX7_nextToken_129 (fun H locs G => ?_)
              have G : zS T A s.heap s [[zO7 rd rl rdd rg r0 r1 tp (nI n) (nI x) 3 (nI x) r6 r7 r8], [zAr T 1 tp 600 ft]] _ _ := G
              refine lv_aload_n hx hb dX7_nextToken_132 rfl (lv_at hl 1 rfl) ?_
              refine lv_dup hx hb dX7_nextToken_133 rfl ?_
              refine z_get C G clX7 0 rfl 7 (by decide) m_fl_RX7_46 rfl dX7_nextToken_134 ?_
              refine lv_iconst (v := 1) hx hb dX7_nextToken_137 (by decide) ?_
              refine lv_iadd hx hb dX7_nextToken_138 ?_
              refine lv_topi (fun y_61 ey_61 => ?_)
              obtain rfl : y_61 = nI (x + 1) := ey_61.trans (z_iaddn x 1 rfl rfl)
              refine z_put C G clX7 0 rfl 7 (by decide) m_fl_RX7_46 rfl rfl rfl (Nat.le_of_ble_eq_true rfl) dX7_nextToken_139 (fun H locs G => ?_)
              have G : zS T A s.heap s [[zO7 rd rl rdd rg r0 r1 tp (nI n) (nI (x + 1)) 3 (nI x) r6 r7 r8], [zAr T 1 tp 600 ft]] _ _ := G
              exact z_back hQz_ (z_vret C hr hlocks G (Nat.le_of_ble_eq_true rfl) (Nat.le_of_ble_eq_true rfl) dX7_nextToken_142 ⟨(nI (x + 1)), 3, (nI x), r6, rfl, (zTokC_of (w := x) (e := x + 1) (c := 3) (wd := 0) (nm := 0) ((tk_S hB (by omega) (by first | with_reducible assumption | assumption) (by first | with_reducible assumption | assumption)).trans (by rw [if_pos (by omega)])) (fun h9 => absurd h9 (by decide)))⟩)
      · have c_35n : ¬ x < n := fun q => c_35 ((nI_ltI (a := x) (b := n) (by omega) (by omega)).mpr q)
        refine lv_aload_n hx hb dX7_nextToken_57 rfl (lv_at hl 1 rfl) ?_
        refine lv_iconst (v := 0) hx hb dX7_nextToken_58 (by decide) ?_
        refine z_put C G clX7 0 rfl 8 (by decide) m_fl_RX7_74 rfl rfl rfl (Nat.le_of_ble_eq_true rfl) dX7_nextToken_59 (fun H locs G => ?_)
        have G : zS T A s.heap s [[zO7 rd rl rdd rg r0 r1 tp (nI n) (nI x) 0 (nI x) r6 r7 r8], [zAr T 1 tp 600 ft]] _ _ := G
        refine lv_goto (tgt := 142) hx hb dX7_nextToken_62 (by decide) ?_
        exact z_back hQz_ (z_vret C hr hlocks G (Nat.le_of_ble_eq_true rfl) (Nat.le_of_ble_eq_true rfl) dX7_nextToken_142 ⟨(nI x), 0, (nI x), r6, rfl, (zTokC_of (c := 0) (tk_0 hB (by omega)) (fun h9 => absurd h9 (by decide)))⟩)
set_option maxHeartbeats 4000000 in
set_option maxRecDepth 100000 in
/-- reads -/
theorem c_f_reads (l : Launch) (T : zTy) (rd : Nat) (rl : Nat) (rdd : Nat) (rg : Nat) (tp : Nat) (r0 : Int32) (r1 : Int32) (r2 : Int32) (r3 : Int32) (r4 : Int32) (r5 : Int32) (r6 : Int32) (r7 : Int32) (r8 : Int32) (ft : Nat → Int32) (i : Nat) (w_ : Nat) (e_ : Nat) (n : Nat) (hp : r3 = nI e_) (hpl : r5 = nI w_) (hwe : w_ ≤ e_) (hen : e_ ≤ n) (hn : r2 = nI n) (hn6 : n ≤ 600) (hi : i < 12) : zMi l T yX7_reads cX7_reads 3 (some .boolean) 5 0 0 [.ref rd, .ref (T.2 (100 + i))] [[zO7 rd rl rdd rg r0 r1 tp r2 r3 r4 r5 r6 r7 r8], [zAr T 1 tp 600 ft]] (fun (r : Int32) bs => bs = [[zO7 rd rl rdd rg r0 r1 tp r2 r3 r4 r5 r6 r7 r8], [zAr T 1 tp 600 ft]] ∧ ((r = 1 ∧ zWI ft w_ e_ i = true) ∨ (r = 0 ∧ zWI ft w_ e_ i = false))) := by
  refine zMi_of (own := RX7) (by decide) rfl (Nat.le_of_ble_eq_true rfl) ?_
  intro p e s m args below meth c A ls C hr hlocks hnm hAe G hl
  refine zHide (fun Qz_ hQz_ => ?_)
  have hx := C.1
  have hb := C.2.1
  have hl : lv_has ls 3 [(0, .ref rd), (1, .ref (T.2 (100 + i)))] := hl
  subst hp
  subst hpl
  subst hn
  have hL := zLen_le i hi
  refine lv_aload_n hx hb dX7_reads_0 rfl (lv_at hl 0 rfl) ?_
  refine z_get C G clX7 0 rfl 7 (by decide) m_fl_RX7_46 rfl dX7_reads_1 ?_
  refine lv_aload_n hx hb dX7_reads_4 rfl (lv_at hl 0 rfl) ?_
  refine z_get C G clX7 0 rfl 9 (by decide) m_fl_RX7_84 rfl dX7_reads_5 ?_
  refine lv_isub hx hb dX7_reads_8 ?_
  refine lv_topi (fun y_1 ey_1 => ?_)
  have ey_1i : y_1.toInt = (e_ : Int) - (w_ : Int) := by rw [ey_1]; exact (z_isubI (x := (nI e_)) (y := (nI w_)) (by rw [nI_toInt (n := e_) (by omega), nI_toInt (n := w_) (by omega)]; show -2147483648 ≤ (e_ : Int) - (w_ : Int); omega) (by rw [nI_toInt (n := e_) (by omega), nI_toInt (n := w_) (by omega)]; show (e_ : Int) - (w_ : Int) < 2147483648; omega)).trans (by rw [nI_toInt (n := e_) (by omega), nI_toInt (n := w_) (by omega)] <;> rfl)
  refine lv_aload_n hx hb dX7_reads_9 rfl (lv_at hl 1 rfl) ?_
  refine z_Wi (bc := []) (br := [[zO7 rd rl rdd rg r0 r1 tp (nI n) (nI e_) r4 (nI w_) r6 r7 r8], [zAr T 1 tp 600 ft]]) (As := []) (rest := [.int y_1]) C G (c_slen l T i (by first | with_reducible assumption | with_reducible rfl | omega | assumption | rfl)) (kV_RX7_185 C.2.2.2.2 (Nat.le_of_ble_eq_true rfl) (Nat.le_of_ble_eq_true rfl)) [] [] rfl rfl (z_srecv G (by first | with_reducible assumption | omega | assumption)) rfl rfl hl.1 dX7_reads_10 (Nat.le_of_ble_eq_true rfl) (Nat.le_of_ble_eq_true rfl) (fun r_3 b1 H locs hw G => ?_)
  refine zAn2 hw ?_
  intro hbs9 h_2
  clear hw
  subst hbs9
  have G : zS T A s.heap s [[zO7 rd rl rdd rg r0 r1 tp (nI n) (nI e_) r4 (nI w_) r6 r7 r8], [zAr T 1 tp 600 ft]] _ _ := G
  subst h_2
  refine lv_icmp_ne (tgt := 34) hx hb dX7_reads_13 (by decide) (fun c_4 => ?_) (fun c_4 => ?_)
  · have c_4n : ¬ y_1.toInt = ((zLen.getD i 0) : Int) := fun q => c_4 ((fa_eq _ _).mpr (by rw [nI_toInt (n := zLen.getD i 0) (by omega)]; exact q))
    refine lv_iconst (v := 0) hx hb dX7_reads_34 (by decide) ?_
    exact z_back hQz_ (z_zret C hr hlocks G (Nat.le_of_ble_eq_true rfl) (Nat.le_of_ble_eq_true rfl) dX7_reads_35 rfl ⟨rfl, (Or.inr (⟨rfl, (by first | (exfalso; omega) | exact zWI_fl (by omega))⟩))⟩)
  · have c_4n : y_1.toInt = ((zLen.getD i 0) : Int) := by have q := (fa_eq _ _).mp c_4; rw [nI_toInt (n := zLen.getD i 0) (by omega)] at q; exact q
    refine lv_aload_n hx hb dX7_reads_16 rfl (lv_at hl 0 rfl) ?_
    refine z_get C G clX7 0 rfl 9 (by decide) m_fl_RX7_84 rfl dX7_reads_17 ?_
    refine lv_if_lt (tgt := 34) hx hb dX7_reads_20 (by decide) (fun c_5 => ?_) (fun c_5 => ?_)
    · have c_5n : w_ < 0 := (nI_ltI (a := w_) (b := 0) (by omega) (by omega)).mp c_5
      refine lv_iconst (v := 0) hx hb dX7_reads_34 (by decide) ?_
      exact z_back hQz_ (z_zret C hr hlocks G (Nat.le_of_ble_eq_true rfl) (Nat.le_of_ble_eq_true rfl) dX7_reads_35 rfl ⟨rfl, (Or.inr (⟨rfl, (by first | (exfalso; omega) | exact zWI_fl (by omega))⟩))⟩)
    · have c_5n : ¬ w_ < 0 := fun q => c_5 ((nI_ltI (a := w_) (b := 0) (by omega) (by omega)).mpr q)
      refine lv_aload_n hx hb dX7_reads_23 rfl (lv_at hl 0 rfl) ?_
      refine z_get C G clX7 0 rfl 7 (by decide) m_fl_RX7_46 rfl dX7_reads_24 ?_
      refine lv_aload_n hx hb dX7_reads_27 rfl (lv_at hl 0 rfl) ?_
      refine z_get C G clX7 0 rfl 6 (by decide) m_fl_RX7_42 rfl dX7_reads_28 ?_
      refine lv_icmp_le (tgt := 36) hx hb dX7_reads_31 (by decide) (fun c_6 => ?_) (fun c_6 => ?_)
      · have c_6n : e_ ≤ n := (nI_leI (a := e_) (b := n) (by omega) (by omega)).mp c_6
        refine lv_iconst (v := 0) hx hb dX7_reads_36 (by decide) ?_
        refine lv_istore_n (lv' := [(2, .int 0), (0, .ref rd), (1, .ref (T.2 (100 + i)))]) hx hb dX7_reads_37 rfl hl (by decide) (zLvf_h rfl) (fun ls hl => ?_)
        refine z_lp1 (T := T) 38 (fun (k : Nat) => [[zO7 rd rl rdd rg r0 r1 tp (nI n) (nI e_) r4 (nI w_) r6 r7 r8], [zAr T 1 tp 600 ft]]) (fun (k : Nat) => [(2, .int (nI k)), (0, .ref rd), (1, .ref (T.2 (100 + i)))]) (fun (k : Nat) => k ≤ zLen.getD i 0 ∧ (∀ j, j < k → ft (w_ + j) = (zByt.getD i []).getD j 0)) (fun (k : Nat) => zLen.getD i 0 - k) ?_ 0 (show 0 ≤ zLen.getD i 0 ∧ (∀ j, j < 0 → ft (w_ + j) = (zByt.getD i []).getD j 0) from ⟨by omega, (fun j h1 => by omega)⟩) G (lv_sub hl [0, 1, 2] rfl)
        intro k hI9 ih_38 H locs ls G hl
        replace hI9 : k ≤ zLen.getD i 0 ∧ (∀ j, j < k → ft (w_ + j) = (zByt.getD i []).getD j 0) := hI9
        refine zAn2 hI9 ?_
        intro hk hall
        clear hI9
        replace G : zS T A s.heap s [[zO7 rd rl rdd rg r0 r1 tp (nI n) (nI e_) r4 (nI w_) r6 r7 r8], [zAr T 1 tp 600 ft]] _ _ := G
        replace hl : lv_has ls 3 [(2, .int (nI k)), (0, .ref rd), (1, .ref (T.2 (100 + i)))] := hl
        refine lv_iload_n hx hb dX7_reads_38 rfl (lv_at hl 0 rfl) ?_
        refine lv_aload_n hx hb dX7_reads_39 rfl (lv_at hl 2 rfl) ?_
        refine z_Wi (bc := []) (br := [[zO7 rd rl rdd rg r0 r1 tp (nI n) (nI e_) r4 (nI w_) r6 r7 r8], [zAr T 1 tp 600 ft]]) (As := []) (rest := [.int (nI k)]) C G (c_slen l T i (by first | with_reducible assumption | with_reducible rfl | omega | assumption | rfl)) (kV_RX7_185 C.2.2.2.2 (Nat.le_of_ble_eq_true rfl) (Nat.le_of_ble_eq_true rfl)) [] [] rfl rfl (z_srecv G (by first | with_reducible assumption | omega | assumption)) rfl rfl hl.1 dX7_reads_40 (Nat.le_of_ble_eq_true rfl) (Nat.le_of_ble_eq_true rfl) (fun r_8 b1 H locs hw G => ?_)
        refine zAn2 hw ?_
        intro hbs9 h_7
        clear hw
        subst hbs9
        have G : zS T A s.heap s [[zO7 rd rl rdd rg r0 r1 tp (nI n) (nI e_) r4 (nI w_) r6 r7 r8], [zAr T 1 tp 600 ft]] _ _ := G
        subst h_7
        refine lv_icmp_ge (tgt := 73) hx hb dX7_reads_43 (by decide) (fun c_9 => ?_) (fun c_9 => ?_)
        · have c_9n : zLen.getD i 0 ≤ k := (nI_leI (a := zLen.getD i 0) (b := k) (by omega) (by omega)).mp c_9
          refine lv_iconst (v := 1) hx hb dX7_reads_73 (by decide) ?_
          exact z_back hQz_ (z_zret C hr hlocks G (Nat.le_of_ble_eq_true rfl) (Nat.le_of_ble_eq_true rfl) dX7_reads_74 rfl ⟨rfl, (Or.inl (⟨rfl, (zWI_t (by omega) (fun j hj => hall j (by omega)))⟩))⟩)
        · have c_9n : ¬ zLen.getD i 0 ≤ k := fun q => c_9 ((nI_leI (a := zLen.getD i 0) (b := k) (by omega) (by omega)).mpr q)
          refine lv_aload_n hx hb dX7_reads_46 rfl (lv_at hl 1 rfl) ?_
          refine z_get C G clX7 0 rfl 5 (by decide) m_fl_RX7_32 rfl dX7_reads_47 ?_
          refine lv_aload_n hx hb dX7_reads_50 rfl (lv_at hl 1 rfl) ?_
          refine z_get C G clX7 0 rfl 9 (by decide) m_fl_RX7_84 rfl dX7_reads_51 ?_
          refine lv_iload_n hx hb dX7_reads_54 rfl (lv_at hl 0 rfl) ?_
          refine lv_iadd hx hb dX7_reads_55 ?_
          refine lv_topi (fun y_10 ey_10 => ?_)
          obtain rfl : y_10 = nI (w_ + k) := ey_10.trans (z_iaddn w_ k rfl rfl)
          refine z_bld C G 1 rfl (vp_in_nI (by omega) (by decide)) dX7_reads_56 ?_
          refine lv_topi (fun v_11 ev_11 => ?_)
          rw [nI_clamp (by omega)] at ev_11
          subst ev_11
          refine lv_aload_n hx hb dX7_reads_57 rfl (lv_at hl 2 rfl) ?_
          refine lv_iload_n hx hb dX7_reads_58 rfl (lv_at hl 0 rfl) ?_
          refine z_Wi (bc := []) (br := [[zO7 rd rl rdd rg r0 r1 tp (nI n) (nI e_) r4 (nI w_) r6 r7 r8], [zAr T 1 tp 600 ft]]) (As := [.int (nI k)]) (rest := [.int (ft (w_ + k))]) C G (c_schar l T i k (by first | with_reducible assumption | with_reducible rfl | omega | assumption | rfl) (by first | with_reducible assumption | with_reducible rfl | omega | assumption | rfl)) (kV_RX7_190 C.2.2.2.2 (Nat.le_of_ble_eq_true rfl) (Nat.le_of_ble_eq_true rfl)) [] [] rfl rfl (z_srecv G (by first | with_reducible assumption | omega | assumption)) rfl rfl hl.1 dX7_reads_59 (Nat.le_of_ble_eq_true rfl) (Nat.le_of_ble_eq_true rfl) (fun r_13 b1 H locs hw G => ?_)
          refine zAn2 hw ?_
          intro hbs9 h_12
          clear hw
          subst hbs9
          have G : zS T A s.heap s [[zO7 rd rl rdd rg r0 r1 tp (nI n) (nI e_) r4 (nI w_) r6 r7 r8], [zAr T 1 tp 600 ft]] _ _ := G
          subst h_12
          refine lv_icmp_eq (tgt := 67) hx hb dX7_reads_62 (by decide) (fun c_14 => ?_) (fun c_14 => ?_)
          · have c_14n : (ft (w_ + k)).toInt = (zChar i k).toInt := (fa_eq _ _).mp c_14
            refine lv_iinc (v := nI (k + 1)) (lv' := [(2, .int (nI (k + 1))), (0, .ref rd), (1, .ref (T.2 (100 + i)))]) hx hb dX7_reads_67 hl (k := 0) rfl (z_inc k 1) (by decide) (zLvf_h rfl) (fun ls hl => ?_)
            refine lv_goto (tgt := 38) hx hb dX7_reads_70 (by decide) ?_
            exact ih_38 (k + 1) (show (k + 1) ≤ zLen.getD i 0 ∧ (∀ j, j < (k + 1) → ft (w_ + j) = (zByt.getD i []).getD j 0) from ⟨by omega, (z_allE hall ((show ft (w_ + k) = zChar i k from c_14).trans (zChar_b i hi k (by omega))))⟩) (show zLen.getD i 0 - (k + 1) < zLen.getD i 0 - k from by omega) _ _ ls G (lv_sub hl [0, 1, 2] rfl)
          · have c_14n : ¬ (ft (w_ + k)).toInt = (zChar i k).toInt := fun q => c_14 ((fa_eq _ _).mpr q)
            refine lv_iconst (v := 0) hx hb dX7_reads_65 (by decide) ?_
            exact z_back hQz_ (z_zret C hr hlocks G (Nat.le_of_ble_eq_true rfl) (Nat.le_of_ble_eq_true rfl) dX7_reads_66 rfl ⟨rfl, (Or.inr (⟨rfl, (zWI_fb (k := k) hi (by omega) c_14)⟩))⟩)
      · have c_6n : ¬ e_ ≤ n := fun q => c_6 ((nI_leI (a := e_) (b := n) (by omega) (by omega)).mpr q)
        refine lv_iconst (v := 0) hx hb dX7_reads_34 (by decide) ?_
        exact z_back hQz_ (z_zret C hr hlocks G (Nat.le_of_ble_eq_true rfl) (Nat.le_of_ble_eq_true rfl) dX7_reads_35 rfl ⟨rfl, (Or.inr (⟨rfl, (by first | (exfalso; omega) | exact zWI_fl (by omega))⟩))⟩)
set_option maxHeartbeats 4000000 in
set_option maxRecDepth 100000 in
/-- wordOf 0 -/
theorem c_f_wordOf0 (l : Launch) (T : zTy) (rd : Nat) (rl : Nat) (rdd : Nat) (rg : Nat) (tp : Nat) (r0 : Int32) (r1 : Int32) (r2 : Int32) (r3 : Int32) (r4 : Int32) (r5 : Int32) (r6 : Int32) (r7 : Int32) (r8 : Int32) (ft : Nat → Int32) (w_ : Nat) (e_ : Nat) (n : Nat) (hp : r3 = nI e_) (hpl : r5 = nI w_) (hwe : w_ ≤ e_) (hen : e_ ≤ n) (hn : r2 = nI n) (hn6 : n ≤ 600) : zMi l T yX7_wordOf cX7_wordOf 2 (some .int) 6 0 0 [.ref rd, .int 0] [[zO7 rd rl rdd rg r0 r1 tp r2 r3 r4 r5 r6 r7 r8], [zAr T 1 tp 600 ft]] (fun (r : Int32) bs => bs = [[zO7 rd rl rdd rg r0 r1 tp r2 r3 r4 r5 r6 r7 r8], [zAr T 1 tp 600 ft]] ∧ r = zWc 0 (zWordAt ft w_ e_)) := by
  refine zMi_of (own := RX7) (by decide) rfl (Nat.le_of_ble_eq_true rfl) ?_
  intro p e s m args below meth c A ls C hr hlocks hnm hAe G hl
  refine zHide (fun Qz_ hQz_ => ?_)
  have hx := C.1
  have hb := C.2.1
  have hl : lv_has ls 2 [(0, .ref rd), (1, .int 0)] := hl
  refine lv_iload_n hx hb dX7_wordOf_0 rfl (lv_at hl 1 rfl) ?_
  refine lv_if_ne (tgt := 58) hx hb dX7_wordOf_1 (by decide) (fun q => absurd (by decide) q) (fun _ => ?_)
  refine lv_aload_n hx hb dX7_wordOf_4 rfl (lv_at hl 0 rfl) ?_
  refine z_ldcS C G rfl 0 (by decide) rfl dX7_wordOf_5 ?_
  refine z_Vi (bc := [[zO7 rd rl rdd rg r0 r1 tp r2 r3 r4 r5 r6 r7 r8], [zAr T 1 tp 600 ft]]) (br := []) (As := [.ref (T.2 (100 + 0))]) (rest := []) C G (c_f_reads l T rd rl rdd rg tp r0 r1 r2 r3 r4 r5 r6 r7 r8 ft 0 w_ e_ n hp hpl hwe hen hn hn6 (by decide)) (kV_RX7_162 C.2.2.2.2 (Nat.le_of_ble_eq_true rfl) (Nat.le_of_ble_eq_true rfl)) [0, 1] [0, 0] rfl rfl (ci := 7) (qc := (RX7, TX7, 13)) rfl rfl (List.mem_flatten.mpr ⟨_, List.mem_of_getElem? (i := 0) rfl, List.mem_cons_self⟩) rfl rfl hl.1 dX7_wordOf_7 (Nat.le_of_ble_eq_true rfl) (Nat.le_of_ble_eq_true rfl) (fun r_2 b1 H locs hw G => ?_)
  refine zAn2 hw ?_
  intro hbs9 hc_1
  clear hw
  subst hbs9
  have G : zS T A s.heap s [[zO7 rd rl rdd rg r0 r1 tp r2 r3 r4 r5 r6 r7 r8], [zAr T 1 tp 600 ft]] _ _ := G
  rcases hc_1 with ⟨rfl, h_3⟩ | ⟨rfl, h_4⟩
  · have h_3 : zWI ft w_ e_ 0 = true := h_3
    refine lv_if_eq (tgt := 17) hx hb dX7_wordOf_10 (by decide) (fun q => absurd q (by decide)) (fun _ => ?_)
    refine lv_iconst (v := 0) hx hb dX7_wordOf_13 (by decide) ?_
    refine lv_goto (tgt := 57) hx hb dX7_wordOf_14 (by decide) ?_
    exact z_back hQz_ (z_iret C hr hlocks G (Nat.le_of_ble_eq_true rfl) (Nat.le_of_ble_eq_true rfl) dX7_wordOf_57 ⟨rfl, (by rw [zWd_t (i := 0) (by decide) (by first | with_reducible assumption | assumption)]; rfl)⟩)
  · have h_4 : zWI ft w_ e_ 0 = false := h_4
    refine lv_if_eq (tgt := 17) hx hb dX7_wordOf_10 (by decide) (fun _ => ?_) (fun q => absurd (by decide) q)
    refine lv_aload_n hx hb dX7_wordOf_17 rfl (lv_at hl 0 rfl) ?_
    refine z_ldcS C G rfl 1 (by decide) rfl dX7_wordOf_18 ?_
    refine z_Vi (bc := [[zO7 rd rl rdd rg r0 r1 tp r2 r3 r4 r5 r6 r7 r8], [zAr T 1 tp 600 ft]]) (br := []) (As := [.ref (T.2 (100 + 1))]) (rest := []) C G (c_f_reads l T rd rl rdd rg tp r0 r1 r2 r3 r4 r5 r6 r7 r8 ft 1 w_ e_ n hp hpl hwe hen hn hn6 (by decide)) (kV_RX7_162 C.2.2.2.2 (Nat.le_of_ble_eq_true rfl) (Nat.le_of_ble_eq_true rfl)) [0, 1] [0, 0] rfl rfl (ci := 7) (qc := (RX7, TX7, 13)) rfl rfl (List.mem_flatten.mpr ⟨_, List.mem_of_getElem? (i := 0) rfl, List.mem_cons_self⟩) rfl rfl hl.1 dX7_wordOf_20 (Nat.le_of_ble_eq_true rfl) (Nat.le_of_ble_eq_true rfl) (fun r_6 b1 H locs hw G => ?_)
    refine zAn2 hw ?_
    intro hbs9 hc_5
    clear hw
    subst hbs9
    have G : zS T A s.heap s [[zO7 rd rl rdd rg r0 r1 tp r2 r3 r4 r5 r6 r7 r8], [zAr T 1 tp 600 ft]] _ _ := G
    rcases hc_5 with ⟨rfl, h_7⟩ | ⟨rfl, h_8⟩
    · have h_7 : zWI ft w_ e_ 1 = true := h_7
      refine lv_if_eq (tgt := 30) hx hb dX7_wordOf_23 (by decide) (fun q => absurd q (by decide)) (fun _ => ?_)
      refine lv_iconst (v := 1) hx hb dX7_wordOf_26 (by decide) ?_
      refine lv_goto (tgt := 57) hx hb dX7_wordOf_27 (by decide) ?_
      exact z_back hQz_ (z_iret C hr hlocks G (Nat.le_of_ble_eq_true rfl) (Nat.le_of_ble_eq_true rfl) dX7_wordOf_57 ⟨rfl, (by rw [zWd_t (i := 1) (by decide) (by first | with_reducible assumption | assumption)]; rfl)⟩)
    · have h_8 : zWI ft w_ e_ 1 = false := h_8
      refine lv_if_eq (tgt := 30) hx hb dX7_wordOf_23 (by decide) (fun _ => ?_) (fun q => absurd (by decide) q)
      refine lv_aload_n hx hb dX7_wordOf_30 rfl (lv_at hl 0 rfl) ?_
      refine z_ldcS C G rfl 2 (by decide) rfl dX7_wordOf_31 ?_
      refine z_Vi (bc := [[zO7 rd rl rdd rg r0 r1 tp r2 r3 r4 r5 r6 r7 r8], [zAr T 1 tp 600 ft]]) (br := []) (As := [.ref (T.2 (100 + 2))]) (rest := []) C G (c_f_reads l T rd rl rdd rg tp r0 r1 r2 r3 r4 r5 r6 r7 r8 ft 2 w_ e_ n hp hpl hwe hen hn hn6 (by decide)) (kV_RX7_162 C.2.2.2.2 (Nat.le_of_ble_eq_true rfl) (Nat.le_of_ble_eq_true rfl)) [0, 1] [0, 0] rfl rfl (ci := 7) (qc := (RX7, TX7, 13)) rfl rfl (List.mem_flatten.mpr ⟨_, List.mem_of_getElem? (i := 0) rfl, List.mem_cons_self⟩) rfl rfl hl.1 dX7_wordOf_33 (Nat.le_of_ble_eq_true rfl) (Nat.le_of_ble_eq_true rfl) (fun r_10 b1 H locs hw G => ?_)
      refine zAn2 hw ?_
      intro hbs9 hc_9
      clear hw
      subst hbs9
      have G : zS T A s.heap s [[zO7 rd rl rdd rg r0 r1 tp r2 r3 r4 r5 r6 r7 r8], [zAr T 1 tp 600 ft]] _ _ := G
      rcases hc_9 with ⟨rfl, h_11⟩ | ⟨rfl, h_12⟩
      · have h_11 : zWI ft w_ e_ 2 = true := h_11
        refine lv_if_eq (tgt := 43) hx hb dX7_wordOf_36 (by decide) (fun q => absurd q (by decide)) (fun _ => ?_)
        refine lv_iconst (v := 2) hx hb dX7_wordOf_39 (by decide) ?_
        refine lv_goto (tgt := 57) hx hb dX7_wordOf_40 (by decide) ?_
        exact z_back hQz_ (z_iret C hr hlocks G (Nat.le_of_ble_eq_true rfl) (Nat.le_of_ble_eq_true rfl) dX7_wordOf_57 ⟨rfl, (by rw [zWd_t (i := 2) (by decide) (by first | with_reducible assumption | assumption)]; rfl)⟩)
      · have h_12 : zWI ft w_ e_ 2 = false := h_12
        refine lv_if_eq (tgt := 43) hx hb dX7_wordOf_36 (by decide) (fun _ => ?_) (fun q => absurd (by decide) q)
        refine lv_aload_n hx hb dX7_wordOf_43 rfl (lv_at hl 0 rfl) ?_
        refine z_ldcS C G rfl 3 (by decide) rfl dX7_wordOf_44 ?_
        refine z_Vi (bc := [[zO7 rd rl rdd rg r0 r1 tp r2 r3 r4 r5 r6 r7 r8], [zAr T 1 tp 600 ft]]) (br := []) (As := [.ref (T.2 (100 + 3))]) (rest := []) C G (c_f_reads l T rd rl rdd rg tp r0 r1 r2 r3 r4 r5 r6 r7 r8 ft 3 w_ e_ n hp hpl hwe hen hn hn6 (by decide)) (kV_RX7_162 C.2.2.2.2 (Nat.le_of_ble_eq_true rfl) (Nat.le_of_ble_eq_true rfl)) [0, 1] [0, 0] rfl rfl (ci := 7) (qc := (RX7, TX7, 13)) rfl rfl (List.mem_flatten.mpr ⟨_, List.mem_of_getElem? (i := 0) rfl, List.mem_cons_self⟩) rfl rfl hl.1 dX7_wordOf_46 (Nat.le_of_ble_eq_true rfl) (Nat.le_of_ble_eq_true rfl) (fun r_14 b1 H locs hw G => ?_)
        refine zAn2 hw ?_
        intro hbs9 hc_13
        clear hw
        subst hbs9
        have G : zS T A s.heap s [[zO7 rd rl rdd rg r0 r1 tp r2 r3 r4 r5 r6 r7 r8], [zAr T 1 tp 600 ft]] _ _ := G
        rcases hc_13 with ⟨rfl, h_15⟩ | ⟨rfl, h_16⟩
        · have h_15 : zWI ft w_ e_ 3 = true := h_15
          refine lv_if_eq (tgt := 56) hx hb dX7_wordOf_49 (by decide) (fun q => absurd q (by decide)) (fun _ => ?_)
          refine lv_iconst (v := 3) hx hb dX7_wordOf_52 (by decide) ?_
          refine lv_goto (tgt := 57) hx hb dX7_wordOf_53 (by decide) ?_
          exact z_back hQz_ (z_iret C hr hlocks G (Nat.le_of_ble_eq_true rfl) (Nat.le_of_ble_eq_true rfl) dX7_wordOf_57 ⟨rfl, (by rw [zWd_t (i := 3) (by decide) (by first | with_reducible assumption | assumption)]; rfl)⟩)
        · have h_16 : zWI ft w_ e_ 3 = false := h_16
          refine lv_if_eq (tgt := 56) hx hb dX7_wordOf_49 (by decide) (fun _ => ?_) (fun q => absurd (by decide) q)
          refine lv_iconst (v := (-1)) hx hb dX7_wordOf_56 (by decide) ?_
          exact z_back hQz_ (z_iret C hr hlocks G (Nat.le_of_ble_eq_true rfl) (Nat.le_of_ble_eq_true rfl) dX7_wordOf_57 ⟨rfl, (zWc_0 (zWd_f (i := 0) (by decide) (by first | with_reducible assumption | assumption)) (zWd_f (i := 1) (by decide) (by first | with_reducible assumption | assumption)) (zWd_f (i := 2) (by decide) (by first | with_reducible assumption | assumption)) (zWd_f (i := 3) (by decide) (by first | with_reducible assumption | assumption)))⟩)
set_option maxHeartbeats 4000000 in
set_option maxRecDepth 100000 in
/-- wordOf 1 -/
theorem c_f_wordOf1 (l : Launch) (T : zTy) (rd : Nat) (rl : Nat) (rdd : Nat) (rg : Nat) (tp : Nat) (r0 : Int32) (r1 : Int32) (r2 : Int32) (r3 : Int32) (r4 : Int32) (r5 : Int32) (r6 : Int32) (r7 : Int32) (r8 : Int32) (ft : Nat → Int32) (w_ : Nat) (e_ : Nat) (n : Nat) (hp : r3 = nI e_) (hpl : r5 = nI w_) (hwe : w_ ≤ e_) (hen : e_ ≤ n) (hn : r2 = nI n) (hn6 : n ≤ 600) : zMi l T yX7_wordOf cX7_wordOf 2 (some .int) 6 0 0 [.ref rd, .int 1] [[zO7 rd rl rdd rg r0 r1 tp r2 r3 r4 r5 r6 r7 r8], [zAr T 1 tp 600 ft]] (fun (r : Int32) bs => bs = [[zO7 rd rl rdd rg r0 r1 tp r2 r3 r4 r5 r6 r7 r8], [zAr T 1 tp 600 ft]] ∧ r = zWc 1 (zWordAt ft w_ e_)) := by
  refine zMi_of (own := RX7) (by decide) rfl (Nat.le_of_ble_eq_true rfl) ?_
  intro p e s m args below meth c A ls C hr hlocks hnm hAe G hl
  refine zHide (fun Qz_ hQz_ => ?_)
  have hx := C.1
  have hb := C.2.1
  have hl : lv_has ls 2 [(0, .ref rd), (1, .int 1)] := hl
  refine lv_iload_n hx hb dX7_wordOf_0 rfl (lv_at hl 1 rfl) ?_
  refine lv_if_ne (tgt := 58) hx hb dX7_wordOf_1 (by decide) (fun _ => ?_) (fun q => absurd q (by decide))
  refine lv_iload_n hx hb dX7_wordOf_58 rfl (lv_at hl 1 rfl) ?_
  refine lv_iconst (v := 2) hx hb dX7_wordOf_59 (by decide) ?_
  refine lv_icmp_ne (tgt := 91) hx hb dX7_wordOf_60 (by decide) (fun _ => ?_) (fun q => absurd q (by decide))
  refine lv_aload_n hx hb dX7_wordOf_91 rfl (lv_at hl 0 rfl) ?_
  refine z_ldcS C G rfl 6 (by decide) rfl dX7_wordOf_92 ?_
  refine z_Vi (bc := [[zO7 rd rl rdd rg r0 r1 tp r2 r3 r4 r5 r6 r7 r8], [zAr T 1 tp 600 ft]]) (br := []) (As := [.ref (T.2 (100 + 6))]) (rest := []) C G (c_f_reads l T rd rl rdd rg tp r0 r1 r2 r3 r4 r5 r6 r7 r8 ft 6 w_ e_ n hp hpl hwe hen hn hn6 (by decide)) (kV_RX7_162 C.2.2.2.2 (Nat.le_of_ble_eq_true rfl) (Nat.le_of_ble_eq_true rfl)) [0, 1] [0, 0] rfl rfl (ci := 7) (qc := (RX7, TX7, 13)) rfl rfl (List.mem_flatten.mpr ⟨_, List.mem_of_getElem? (i := 0) rfl, List.mem_cons_self⟩) rfl rfl hl.1 dX7_wordOf_94 (Nat.le_of_ble_eq_true rfl) (Nat.le_of_ble_eq_true rfl) (fun r_2 b1 H locs hw G => ?_)
  refine zAn2 hw ?_
  intro hbs9 hc_1
  clear hw
  subst hbs9
  have G : zS T A s.heap s [[zO7 rd rl rdd rg r0 r1 tp r2 r3 r4 r5 r6 r7 r8], [zAr T 1 tp 600 ft]] _ _ := G
  rcases hc_1 with ⟨rfl, h_3⟩ | ⟨rfl, h_4⟩
  · have h_3 : zWI ft w_ e_ 6 = true := h_3
    refine lv_if_eq (tgt := 102) hx hb dX7_wordOf_97 (by decide) (fun q => absurd q (by decide)) (fun _ => ?_)
    refine lv_iconst (v := 0) hx hb dX7_wordOf_100 (by decide) ?_
    exact z_back hQz_ (z_iret C hr hlocks G (Nat.le_of_ble_eq_true rfl) (Nat.le_of_ble_eq_true rfl) dX7_wordOf_101 ⟨rfl, (by rw [zWd_t (i := 6) (by decide) (by first | with_reducible assumption | assumption)]; rfl)⟩)
  · have h_4 : zWI ft w_ e_ 6 = false := h_4
    refine lv_if_eq (tgt := 102) hx hb dX7_wordOf_97 (by decide) (fun _ => ?_) (fun q => absurd (by decide) q)
    refine lv_aload_n hx hb dX7_wordOf_102 rfl (lv_at hl 0 rfl) ?_
    refine z_ldcS C G rfl 7 (by decide) rfl dX7_wordOf_103 ?_
    refine z_Vi (bc := [[zO7 rd rl rdd rg r0 r1 tp r2 r3 r4 r5 r6 r7 r8], [zAr T 1 tp 600 ft]]) (br := []) (As := [.ref (T.2 (100 + 7))]) (rest := []) C G (c_f_reads l T rd rl rdd rg tp r0 r1 r2 r3 r4 r5 r6 r7 r8 ft 7 w_ e_ n hp hpl hwe hen hn hn6 (by decide)) (kV_RX7_162 C.2.2.2.2 (Nat.le_of_ble_eq_true rfl) (Nat.le_of_ble_eq_true rfl)) [0, 1] [0, 0] rfl rfl (ci := 7) (qc := (RX7, TX7, 13)) rfl rfl (List.mem_flatten.mpr ⟨_, List.mem_of_getElem? (i := 0) rfl, List.mem_cons_self⟩) rfl rfl hl.1 dX7_wordOf_105 (Nat.le_of_ble_eq_true rfl) (Nat.le_of_ble_eq_true rfl) (fun r_6 b1 H locs hw G => ?_)
    refine zAn2 hw ?_
    intro hbs9 hc_5
    clear hw
    subst hbs9
    have G : zS T A s.heap s [[zO7 rd rl rdd rg r0 r1 tp r2 r3 r4 r5 r6 r7 r8], [zAr T 1 tp 600 ft]] _ _ := G
    rcases hc_5 with ⟨rfl, h_7⟩ | ⟨rfl, h_8⟩
    · have h_7 : zWI ft w_ e_ 7 = true := h_7
      refine lv_if_eq (tgt := 113) hx hb dX7_wordOf_108 (by decide) (fun q => absurd q (by decide)) (fun _ => ?_)
      refine lv_iconst (v := 1) hx hb dX7_wordOf_111 (by decide) ?_
      exact z_back hQz_ (z_iret C hr hlocks G (Nat.le_of_ble_eq_true rfl) (Nat.le_of_ble_eq_true rfl) dX7_wordOf_112 ⟨rfl, (by rw [zWd_t (i := 7) (by decide) (by first | with_reducible assumption | assumption)]; rfl)⟩)
    · have h_8 : zWI ft w_ e_ 7 = false := h_8
      refine lv_if_eq (tgt := 113) hx hb dX7_wordOf_108 (by decide) (fun _ => ?_) (fun q => absurd (by decide) q)
      refine lv_aload_n hx hb dX7_wordOf_113 rfl (lv_at hl 0 rfl) ?_
      refine z_ldcS C G rfl 8 (by decide) rfl dX7_wordOf_114 ?_
      refine z_Vi (bc := [[zO7 rd rl rdd rg r0 r1 tp r2 r3 r4 r5 r6 r7 r8], [zAr T 1 tp 600 ft]]) (br := []) (As := [.ref (T.2 (100 + 8))]) (rest := []) C G (c_f_reads l T rd rl rdd rg tp r0 r1 r2 r3 r4 r5 r6 r7 r8 ft 8 w_ e_ n hp hpl hwe hen hn hn6 (by decide)) (kV_RX7_162 C.2.2.2.2 (Nat.le_of_ble_eq_true rfl) (Nat.le_of_ble_eq_true rfl)) [0, 1] [0, 0] rfl rfl (ci := 7) (qc := (RX7, TX7, 13)) rfl rfl (List.mem_flatten.mpr ⟨_, List.mem_of_getElem? (i := 0) rfl, List.mem_cons_self⟩) rfl rfl hl.1 dX7_wordOf_116 (Nat.le_of_ble_eq_true rfl) (Nat.le_of_ble_eq_true rfl) (fun r_10 b1 H locs hw G => ?_)
      refine zAn2 hw ?_
      intro hbs9 hc_9
      clear hw
      subst hbs9
      have G : zS T A s.heap s [[zO7 rd rl rdd rg r0 r1 tp r2 r3 r4 r5 r6 r7 r8], [zAr T 1 tp 600 ft]] _ _ := G
      rcases hc_9 with ⟨rfl, h_11⟩ | ⟨rfl, h_12⟩
      · have h_11 : zWI ft w_ e_ 8 = true := h_11
        refine lv_if_eq (tgt := 124) hx hb dX7_wordOf_119 (by decide) (fun q => absurd q (by decide)) (fun _ => ?_)
        refine lv_iconst (v := 2) hx hb dX7_wordOf_122 (by decide) ?_
        exact z_back hQz_ (z_iret C hr hlocks G (Nat.le_of_ble_eq_true rfl) (Nat.le_of_ble_eq_true rfl) dX7_wordOf_123 ⟨rfl, (by rw [zWd_t (i := 8) (by decide) (by first | with_reducible assumption | assumption)]; rfl)⟩)
      · have h_12 : zWI ft w_ e_ 8 = false := h_12
        refine lv_if_eq (tgt := 124) hx hb dX7_wordOf_119 (by decide) (fun _ => ?_) (fun q => absurd (by decide) q)
        refine lv_aload_n hx hb dX7_wordOf_124 rfl (lv_at hl 0 rfl) ?_
        refine z_ldcS C G rfl 9 (by decide) rfl dX7_wordOf_125 ?_
        refine z_Vi (bc := [[zO7 rd rl rdd rg r0 r1 tp r2 r3 r4 r5 r6 r7 r8], [zAr T 1 tp 600 ft]]) (br := []) (As := [.ref (T.2 (100 + 9))]) (rest := []) C G (c_f_reads l T rd rl rdd rg tp r0 r1 r2 r3 r4 r5 r6 r7 r8 ft 9 w_ e_ n hp hpl hwe hen hn hn6 (by decide)) (kV_RX7_162 C.2.2.2.2 (Nat.le_of_ble_eq_true rfl) (Nat.le_of_ble_eq_true rfl)) [0, 1] [0, 0] rfl rfl (ci := 7) (qc := (RX7, TX7, 13)) rfl rfl (List.mem_flatten.mpr ⟨_, List.mem_of_getElem? (i := 0) rfl, List.mem_cons_self⟩) rfl rfl hl.1 dX7_wordOf_127 (Nat.le_of_ble_eq_true rfl) (Nat.le_of_ble_eq_true rfl) (fun r_14 b1 H locs hw G => ?_)
        refine zAn2 hw ?_
        intro hbs9 hc_13
        clear hw
        subst hbs9
        have G : zS T A s.heap s [[zO7 rd rl rdd rg r0 r1 tp r2 r3 r4 r5 r6 r7 r8], [zAr T 1 tp 600 ft]] _ _ := G
        rcases hc_13 with ⟨rfl, h_15⟩ | ⟨rfl, h_16⟩
        · have h_15 : zWI ft w_ e_ 9 = true := h_15
          refine lv_if_eq (tgt := 135) hx hb dX7_wordOf_130 (by decide) (fun q => absurd q (by decide)) (fun _ => ?_)
          refine lv_iconst (v := 3) hx hb dX7_wordOf_133 (by decide) ?_
          exact z_back hQz_ (z_iret C hr hlocks G (Nat.le_of_ble_eq_true rfl) (Nat.le_of_ble_eq_true rfl) dX7_wordOf_134 ⟨rfl, (by rw [zWd_t (i := 9) (by decide) (by first | with_reducible assumption | assumption)]; rfl)⟩)
        · have h_16 : zWI ft w_ e_ 9 = false := h_16
          refine lv_if_eq (tgt := 135) hx hb dX7_wordOf_130 (by decide) (fun _ => ?_) (fun q => absurd (by decide) q)
          refine lv_aload_n hx hb dX7_wordOf_135 rfl (lv_at hl 0 rfl) ?_
          refine z_ldcS C G rfl 10 (by decide) rfl dX7_wordOf_136 ?_
          refine z_Vi (bc := [[zO7 rd rl rdd rg r0 r1 tp r2 r3 r4 r5 r6 r7 r8], [zAr T 1 tp 600 ft]]) (br := []) (As := [.ref (T.2 (100 + 10))]) (rest := []) C G (c_f_reads l T rd rl rdd rg tp r0 r1 r2 r3 r4 r5 r6 r7 r8 ft 10 w_ e_ n hp hpl hwe hen hn hn6 (by decide)) (kV_RX7_162 C.2.2.2.2 (Nat.le_of_ble_eq_true rfl) (Nat.le_of_ble_eq_true rfl)) [0, 1] [0, 0] rfl rfl (ci := 7) (qc := (RX7, TX7, 13)) rfl rfl (List.mem_flatten.mpr ⟨_, List.mem_of_getElem? (i := 0) rfl, List.mem_cons_self⟩) rfl rfl hl.1 dX7_wordOf_138 (Nat.le_of_ble_eq_true rfl) (Nat.le_of_ble_eq_true rfl) (fun r_18 b1 H locs hw G => ?_)
          refine zAn2 hw ?_
          intro hbs9 hc_17
          clear hw
          subst hbs9
          have G : zS T A s.heap s [[zO7 rd rl rdd rg r0 r1 tp r2 r3 r4 r5 r6 r7 r8], [zAr T 1 tp 600 ft]] _ _ := G
          rcases hc_17 with ⟨rfl, h_19⟩ | ⟨rfl, h_20⟩
          · have h_19 : zWI ft w_ e_ 10 = true := h_19
            refine lv_if_eq (tgt := 148) hx hb dX7_wordOf_141 (by decide) (fun q => absurd q (by decide)) (fun _ => ?_)
            refine lv_iconst (v := 4) hx hb dX7_wordOf_144 (by decide) ?_
            refine lv_goto (tgt := 162) hx hb dX7_wordOf_145 (by decide) ?_
            exact z_back hQz_ (z_iret C hr hlocks G (Nat.le_of_ble_eq_true rfl) (Nat.le_of_ble_eq_true rfl) dX7_wordOf_162 ⟨rfl, (by rw [zWd_t (i := 10) (by decide) (by first | with_reducible assumption | assumption)]; rfl)⟩)
          · have h_20 : zWI ft w_ e_ 10 = false := h_20
            refine lv_if_eq (tgt := 148) hx hb dX7_wordOf_141 (by decide) (fun _ => ?_) (fun q => absurd (by decide) q)
            refine lv_aload_n hx hb dX7_wordOf_148 rfl (lv_at hl 0 rfl) ?_
            refine z_ldcS C G rfl 11 (by decide) rfl dX7_wordOf_149 ?_
            refine z_Vi (bc := [[zO7 rd rl rdd rg r0 r1 tp r2 r3 r4 r5 r6 r7 r8], [zAr T 1 tp 600 ft]]) (br := []) (As := [.ref (T.2 (100 + 11))]) (rest := []) C G (c_f_reads l T rd rl rdd rg tp r0 r1 r2 r3 r4 r5 r6 r7 r8 ft 11 w_ e_ n hp hpl hwe hen hn hn6 (by decide)) (kV_RX7_162 C.2.2.2.2 (Nat.le_of_ble_eq_true rfl) (Nat.le_of_ble_eq_true rfl)) [0, 1] [0, 0] rfl rfl (ci := 7) (qc := (RX7, TX7, 13)) rfl rfl (List.mem_flatten.mpr ⟨_, List.mem_of_getElem? (i := 0) rfl, List.mem_cons_self⟩) rfl rfl hl.1 dX7_wordOf_151 (Nat.le_of_ble_eq_true rfl) (Nat.le_of_ble_eq_true rfl) (fun r_22 b1 H locs hw G => ?_)
            refine zAn2 hw ?_
            intro hbs9 hc_21
            clear hw
            subst hbs9
            have G : zS T A s.heap s [[zO7 rd rl rdd rg r0 r1 tp r2 r3 r4 r5 r6 r7 r8], [zAr T 1 tp 600 ft]] _ _ := G
            rcases hc_21 with ⟨rfl, h_23⟩ | ⟨rfl, h_24⟩
            · have h_23 : zWI ft w_ e_ 11 = true := h_23
              refine lv_if_eq (tgt := 161) hx hb dX7_wordOf_154 (by decide) (fun q => absurd q (by decide)) (fun _ => ?_)
              refine lv_iconst (v := 5) hx hb dX7_wordOf_157 (by decide) ?_
              refine lv_goto (tgt := 162) hx hb dX7_wordOf_158 (by decide) ?_
              exact z_back hQz_ (z_iret C hr hlocks G (Nat.le_of_ble_eq_true rfl) (Nat.le_of_ble_eq_true rfl) dX7_wordOf_162 ⟨rfl, (by rw [zWd_t (i := 11) (by decide) (by first | with_reducible assumption | assumption)]; rfl)⟩)
            · have h_24 : zWI ft w_ e_ 11 = false := h_24
              refine lv_if_eq (tgt := 161) hx hb dX7_wordOf_154 (by decide) (fun _ => ?_) (fun q => absurd (by decide) q)
              refine lv_iconst (v := (-1)) hx hb dX7_wordOf_161 (by decide) ?_
              exact z_back hQz_ (z_iret C hr hlocks G (Nat.le_of_ble_eq_true rfl) (Nat.le_of_ble_eq_true rfl) dX7_wordOf_162 ⟨rfl, (zWc_1 (zWd_f (i := 6) (by decide) (by first | with_reducible assumption | assumption)) (zWd_f (i := 7) (by decide) (by first | with_reducible assumption | assumption)) (zWd_f (i := 8) (by decide) (by first | with_reducible assumption | assumption)) (zWd_f (i := 9) (by decide) (by first | with_reducible assumption | assumption)) (zWd_f (i := 10) (by decide) (by first | with_reducible assumption | assumption)) (zWd_f (i := 11) (by decide) (by first | with_reducible assumption | assumption)))⟩)
set_option maxHeartbeats 4000000 in
set_option maxRecDepth 100000 in
/-- wordOf 2 -/
theorem c_f_wordOf2 (l : Launch) (T : zTy) (rd : Nat) (rl : Nat) (rdd : Nat) (rg : Nat) (tp : Nat) (r0 : Int32) (r1 : Int32) (r2 : Int32) (r3 : Int32) (r4 : Int32) (r5 : Int32) (r6 : Int32) (r7 : Int32) (r8 : Int32) (ft : Nat → Int32) (w_ : Nat) (e_ : Nat) (n : Nat) (hp : r3 = nI e_) (hpl : r5 = nI w_) (hwe : w_ ≤ e_) (hen : e_ ≤ n) (hn : r2 = nI n) (hn6 : n ≤ 600) : zMi l T yX7_wordOf cX7_wordOf 2 (some .int) 6 0 0 [.ref rd, .int 2] [[zO7 rd rl rdd rg r0 r1 tp r2 r3 r4 r5 r6 r7 r8], [zAr T 1 tp 600 ft]] (fun (r : Int32) bs => bs = [[zO7 rd rl rdd rg r0 r1 tp r2 r3 r4 r5 r6 r7 r8], [zAr T 1 tp 600 ft]] ∧ r = zWc 2 (zWordAt ft w_ e_)) := by
  refine zMi_of (own := RX7) (by decide) rfl (Nat.le_of_ble_eq_true rfl) ?_
  intro p e s m args below meth c A ls C hr hlocks hnm hAe G hl
  refine zHide (fun Qz_ hQz_ => ?_)
  have hx := C.1
  have hb := C.2.1
  have hl : lv_has ls 2 [(0, .ref rd), (1, .int 2)] := hl
  refine lv_iload_n hx hb dX7_wordOf_0 rfl (lv_at hl 1 rfl) ?_
  refine lv_if_ne (tgt := 58) hx hb dX7_wordOf_1 (by decide) (fun _ => ?_) (fun q => absurd q (by decide))
  refine lv_iload_n hx hb dX7_wordOf_58 rfl (lv_at hl 1 rfl) ?_
  refine lv_iconst (v := 2) hx hb dX7_wordOf_59 (by decide) ?_
  refine lv_icmp_ne (tgt := 91) hx hb dX7_wordOf_60 (by decide) (fun q => absurd (by decide) q) (fun _ => ?_)
  refine lv_aload_n hx hb dX7_wordOf_63 rfl (lv_at hl 0 rfl) ?_
  refine z_ldcS C G rfl 4 (by decide) rfl dX7_wordOf_64 ?_
  refine z_Vi (bc := [[zO7 rd rl rdd rg r0 r1 tp r2 r3 r4 r5 r6 r7 r8], [zAr T 1 tp 600 ft]]) (br := []) (As := [.ref (T.2 (100 + 4))]) (rest := []) C G (c_f_reads l T rd rl rdd rg tp r0 r1 r2 r3 r4 r5 r6 r7 r8 ft 4 w_ e_ n hp hpl hwe hen hn hn6 (by decide)) (kV_RX7_162 C.2.2.2.2 (Nat.le_of_ble_eq_true rfl) (Nat.le_of_ble_eq_true rfl)) [0, 1] [0, 0] rfl rfl (ci := 7) (qc := (RX7, TX7, 13)) rfl rfl (List.mem_flatten.mpr ⟨_, List.mem_of_getElem? (i := 0) rfl, List.mem_cons_self⟩) rfl rfl hl.1 dX7_wordOf_66 (Nat.le_of_ble_eq_true rfl) (Nat.le_of_ble_eq_true rfl) (fun r_2 b1 H locs hw G => ?_)
  refine zAn2 hw ?_
  intro hbs9 hc_1
  clear hw
  subst hbs9
  have G : zS T A s.heap s [[zO7 rd rl rdd rg r0 r1 tp r2 r3 r4 r5 r6 r7 r8], [zAr T 1 tp 600 ft]] _ _ := G
  rcases hc_1 with ⟨rfl, h_3⟩ | ⟨rfl, h_4⟩
  · have h_3 : zWI ft w_ e_ 4 = true := h_3
    refine lv_if_eq (tgt := 76) hx hb dX7_wordOf_69 (by decide) (fun q => absurd q (by decide)) (fun _ => ?_)
    refine lv_iconst (v := 0) hx hb dX7_wordOf_72 (by decide) ?_
    refine lv_goto (tgt := 90) hx hb dX7_wordOf_73 (by decide) ?_
    exact z_back hQz_ (z_iret C hr hlocks G (Nat.le_of_ble_eq_true rfl) (Nat.le_of_ble_eq_true rfl) dX7_wordOf_90 ⟨rfl, (by rw [zWd_t (i := 4) (by decide) (by first | with_reducible assumption | assumption)]; rfl)⟩)
  · have h_4 : zWI ft w_ e_ 4 = false := h_4
    refine lv_if_eq (tgt := 76) hx hb dX7_wordOf_69 (by decide) (fun _ => ?_) (fun q => absurd (by decide) q)
    refine lv_aload_n hx hb dX7_wordOf_76 rfl (lv_at hl 0 rfl) ?_
    refine z_ldcS C G rfl 5 (by decide) rfl dX7_wordOf_77 ?_
    refine z_Vi (bc := [[zO7 rd rl rdd rg r0 r1 tp r2 r3 r4 r5 r6 r7 r8], [zAr T 1 tp 600 ft]]) (br := []) (As := [.ref (T.2 (100 + 5))]) (rest := []) C G (c_f_reads l T rd rl rdd rg tp r0 r1 r2 r3 r4 r5 r6 r7 r8 ft 5 w_ e_ n hp hpl hwe hen hn hn6 (by decide)) (kV_RX7_162 C.2.2.2.2 (Nat.le_of_ble_eq_true rfl) (Nat.le_of_ble_eq_true rfl)) [0, 1] [0, 0] rfl rfl (ci := 7) (qc := (RX7, TX7, 13)) rfl rfl (List.mem_flatten.mpr ⟨_, List.mem_of_getElem? (i := 0) rfl, List.mem_cons_self⟩) rfl rfl hl.1 dX7_wordOf_79 (Nat.le_of_ble_eq_true rfl) (Nat.le_of_ble_eq_true rfl) (fun r_6 b1 H locs hw G => ?_)
    refine zAn2 hw ?_
    intro hbs9 hc_5
    clear hw
    subst hbs9
    have G : zS T A s.heap s [[zO7 rd rl rdd rg r0 r1 tp r2 r3 r4 r5 r6 r7 r8], [zAr T 1 tp 600 ft]] _ _ := G
    rcases hc_5 with ⟨rfl, h_7⟩ | ⟨rfl, h_8⟩
    · have h_7 : zWI ft w_ e_ 5 = true := h_7
      refine lv_if_eq (tgt := 89) hx hb dX7_wordOf_82 (by decide) (fun q => absurd q (by decide)) (fun _ => ?_)
      refine lv_iconst (v := 1) hx hb dX7_wordOf_85 (by decide) ?_
      refine lv_goto (tgt := 90) hx hb dX7_wordOf_86 (by decide) ?_
      exact z_back hQz_ (z_iret C hr hlocks G (Nat.le_of_ble_eq_true rfl) (Nat.le_of_ble_eq_true rfl) dX7_wordOf_90 ⟨rfl, (by rw [zWd_t (i := 5) (by decide) (by first | with_reducible assumption | assumption)]; rfl)⟩)
    · have h_8 : zWI ft w_ e_ 5 = false := h_8
      refine lv_if_eq (tgt := 89) hx hb dX7_wordOf_82 (by decide) (fun _ => ?_) (fun q => absurd (by decide) q)
      refine lv_iconst (v := (-1)) hx hb dX7_wordOf_89 (by decide) ?_
      exact z_back hQz_ (z_iret C hr hlocks G (Nat.le_of_ble_eq_true rfl) (Nat.le_of_ble_eq_true rfl) dX7_wordOf_90 ⟨rfl, (zWc_2 (zWd_f (i := 4) (by decide) (by first | with_reducible assumption | assumption)) (zWd_f (i := 5) (by decide) (by first | with_reducible assumption | assumption)))⟩)
/-! LINES: one who reads: the place behind which the token at hand is found, whether it broke off, the fault, its place, the greatest crossing told -/
abbrev pS : Type := Nat × Int32 × Int32 × Int32 × Int32
def pEnds (k : pT) (a : pS) : pS := if a.2.1.toInt = 0 then (a.1, 1, 1, nI (pWh k a.1), a.2.2.2.2) else a
def pAlso (kd w : Int32) (a : pS) : pS := if ¬ a.2.1.toInt = 0 ∨ (¬ a.2.2.1.toInt = 0 ∧ (a.2.2.2.1.toInt < w.toInt ∨ (a.2.2.2.1.toInt = w.toInt ∧ a.2.2.1.toInt ≤ kd.toInt))) then a else (a.1, a.2.1, kd, w, a.2.2.2.2)
def pAdv (k : pT) (a : pS) : pS := (pEn k a.1, a.2)
def pNum (k : pT) (lo hi : Int32) (a : pS) : Int32 × pS := if ¬ a.2.1.toInt = 0 ∨ ¬ pTk k a.1 = 1 then (lo, pEnds k a) else if lo.toInt ≤ (pNm k a.1).toInt ∧ (pNm k a.1).toInt ≤ hi.toInt then (pNm k a.1, pAdv k a) else (lo, pAdv k (pAlso 2 (nI (pWh k a.1)) a))
def pWord (k : pT) (lo hi : Nat) (a : pS) : Nat × pS := if ¬ a.2.1.toInt = 0 ∨ ¬ pTk k a.1 = 3 ∨ ¬ (lo ≤ pWd k a.1 ∧ pWd k a.1 ≤ hi) then (0, pEnds k a) else (pWd k a.1, pAdv k a)
def pEndL (k : pT) (a : pS) : pS := if a.2.1.toInt = 0 ∧ pTk k a.1 = 2 then pAdv k a else pEnds k a
def pFar (c : Int32) (a : pS) : pS := (a.1, a.2.1, a.2.2.1, a.2.2.2.1, if a.2.2.2.2.toInt < c.toInt then c else a.2.2.2.2)
def pCr (k : pT) (a : pS) : Int32 × pS := ((pNum k 0 6 a).1, pFar (pNum k 0 6 a).1 (pNum k 0 6 a).2)
/-- roads told of a crossing: m are there already -/
def pRoads (k : pT) : Nat → Nat → pS → (Nat → Int32) → Nat × pS × (Nat → Int32)
  | 0, m, a, f => (m, a, f)
  | i + 1, m, a, f =>
    if a.2.1.toInt = 0 ∧ pTk k a.1 = 1 then
      let r := pCr k (if m = 4 then pAlso 3 (nI (pWh k a.1)) a else a)
      pRoads k i (if m < 4 then m + 1 else 4) r.2 (if (f 0).toInt < 7 ∧ m < 4 then upd f (23 + 4 * (f 0).toInt.toNat + m) r.1 else f)
    else (m, a, f)
def pDB (m : Int) (w : Int32) (f : Nat → Int32) (a : pS) : pS := if m ≤ (f 0).toInt then pAlso 3 w a else a
def pInn (k : pT) (a : pS) (f : Nat → Int32) : pS × (Nat → Int32) := ((pCr k a).2, upd f 1 (f 1 ||| ((1 : Int32) <<< ((pCr k a).1 &&& 31))))
def pPW (k : pT) (d : Nat) (a : pS) (f : Nat → Int32) : pS × (Nat → Int32) := ((pNum k 0 (if d = 2 then 3 else 9) (pCr k a).2).2, upd f ((if d = 2 then 9 else 16) + (pCr k a).1.toInt.toNat) (pNum k 0 (if d = 2 then 3 else 9) (pCr k a).2).1)
def pCross (k : pT) (w : Int32) (a : pS) (f : Nat → Int32) : pS × (Nat → Int32) :=
  ((pRoads k 601 0 (pDB 7 w f a) f).2.1, if 7 ≤ (f 0).toInt then (pRoads k 601 0 (pDB 7 w f a) f).2.2 else upd (upd (pRoads k 601 0 (pDB 7 w f a) f).2.2 (2 + ((pRoads k 601 0 (pDB 7 w f a) f).2.2 0).toInt.toNat) (nI (pRoads k 601 0 (pDB 7 w f a) f).1)) 0 ((pRoads k 601 0 (pDB 7 w f a) f).2.2 0 + 1))
def pOther (k : pT) (d : Nat) (w : Int32) (a : pS) (f : Nat → Int32) : pS × (Nat → Int32) := if ¬ a.2.1.toInt = 0 then (a, f) else if d = 1 then pCross k w a f else if d = 4 then pInn k a f else pPW k d a f
def pLand (k : pT) (a : pS) (f : Nat → Int32) : pS × (Nat → Int32) := (pEndL k (pOther k (pWord k 1 4 a).1 (nI (pWh k a.1)) (pWord k 1 4 a).2 f).1, (pOther k (pWord k 1 4 a).1 (nI (pWh k a.1)) (pWord k 1 4 a).2 f).2)
def pDY (k : pT) (d : Nat) (a : pS) : Int32 × pS := if 8 < d then pNum k 0 3 a else (-1, a)
def pDeed (k : pT) (d : Nat) (w : Int32) (a : pS) (f : Nat → Int32) : pS × (Nat → Int32) :=
  ((pDY k d (pNum k 0 6 (pDB 40 w f a)).2).2, if (f 0).toInt < 40 then upd (upd (upd (upd f (1 + 3 * (f 0).toInt.toNat) (nI d - 5)) (2 + 3 * (f 0).toInt.toNat) (pNum k 0 6 (pDB 40 w f a)).1) (3 + 3 * (f 0).toInt.toNat) (pDY k d (pNum k 0 6 (pDB 40 w f a)).2).1) 0 (f 0 + 1) else f)
def pDay (k : pT) (a : pS) (f : Nat → Int32) : pS × (Nat → Int32) := (pEndL k (pDeed k (pWord k 5 10 a).1 (nI (pWh k a.1)) (pWord k 5 10 a).2 f).1, (pDeed k (pWord k 5 10 a).1 (nI (pWh k a.1)) (pWord k 5 10 a).2 f).2)
def pGY (k : pT) (d : Nat) (a : pS) : Int32 × pS := if d = 11 then pNum k 0 6 a else (-1, a)
def pFact (k : pT) (d : Nat) (w : Int32) (a : pS) (f : Nat → Int32) : pS × (Nat → Int32) :=
  ((pGY k d (pNum k 0 6 (pDB 8 w f a)).2).2, if (f 0).toInt < 8 then upd (upd (upd f (1 + 2 * (f 0).toInt.toNat) (pNum k 0 6 (pDB 8 w f a)).1) (2 + 2 * (f 0).toInt.toNat) (pGY k d (pNum k 0 6 (pDB 8 w f a)).2).1) 0 (f 0 + 1) else f)
def pLog (k : pT) (a : pS) (f : Nat → Int32) : pS × (Nat → Int32) := (pEndL k (pFact k (pWord k 11 12 a).1 (nI (pWh k a.1)) (pWord k 11 12 a).2 f).1, (pFact k (pWord k 11 12 a).1 (nI (pWh k a.1)) (pWord k 11 12 a).2 f).2)
def pLine (k : pT) (s : Nat) (a : pS) (f : Nat → Int32) : pS × (Nat → Int32) := if s = 0 then pLand k a f else if s = 1 then pDay k a f else pLog k a f
def pLines (k : pT) (s : Nat) : Nat → pS → (Nat → Int32) → pS × (Nat → Int32)
  | 0, a, f => (a, f)
  | i + 1, a, f => if a.2.1.toInt = 0 ∧ ¬ pTk k a.1 = 0 then pLines k s i (pLine k s a f).1 (pLine k s a f).2 else (a, f)
def pPosts (f : Nat → Int32) : Bool := (List.range 7).all (fun c => decide ((f (9 + c)).toInt = 0 ∨ (f (9 + c)).toInt < (f (2 + c)).toInt))
theorem pPosts_t {f : Nat → Int32} : pPosts f = true ↔ ∀ c, c < 7 → ((f (9 + c)).toInt = 0 ∨ (f (9 + c)).toInt < (f (2 + c)).toInt) := by
  unfold pPosts
  rw [List.all_eq_true]
  exact ⟨fun h c hc => of_decide_eq_true (h c (List.mem_range.mpr hc)), fun h c hc => decide_eq_true (h c (List.mem_range.mp hc))⟩
def pF4 (n s : Nat) (a : pS) (f : Nat → Int32) : pS := if s = 0 ∧ a.2.2.1.toInt = 0 ∧ (f 0).toInt ≤ a.2.2.2.2.toInt then pAlso 4 (nI n) a else a
def pF5 (n s : Nat) (b : pS) (f : Nat → Int32) : pS := if s = 0 ∧ b.2.2.1.toInt = 0 ∧ pPosts f = false then pAlso 5 (nI n) b else b
def pFin (n : Nat) (s : Nat) (q : pS × (Nat → Int32)) : pS × (Nat → Int32) := (pF5 n s (pF4 n s q.1 q.2) q.2, q.2)
def pRead (k : pT) (n s : Nat) : pS × (Nat → Int32) := pFin n s (pLines k s 601 (0, 0, 0, -1, -1) (fun _ => 0))
theorem pTk_le {k : pT} {n p : Nat} (h : pOk k n) (hp : p ≤ n) : pTk k p ≤ 4 := by
  have h1 := (h p hp).2.1
  unfold pTk
  repeat' split
  all_goals omega
theorem pTk_0 {k : pT} {p : Nat} : pTk k p = 0 ↔ pCl k p = 0 := by
  unfold pTk
  repeat' split
  all_goals omega
theorem pTk_1 {k : pT} {n p : Nat} (h : pOk k n) (hp : p ≤ n) : pTk k p = 1 ↔ pCl k p = 2 := by
  have h1 := (h p hp).2.1
  unfold pTk
  repeat' split
  all_goals omega
theorem pTk_2 {k : pT} {n p : Nat} (h : pOk k n) (hp : p ≤ n) : pTk k p = 2 ↔ pCl k p = 3 := by
  have h1 := (h p hp).2.1
  unfold pTk
  repeat' split
  all_goals omega
theorem pTk_3 {k : pT} {p : Nat} : pTk k p = 3 → pCl k p = 1 := by
  unfold pTk
  repeat' split
  all_goals omega
theorem pTk_3w {k : pT} {p : Nat} (h1 : pCl k p = 1) (h2 : ¬ pWd k p = 99) : pTk k p = 3 := by unfold pTk; rw [if_pos h1, if_neg h2]
theorem pNum_e {k : pT} {lo hi : Int32} {a : pS} (h : ¬ a.2.1.toInt = 0 ∨ ¬ pTk k a.1 = 1) : pNum k lo hi a = (lo, pEnds k a) := if_pos h
theorem pNum_i {k : pT} {lo hi : Int32} {a : pS} (h0 : a.2.1.toInt = 0) (h1 : pTk k a.1 = 1) (h2 : lo.toInt ≤ (pNm k a.1).toInt ∧ (pNm k a.1).toInt ≤ hi.toInt) : pNum k lo hi a = (pNm k a.1, pAdv k a) := by unfold pNum; rw [if_neg (fun q => q.elim (fun z => z h0) (fun z => z h1)), if_pos h2]
theorem pNum_o {k : pT} {lo hi : Int32} {a : pS} (h0 : a.2.1.toInt = 0) (h1 : pTk k a.1 = 1) (h2 : ¬ (lo.toInt ≤ (pNm k a.1).toInt ∧ (pNm k a.1).toInt ≤ hi.toInt)) : pNum k lo hi a = (lo, pAdv k (pAlso 2 (nI (pWh k a.1)) a)) := by unfold pNum; rw [if_neg (fun q => q.elim (fun z => z h0) (fun z => z h1)), if_neg h2]
theorem pWord_e {k : pT} {lo hi : Nat} {a : pS} (h : ¬ a.2.1.toInt = 0 ∨ ¬ pTk k a.1 = 3 ∨ ¬ (lo ≤ pWd k a.1 ∧ pWd k a.1 ≤ hi)) : pWord k lo hi a = (0, pEnds k a) := if_pos h
theorem pWord_i {k : pT} {lo hi : Nat} {a : pS} (h0 : a.2.1.toInt = 0) (h1 : pTk k a.1 = 3) (h2 : lo ≤ pWd k a.1 ∧ pWd k a.1 ≤ hi) : pWord k lo hi a = (pWd k a.1, pAdv k a) := if_neg (fun q => q.elim (fun z => z h0) (fun q => q.elim (fun z => z h1) (fun z => z h2)))
theorem pEndL_a {k : pT} {a : pS} (h : a.2.1.toInt = 0 ∧ pTk k a.1 = 2) : pEndL k a = pAdv k a := if_pos h
theorem pEndL_e {k : pT} {a : pS} (h : ¬ (a.2.1.toInt = 0 ∧ pTk k a.1 = 2)) : pEndL k a = pEnds k a := if_neg h
theorem pAlso_y {kd w : Int32} {a : pS} (h0 : a.2.1.toInt = 0) (h1 : a.2.2.1.toInt = 0) : pAlso kd w a = (a.1, a.2.1, kd, w, a.2.2.2.2) := if_neg (fun q => q.elim (fun z => z h0) (fun z => z.1 h1))
theorem pAlso_n {kd w : Int32} {a : pS} (h : ¬ a.2.1.toInt = 0 ∨ (¬ a.2.2.1.toInt = 0 ∧ (a.2.2.2.1.toInt < w.toInt ∨ (a.2.2.2.1.toInt = w.toInt ∧ a.2.2.1.toInt ≤ kd.toInt)))) : pAlso kd w a = a := if_pos h
theorem pAlso_fa {kd w : Int32} {a : pS} : (pAlso kd w a).1 = a.1 ∧ (pAlso kd w a).2.1 = a.2.1 ∧ (pAlso kd w a).2.2.2.2 = a.2.2.2.2 := by unfold pAlso; split <;> exact ⟨rfl, rfl, rfl⟩
theorem pAdv_also {k : pT} {kd w : Int32} {a : pS} : pAdv k (pAlso kd w a) = pAlso kd w (pAdv k a) := by
  unfold pAlso pAdv
  split <;> rfl
theorem pEnds_y {k : pT} {a : pS} (h : a.2.1.toInt = 0) : pEnds k a = (a.1, 1, 1, nI (pWh k a.1), a.2.2.2.2) := if_pos h
theorem pEnds_n {k : pT} {a : pS} (h : ¬ a.2.1.toInt = 0) : pEnds k a = a := if_neg h
/-! the reference's state is that of one who reads -/
def zRr (k : pT) (n : Nat) (sz nx wh tk nu wo wr fa : Int32) (g : Nat → Int32) (a : pS) : Prop :=
  (k = tkT (fun j => g (10 + j)) n ∧ (∀ j, j < n → 0 ≤ (g (10 + j)).toInt) ∧ n ≤ 600 ∧ sz = nI n ∧ a.1 ≤ n) ∧ wr = a.2.1 ∧ (a.2.1.toInt = 0 → zTokR k a.1 nx wh tk nu wo) ∧ g 5 = a.2.2.1 ∧ g 6 = a.2.2.2.1 ∧ fa = a.2.2.2.2
section ZRR
variable {k : pT} {n : Nat} {sz nx wh tk nu wo wr fa : Int32} {g : Nat → Int32} {a : pS}
theorem zRr_ok (h : zRr k n sz nx wh tk nu wo wr fa g a) : pOk k n := by rw [h.1.1]; exact tkT_ok _ _
theorem zu_10 {g : Nat → Int32} {x y : Int32} (j : Nat) : upd (upd g 5 x) 6 y (10 + j) = g (10 + j) := by unfold upd; rw [if_neg (by omega), if_neg (by omega)]
theorem zRr_g {g' : Nat → Int32} (h : k = tkT (fun j => g (10 + j)) n ∧ (∀ j, j < n → 0 ≤ (g (10 + j)).toInt) ∧ n ≤ 600 ∧ sz = nI n ∧ a.1 ≤ n) (e : ∀ j, g' (10 + j) = g (10 + j)) : k = tkT (fun j => g' (10 + j)) n ∧ (∀ j, j < n → 0 ≤ (g' (10 + j)).toInt) ∧ n ≤ 600 ∧ sz = nI n ∧ a.1 ≤ n :=
  ⟨h.1.trans (congrArg (fun q => tkT q n) (funext fun j => (e j).symm)), fun j hj => by rw [e j]; exact h.2.1 j hj, h.2.2⟩
theorem zRr_ends (h : zRr k n sz nx wh tk nu wo wr fa g a) {wr' : Int32} {g' : Nat → Int32} (hj : wr' = if wr.toInt = 0 then 1 else wr) (hg : g' = if wr.toInt = 0 then upd (upd g 5 1) 6 wh else g) : zRr k n sz nx wh tk nu wo wr' fa g' (pEnds k a) := by
  obtain ⟨h1, h6, h7, h8, h9, h10⟩ := id h
  subst h6
  by_cases c : a.2.1.toInt = 0
  · rw [pEnds_y c]
    rw [if_pos c] at hj hg
    subst hj
    subst hg
    exact ⟨zRr_g (a := a) h1 (fun j => zu_10 j), rfl, fun q => absurd (show (1 : Int32).toInt = 0 from q) (by decide), rfl, (h7 c).2.1, h10⟩
  · rw [pEnds_n c]
    rw [if_neg c] at hj hg
    subst hj
    subst hg
    exact h
theorem zRr_also (h : zRr k n sz nx wh tk nu wo wr fa g a) {kd w : Int32} {g' : Nat → Int32} (hg : g' = if ¬ wr.toInt = 0 ∨ (¬ (g 5).toInt = 0 ∧ ((g 6).toInt < w.toInt ∨ ((g 6).toInt = w.toInt ∧ (g 5).toInt ≤ kd.toInt))) then g else upd (upd g 5 kd) 6 w) : zRr k n sz nx wh tk nu wo wr fa g' (pAlso kd w a) := by
  obtain ⟨h1, h6, h7, h8, h9, h10⟩ := id h
  subst h6
  rw [h8, h9] at hg
  unfold pAlso
  split
  · rename_i c
    rw [if_pos c] at hg
    subst hg
    exact h
  · rename_i c
    rw [if_neg c] at hg
    subst hg
    exact ⟨zRr_g (a := a) h1 (fun j => zu_10 j), rfl, h7, rfl, rfl, h10⟩
theorem zRr_adv (h : zRr k n sz nx wh tk nu wo wr fa g a) {nx' wh' tk' nu' wo' : Int32} (hT : zTokR k (pEn k a.1) nx' wh' tk' nu' wo') : zRr k n sz nx' wh' tk' nu' wo' wr fa g (pAdv k a) := by
  have hk := zRr_ok h
  obtain ⟨h1, h6, h7, h8, h9, h10⟩ := id h
  exact ⟨⟨h1.1, h1.2.1, h1.2.2.1, h1.2.2.2.1, (hk a.1 h1.2.2.2.2).1.2.2⟩, h6, fun _ => hT, h8, h9, h10⟩
theorem zRr_far (h : zRr k n sz nx wh tk nu wo wr fa g a) {c fa' : Int32} (hf : fa' = if fa.toInt < c.toInt then c else fa) : zRr k n sz nx wh tk nu wo wr fa' g (pFar c a) := by
  obtain ⟨h1, h6, h7, h8, h9, h10⟩ := id h
  subst h10
  exact ⟨h1, h6, h7, h8, h9, hf⟩
end ZRR
/-! the class's state is that of one who reads -/
def pInv (k : pT) (a : pS) : Prop := a.2.1.toInt = 0 ∧ (¬ a.2.2.1.toInt = 0 → a.2.2.2.1.toInt < (pWh k a.1 : Int)) ∨ ¬ a.2.1.toInt = 0 ∧ ¬ a.2.2.1.toInt = 0
def zRc (k : pT) (n : Nat) (ft : Nat → Int32) (r0 r1 r2 r3 r4 r5 r6 r7 : Int32) (a : pS) : Prop :=
  (k = tkT ft n ∧ n ≤ 600 ∧ r2 = nI n ∧ a.1 ≤ n) ∧ r7 = a.2.1 ∧ (a.2.1.toInt = 0 → zTokC k a.1 r3 r4 r5 r6) ∧ r0 = a.2.2.1 ∧ r1 = a.2.2.2.1 ∧ pInv k a ∧ ∃ p, p ≤ n ∧ r3 = nI p
section ZRC
variable {k : pT} {n : Nat} {ft : Nat → Int32} {r0 r1 r2 r3 r4 r5 r6 r7 : Int32} {a : pS}
theorem zRc_ok (h : zRc k n ft r0 r1 r2 r3 r4 r5 r6 r7 a) : pOk k n := by rw [h.1.1]; exact tkT_ok _ _
theorem zRc_brk (h : zRc k n ft r0 r1 r2 r3 r4 r5 r6 r7 a) {u0 u1 u7 : Int32} (e0 : u0 = if r7.toInt = 0 then 1 else r0) (e1 : u1 = if r7.toInt = 0 then r5 else r1) (e7 : u7 = if r7.toInt = 0 then 1 else r7) : zRc k n ft u0 u1 r2 r3 r4 r5 r6 u7 (pEnds k a) := by
  obtain ⟨h1, h6, h7, h8, h9, h10, h11⟩ := id h
  subst h6
  by_cases c : a.2.1.toInt = 0
  · rw [pEnds_y c]
    rw [if_pos c] at e0 e1 e7
    subst e0
    subst e7
    exact ⟨h1, rfl, fun q => absurd (show (1 : Int32).toInt = 0 from q) (by decide), rfl, e1.trans (h7 c).2.2.1, Or.inr ⟨by show ¬ (1 : Int32).toInt = 0; decide, by show ¬ (1 : Int32).toInt = 0; decide⟩, h11⟩
  · rw [pEnds_n c]
    rw [if_neg c] at e0 e1 e7
    subst e0
    subst e1
    subst e7
    exact h
theorem zRc_adv (h : zRc k n ft r0 r1 r2 r3 r4 r5 r6 r7 a) (hw : a.2.1.toInt = 0) {r3' r4' r5' r6' : Int32} (hT : zTokC k (pEn k a.1) r3' r4' r5' r6') : zRc k n ft r0 r1 r2 r3' r4' r5' r6' r7 (pAdv k a) := by
  have hk := zRc_ok h
  obtain ⟨h1, h6, h7, h8, h9, h10, h11⟩ := id h
  have q1 := (hk a.1 h1.2.2.2).1
  have q2 := (hk (pEn k a.1) q1.2.2).1
  refine ⟨⟨h1.1, h1.2.1, h1.2.2.1, q1.2.2⟩, h6, fun _ => hT, h8, h9, Or.inl ⟨hw, fun q => ?_⟩, _, q2.2.2, hT.1⟩
  rcases h10 with ⟨-, z⟩ | ⟨z, -⟩
  · have z1 := z q
    show a.2.2.2.1.toInt < (pWh k (pEn k a.1) : Int)
    omega
  · exact absurd hw z
/-- a fault told of the token at hand, which then is passed -/
theorem zRc_na (h : zRc k n ft r0 r1 r2 r3 r4 r5 r6 r7 a) (hw : a.2.1.toInt = 0) (hc : ¬ pCl k a.1 = 0) {kd u0 u1 : Int32} (e0 : u0 = if r0.toInt = 0 then kd else r0) (e1 : u1 = if r0.toInt = 0 then r5 else r1) {r3' r4' r5' r6' : Int32} (hT : zTokC k (pEn k a.1) r3' r4' r5' r6') : zRc k n ft u0 u1 r2 r3' r4' r5' r6' r7 (pAdv k (pAlso kd (nI (pWh k a.1)) a)) := by
  have hk := zRc_ok h
  obtain ⟨h1, h6, h7, h8, h9, h10, h11⟩ := id h
  have q1 := hk a.1 h1.2.2.2
  have q2 := (hk (pEn k a.1) q1.1.2.2).1
  have q3 := q1.2.2.2.1 hc
  have q4 : (nI (pWh k a.1)).toInt = (pWh k a.1 : Int) := nI_toInt (by omega)
  subst h8
  subst h9
  rcases h10 with ⟨-, z⟩ | ⟨z, -⟩
  · by_cases c : a.2.2.1.toInt = 0
    · rw [pAlso_y hw c]
      rw [if_pos c] at e0 e1
      subst e0
      refine ⟨⟨h1.1, h1.2.1, h1.2.2.1, q1.1.2.2⟩, h6, fun _ => hT, rfl, e1.trans (h7 hw).2.2.1, Or.inl ⟨hw, fun q => ?_⟩, _, q2.2.2, hT.1⟩
      show (nI (pWh k a.1)).toInt < (pWh k (pEn k a.1) : Int)
      omega
    · rw [pAlso_n (Or.inr ⟨c, Or.inl (by rw [q4]; exact z c)⟩)]
      rw [if_neg c] at e0 e1
      subst e0
      subst e1
      exact zRc_adv h hw hT
  · exact absurd hw z
/-- a fault told of a place that was passed -/
theorem zRc_note (h : zRc k n ft r0 r1 r2 r3 r4 r5 r6 r7 a) (hw : a.2.1.toInt = 0) {kd w u0 u1 : Int32} (hlt : w.toInt < (pWh k a.1 : Int)) (hle : ¬ a.2.2.1.toInt = 0 → a.2.2.2.1.toInt < w.toInt ∨ (a.2.2.2.1.toInt = w.toInt ∧ a.2.2.1.toInt ≤ kd.toInt)) (e0 : u0 = if r0.toInt = 0 then kd else r0) (e1 : u1 = if r0.toInt = 0 then w else r1) : zRc k n ft u0 u1 r2 r3 r4 r5 r6 r7 (pAlso kd w a) := by
  obtain ⟨h1, h6, h7, h8, h9, h10, h11⟩ := id h
  subst h8
  subst h9
  by_cases c : a.2.2.1.toInt = 0
  · rw [pAlso_y hw c]
    rw [if_pos c] at e0 e1
    subst e0
    subst e1
    exact ⟨h1, h6, h7, rfl, rfl, Or.inl ⟨hw, fun _ => hlt⟩, h11⟩
  · rw [pAlso_n (Or.inr ⟨c, hle c⟩)]
    rw [if_neg c] at e0 e1
    subst e0
    subst e1
    exact h
theorem zRc_far (h : zRc k n ft r0 r1 r2 r3 r4 r5 r6 r7 a) (c : Int32) : zRc k n ft r0 r1 r2 r3 r4 r5 r6 r7 (pFar c a) := h
theorem zRc_any (h : zRc k n ft r0 r1 r2 r3 r4 r5 r6 r7 a) (hw : ¬ a.2.1.toInt = 0) {r3' r4' r5' r6' : Int32} (h3 : ∃ p, p ≤ n ∧ r3' = nI p) : zRc k n ft r0 r1 r2 r3' r4' r5' r6' r7 a := by
  obtain ⟨h1, h6, h7, h8, h9, h10, h11⟩ := id h
  exact ⟨h1, h6, fun q => absurd q hw, h8, h9, h10, h3⟩
end ZRC
section PG
variable {k : pT} {n : Nat} {lo hi : Int32} {a : pS}
theorem pEnds_f (h : pInv k a) : ¬ (pEnds k a).2.2.1.toInt = 0 := by
  by_cases c : a.2.1.toInt = 0
  · rw [pEnds_y c]; show ¬ (1 : Int32).toInt = 0; decide
  · rw [pEnds_n c]
    rcases h with z | z
    · exact absurd z.1 c
    · exact z.2
theorem pAlso_f {kd w : Int32} (hk : ¬ kd.toInt = 0) (h0 : a.2.1.toInt = 0) : ¬ (pAlso kd w a).2.2.1.toInt = 0 := by
  unfold pAlso
  split
  · rename_i c
    rcases c with c | c
    · exact absurd h0 c
    · exact c.1
  · exact hk
/-- a number that makes no fault: what it was -/
theorem pNum_g (hI : pInv k a) (h : (pNum k lo hi a).2.2.2.1.toInt = 0) : a.2.1.toInt = 0 ∧ pTk k a.1 = 1 ∧ a.2.2.1.toInt = 0 ∧ (lo.toInt ≤ (pNm k a.1).toInt ∧ (pNm k a.1).toInt ≤ hi.toInt) ∧ pNum k lo hi a = (pNm k a.1, pAdv k a) := by
  by_cases c0 : a.2.1.toInt = 0
  · by_cases c1 : pTk k a.1 = 1
    · by_cases c2 : lo.toInt ≤ (pNm k a.1).toInt ∧ (pNm k a.1).toInt ≤ hi.toInt
      · rw [pNum_i c0 c1 c2] at h
        exact ⟨c0, c1, h, c2, pNum_i c0 c1 c2⟩
      · rw [pNum_o c0 c1 c2] at h
        exact absurd h (pAlso_f (by decide) c0)
    · rw [pNum_e (Or.inr c1)] at h
      exact absurd h (pEnds_f hI)
  · rw [pNum_e (Or.inl c0)] at h
    exact absurd h (pEnds_f hI)
/-- the fault of a road too many is told before its number, or behind it -/
theorem pNum_also (hk : pOk k n) (hp : a.1 ≤ n) (hn : n ≤ 600) (hI : pInv k a) (hw : a.2.1.toInt = 0) (ht : pTk k a.1 = 1) : pNum k 0 6 (pAlso 3 (nI (pWh k a.1)) a) = ((pNum k 0 6 a).1, pAlso 3 (nI (pWh k a.1)) (pNum k 0 6 a).2) := by
  have q4 : (nI (pWh k a.1)).toInt = (pWh k a.1 : Int) := nI_toInt (by have := (hk a.1 hp).1; omega)
  by_cases c : a.2.2.1.toInt = 0
  · rw [pAlso_y hw c]
    by_cases c2 : (0 : Int32).toInt ≤ (pNm k a.1).toInt ∧ (pNm k a.1).toInt ≤ (6 : Int32).toInt
    · rw [pNum_i (a := (a.1, a.2.1, 3, nI (pWh k a.1), a.2.2.2.2)) hw ht c2, pNum_i hw ht c2]
      show _ = (_, pAlso 3 _ (pAdv k a))
      rw [pAlso_y (a := pAdv k a) hw c]
      rfl
    · rw [pNum_o (a := (a.1, a.2.1, 3, nI (pWh k a.1), a.2.2.2.2)) hw ht c2, pNum_o hw ht c2]
      have e1 : pAlso 2 (nI (pWh k a.1)) (a.1, a.2.1, 3, nI (pWh k a.1), a.2.2.2.2) = (a.1, a.2.1, 2, nI (pWh k a.1), a.2.2.2.2) := by
        unfold pAlso
        rw [if_neg]
        rintro (z | ⟨-, z | ⟨-, z⟩⟩)
        · exact z hw
        · exact absurd z (Int.lt_irrefl _)
        · exact absurd z (by show ¬ (3 : Int32).toInt ≤ (2 : Int32).toInt; decide)
      show (_, pAdv k (pAlso 2 _ _)) = (_, pAlso 3 _ (pAdv k (pAlso 2 _ a)))
      have e2 : pAlso 3 (nI (pWh k a.1)) (pAdv k (a.1, a.2.1, 2, nI (pWh k a.1), a.2.2.2.2)) = pAdv k (a.1, a.2.1, 2, nI (pWh k a.1), a.2.2.2.2) := pAlso_n (Or.inr ⟨(by show ¬ (2 : Int32).toInt = 0; decide), Or.inr ⟨rfl, (by show (2 : Int32).toInt ≤ (3 : Int32).toInt; decide)⟩⟩)
      rw [e1, pAlso_y (kd := 2) hw c, e2]
  · have hf : a.2.2.2.1.toInt < (nI (pWh k a.1)).toInt := by
      rcases hI with ⟨-, z⟩ | ⟨z, -⟩
      · rw [q4]; exact z c
      · exact absurd hw z
    rw [pAlso_n (kd := 3) (a := a) (Or.inr ⟨c, Or.inl hf⟩)]
    by_cases c2 : (0 : Int32).toInt ≤ (pNm k a.1).toInt ∧ (pNm k a.1).toInt ≤ (6 : Int32).toInt
    · rw [pNum_i hw ht c2]
      show _ = (_, pAlso 3 _ (pAdv k a))
      rw [pAlso_n (a := pAdv k a) (Or.inr ⟨c, Or.inl hf⟩)]
    · rw [pNum_o hw ht c2]
      show _ = (_, pAlso 3 _ (pAdv k (pAlso 2 _ a)))
      rw [pAlso_n (kd := 2) (a := a) (Or.inr ⟨c, Or.inl hf⟩), pAlso_n (a := pAdv k a) (Or.inr ⟨c, Or.inl hf⟩)]
theorem pRoads_x {i m : Nat} {f : Nat → Int32} (h : ¬ (a.2.1.toInt = 0 ∧ pTk k a.1 = 1)) : pRoads k i m a f = (m, a, f) := by
  cases i with
  | zero => rfl
  | succ i => unfold pRoads; rw [if_neg h]
theorem pRoads_s {i m : Nat} {f : Nat → Int32} (h : a.2.1.toInt = 0 ∧ pTk k a.1 = 1) : pRoads k (i + 1) m a f = pRoads k i (if m < 4 then m + 1 else 4) (pCr k (if m = 4 then pAlso 3 (nI (pWh k a.1)) a else a)).2 (if (f 0).toInt < 7 ∧ m < 4 then upd f (23 + 4 * (f 0).toInt.toNat + m) (pCr k (if m = 4 then pAlso 3 (nI (pWh k a.1)) a else a)).1 else f) := by
  conv => lhs; unfold pRoads
  rw [if_pos h]
theorem pLines_x {s i : Nat} {f : Nat → Int32} (h : ¬ (a.2.1.toInt = 0 ∧ ¬ pTk k a.1 = 0)) : pLines k s i a f = (a, f) := by
  cases i with
  | zero => rfl
  | succ i => unfold pLines; rw [if_neg h]
theorem pLines_s {s i : Nat} {f : Nat → Int32} (h : a.2.1.toInt = 0 ∧ ¬ pTk k a.1 = 0) : pLines k s (i + 1) a f = pLines k s i (pLine k s a f).1 (pLine k s a f).2 := by
  conv => lhs; unfold pLines
  rw [if_pos h]
end PG
/-! what the class keeps of a text, while there is no fault -/
def zTof (tof fa : Int32) : Prop := ∃ t : Nat, t < 128 ∧ tof = nI t ∧ (-1 ≤ fa.toInt ∧ fa.toInt ≤ 6) ∧ ∀ d : Nat, d ≤ 7 → (t / 2 ^ d = 0 ↔ fa.toInt < (d : Int))
theorem zTof_k1 : ∀ t, t < 128 → ∀ c, c < 7 → (nI t ||| ((1 : Int32) <<< (nI c &&& 31))) = nI (t ||| 2 ^ c) ∧ (t ||| 2 ^ c) < 128 := by decide +kernel
theorem zTof_k2 : ∀ t, t < 128 → ∀ c, c < 7 → ∀ d, d < 8 → ((t ||| 2 ^ c) / 2 ^ d = 0 ↔ t / 2 ^ d = 0 ∧ c < d) := by decide +kernel
theorem z_nI {x : Int32} {m : Nat} (h : x.toInt = (m : Int)) (hm : m < 2147483648) : x = nI m := Int32.toInt_inj.mp (by rw [h, nI_toInt hm])
theorem zTof_tell {tof fa c : Int32} (h : zTof tof fa) (hc : 0 ≤ c.toInt ∧ c.toInt ≤ 6) : zTof (tof ||| ((1 : Int32) <<< (c &&& 31))) (if fa.toInt < c.toInt then c else fa) := by
  obtain ⟨t, ht, rfl, hf, hd⟩ := h
  have ec : c = nI c.toInt.toNat := z_nI (by omega) (by omega)
  have k1 := zTof_k1 t ht c.toInt.toNat (by omega)
  rw [← ec] at k1
  refine ⟨t ||| 2 ^ c.toInt.toNat, k1.2, k1.1, ?_, fun d hd8 => ?_⟩
  · split <;> omega
  · rw [zTof_k2 t ht c.toInt.toNat (by omega) d (by omega), hd d hd8]
    split <;> omega
theorem zTof_0 : zTof 0 (-1) := ⟨0, by decide, rfl, by decide, fun d hd => ⟨fun _ => by show (-1 : Int32).toInt < (d : Int); have : (-1 : Int32).toInt = -1 := rfl; omega, fun _ => Nat.zero_div _⟩⟩
def zLc (cr inn : Int32) (k1 k2 k3 k4 : Nat → Int32) (tof : Int32) (a : pS) (f : Nat → Int32) : Prop := a.2.2.1.toInt = 0 → cr = f 0 ∧ (0 ≤ (f 0).toInt ∧ (f 0).toInt ≤ 7) ∧ inn = f 1 ∧ (∀ j : Nat, j < 7 → k1 j = f (2 + j) ∧ k3 j = f (9 + j) ∧ k4 j = f (16 + j)) ∧ (∀ j : Nat, j < 7 → (f 0).toInt ≤ (j : Int) → k1 j = 0) ∧ (∀ j r : Nat, j < 7 → r < 4 → (r : Int) < (k1 j).toInt → k2 (4 * j + r) = f (23 + 4 * j + r)) ∧ zTof tof a.2.2.2.2
/-- between the roads of a crossing c: m are told -/
def zLr (c cr inn : Int32) (k1 k2 k3 k4 : Nat → Int32) (tof : Int32) (m : Nat) (a : pS) (f : Nat → Int32) : Prop := a.2.2.1.toInt = 0 → c = f 0 ∧ (0 ≤ c.toInt ∧ c.toInt < 7) ∧ cr.toInt = c.toInt + 1 ∧ inn = f 1 ∧ (k1 c.toInt.toNat = nI m ∧ m ≤ 4) ∧ (∀ j : Nat, j < 7 → ¬ j = c.toInt.toNat → k1 j = f (2 + j)) ∧ (∀ j : Nat, j < 7 → c.toInt < (j : Int) → k1 j = 0) ∧ (∀ j : Nat, j < 7 → k3 j = f (9 + j) ∧ k4 j = f (16 + j)) ∧ (∀ j r : Nat, j < 7 → r < 4 → (r : Int) < (k1 j).toInt → k2 (4 * j + r) = f (23 + 4 * j + r)) ∧ zTof tof a.2.2.2.2
def zDc (dd : Int32) (d1 d2 d3 : Nat → Int32) (a : pS) (f : Nat → Int32) : Prop := a.2.2.1.toInt = 0 → dd = f 0 ∧ (0 ≤ (f 0).toInt ∧ (f 0).toInt ≤ 40) ∧ ∀ j : Nat, (j : Int) < (f 0).toInt → d1 j = f (1 + 3 * j) ∧ d2 j = f (2 + 3 * j) ∧ d3 j = f (3 + 3 * j)
def zGc (gg : Int32) (e1 e2 : Nat → Int32) (a : pS) (f : Nat → Int32) : Prop := a.2.2.1.toInt = 0 → gg = f 0 ∧ (0 ≤ (f 0).toInt ∧ (f 0).toInt ≤ 8) ∧ ∀ j : Nat, (j : Int) < (f 0).toInt → e1 j = f (1 + 2 * j) ∧ e2 j = f (2 + 2 * j)
theorem z_ne {g : Nat → Int32} {i j : Nat} {v : Int32} (h : ¬ i = j) : upd g j v i = g i := if_neg h
theorem z_eq {g : Nat → Int32} {i j : Nat} {v : Int32} (h : i = j) : upd g j v i = v := if_pos h
/-- many told already: with the fault or without, it is the same -/
theorem pDB_n {k : pT} {n : Nat} {a : pS} {m : Int} {f : Nat → Int32} (hk : pOk k n) (hp : a.1 ≤ n) (hn : n ≤ 600) (hI : pInv k a) (hw : a.2.1.toInt = 0) (hf : ¬ a.2.2.1.toInt = 0) : pDB m (nI (pWh k a.1)) f (pAdv k a) = pAdv k a ∧ pAlso 3 (nI (pWh k a.1)) a = a := by
  have q4 : (nI (pWh k a.1)).toInt = (pWh k a.1 : Int) := nI_toInt (by have := (hk a.1 hp).1; omega)
  have hl : a.2.2.2.1.toInt < (nI (pWh k a.1)).toInt := by
    rcases hI with ⟨-, z⟩ | ⟨z, -⟩
    · rw [q4]; exact z hf
    · exact absurd hw z
  refine ⟨?_, pAlso_n (Or.inr ⟨hf, Or.inl hl⟩)⟩
  unfold pDB
  split
  · exact pAlso_n (a := pAdv k a) (Or.inr ⟨hf, Or.inl hl⟩)
  · rfl
section ZD
variable {k : pT} {n : Nat} {ft : Nat → Int32} {r0 r1 r2 r3 r4 r5 r6 r7 : Int32} {a : pS}
theorem zRc_d1 (h : zRc k n ft r0 r1 r2 r3 r4 r5 r6 r7 a) (hw : a.2.1.toInt = 0) (hc : ¬ pCl k a.1 = 0) {dd : Int32} {f : Nat → Int32} {m : Int} (hd : a.2.2.1.toInt = 0 → dd = f 0) (hm : m ≤ dd.toInt) {u0 u1 : Int32} (e0 : u0 = if r0.toInt = 0 then 3 else r0) (e1 : u1 = if r0.toInt = 0 then r5 else r1) {r3' r4' r5' r6' : Int32} (hT : zTokC k (pEn k a.1) r3' r4' r5' r6') : zRc k n ft u0 u1 r2 r3' r4' r5' r6' r7 (pDB m (nI (pWh k a.1)) f (pAdv k a)) := by
  have hk := zRc_ok h
  have h2 := zRc_na h hw hc e0 e1 hT
  by_cases c : a.2.2.1.toInt = 0
  · unfold pDB
    rw [if_pos (by rw [← hd c]; exact hm), ← pAdv_also]
    exact h2
  · have q := pDB_n (m := m) (f := f) hk h.1.2.2.2 h.1.2.1 h.2.2.2.2.2.1 hw c
    rw [q.2] at h2
    rw [q.1]
    exact h2
theorem zRc_d0 (h : zRc k n ft r0 r1 r2 r3 r4 r5 r6 r7 a) (hw : a.2.1.toInt = 0) {dd : Int32} {f : Nat → Int32} {m : Int} (hd : a.2.2.1.toInt = 0 → dd = f 0) (hm : dd.toInt < m) {r3' r4' r5' r6' : Int32} (hT : zTokC k (pEn k a.1) r3' r4' r5' r6') : zRc k n ft r0 r1 r2 r3' r4' r5' r6' r7 (pDB m (nI (pWh k a.1)) f (pAdv k a)) := by
  have hk := zRc_ok h
  have h2 := zRc_adv h hw hT
  by_cases c : a.2.2.1.toInt = 0
  · unfold pDB
    rw [if_neg (by rw [← hd c]; omega)]
    exact h2
  · rw [(pDB_n (m := m) (f := f) hk h.1.2.2.2 h.1.2.1 h.2.2.2.2.2.1 hw c).1]
    exact h2
end ZD
theorem pDB_g {k : pT} {m : Int} {w : Int32} {f : Nat → Int32} {a : pS} (hw : a.2.1.toInt = 0) (h : (pDB m w f a).2.2.1.toInt = 0) : (f 0).toInt < m ∧ pDB m w f a = a := by
  unfold pDB at h ⊢
  split at h
  · exact absurd h (pAlso_f (by decide) hw)
  · rename_i c
    exact ⟨by omega, if_neg c⟩
theorem z_d5 : ∀ d, d < 11 → 5 ≤ d → nI d - 5 = Int32.ofNat (d - 5) := by decide +kernel
theorem pDY_g {k : pT} {d : Nat} {a : pS} (hI : pInv k a) (h : (pDY k d a).2.2.2.1.toInt = 0) : a.2.2.1.toInt = 0 := by
  unfold pDY at h
  split at h
  · exact (pNum_g hI h).2.2.1
  · exact h
theorem pGY_g {k : pT} {d : Nat} {a : pS} (hI : pInv k a) (h : (pGY k d a).2.2.2.1.toInt = 0) : a.2.2.1.toInt = 0 := by
  unfold pGY at h
  split at h
  · exact (pNum_g hI h).2.2.1
  · exact h
theorem pDeed_1 {k : pT} {d : Nat} {w : Int32} {a b : pS} {f : Nat → Int32} (hb : b = pDB 40 w f a) : (pDeed k d w a f).1 = (pDY k d (pNum k 0 6 b).2).2 := by subst hb; rfl
theorem pFact_1 {k : pT} {d : Nat} {w : Int32} {a b : pS} {f : Nat → Int32} (hb : b = pDB 8 w f a) : (pFact k d w a f).1 = (pGY k d (pNum k 0 6 b).2).2 := by subst hb; rfl
theorem pDY_hi {k : pT} {d : Nat} {a : pS} (h : 8 < d) : pDY k d a = pNum k 0 3 a := if_pos h
theorem pDY_lo {k : pT} {d : Nat} {a : pS} (h : ¬ 8 < d) : pDY k d a = (-1, a) := if_neg h
theorem pGY_hi {k : pT} {d : Nat} {a : pS} (h : d = 11) : pGY k d a = pNum k 0 6 a := if_pos h
theorem pGY_lo {k : pT} {d : Nat} {a : pS} (h : ¬ d = 11) : pGY k d a = (-1, a) := if_neg h
theorem zDc_step {k : pT} {d : Nat} {w dd x c r : Int32} {d1 d2 d3 f : Nat → Int32} {a : pS} (h : zDc dd d1 d2 d3 a f) (hw : a.2.1.toInt = 0) (hd : 5 ≤ d ∧ d ≤ 10) (hx : x = nI d - 5) (hB : pInv k (pDB 40 w f a)) (hX : pInv k (pNum k 0 6 (pDB 40 w f a)).2) (hc : (pNum k 0 6 (pDB 40 w f a)).2.2.2.1.toInt = 0 → c = (pNum k 0 6 (pDB 40 w f a)).1) (hr : (pDY k d (pNum k 0 6 (pDB 40 w f a)).2).2.2.2.1.toInt = 0 → r = (pDY k d (pNum k 0 6 (pDB 40 w f a)).2).1) : zDc (zDN dd) (zDA dd d1 x) (zDA dd d2 c) (zDA dd d3 r) (pDeed k d w a f).1 (pDeed k d w a f).2 := by
  intro q
  have q : (pDY k d (pNum k 0 6 (pDB 40 w f a)).2).2.2.2.1.toInt = 0 := q
  have q1 := pDY_g hX q
  have q2 := (pNum_g hB q1).2.2.1
  obtain ⟨q3, q4⟩ := pDB_g (k := k) hw q2
  rw [q4] at q2
  obtain ⟨e, hb, hj⟩ := h q2
  have ec := hc q1
  have er := hr q
  have em : (dd.toNatClampNeg : Nat) = (f 0).toInt.toNat := by rw [e]; rfl
  have ei : (f 0 + 1).toInt = (f 0).toInt + 1 := z_p1 (by omega) (by omega)
  have hin : 0 ≤ dd.toInt ∧ dd.toInt < 40 := by rw [e]; omega
  have e2 : (pDeed k d w a f).2 = upd (upd (upd (upd f (1 + 3 * (f 0).toInt.toNat) (nI d - 5)) (2 + 3 * (f 0).toInt.toNat) (pNum k 0 6 (pDB 40 w f a)).1) (3 + 3 * (f 0).toInt.toNat) (pDY k d (pNum k 0 6 (pDB 40 w f a)).2).1) 0 (f 0 + 1) := if_pos q3
  have e0 : (pDeed k d w a f).2 0 = f 0 + 1 := by rw [e2]; exact z_eq rfl
  rw [e0, ei]
  unfold zDN zDA
  rw [if_pos hin, if_pos hin, if_pos hin, if_pos hin, em, e2]
  refine ⟨by rw [e], by omega, fun j hj2 => ?_⟩
  by_cases c1 : j = (f 0).toInt.toNat
  · subst c1
    refine ⟨?_, ?_, ?_⟩
    · rw [z_eq rfl, z_ne (by omega), z_ne (by omega), z_ne (by omega), z_eq rfl]; exact hx
    · rw [z_eq rfl, z_ne (by omega), z_ne (by omega), z_eq rfl]; exact ec
    · rw [z_eq rfl, z_ne (by omega), z_eq rfl]; exact er
  · obtain ⟨j1, j2, j3⟩ := hj j (by omega)
    refine ⟨?_, ?_, ?_⟩
    · rw [z_ne c1, z_ne (by omega), z_ne (by omega), z_ne (by omega), z_ne (by omega)]; exact j1
    · rw [z_ne c1, z_ne (by omega), z_ne (by omega), z_ne (by omega), z_ne (by omega)]; exact j2
    · rw [z_ne c1, z_ne (by omega), z_ne (by omega), z_ne (by omega), z_ne (by omega)]; exact j3
theorem zGc_step {k : pT} {d : Nat} {w gg c r : Int32} {d1 d2 f : Nat → Int32} {a : pS} (h : zGc gg d1 d2 a f) (hw : a.2.1.toInt = 0) (hB : pInv k (pDB 8 w f a)) (hX : pInv k (pNum k 0 6 (pDB 8 w f a)).2) (hc : (pNum k 0 6 (pDB 8 w f a)).2.2.2.1.toInt = 0 → c = (pNum k 0 6 (pDB 8 w f a)).1) (hr : (pGY k d (pNum k 0 6 (pDB 8 w f a)).2).2.2.2.1.toInt = 0 → r = (pGY k d (pNum k 0 6 (pDB 8 w f a)).2).1) : zGc (zGN gg) (zGA gg d1 c) (zGA gg d2 r) (pFact k d w a f).1 (pFact k d w a f).2 := by
  intro q
  have q : (pGY k d (pNum k 0 6 (pDB 8 w f a)).2).2.2.2.1.toInt = 0 := q
  have q1 := pGY_g hX q
  have q2 := (pNum_g hB q1).2.2.1
  obtain ⟨q3, q4⟩ := pDB_g (k := k) hw q2
  rw [q4] at q2
  obtain ⟨e, hb, hj⟩ := h q2
  have ec := hc q1
  have er := hr q
  have em : (gg.toNatClampNeg : Nat) = (f 0).toInt.toNat := by rw [e]; rfl
  have ei : (f 0 + 1).toInt = (f 0).toInt + 1 := z_p1 (by omega) (by omega)
  have hin : 0 ≤ gg.toInt ∧ gg.toInt < 8 := by rw [e]; omega
  have e2 : (pFact k d w a f).2 = upd (upd (upd f (1 + 2 * (f 0).toInt.toNat) (pNum k 0 6 (pDB 8 w f a)).1) (2 + 2 * (f 0).toInt.toNat) (pGY k d (pNum k 0 6 (pDB 8 w f a)).2).1) 0 (f 0 + 1) := if_pos q3
  have e0 : (pFact k d w a f).2 0 = f 0 + 1 := by rw [e2]; exact z_eq rfl
  rw [e0, ei]
  unfold zGN zGA
  rw [if_pos hin, if_pos hin, if_pos hin, em, e2]
  refine ⟨by rw [e], by omega, fun j hj2 => ?_⟩
  by_cases c1 : j = (f 0).toInt.toNat
  · subst c1
    refine ⟨?_, ?_⟩
    · rw [z_eq rfl, z_ne (by omega), z_ne (by omega), z_eq rfl]; exact ec
    · rw [z_eq rfl, z_ne (by omega), z_eq rfl]; exact er
  · obtain ⟨j1, j2⟩ := hj j (by omega)
    refine ⟨?_, ?_⟩
    · rw [z_ne c1, z_ne (by omega), z_ne (by omega), z_ne (by omega)]; exact j1
    · rw [z_ne c1, z_ne (by omega), z_ne (by omega), z_ne (by omega)]; exact j2
theorem pCr_f {k : pT} {a : pS} : (pCr k a).2.2.2.1 = (pNum k 0 6 a).2.2.2.1 := rfl
/-- a crossing's roads begin -/
theorem zLr_in {k : pT} {cr inn tof : Int32} {k1 k2 k3 k4 f : Nat → Int32} {w : Int32} {a : pS} (h : zLc cr inn k1 k2 k3 k4 tof a f) (hw : a.2.1.toInt = 0) {cr' : Int32} (hcr : cr.toInt < 7 → cr' = cr + 1) : zLr cr cr' inn k1 k2 k3 k4 tof 0 (pDB 7 w f a) f := by
  intro q
  obtain ⟨q1, q2⟩ := pDB_g (k := k) hw q
  rw [q2] at q ⊢
  obtain ⟨e, hb, hi, hj, hz, hl, ht⟩ := h q
  have e1 : cr.toInt = (f 0).toInt := by rw [e]
  refine ⟨e, by omega, ?_, hi, ⟨hz _ (by omega) (by omega), by omega⟩, fun j hj1 _ => (hj j hj1).1, fun j hj1 hj2 => hz j hj1 (by omega), fun j hj1 => (hj j hj1).2, hl, ht⟩
  rw [hcr (by omega)]
  exact z_p1 (by omega) (by omega)
/-- one road more -/
theorem zLr_step {k : pT} {n : Nat} {c cr inn tof to : Int32} {k1 k2 k3 k4 f : Nat → Int32} {m : Nat} {a : pS} (h : zLr c cr inn k1 k2 k3 k4 tof m a f) (hk : pOk k n) (hp : a.1 ≤ n) (hn : n ≤ 600) (hI : pInv k a) (hw : a.2.1.toInt = 0) (ht : pTk k a.1 = 1) (hm : m ≤ 4)
    (hto : (pNum k 0 6 a).2.2.2.1.toInt = 0 → to = (pNum k 0 6 a).1) : zLr c cr inn (zAddA cr k1 c) (zAddB cr k1 k2 c to) k3 k4 (if 0 ≤ to.toInt ∧ to.toInt < 7 then tof ||| ((1 : Int32) <<< (to &&& 31)) else tof) (if m < 4 then m + 1 else 4) (pCr k (if m = 4 then pAlso 3 (nI (pWh k a.1)) a else a)).2 (if (f 0).toInt < 7 ∧ m < 4 then upd f (23 + 4 * (f 0).toInt.toNat + m) (pCr k (if m = 4 then pAlso 3 (nI (pWh k a.1)) a else a)).1 else f) := by
  intro q
  rw [pCr_f] at q
  by_cases cm : m = 4
  · rw [if_pos cm, pNum_also hk hp hn hI hw ht] at q
    have q : (pAlso 3 (nI (pWh k a.1)) (pNum k 0 6 a).2).2.2.1.toInt = 0 := q
    have hb : (pNum k 0 6 a).2.2.1.toInt = 0 := by
      by_cases c2 : (0 : Int32).toInt ≤ (pNm k a.1).toInt ∧ (pNm k a.1).toInt ≤ (6 : Int32).toInt
      · rw [pNum_i hw ht c2]; exact hw
      · rw [pNum_o hw ht c2]; show (pAlso 2 _ a).2.1.toInt = 0; rw [pAlso_fa.2.1]; exact hw
    exact absurd q (pAlso_f (by decide) hb)
  · rw [if_neg cm] at q ⊢
    obtain ⟨q0, q1, q2, q3, q4⟩ := pNum_g hI q
    have et := hto q
    obtain ⟨e, hb, hcr, hi, ⟨hk1, hm4⟩, hj, hz, hx, hl, hT⟩ := h q2
    have ec : c.toInt.toNat = (f 0).toInt.toNat := by rw [e]
    have hf7 : (f 0).toInt < 7 := by rw [← e]; omega
    have z6 : (6 : Int32).toInt = 6 := rfl
    have z0 : (0 : Int32).toInt = 0 := rfl
    have e1 : (pCr k a).1 = pNm k a.1 := by show (pNum k 0 6 a).1 = _; rw [q4]
    have e2 : to = pNm k a.1 := by rw [et, q4]
    have e3 : (pCr k a).2.2.2.2.2 = if a.2.2.2.2.toInt < (pNm k a.1).toInt then pNm k a.1 else a.2.2.2.2 := by show (pFar (pNum k 0 6 a).1 (pNum k 0 6 a).2).2.2.2.2 = _; rw [q4]; rfl
    rw [if_pos (show m < 4 by omega), if_pos ⟨hf7, by omega⟩, e1, e3, e2]
    rw [if_pos (show 0 ≤ (pNm k a.1).toInt ∧ (pNm k a.1).toInt < 7 by omega)]
    have hkm : (k1 c.toInt.toNat).toInt = (m : Int) := by rw [hk1]; exact nI_toInt (by omega)
    have hin : 0 ≤ c.toInt ∧ c.toInt < cr.toInt ∧ c.toInt < 7 ∧ (k1 c.toNatClampNeg).toInt < 4 := ⟨hb.1, by omega, hb.2, by show (k1 c.toInt.toNat).toInt < 4; omega⟩
    have eA : zAddA cr k1 c = upd k1 c.toInt.toNat (k1 c.toInt.toNat + 1) := by unfold zAddA; exact if_pos hin
    have eB : zAddB cr k1 k2 c (pNm k a.1) = upd k2 (4 * c.toInt.toNat + m) (pNm k a.1) := by
      unfold zAddB
      rw [if_pos hin]
      exact congrArg (fun z => upd k2 z (pNm k a.1)) (by show 4 * c.toInt.toNat + (k1 c.toInt.toNat).toInt.toNat = _; omega)
    rw [eA, eB, ← ec]
    have hs : k1 c.toInt.toNat + 1 = nI (m + 1) := by rw [hk1]; exact z_inc m 1
    have up : ∀ i, i < 23 → upd f (23 + 4 * c.toInt.toNat + m) (pNm k a.1) i = f i := fun i hi => z_ne (by omega)
    refine ⟨by rw [up 0 (by omega)]; exact e, hb, hcr, by rw [up 1 (by omega)]; exact hi, ⟨by rw [z_eq rfl]; exact hs, by omega⟩, fun j h1 h2 => by rw [z_ne h2, up _ (by omega)]; exact hj j h1 h2, fun j h1 h2 => by rw [z_ne (by omega)]; exact hz j h1 h2, fun j h1 => by rw [up _ (by omega), up _ (by omega)]; exact hx j h1, fun j r h1 h2 h3 => ?_, zTof_tell hT (by omega)⟩
    by_cases cj : j = c.toInt.toNat
    · subst cj
      rw [z_eq rfl, hs, nI_toInt (by omega)] at h3
      by_cases cr2 : r = m
      · subst cr2
        rw [z_eq rfl, z_eq (by omega)]
      · rw [z_ne (by omega), z_ne (by omega)]
        exact hl _ r h1 h2 (by omega)
    · rw [z_ne cj] at h3
      rw [z_ne (by omega), z_ne (by omega)]
      exact hl j r h1 h2 h3
/-- the crossing's roads are told -/
theorem zLr_out {c cr inn tof : Int32} {k1 k2 k3 k4 f : Nat → Int32} {m : Nat} {a : pS} (h : zLr c cr inn k1 k2 k3 k4 tof m a f) : zLc cr inn k1 k2 k3 k4 tof a (upd (upd f (2 + (f 0).toInt.toNat) (nI m)) 0 (f 0 + 1)) := by
  intro q
  obtain ⟨e, hb, hcr, hi, ⟨hk1, hm4⟩, hj, hz, hx, hl, hT⟩ := h q
  have ec : c.toInt.toNat = (f 0).toInt.toNat := by rw [e]
  have e0 : upd (upd f (2 + (f 0).toInt.toNat) (nI m)) 0 (f 0 + 1) 0 = f 0 + 1 := z_eq rfl
  have ei : (f 0 + 1).toInt = (f 0).toInt + 1 := z_p1 (by rw [← e]; omega) (by rw [← e]; omega)
  have e1 : (f 0).toInt = c.toInt := by rw [e]
  rw [e0]
  refine ⟨Int32.toInt_inj.mp (by omega), by omega, by rw [z_ne (by omega), z_ne (by omega)]; exact hi, fun j h1 => ⟨?_, ?_⟩, fun j h1 h2 => hz j h1 (by omega), fun j r h1 h2 h3 => by rw [z_ne (by omega), z_ne (by omega)]; exact hl j r h1 h2 h3, hT⟩
  · by_cases cj : j = c.toInt.toNat
    · subst cj
      rw [z_ne (by omega), z_eq (by omega)]
      exact hk1
    · rw [z_ne (by omega), z_ne (by omega)]
      exact hj j h1 cj
  · rw [z_ne (by omega), z_ne (by omega), z_ne (by omega), z_ne (by omega)]
    exact hx j h1
/-- a post, walkers, an inn told -/
theorem zLc_inn {k : pT} {cr inn tof to : Int32} {k1 k2 k3 k4 f : Nat → Int32} {a : pS} (h : zLc cr inn k1 k2 k3 k4 tof a f) (hI : pInv k a) (hto : (pNum k 0 6 a).2.2.2.1.toInt = 0 → to = (pNum k 0 6 a).1) : zLc cr (inn ||| (if 0 ≤ to.toInt ∧ to.toInt < 7 then (1 : Int32) <<< (to &&& 31) else 0)) k1 k2 k3 k4 (if 0 ≤ to.toInt ∧ to.toInt < 7 then tof ||| ((1 : Int32) <<< (to &&& 31)) else tof) (pInn k a f).1 (pInn k a f).2 := by
  intro q
  have q : (pNum k 0 6 a).2.2.2.1.toInt = 0 := q
  obtain ⟨q0, q1, q2, q3, q4⟩ := pNum_g hI q
  have et := hto q
  obtain ⟨e, hb, hi, hj, hz, hl, ht⟩ := h q2
  have z6 : (6 : Int32).toInt = 6 := rfl
  have z0 : (0 : Int32).toInt = 0 := rfl
  have e1 : (pCr k a).1 = pNm k a.1 := by show (pNum k 0 6 a).1 = _; rw [q4]
  have e2 : to = pNm k a.1 := by rw [et, q4]
  have e3 : (pInn k a f).1.2.2.2.2 = if a.2.2.2.2.toInt < (pNm k a.1).toInt then pNm k a.1 else a.2.2.2.2 := by show (pFar (pNum k 0 6 a).1 (pNum k 0 6 a).2).2.2.2.2 = _; rw [q4]; rfl
  have e4 : (pInn k a f).2 = upd f 1 (f 1 ||| ((1 : Int32) <<< (pNm k a.1 &&& 31))) := by unfold pInn; rw [e1]
  rw [e3, e4, e2, if_pos (show 0 ≤ (pNm k a.1).toInt ∧ (pNm k a.1).toInt < 7 by omega), if_pos (show 0 ≤ (pNm k a.1).toInt ∧ (pNm k a.1).toInt < 7 by omega)]
  have up : ∀ i, ¬ i = 1 → upd f 1 (f 1 ||| ((1 : Int32) <<< (pNm k a.1 &&& 31))) i = f i := fun i hi => z_ne hi
  rw [up 0 (by omega), z_eq rfl, hi]
  exact ⟨e, hb, rfl, fun j h1 => by rw [up _ (by omega), up _ (by omega), up _ (by omega)]; exact hj j h1, hz, fun j r h1 h2 h3 => by rw [up _ (by omega)]; exact hl j r h1 h2 h3, zTof_tell ht (by omega)⟩
theorem zLc_pw {k : pT} {cr inn tof to c : Int32} {k1 k2 k3 k4 f : Nat → Int32} {a : pS} {d : Nat} (hd : d = 2 ∨ d = 3) (h : zLc cr inn k1 k2 k3 k4 tof a f) (hI : pInv k a) (hX : pInv k (pCr k a).2) (hto : (pNum k 0 6 a).2.2.2.1.toInt = 0 → to = (pNum k 0 6 a).1) (hc : (pPW k d a f).1.2.2.1.toInt = 0 → c = (pNum k 0 (if d = 2 then 3 else 9) (pCr k a).2).1) : zLc cr inn k1 k2 (if d = 2 ∧ 0 ≤ to.toInt ∧ to.toInt < 7 then upd k3 to.toInt.toNat c else k3) (if d = 3 ∧ 0 ≤ to.toInt ∧ to.toInt < 7 then upd k4 to.toInt.toNat c else k4) (if 0 ≤ to.toInt ∧ to.toInt < 7 then tof ||| ((1 : Int32) <<< (to &&& 31)) else tof) (pPW k d a f).1 (pPW k d a f).2 := by
  intro q
  have ec := hc q
  have q : (pNum k 0 (if d = 2 then 3 else 9) (pCr k a).2).2.2.2.1.toInt = 0 := q
  obtain ⟨p0, p1, p2, p3, p4⟩ := pNum_g hX q
  have p2 : (pNum k 0 6 a).2.2.2.1.toInt = 0 := p2
  obtain ⟨q0, q1, q2, q3, q4⟩ := pNum_g hI p2
  have et := hto p2
  obtain ⟨e, hb, hi, hj, hz, hl, ht⟩ := h q2
  have z6 : (6 : Int32).toInt = 6 := rfl
  have z0 : (0 : Int32).toInt = 0 := rfl
  have e1 : (pCr k a).1 = pNm k a.1 := by show (pNum k 0 6 a).1 = _; rw [q4]
  have e2 : to = pNm k a.1 := by rw [et, q4]
  have e3 : (pPW k d a f).1.2.2.2.2 = if a.2.2.2.2.toInt < (pNm k a.1).toInt then pNm k a.1 else a.2.2.2.2 := by
    show (pNum k 0 (if d = 2 then 3 else 9) (pCr k a).2).2.2.2.2.2 = _
    rw [p4]
    show (pFar (pNum k 0 6 a).1 (pNum k 0 6 a).2).2.2.2.2 = _
    rw [q4]
    rfl
  have e4 : (pPW k d a f).2 = upd f ((if d = 2 then 9 else 16) + (pNm k a.1).toInt.toNat) c := by unfold pPW; rw [e1, ← ec]
  rw [e3, e4, e2, if_pos (show 0 ≤ (pNm k a.1).toInt ∧ (pNm k a.1).toInt < 7 by omega)]
  generalize pNm k a.1 = x at *
  have hx : x.toInt.toNat < 7 := by omega
  rcases hd with rfl | rfl
  · rw [if_pos rfl, if_pos (show 2 = 2 ∧ 0 ≤ x.toInt ∧ x.toInt < 7 by omega), if_neg (by omega)]
    rw [z_ne (by omega), z_ne (by omega)]
    refine ⟨e, hb, hi, fun j h1 => ⟨by rw [z_ne (by omega)]; exact (hj j h1).1, ?_, by rw [z_ne (by omega)]; exact (hj j h1).2.2⟩, hz, fun j r h1 h2 h3 => by rw [z_ne (by omega)]; exact hl j r h1 h2 h3, zTof_tell ht (by omega)⟩
    by_cases cj : j = x.toInt.toNat
    · rw [z_eq cj, z_eq (by omega)]
    · rw [z_ne cj, z_ne (by omega)]; exact (hj j h1).2.1
  · rw [if_neg (show ¬ (3 : Nat) = 2 by omega), if_neg (show ¬ ((3 : Nat) = 2 ∧ 0 ≤ x.toInt ∧ x.toInt < 7) by omega), if_pos (by omega)]
    rw [z_ne (by omega), z_ne (by omega)]
    refine ⟨e, hb, hi, fun j h1 => ⟨by rw [z_ne (by omega)]; exact (hj j h1).1, by rw [z_ne (by omega)]; exact (hj j h1).2.1, ?_⟩, hz, fun j r h1 h2 h3 => by rw [z_ne (by omega)]; exact hl j r h1 h2 h3, zTof_tell ht (by omega)⟩
    by_cases cj : j = x.toInt.toNat
    · rw [z_eq cj, z_eq (by omega)]
    · rw [z_ne cj, z_ne (by omega)]; exact (hj j h1).2.2
/-! roads in the class's loop: j times -/
def pAt (k : pT) (j : Nat) (a : pS) : pS := if min j 4 = 4 then pAlso 3 (nI (pWh k a.1)) a else a
def pRow (k : pT) (j : Nat) (a : pS) (f : Nat → Int32) : Nat → Int32 := if (f 0).toInt < 7 ∧ min j 4 < 4 then upd f (23 + 4 * (f 0).toInt.toNat + min j 4) (pCr k (pAt k j a)).1 else f
theorem pRoads_n {k : pT} {j : Nat} {a : pS} {f : Nat → Int32} {X : Nat × pS × (Nat → Int32)} (hj : j ≤ 600) (hw : a.2.1.toInt = 0) (ht : pTk k a.1 = 1) (h : pRoads k (601 - j) (min j 4) a f = X) : pRoads k (601 - (j + 1)) (min (j + 1) 4) (pCr k (pAt k j a)).2 (pRow k j a f) = X := by
  rw [show 601 - j = (601 - (j + 1)) + 1 by omega, pRoads_s ⟨hw, ht⟩] at h
  rw [show min (j + 1) 4 = (if min j 4 < 4 then min j 4 + 1 else 4) by split <;> omega]
  exact h
theorem pNum_fa {k : pT} {lo hi : Int32} {a : pS} (hw : a.2.1.toInt = 0) (ht : pTk k a.1 = 1) : (pNum k lo hi a).2.1 = pEn k a.1 ∧ (pNum k lo hi a).2.2.1 = a.2.1 := by
  by_cases c2 : lo.toInt ≤ (pNm k a.1).toInt ∧ (pNm k a.1).toInt ≤ hi.toInt
  · rw [pNum_i hw ht c2]; exact ⟨rfl, rfl⟩
  · rw [pNum_o hw ht c2]
    exact ⟨congrArg (pEn k) pAlso_fa.1, pAlso_fa.2.1⟩
theorem pAt_fa {k : pT} {j : Nat} {a : pS} : (pAt k j a).1 = a.1 ∧ (pAt k j a).2.1 = a.2.1 := by
  unfold pAt
  split
  · exact ⟨pAlso_fa.1, pAlso_fa.2.1⟩
  · exact ⟨rfl, rfl⟩
theorem pStep {k : pT} {n j : Nat} {a : pS} {f g : Nat → Int32} (hk : pOk k n) (hp : a.1 ≤ n) (hw : a.2.1.toInt = 0) (ht : pTk k a.1 = 1) (hj : j ≤ a.1) (hf : f 0 = g 0) : (pCr k (pAt k j a)).2.2.1.toInt = 0 ∧ j + 1 ≤ (pCr k (pAt k j a)).2.1 ∧ pRow k j a f 0 = g 0 := by
  have e := pAt_fa (k := k) (j := j) (a := a)
  have q := pNum_fa (lo := 0) (hi := 6) (a := pAt k j a) (by rw [e.2]; exact hw) (by rw [e.1]; exact ht)
  have r := hk a.1 hp
  have c : pCl k a.1 = 2 := (pTk_1 hk hp).mp ht
  have r2 := r.2.2.2.1 (by omega)
  refine ⟨by show (pNum k 0 6 (pAt k j a)).2.2.1.toInt = 0; rw [q.2, e.2]; exact hw, by show j + 1 ≤ (pNum k 0 6 (pAt k j a)).2.1; rw [q.1, e.1]; omega, ?_⟩
  unfold pRow
  split
  · rw [z_ne (by omega)]; exact hf
  · exact hf
section ZCR
variable {k : pT} {n j : Nat} {ft : Nat → Int32} {r0 r1 r2 r3 r4 r5 r6 r7 : Int32} {a : pS}
theorem zRc_cr0 (hj : j < 4) (h : zRc k n ft r0 r1 r2 r3 r4 r5 r6 r7 (pNum k 0 6 a).2) : zRc k n ft r0 r1 r2 r3 r4 r5 r6 r7 (pCr k (pAt k j a)).2 := by
  have e : pAt k j a = a := by unfold pAt; exact if_neg (by omega)
  rw [e]
  exact zRc_far h _
theorem zRc_cr4 (hj : 4 ≤ j) (hk : pOk k n) (hp : a.1 ≤ n) (hn : n ≤ 600) (hI : pInv k a) (hw : a.2.1.toInt = 0) (ht : pTk k a.1 = 1) (h : zRc k n ft r0 r1 r2 r3 r4 r5 r6 r7 (pNum k 0 6 a).2) {w u0 u1 : Int32} (hww : w = nI (pWh k a.1)) (e0 : u0 = if r0.toInt = 0 then 3 else r0) (e1 : u1 = if r0.toInt = 0 then w else r1) : zRc k n ft u0 u1 r2 r3 r4 r5 r6 r7 (pCr k (pAt k j a)).2 := by
  subst hww
  have e : pAt k j a = pAlso 3 (nI (pWh k a.1)) a := by unfold pAt; exact if_pos (by omega)
  have q4 : (nI (pWh k a.1)).toInt = (pWh k a.1 : Int) := nI_toInt (by have := (hk a.1 hp).1; omega)
  rw [e]
  show zRc k n ft u0 u1 r2 r3 r4 r5 r6 r7 (pFar (pNum k 0 6 (pAlso 3 (nI (pWh k a.1)) a)).1 (pNum k 0 6 (pAlso 3 (nI (pWh k a.1)) a)).2)
  rw [pNum_also hk hp hn hI hw ht]
  have q := pNum_fa (lo := 0) (hi := 6) hw ht
  have c : pCl k a.1 = 2 := (pTk_1 hk hp).mp ht
  have r := hk a.1 hp
  have r' := (hk (pEn k a.1) r.1.2.2).1
  have r2 := r.2.2.2.1 (by omega)
  refine zRc_far (zRc_note h (by rw [q.2]; exact hw) (by rw [q.1, q4]; omega) (fun hf => ?_) e0 e1) _
  have hl : ¬ a.2.2.1.toInt = 0 → a.2.2.2.1.toInt < (nI (pWh k a.1)).toInt := fun z => by
    rcases hI with ⟨-, y⟩ | ⟨y, -⟩
    · rw [q4]; exact y z
    · exact absurd hw y
  by_cases c2 : (0 : Int32).toInt ≤ (pNm k a.1).toInt ∧ (pNm k a.1).toInt ≤ (6 : Int32).toInt
  · rw [pNum_i hw ht c2] at hf ⊢
    exact Or.inl (hl hf)
  · rw [pNum_o hw ht c2] at hf ⊢
    by_cases z : a.2.2.1.toInt = 0
    · rw [pAlso_y hw z]
      exact Or.inr ⟨rfl, (by show (2 : Int32).toInt ≤ (3 : Int32).toInt; decide)⟩
    · rw [pAlso_n (Or.inr ⟨z, Or.inl (hl z)⟩)]
      exact Or.inl (hl z)
end ZCR
theorem zLr_next {k : pT} {n j : Nat} {c cr inn tof to : Int32} {k1 k2 k3 k4 f : Nat → Int32} {a : pS} (h : zLr c cr inn k1 k2 k3 k4 tof (min j 4) a f) (hk : pOk k n) (hp : a.1 ≤ n) (hn : n ≤ 600) (hI : pInv k a) (hw : a.2.1.toInt = 0) (ht : pTk k a.1 = 1)
    (hto : (pNum k 0 6 a).2.2.2.1.toInt = 0 → to = (pNum k 0 6 a).1) : zLr c cr inn (zAddA cr k1 c) (zAddB cr k1 k2 c to) k3 k4 (if 0 ≤ to.toInt ∧ to.toInt < 7 then tof ||| ((1 : Int32) <<< (to &&& 31)) else tof) (min (j + 1) 4) (pCr k (pAt k j a)).2 (pRow k j a f) := by
  rw [show min (j + 1) 4 = (if min j 4 < 4 then min j 4 + 1 else 4) by split <;> omega]
  exact zLr_step h hk hp hn hI hw ht (by omega) hto
theorem pCross_e {k : pT} {w : Int32} {a b A : pS} {f g : Nat → Int32} {m : Nat} (hb : b = pDB 7 w f a) (h : pRoads k 601 0 b f = (m, A, g)) : pCross k w a f = (A, if 7 ≤ (f 0).toInt then g else upd (upd g (2 + (g 0).toInt.toNat) (nI m)) 0 (g 0 + 1)) := by
  subst hb
  unfold pCross
  rw [h]
theorem zLr_end {c cr inn tof : Int32} {k1 k2 k3 k4 f g : Nat → Int32} {m : Nat} {a : pS} (h : zLr c cr inn k1 k2 k3 k4 tof m a g) (e : g 0 = f 0) : zLc cr inn k1 k2 k3 k4 tof a (if 7 ≤ (f 0).toInt then g else upd (upd g (2 + (g 0).toInt.toNat) (nI m)) 0 (g 0 + 1)) := by
  intro q
  have h2 := h q
  have e9 : (f 0).toInt = c.toInt := by rw [← e, ← h2.1]
  rw [if_neg (show ¬ 7 ≤ (f 0).toInt by have := h2.2.1; omega)]
  exact zLr_out h q
theorem pDB_fa {m : Int} {w : Int32} {f : Nat → Int32} {a : pS} : (pDB m w f a).1 = a.1 ∧ (pDB m w f a).2.1 = a.2.1 := by
  unfold pDB
  split
  · exact ⟨pAlso_fa.1, pAlso_fa.2.1⟩
  · exact ⟨rfl, rfl⟩
theorem pOther_b {k : pT} {d : Nat} {w : Int32} {a : pS} {f : Nat → Int32} (h : ¬ a.2.1.toInt = 0) : pOther k d w a f = (a, f) := if_pos h
theorem pDB_b {m : Int} {w : Int32} {f : Nat → Int32} {a : pS} (h : ¬ a.2.1.toInt = 0) : pDB m w f a = a := by
  unfold pDB
  split
  · exact pAlso_n (Or.inl h)
  · rfl
theorem pLine_0 {k : pT} {a : pS} {f : Nat → Int32} : pLine k 0 a f = pLand k a f := if_pos rfl
theorem pLine_1 {k : pT} {a : pS} {f : Nat → Int32} : pLine k 1 a f = pDay k a f := (if_neg (by decide)).trans (if_pos rfl)
theorem pLine_2 {k : pT} {a : pS} {f : Nat → Int32} : pLine k 2 a f = pLog k a f := (if_neg (by decide)).trans (if_neg (by decide))
theorem pLine_e {k : pT} {a : pS} {f : Nat → Int32} (hw : a.2.1.toInt = 0) {s lo hi : Nat} (hs : s = 0 ∧ lo = 1 ∧ hi = 4 ∨ s = 1 ∧ lo = 5 ∧ hi = 10 ∨ s = 2 ∧ lo = 11 ∧ hi = 12) (h : ¬ pTk k a.1 = 3 ∨ ¬ (lo ≤ pWd k a.1 ∧ pWd k a.1 ≤ hi)) : (pLine k s a f).1 = pEnds k a := by
  have e : pWord k lo hi a = (0, pEnds k a) := pWord_e (Or.inr h)
  have w1 : ¬ (pEnds k a).2.1.toInt = 0 := by rw [pEnds_y hw]; show ¬ (1 : Int32).toInt = 0; decide
  have l1 : pEndL k (pEnds k a) = pEnds k a := (pEndL_e (fun q => w1 q.1)).trans (pEnds_n w1)
  have n1 : (pNum k 0 6 (pEnds k a)).2 = pEnds k a := by rw [pNum_e (Or.inl w1), pEnds_n w1]
  generalize pEnds k a = b at *
  rcases hs with ⟨rfl, rfl, rfl⟩ | ⟨rfl, rfl, rfl⟩ | ⟨rfl, rfl, rfl⟩
  · rw [pLine_0]
    unfold pLand
    rw [e]
    show pEndL k (pOther k 0 (nI (pWh k a.1)) b f).1 = b
    rw [pOther_b w1]
    exact l1
  · rw [pLine_1]
    unfold pDay
    rw [e]
    show pEndL k (pDeed k 0 (nI (pWh k a.1)) b f).1 = b
    rw [pDeed_1 rfl, pDB_b w1, n1, pDY_lo (by omega)]
    exact l1
  · rw [pLine_2]
    unfold pLog
    rw [e]
    show pEndL k (pFact k 0 (nI (pWh k a.1)) b f).1 = b
    rw [pFact_1 rfl, pDB_b w1, n1, pGY_lo (by omega)]
    exact l1
set_option maxHeartbeats 4000000 in
set_option maxRecDepth 100000 in
/-- c_f_breakHere -/
theorem c_f_breakHere (l : Launch) (T : zTy) (rd : Nat) (rl : Nat) (rdd : Nat) (rg : Nat) (tp : Nat) (r0 : Int32) (r1 : Int32) (r2 : Int32) (r3 : Int32) (r4 : Int32) (r5 : Int32) (r6 : Int32) (r7 : Int32) (r8 : Int32) : zMv l T yX7_breakHere cX7_breakHere 1 1 0 0 [.ref rd] [[zO7 rd rl rdd rg r0 r1 tp r2 r3 r4 r5 r6 r7 r8]] (fun bs => ∃ (u0 : Int32) (u1 : Int32) (u7 : Int32), bs = [[zO7 rd rl rdd rg u0 u1 tp r2 r3 r4 r5 r6 u7 r8]] ∧ u0 = (if r7.toInt = 0 then 1 else r0) ∧ u1 = (if r7.toInt = 0 then r5 else r1) ∧ u7 = (if r7.toInt = 0 then 1 else r7)) := by
  refine zMv_of (own := RX7) (by decide) rfl (Nat.le_of_ble_eq_true rfl) ?_
  intro p e s m args below meth c A ls C hr hlocks hnm hAe G hl
  refine zHide (fun Qz_ hQz_ => ?_)
  have hx := C.1
  have hb := C.2.1
  have hl : lv_has ls 1 [(0, .ref rd)] := hl
  refine lv_aload_n hx hb dX7_breakHere_0 rfl (lv_at hl 0 rfl) ?_
  refine z_get C G clX7 0 rfl 11 (by decide) m_fl_RX7_55 rfl dX7_breakHere_1 ?_
  refine lv_if_ne (tgt := 25) hx hb dX7_breakHere_4 (by decide) (fun c_1 => ?_) (fun c_1 => ?_)
  · have c_1n : ¬ r7.toInt = (0 : Int) := fun q => c_1 ((fa_eq _ _).mpr q)
    exact z_back hQz_ (z_vret C hr hlocks G (Nat.le_of_ble_eq_true rfl) (Nat.le_of_ble_eq_true rfl) dX7_breakHere_25 ⟨r0, r1, r7, rfl, (by rw [if_neg (by omega)]), (by rw [if_neg (by omega)]), (by rw [if_neg (by omega)])⟩)
  · have c_1n : r7.toInt = (0 : Int) := (fa_eq _ _).mp c_1
    refine lv_aload_n hx hb dX7_breakHere_7 rfl (lv_at hl 0 rfl) ?_
    refine lv_iconst (v := 1) hx hb dX7_breakHere_8 (by decide) ?_
    refine z_put C G clX7 0 rfl 11 (by decide) m_fl_RX7_55 rfl rfl rfl (Nat.le_of_ble_eq_true rfl) dX7_breakHere_9 (fun H locs G => ?_)
    have G : zS T A s.heap s [[zO7 rd rl rdd rg r0 r1 tp r2 r3 r4 r5 r6 1 r8]] _ _ := G
    refine lv_aload_n hx hb dX7_breakHere_12 rfl (lv_at hl 0 rfl) ?_
    refine lv_iconst (v := 1) hx hb dX7_breakHere_13 (by decide) ?_
    refine z_put C G clX7 0 rfl 3 (by decide) m_fl_RX7_49 rfl rfl rfl (Nat.le_of_ble_eq_true rfl) dX7_breakHere_14 (fun H locs G => ?_)
    have G : zS T A s.heap s [[zO7 rd rl rdd rg 1 r1 tp r2 r3 r4 r5 r6 1 r8]] _ _ := G
    refine lv_aload_n hx hb dX7_breakHere_17 rfl (lv_at hl 0 rfl) ?_
    refine lv_aload_n hx hb dX7_breakHere_18 rfl (lv_at hl 0 rfl) ?_
    refine z_get C G clX7 0 rfl 9 (by decide) m_fl_RX7_84 rfl dX7_breakHere_19 ?_
    refine z_put C G clX7 0 rfl 4 (by decide) m_fl_RX7_52 rfl rfl rfl (Nat.le_of_ble_eq_true rfl) dX7_breakHere_22 (fun H locs G => ?_)
    have G : zS T A s.heap s [[zO7 rd rl rdd rg 1 r5 tp r2 r3 r4 r5 r6 1 r8]] _ _ := G
    exact z_back hQz_ (z_vret C hr hlocks G (Nat.le_of_ble_eq_true rfl) (Nat.le_of_ble_eq_true rfl) dX7_breakHere_25 ⟨1, r5, 1, rfl, (by rw [if_pos (by omega)]), (by rw [if_pos (by omega)]), (by rw [if_pos (by omega)])⟩)
set_option maxHeartbeats 4000000 in
set_option maxRecDepth 100000 in
/-- c_f_note -/
theorem c_f_note (l : Launch) (T : zTy) (rd : Nat) (rl : Nat) (rdd : Nat) (rg : Nat) (tp : Nat) (r0 : Int32) (r1 : Int32) (r2 : Int32) (r3 : Int32) (r4 : Int32) (r5 : Int32) (r6 : Int32) (r7 : Int32) (r8 : Int32) (x : Int32) (y : Int32) : zMv l T yX7_note cX7_note 3 1 0 0 [.ref rd, .int x, .int y] [[zO7 rd rl rdd rg r0 r1 tp r2 r3 r4 r5 r6 r7 r8]] (fun bs => ∃ (u0 : Int32) (u1 : Int32), bs = [[zO7 rd rl rdd rg u0 u1 tp r2 r3 r4 r5 r6 r7 r8]] ∧ u0 = (if r0.toInt = 0 then x else r0) ∧ u1 = (if r0.toInt = 0 then y else r1)) := by
  refine zMv_of (own := RX7) (by decide) rfl (Nat.le_of_ble_eq_true rfl) ?_
  intro p e s m args below meth c A ls C hr hlocks hnm hAe G hl
  refine zHide (fun Qz_ hQz_ => ?_)
  have hx := C.1
  have hb := C.2.1
  have hl : lv_has ls 3 [(0, .ref rd), (1, .int x), (2, .int y)] := hl
  refine lv_aload_n hx hb dX7_note_0 rfl (lv_at hl 0 rfl) ?_
  refine z_get C G clX7 0 rfl 3 (by decide) m_fl_RX7_49 rfl dX7_note_1 ?_
  refine lv_if_ne (tgt := 17) hx hb dX7_note_4 (by decide) (fun c_1 => ?_) (fun c_1 => ?_)
  · have c_1n : ¬ r0.toInt = (0 : Int) := fun q => c_1 ((fa_eq _ _).mpr q)
    exact z_back hQz_ (z_vret C hr hlocks G (Nat.le_of_ble_eq_true rfl) (Nat.le_of_ble_eq_true rfl) dX7_note_17 ⟨r0, r1, rfl, (by rw [if_neg (by omega)]), (by rw [if_neg (by omega)])⟩)
  · have c_1n : r0.toInt = (0 : Int) := (fa_eq _ _).mp c_1
    refine lv_aload_n hx hb dX7_note_7 rfl (lv_at hl 0 rfl) ?_
    refine lv_iload_n hx hb dX7_note_8 rfl (lv_at hl 1 rfl) ?_
    refine z_put C G clX7 0 rfl 3 (by decide) m_fl_RX7_49 rfl rfl rfl (Nat.le_of_ble_eq_true rfl) dX7_note_9 (fun H locs G => ?_)
    have G : zS T A s.heap s [[zO7 rd rl rdd rg x r1 tp r2 r3 r4 r5 r6 r7 r8]] _ _ := G
    refine lv_aload_n hx hb dX7_note_12 rfl (lv_at hl 0 rfl) ?_
    refine lv_iload_n hx hb dX7_note_13 rfl (lv_at hl 2 rfl) ?_
    refine z_put C G clX7 0 rfl 4 (by decide) m_fl_RX7_52 rfl rfl rfl (Nat.le_of_ble_eq_true rfl) dX7_note_14 (fun H locs G => ?_)
    have G : zS T A s.heap s [[zO7 rd rl rdd rg x y tp r2 r3 r4 r5 r6 r7 r8]] _ _ := G
    exact z_back hQz_ (z_vret C hr hlocks G (Nat.le_of_ble_eq_true rfl) (Nat.le_of_ble_eq_true rfl) dX7_note_17 ⟨x, y, rfl, (by rw [if_pos (by omega)]), (by rw [if_pos (by omega)])⟩)
set_option maxHeartbeats 4000000 in
set_option maxRecDepth 100000 in
/-- c_f_tellOf -/
theorem c_f_tellOf (l : Launch) (T : zTy) (rd : Nat) (rl : Nat) (rdd : Nat) (rg : Nat) (tp : Nat) (r0 : Int32) (r1 : Int32) (r2 : Int32) (r3 : Int32) (r4 : Int32) (r5 : Int32) (r6 : Int32) (r7 : Int32) (r8 : Int32) (x : Int32) : zMv l T yX7_tellOf cX7_tellOf 2 1 0 0 [.ref rd, .int x] [[zO7 rd rl rdd rg r0 r1 tp r2 r3 r4 r5 r6 r7 r8]] (fun bs => ∃ (u8 : Int32), bs = [[zO7 rd rl rdd rg r0 r1 tp r2 r3 r4 r5 r6 r7 u8]] ∧ u8 = (if 0 ≤ x.toInt ∧ x.toInt < 7 then r8 ||| ((1 : Int32) <<< (x &&& 31)) else r8)) := by
  refine zMv_of (own := RX7) (by decide) rfl (Nat.le_of_ble_eq_true rfl) ?_
  intro p e s m args below meth c A ls C hr hlocks hnm hAe G hl
  refine zHide (fun Qz_ hQz_ => ?_)
  have hx := C.1
  have hb := C.2.1
  have hl : lv_has ls 2 [(0, .ref rd), (1, .int x)] := hl
  refine lv_iload_n hx hb dX7_tellOf_0 rfl (lv_at hl 1 rfl) ?_
  refine lv_if_lt (tgt := 22) hx hb dX7_tellOf_1 (by decide) (fun c_1 => ?_) (fun c_1 => ?_)
  · have c_1n : x.toInt < (0 : Int) := (fa_lt _ _).mp c_1
    exact z_back hQz_ (z_vret C hr hlocks G (Nat.le_of_ble_eq_true rfl) (Nat.le_of_ble_eq_true rfl) dX7_tellOf_22 ⟨r8, rfl, (by rw [if_neg (by omega)])⟩)
  · have c_1n : ¬ x.toInt < (0 : Int) := fun q => c_1 ((fa_lt _ _).mpr q)
    refine lv_iload_n hx hb dX7_tellOf_4 rfl (lv_at hl 1 rfl) ?_
    refine lv_bipush (v := 7) hx hb dX7_tellOf_5 (by decide) ?_
    refine lv_icmp_ge (tgt := 22) hx hb dX7_tellOf_7 (by decide) (fun c_2 => ?_) (fun c_2 => ?_)
    · have c_2n : (7 : Int) ≤ x.toInt := (fa_le _ _).mp c_2
      exact z_back hQz_ (z_vret C hr hlocks G (Nat.le_of_ble_eq_true rfl) (Nat.le_of_ble_eq_true rfl) dX7_tellOf_22 ⟨r8, rfl, (by rw [if_neg (by omega)])⟩)
    · have c_2n : ¬ (7 : Int) ≤ x.toInt := fun q => c_2 ((fa_le _ _).mpr q)
      refine lv_aload_n hx hb dX7_tellOf_10 rfl (lv_at hl 0 rfl) ?_
      refine lv_dup hx hb dX7_tellOf_11 rfl ?_
      refine z_get C G clX7 0 rfl 12 (by decide) m_fl_RX7_59 rfl dX7_tellOf_12 ?_
      refine lv_iconst (v := 1) hx hb dX7_tellOf_15 (by decide) ?_
      refine lv_iload_n hx hb dX7_tellOf_16 rfl (lv_at hl 1 rfl) ?_
      refine lv_ishl hx hb dX7_tellOf_17 ?_
      refine lv_ior hx hb dX7_tellOf_18 ?_
      refine z_put C G clX7 0 rfl 12 (by decide) m_fl_RX7_59 rfl rfl rfl (Nat.le_of_ble_eq_true rfl) dX7_tellOf_19 (fun H locs G => ?_)
      have G : zS T A s.heap s [[zO7 rd rl rdd rg r0 r1 tp r2 r3 r4 r5 r6 r7 (r8 ||| (1 <<< (x &&& 31)))]] _ _ := G
      exact z_back hQz_ (z_vret C hr hlocks G (Nat.le_of_ble_eq_true rfl) (Nat.le_of_ble_eq_true rfl) dX7_tellOf_22 ⟨(r8 ||| (1 <<< (x &&& 31))), rfl, (by rw [if_pos (by omega)])⟩)
set_option maxHeartbeats 4000000 in
set_option maxRecDepth 100000 in
/-- c_f_readNumber -/
theorem c_f_readNumber (l : Launch) (T : zTy) (rd : Nat) (rl : Nat) (rdd : Nat) (rg : Nat) (tp : Nat) (r0 : Int32) (r1 : Int32) (r2 : Int32) (r3 : Int32) (r4 : Int32) (r5 : Int32) (r6 : Int32) (r7 : Int32) (r8 : Int32) (ft : Nat → Int32) (k : pT) (n : Nat) (a : pS) (x : Int32) (hA : zRc k n ft r0 r1 r2 r3 r4 r5 r6 r7 a) : zMi l T yX7_readNumber cX7_readNumber 3 (some .int) 4 0 0 [.ref rd, .int x] [[zO7 rd rl rdd rg r0 r1 tp r2 r3 r4 r5 r6 r7 r8], [zAr T 1 tp 600 ft]] (fun (r : Int32) bs => ∃ (u0 : Int32) (u1 : Int32) (u3 : Int32) (u4 : Int32) (u5 : Int32) (u6 : Int32) (u7 : Int32), bs = [[zO7 rd rl rdd rg u0 u1 tp r2 u3 u4 u5 u6 u7 r8], [zAr T 1 tp 600 ft]] ∧ (0 ≤ r.toInt ∧ r.toInt ≤ 1000) ∧ zRc k n ft u0 u1 r2 u3 u4 u5 u6 u7 (pNum k 0 x a).2 ∧ ((pNum k 0 x a).2.2.2.1.toInt = 0 → r = (pNum k 0 x a).1)) := by
  refine zMi_of (own := RX7) (by decide) rfl (Nat.le_of_ble_eq_true rfl) ?_
  intro p e s m args below meth c A ls C hr hlocks hnm hAe G hl
  refine zHide (fun Qz_ hQz_ => ?_)
  have hx := C.1
  have hb := C.2.1
  have hl : lv_has ls 3 [(0, .ref rd), (1, .int x)] := hl
  have hok := zRc_ok hA
  obtain ⟨hA1, hA6, hA7, hA8, hA9, hAI, hAE⟩ := id hA
  have hka := hok a.1 hA1.2.2.2
  refine lv_aload_n hx hb dX7_readNumber_0 rfl (lv_at hl 0 rfl) ?_
  refine z_get C G clX7 0 rfl 11 (by decide) m_fl_RX7_55 rfl dX7_readNumber_1 ?_
  refine lv_if_ne (tgt := 15) hx hb dX7_readNumber_4 (by decide) (fun c_1 => ?_) (fun c_1 => ?_)
  · have c_1n : ¬ r7.toInt = (0 : Int) := fun q => c_1 ((fa_eq _ _).mpr q)
    refine lv_aload_n hx hb dX7_readNumber_15 rfl (lv_at hl 0 rfl) ?_
    refine z_Vv (bc := [[zO7 rd rl rdd rg r0 r1 tp r2 r3 r4 r5 r6 r7 r8]]) (br := [[zAr T 1 tp 600 ft]]) (As := []) (rest := []) C G (c_f_breakHere l T rd rl rdd rg tp r0 r1 r2 r3 r4 r5 r6 r7 r8) (kV_RX7_105 C.2.2.2.2 (Nat.le_of_ble_eq_true rfl) (Nat.le_of_ble_eq_true rfl)) [0] [0] rfl rfl (ci := 7) (qc := (RX7, TX7, 13)) rfl rfl (List.mem_flatten.mpr ⟨_, List.mem_of_getElem? (i := 0) rfl, List.mem_cons_self⟩) rfl rfl hl.1 dX7_readNumber_16 (Nat.le_of_ble_eq_true rfl) (Nat.le_of_ble_eq_true rfl) (fun b1 H locs hw G => ?_)
    refine zEx3 hw ?_
    intro u0_2 u1_3 u7_4
    refine zCu4 ?_
    intro hbs9 h_5 h_6 h_7
    clear hw
    subst hbs9
    have G : zS T A s.heap s [[zAr T 1 tp 600 ft], [zO7 rd rl rdd rg u0_2 u1_3 tp r2 r3 r4 r5 r6 u7_4 r8]] _ _ := G
    refine lv_iconst (v := 0) hx hb dX7_readNumber_19 (by decide) ?_
    have G := G.sub (bs' := [[zO7 rd rl rdd rg u0_2 u1_3 tp r2 r3 r4 r5 r6 u7_4 r8], [zAr T 1 tp 600 ft]]) [1, 0] rfl
    exact z_back hQz_ (z_iret C hr hlocks G (Nat.le_of_ble_eq_true rfl) (Nat.le_of_ble_eq_true rfl) dX7_readNumber_20 ⟨u0_2, u1_3, r3, r4, r5, r6, u7_4, rfl, (by decide), (by rw [pNum_e (Or.inl (by rw [← hA6]; omega))]; exact zRc_brk hA h_5 h_6 h_7), (by rw [pNum_e (Or.inl (by rw [← hA6]; omega))]; intro q9; exact absurd q9 (pEnds_f hAI))⟩)
  · have c_1n : r7.toInt = (0 : Int) := (fa_eq _ _).mp c_1
    have hw : a.2.1.toInt = 0 := by rw [← hA6]; omega
    obtain ⟨t3, t4, t5, t6⟩ := hA7 hw
    have t4i : r4.toInt = (pCl k a.1 : Int) := by rw [t4]; exact nI_toInt (by omega)
    refine lv_aload_n hx hb dX7_readNumber_7 rfl (lv_at hl 0 rfl) ?_
    refine z_get C G clX7 0 rfl 8 (by decide) m_fl_RX7_74 rfl dX7_readNumber_8 ?_
    refine lv_iconst (v := 2) hx hb dX7_readNumber_11 (by decide) ?_
    refine lv_icmp_eq (tgt := 21) hx hb dX7_readNumber_12 (by decide) (fun c_9 => ?_) (fun c_9 => ?_)
    · have c_9n : r4.toInt = (2 : Int) := (fa_eq _ _).mp c_9
      have hcl : pCl k a.1 = 2 := by omega
      have htk := (pTk_1 hok hA1.2.2.2).mpr hcl
      have hv := t6 hcl
      have hnm := hka.2.2.2.2.1 hcl
      rw [← hv] at hnm
      refine lv_aload_n hx hb dX7_readNumber_21 rfl (lv_at hl 0 rfl) ?_
      refine z_get C G clX7 0 rfl 10 (by decide) m_fl_RX7_141 rfl dX7_readNumber_22 ?_
      refine lv_istore_n (lv' := [(2, .int r6), (0, .ref rd), (1, .int x)]) hx hb dX7_readNumber_25 rfl hl (by decide) (zLvf_h rfl) (fun ls hl => ?_)
      refine lv_iload_n hx hb dX7_readNumber_26 rfl (lv_at hl 0 rfl) ?_
      refine lv_iload_n hx hb dX7_readNumber_27 rfl (lv_at hl 2 rfl) ?_
      refine lv_icmp_le (tgt := 40) hx hb dX7_readNumber_28 (by decide) (fun c_10 => ?_) (fun c_10 => ?_)
      · have c_10n : r6.toInt ≤ x.toInt := (fa_le _ _).mp c_10
        refine lv_aload_n hx hb dX7_readNumber_40 rfl (lv_at hl 1 rfl) ?_
        refine z_Vv (bc := [[zO7 rd rl rdd rg r0 r1 tp r2 r3 r4 r5 r6 r7 r8], [zAr T 1 tp 600 ft]]) (br := []) (As := []) (rest := []) C G (c_f_nextToken l T rd rl rdd rg tp r0 r1 r2 r3 r4 r5 r6 r7 r8 ft (pEn k a.1) n k t3 hka.1.2.2 hA1.1 hA1.2.2.1 hA1.2.1) (kV_RX7_71 C.2.2.2.2 (Nat.le_of_ble_eq_true rfl) (Nat.le_of_ble_eq_true rfl)) [0, 1] [0, 0] rfl rfl (ci := 7) (qc := (RX7, TX7, 13)) rfl rfl (List.mem_flatten.mpr ⟨_, List.mem_of_getElem? (i := 0) rfl, List.mem_cons_self⟩) rfl rfl hl.1 dX7_readNumber_41 (Nat.le_of_ble_eq_true rfl) (Nat.le_of_ble_eq_true rfl) (fun b1 H locs hw G => ?_)
        refine zEx4 hw ?_
        intro u3_11 u4_12 u5_13 u6_14
        refine zCu2 ?_
        intro hbs9 h_15
        clear hw
        subst hbs9
        have G : zS T A s.heap s [[zO7 rd rl rdd rg r0 r1 tp r2 u3_11 u4_12 u5_13 u6_14 r7 r8], [zAr T 1 tp 600 ft]] _ _ := G
        refine lv_iload_n hx hb dX7_readNumber_44 rfl (lv_at hl 0 rfl) ?_
        exact z_back hQz_ (z_iret C hr hlocks G (Nat.le_of_ble_eq_true rfl) (Nat.le_of_ble_eq_true rfl) dX7_readNumber_45 ⟨r0, r1, u3_11, u4_12, u5_13, u6_14, r7, rfl, ⟨hnm.1, by omega⟩, (by rw [pNum_i hw htk (by rw [← hv]; exact ⟨hnm.1, by omega⟩)]; exact zRc_adv hA hw h_15), (by rw [pNum_i hw htk (by rw [← hv]; exact ⟨hnm.1, by omega⟩)]; intro _; exact hv)⟩)
      · have c_10n : ¬ r6.toInt ≤ x.toInt := fun q => c_10 ((fa_le _ _).mpr q)
        refine lv_aload_n hx hb dX7_readNumber_31 rfl (lv_at hl 1 rfl) ?_
        refine lv_iconst (v := 2) hx hb dX7_readNumber_32 (by decide) ?_
        refine lv_aload_n hx hb dX7_readNumber_33 rfl (lv_at hl 1 rfl) ?_
        refine z_get C G clX7 0 rfl 9 (by decide) m_fl_RX7_84 rfl dX7_readNumber_34 ?_
        refine z_Vv (bc := [[zO7 rd rl rdd rg r0 r1 tp r2 r3 r4 r5 r6 r7 r8]]) (br := [[zAr T 1 tp 600 ft]]) (As := [.int 2, .int r5]) (rest := []) C G (c_f_note l T rd rl rdd rg tp r0 r1 r2 r3 r4 r5 r6 r7 r8 2 r5) (kV_RX7_90 C.2.2.2.2 (Nat.le_of_ble_eq_true rfl) (Nat.le_of_ble_eq_true rfl)) [0] [0] rfl rfl (ci := 7) (qc := (RX7, TX7, 13)) rfl rfl (List.mem_flatten.mpr ⟨_, List.mem_of_getElem? (i := 0) rfl, List.mem_cons_self⟩) rfl rfl hl.1 dX7_readNumber_37 (Nat.le_of_ble_eq_true rfl) (Nat.le_of_ble_eq_true rfl) (fun b1 H locs hw G => ?_)
        refine zEx2 hw ?_
        intro u0_17 u1_18
        refine zCu3 ?_
        intro hbs9 h_19 h_20
        clear hw
        subst hbs9
        have G : zS T A s.heap s [[zAr T 1 tp 600 ft], [zO7 rd rl rdd rg u0_17 u1_18 tp r2 r3 r4 r5 r6 r7 r8]] _ _ := G
        refine lv_aload_n hx hb dX7_readNumber_40 rfl (lv_at hl 1 rfl) ?_
        refine z_Vv (bc := [[zO7 rd rl rdd rg u0_17 u1_18 tp r2 r3 r4 r5 r6 r7 r8], [zAr T 1 tp 600 ft]]) (br := []) (As := []) (rest := []) C G (c_f_nextToken l T rd rl rdd rg tp u0_17 u1_18 r2 r3 r4 r5 r6 r7 r8 ft (pEn k a.1) n k t3 hka.1.2.2 hA1.1 hA1.2.2.1 hA1.2.1) (kV_RX7_71 C.2.2.2.2 (Nat.le_of_ble_eq_true rfl) (Nat.le_of_ble_eq_true rfl)) [1, 0] [0, 0] rfl rfl (ci := 7) (qc := (RX7, TX7, 13)) rfl rfl (List.mem_flatten.mpr ⟨_, List.mem_of_getElem? (i := 0) rfl, List.mem_cons_self⟩) rfl rfl hl.1 dX7_readNumber_41 (Nat.le_of_ble_eq_true rfl) (Nat.le_of_ble_eq_true rfl) (fun b1 H locs hw G => ?_)
        refine zEx4 hw ?_
        intro u3_22 u4_23 u5_24 u6_25
        refine zCu2 ?_
        intro hbs9 h_26
        clear hw
        subst hbs9
        have G : zS T A s.heap s [[zO7 rd rl rdd rg u0_17 u1_18 tp r2 u3_22 u4_23 u5_24 u6_25 r7 r8], [zAr T 1 tp 600 ft]] _ _ := G
        refine lv_iload_n hx hb dX7_readNumber_44 rfl (lv_at hl 0 rfl) ?_
        exact z_back hQz_ (z_iret C hr hlocks G (Nat.le_of_ble_eq_true rfl) (Nat.le_of_ble_eq_true rfl) dX7_readNumber_45 ⟨u0_17, u1_18, u3_22, u4_23, u5_24, u6_25, r7, rfl, ⟨hnm.1, by omega⟩, (by rw [pNum_o hw htk (by rw [← hv]; exact fun q9 => by omega)]; exact zRc_na hA hw (by omega) h_19 h_20 h_26), (by rw [pNum_o hw htk (by rw [← hv]; exact fun q9 => by omega)]; intro q9; exact absurd q9 (pAlso_f (by decide) hw))⟩)
    · have c_9n : ¬ r4.toInt = (2 : Int) := fun q => c_9 ((fa_eq _ _).mpr q)
      refine lv_aload_n hx hb dX7_readNumber_15 rfl (lv_at hl 0 rfl) ?_
      refine z_Vv (bc := [[zO7 rd rl rdd rg r0 r1 tp r2 r3 r4 r5 r6 r7 r8]]) (br := [[zAr T 1 tp 600 ft]]) (As := []) (rest := []) C G (c_f_breakHere l T rd rl rdd rg tp r0 r1 r2 r3 r4 r5 r6 r7 r8) (kV_RX7_105 C.2.2.2.2 (Nat.le_of_ble_eq_true rfl) (Nat.le_of_ble_eq_true rfl)) [0] [0] rfl rfl (ci := 7) (qc := (RX7, TX7, 13)) rfl rfl (List.mem_flatten.mpr ⟨_, List.mem_of_getElem? (i := 0) rfl, List.mem_cons_self⟩) rfl rfl hl.1 dX7_readNumber_16 (Nat.le_of_ble_eq_true rfl) (Nat.le_of_ble_eq_true rfl) (fun b1 H locs hw G => ?_)
      refine zEx3 hw ?_
      intro u0_28 u1_29 u7_30
      refine zCu4 ?_
      intro hbs9 h_31 h_32 h_33
      clear hw
      subst hbs9
      have G : zS T A s.heap s [[zAr T 1 tp 600 ft], [zO7 rd rl rdd rg u0_28 u1_29 tp r2 r3 r4 r5 r6 u7_30 r8]] _ _ := G
      refine lv_iconst (v := 0) hx hb dX7_readNumber_19 (by decide) ?_
      have G := G.sub (bs' := [[zO7 rd rl rdd rg u0_28 u1_29 tp r2 r3 r4 r5 r6 u7_30 r8], [zAr T 1 tp 600 ft]]) [1, 0] rfl
      exact z_back hQz_ (z_iret C hr hlocks G (Nat.le_of_ble_eq_true rfl) (Nat.le_of_ble_eq_true rfl) dX7_readNumber_20 ⟨u0_28, u1_29, r3, r4, r5, r6, u7_30, rfl, (by decide), (by rw [pNum_e (Or.inr (fun q9 => by have := (pTk_1 hok hA1.2.2.2).mp q9; omega))]; exact zRc_brk hA h_31 h_32 h_33), (by rw [pNum_e (Or.inr (fun q9 => by have := (pTk_1 hok hA1.2.2.2).mp q9; omega))]; intro q9; exact absurd q9 (pEnds_f hAI))⟩)
set_option maxHeartbeats 4000000 in
set_option maxRecDepth 100000 in
/-- c_f_readDeed -/
theorem c_f_readDeed (l : Launch) (T : zTy) (rd : Nat) (rl : Nat) (rdd : Nat) (rg : Nat) (tp : Nat) (r0 : Int32) (r1 : Int32) (r2 : Int32) (r3 : Int32) (r4 : Int32) (r5 : Int32) (r6 : Int32) (r7 : Int32) (r8 : Int32) (ft : Nat → Int32) (dd : Int32) (d1 : Nat → Int32) (d2 : Nat → Int32) (d3 : Nat → Int32) (wd : va_W) (k : pT) (n : Nat) (a : pS) (f : Nat → Int32) (d : Nat) (x : Int32) (hA : zRc k n ft r0 r1 r2 r3 r4 r5 r6 r7 a) (hw : a.2.1.toInt = 0) (hcl : pCl k a.1 = 1) (hd : bDay T rdd dd d1 d2 d3 wd) (hC : zDc dd d1 d2 d3 a f) (hd5 : 5 ≤ d ∧ d ≤ 10) (hxd : x = nI d - 5) (hxi : x.toInt = (d : Int) - 5) : zMv l T yX7_readDeed cX7_readDeed 4 5 0 0 [.ref rd, .int x] [[zO7 rd rl rdd rg r0 r1 tp r2 r3 r4 r5 r6 r7 r8], [zAr T 1 tp 600 ft], wd] (fun bs => ∃ (u0 : Int32) (u1 : Int32) (u3 : Int32) (u4 : Int32) (u5 : Int32) (u6 : Int32) (u7 : Int32) (wd2 : va_W) (dd2 : Int32) (b1 : Nat → Int32) (b2 : Nat → Int32) (b3 : Nat → Int32), bs = [[zO7 rd rl rdd rg u0 u1 tp r2 u3 u4 u5 u6 u7 r8], [zAr T 1 tp 600 ft], wd2] ∧ bDay T rdd dd2 b1 b2 b3 wd2 ∧ zRc k n ft u0 u1 r2 u3 u4 u5 u6 u7 (pDeed k d (nI (pWh k a.1)) (pAdv k a) f).1 ∧ zDc dd2 b1 b2 b3 (pDeed k d (nI (pWh k a.1)) (pAdv k a) f).1 (pDeed k d (nI (pWh k a.1)) (pAdv k a) f).2) := by
  refine zMv_of (own := RX7) (by decide) rfl (Nat.le_of_ble_eq_true rfl) ?_
  intro p e s m args below meth c A ls C hr hlocks hnm hAe G hl
  refine zHide (fun Qz_ hQz_ => ?_)
  have hx := C.1
  have hb := C.2.1
  have hl : lv_has ls 4 [(0, .ref rd), (1, .int x)] := hl
  have hok := zRc_ok hA
  obtain ⟨hA1, hA6, hA7, hA8, hA9, hAI, hAE⟩ := id hA
  have hka := hok a.1 hA1.2.2.2
  obtain ⟨t3, t4, t5, t6⟩ := hA7 hw
  have t4i : r4.toInt = (pCl k a.1 : Int) := by rw [t4]; exact nI_toInt (by omega)
  have hcn : ¬ pCl k a.1 = 0 := by omega
  have hdd := fun q => (hC q).1
  refine lv_aload_n hx hb dX7_readDeed_0 rfl (lv_at hl 0 rfl) ?_
  refine z_get C G clX7 0 rfl 1 (by decide) m_fl_RX7_21 rfl dX7_readDeed_1 ?_
  refine zEx3 hd ?_
  intro a1_1 a2_2 a3_3 hbs9
  clear hd
  subst hbs9
  have G : zS T A s.heap s [[zO7 rd rl rdd rg r0 r1 tp r2 r3 r4 r5 r6 r7 r8], [zAr T 1 tp 600 ft], [(rdd, .inr (2, [.int dd, .ref a1_1, .ref a2_2, .ref a3_3]))], [zAr T 0 a1_1 40 d1], [zAr T 0 a2_2 40 d2], [zAr T 0 a3_3 40 d3]] _ _ := G.re rfl
  refine z_get C G clX2 2 rfl 0 (by decide) m_fl_RX7_65 rfl dX7_readDeed_4 ?_
  refine lv_bipush (v := 40) hx hb dX7_readDeed_7 (by decide) ?_
  refine lv_icmp_lt (tgt := 21) hx hb dX7_readDeed_9 (by decide) (fun c_4 => ?_) (fun c_4 => ?_)
  · have c_4n : dd.toInt < (40 : Int) := (fa_lt _ _).mp c_4
    refine lv_aload_n hx hb dX7_readDeed_21 rfl (lv_at hl 0 rfl) ?_
    refine z_Vv (bc := [[zO7 rd rl rdd rg r0 r1 tp r2 r3 r4 r5 r6 r7 r8], [zAr T 1 tp 600 ft]]) (br := [[(rdd, .inr (2, [.int dd, .ref a1_1, .ref a2_2, .ref a3_3]))], [zAr T 0 a1_1 40 d1], [zAr T 0 a2_2 40 d2], [zAr T 0 a3_3 40 d3]]) (As := []) (rest := []) C G (c_f_nextToken l T rd rl rdd rg tp r0 r1 r2 r3 r4 r5 r6 r7 r8 ft (pEn k a.1) n k t3 hka.1.2.2 hA1.1 hA1.2.2.1 hA1.2.1) (kV_RX7_71 C.2.2.2.2 (Nat.le_of_ble_eq_true rfl) (Nat.le_of_ble_eq_true rfl)) [0, 1] [0, 0] rfl rfl (ci := 7) (qc := (RX7, TX7, 13)) rfl rfl (List.mem_flatten.mpr ⟨_, List.mem_of_getElem? (i := 0) rfl, List.mem_cons_self⟩) rfl rfl hl.1 dX7_readDeed_22 (Nat.le_of_ble_eq_true rfl) (Nat.le_of_ble_eq_true rfl) (fun b1 H locs hw G => ?_)
    refine zEx4 hw ?_
    intro u3_5 u4_6 u5_7 u6_8
    refine zCu2 ?_
    intro hbs9 h_9
    clear hw
    subst hbs9
    have G : zS T A s.heap s [[(rdd, .inr (2, [.int dd, .ref a1_1, .ref a2_2, .ref a3_3]))], [zAr T 0 a1_1 40 d1], [zAr T 0 a2_2 40 d2], [zAr T 0 a3_3 40 d3], [zO7 rd rl rdd rg r0 r1 tp r2 u3_5 u4_6 u5_7 u6_8 r7 r8], [zAr T 1 tp 600 ft]] _ _ := G
    have hB := zRc_d0 (m := 40) hA hw hdd (by omega) h_9
    obtain ⟨b, hbq⟩ : ∃ b, b = pDB 40 (nI (pWh k a.1)) f (pAdv k a) := ⟨_, rfl⟩
    rw [← hbq] at hB
    refine lv_aload_n hx hb dX7_readDeed_25 rfl (lv_at hl 0 rfl) ?_
    refine lv_bipush (v := 6) hx hb dX7_readDeed_26 (by decide) ?_
    refine z_Vi (bc := [[zO7 rd rl rdd rg r0 r1 tp r2 u3_5 u4_6 u5_7 u6_8 r7 r8], [zAr T 1 tp 600 ft]]) (br := [[(rdd, .inr (2, [.int dd, .ref a1_1, .ref a2_2, .ref a3_3]))], [zAr T 0 a1_1 40 d1], [zAr T 0 a2_2 40 d2], [zAr T 0 a3_3 40 d3]]) (As := [.int 6]) (rest := []) C G (c_f_readNumber l T rd rl rdd rg tp r0 r1 r2 u3_5 u4_6 u5_7 u6_8 r7 r8 ft k n b 6 hB) (kV_RX7_120 C.2.2.2.2 (Nat.le_of_ble_eq_true rfl) (Nat.le_of_ble_eq_true rfl)) [4, 5] [4, 0] rfl rfl (ci := 7) (qc := (RX7, TX7, 13)) rfl rfl (List.mem_flatten.mpr ⟨_, List.mem_of_getElem? (i := 0) rfl, List.mem_cons_self⟩) rfl rfl hl.1 dX7_readDeed_28 (Nat.le_of_ble_eq_true rfl) (Nat.le_of_ble_eq_true rfl) (fun r_21 b1 H locs hw G => ?_)
    refine zEx7 hw ?_
    intro u0_11 u1_12 u3_13 u4_14 u5_15 u6_16 u7_17
    refine zCu4 ?_
    intro hbs9 h_18 h_19 h_20
    clear hw
    subst hbs9
    have G : zS T A s.heap s [[(rdd, .inr (2, [.int dd, .ref a1_1, .ref a2_2, .ref a3_3]))], [zAr T 0 a1_1 40 d1], [zAr T 0 a2_2 40 d2], [zAr T 0 a3_3 40 d3], [zO7 rd rl rdd rg u0_11 u1_12 tp r2 u3_13 u4_14 u5_15 u6_16 u7_17 r8], [zAr T 1 tp 600 ft]] _ _ := G
    refine lv_istore_n (lv' := [(2, .int r_21), (0, .ref rd), (1, .int x)]) hx hb dX7_readDeed_31 rfl hl (by decide) (zLvf_h rfl) (fun ls hl => ?_)
    refine lv_iload_n hx hb dX7_readDeed_32 rfl (lv_at hl 2 rfl) ?_
    refine lv_iconst (v := 4) hx hb dX7_readDeed_33 (by decide) ?_
    refine lv_icmp_eq (tgt := 42) hx hb dX7_readDeed_34 (by decide) (fun c_22 => ?_) (fun c_22 => ?_)
    · have c_22n : x.toInt = (4 : Int) := (fa_eq _ _).mp c_22
      refine lv_aload_n hx hb dX7_readDeed_42 rfl (lv_at hl 1 rfl) ?_
      refine lv_iconst (v := 3) hx hb dX7_readDeed_43 (by decide) ?_
      refine z_Vi (bc := [[zO7 rd rl rdd rg u0_11 u1_12 tp r2 u3_13 u4_14 u5_15 u6_16 u7_17 r8], [zAr T 1 tp 600 ft]]) (br := [[(rdd, .inr (2, [.int dd, .ref a1_1, .ref a2_2, .ref a3_3]))], [zAr T 0 a1_1 40 d1], [zAr T 0 a2_2 40 d2], [zAr T 0 a3_3 40 d3]]) (As := [.int 3]) (rest := []) C G (c_f_readNumber l T rd rl rdd rg tp u0_11 u1_12 r2 u3_13 u4_14 u5_15 u6_16 u7_17 r8 ft k n ((pNum k 0 6 b).2) 3 h_19) (kV_RX7_120 C.2.2.2.2 (Nat.le_of_ble_eq_true rfl) (Nat.le_of_ble_eq_true rfl)) [4, 5] [4, 0] rfl rfl (ci := 7) (qc := (RX7, TX7, 13)) rfl rfl (List.mem_flatten.mpr ⟨_, List.mem_of_getElem? (i := 0) rfl, List.mem_cons_self⟩) rfl rfl hl.1 dX7_readDeed_44 (Nat.le_of_ble_eq_true rfl) (Nat.le_of_ble_eq_true rfl) (fun r_33 b1 H locs hw G => ?_)
      refine zEx7 hw ?_
      intro u0_23 u1_24 u3_25 u4_26 u5_27 u6_28 u7_29
      refine zCu4 ?_
      intro hbs9 h_30 h_31 h_32
      clear hw
      subst hbs9
      have G : zS T A s.heap s [[(rdd, .inr (2, [.int dd, .ref a1_1, .ref a2_2, .ref a3_3]))], [zAr T 0 a1_1 40 d1], [zAr T 0 a2_2 40 d2], [zAr T 0 a3_3 40 d3], [zO7 rd rl rdd rg u0_23 u1_24 tp r2 u3_25 u4_26 u5_27 u6_28 u7_29 r8], [zAr T 1 tp 600 ft]] _ _ := G
      refine lv_goto (tgt := 51) hx hb dX7_readDeed_47 (by decide) ?_
      refine lv_istore_n (lv' := [(3, .int r_33), (2, .int r_21), (0, .ref rd), (1, .int x)]) hx hb dX7_readDeed_51 rfl hl (by decide) (zLvf_h rfl) (fun ls hl => ?_)
      refine lv_aload_n hx hb dX7_readDeed_52 rfl (lv_at hl 2 rfl) ?_
      refine z_get C G clX7 4 rfl 1 (by decide) m_fl_RX7_21 rfl dX7_readDeed_53 ?_
      refine lv_iload_n hx hb dX7_readDeed_56 rfl (lv_at hl 3 rfl) ?_
      refine lv_iload_n hx hb dX7_readDeed_57 rfl (lv_at hl 1 rfl) ?_
      refine lv_iload_n hx hb dX7_readDeed_58 rfl (lv_at hl 0 rfl) ?_
      have hw_34 : bDay T rdd dd d1 d2 d3 [(rdd, .inr (2, [.int dd, .ref a1_1, .ref a2_2, .ref a3_3])), zAr T 0 a1_1 40 d1, zAr T 0 a2_2 40 d2, zAr T 0 a3_3 40 d3] := ⟨a1_1, a2_2, a3_3, rfl⟩
      have G : zS T A s.heap s [[(rdd, .inr (2, [.int dd, .ref a1_1, .ref a2_2, .ref a3_3])), zAr T 0 a1_1 40 d1, zAr T 0 a2_2 40 d2, zAr T 0 a3_3 40 d3], [zO7 rd rl rdd rg u0_23 u1_24 tp r2 u3_25 u4_26 u5_27 u6_28 u7_29 r8], [zAr T 1 tp 600 ft]] _ _ := G.re rfl
      refine z_Vv (bc := [[(rdd, .inr (2, [.int dd, .ref a1_1, .ref a2_2, .ref a3_3])), zAr T 0 a1_1 40 d1, zAr T 0 a2_2 40 d2, zAr T 0 a3_3 40 d3]]) (br := [[zO7 rd rl rdd rg u0_23 u1_24 tp r2 u3_25 u4_26 u5_27 u6_28 u7_29 r8], [zAr T 1 tp 600 ft]]) (As := [.int x, .int r_21, .int r_33]) (rest := []) C G (c_Day_add l T rdd dd d1 d2 d3 ([(rdd, .inr (2, [.int dd, .ref a1_1, .ref a2_2, .ref a3_3])), zAr T 0 a1_1 40 d1, zAr T 0 a2_2 40 d2, zAr T 0 a3_3 40 d3]) x r_21 r_33 hw_34) (kV_RX7_135 C.2.2.2.2 (Nat.le_of_ble_eq_true rfl) (Nat.le_of_ble_eq_true rfl)) [0] [0] rfl rfl (ci := 2) (qc := (RX2, TX2, 4)) rfl rfl (List.mem_flatten.mpr ⟨_, List.mem_of_getElem? (i := 0) rfl, (bDay_mem hw_34).choose_spec⟩) rfl rfl hl.1 dX7_readDeed_59 (Nat.le_of_ble_eq_true rfl) (Nat.le_of_ble_eq_true rfl) (fun b1 H locs hw G => ?_)
      refine zEx5 hw ?_
      intro w2_35 u_36 g1_37 g2_38 g3_39
      refine zCu6 ?_
      intro hbs9 h_40 h_41 h_42 h_43 h_44
      clear hw
      subst hbs9
      have G : zS T A s.heap s [[zO7 rd rl rdd rg u0_23 u1_24 tp r2 u3_25 u4_26 u5_27 u6_28 u7_29 r8], [zAr T 1 tp 600 ft], w2_35] _ _ := G
      exact z_back hQz_ (z_vret C hr hlocks G (Nat.le_of_ble_eq_true rfl) (Nat.le_of_ble_eq_true rfl) dX7_readDeed_62 ⟨u0_23, u1_24, u3_25, u4_26, u5_27, u6_28, u7_29, w2_35, u_36, g1_37, g2_38, g3_39, rfl, h_40, (by rw [pDeed_1 hbq, pDY_hi (by omega)]; exact h_31), (by subst hbq; rw [h_41, h_42, h_43, h_44]; exact zDc_step (a := pAdv k a) hC hw hd5 hxd hB.2.2.2.2.2.1 h_19.2.2.2.2.2.1 h_20 (by rw [pDY_hi (by omega)]; exact h_32))⟩)
    · have c_22n : ¬ x.toInt = (4 : Int) := fun q => c_22 ((fa_eq _ _).mpr q)
      refine lv_iload_n hx hb dX7_readDeed_37 rfl (lv_at hl 2 rfl) ?_
      refine lv_iconst (v := 5) hx hb dX7_readDeed_38 (by decide) ?_
      refine lv_icmp_ne (tgt := 50) hx hb dX7_readDeed_39 (by decide) (fun c_46 => ?_) (fun c_46 => ?_)
      · have c_46n : ¬ x.toInt = (5 : Int) := fun q => c_46 ((fa_eq _ _).mpr q)
        refine lv_iconst (v := (-1)) hx hb dX7_readDeed_50 (by decide) ?_
        refine lv_istore_n (lv' := [(3, .int (-1)), (2, .int r_21), (0, .ref rd), (1, .int x)]) hx hb dX7_readDeed_51 rfl hl (by decide) (zLvf_h rfl) (fun ls hl => ?_)
        refine lv_aload_n hx hb dX7_readDeed_52 rfl (lv_at hl 2 rfl) ?_
        refine z_get C G clX7 4 rfl 1 (by decide) m_fl_RX7_21 rfl dX7_readDeed_53 ?_
        refine lv_iload_n hx hb dX7_readDeed_56 rfl (lv_at hl 3 rfl) ?_
        refine lv_iload_n hx hb dX7_readDeed_57 rfl (lv_at hl 1 rfl) ?_
        refine lv_iload_n hx hb dX7_readDeed_58 rfl (lv_at hl 0 rfl) ?_
        have hw_47 : bDay T rdd dd d1 d2 d3 [(rdd, .inr (2, [.int dd, .ref a1_1, .ref a2_2, .ref a3_3])), zAr T 0 a1_1 40 d1, zAr T 0 a2_2 40 d2, zAr T 0 a3_3 40 d3] := ⟨a1_1, a2_2, a3_3, rfl⟩
        have G : zS T A s.heap s [[(rdd, .inr (2, [.int dd, .ref a1_1, .ref a2_2, .ref a3_3])), zAr T 0 a1_1 40 d1, zAr T 0 a2_2 40 d2, zAr T 0 a3_3 40 d3], [zO7 rd rl rdd rg u0_11 u1_12 tp r2 u3_13 u4_14 u5_15 u6_16 u7_17 r8], [zAr T 1 tp 600 ft]] _ _ := G.re rfl
        refine z_Vv (bc := [[(rdd, .inr (2, [.int dd, .ref a1_1, .ref a2_2, .ref a3_3])), zAr T 0 a1_1 40 d1, zAr T 0 a2_2 40 d2, zAr T 0 a3_3 40 d3]]) (br := [[zO7 rd rl rdd rg u0_11 u1_12 tp r2 u3_13 u4_14 u5_15 u6_16 u7_17 r8], [zAr T 1 tp 600 ft]]) (As := [.int x, .int r_21, .int (-1)]) (rest := []) C G (c_Day_add l T rdd dd d1 d2 d3 ([(rdd, .inr (2, [.int dd, .ref a1_1, .ref a2_2, .ref a3_3])), zAr T 0 a1_1 40 d1, zAr T 0 a2_2 40 d2, zAr T 0 a3_3 40 d3]) x r_21 (-1) hw_47) (kV_RX7_135 C.2.2.2.2 (Nat.le_of_ble_eq_true rfl) (Nat.le_of_ble_eq_true rfl)) [0] [0] rfl rfl (ci := 2) (qc := (RX2, TX2, 4)) rfl rfl (List.mem_flatten.mpr ⟨_, List.mem_of_getElem? (i := 0) rfl, (bDay_mem hw_47).choose_spec⟩) rfl rfl hl.1 dX7_readDeed_59 (Nat.le_of_ble_eq_true rfl) (Nat.le_of_ble_eq_true rfl) (fun b1 H locs hw G => ?_)
        refine zEx5 hw ?_
        intro w2_48 u_49 g1_50 g2_51 g3_52
        refine zCu6 ?_
        intro hbs9 h_53 h_54 h_55 h_56 h_57
        clear hw
        subst hbs9
        have G : zS T A s.heap s [[zO7 rd rl rdd rg u0_11 u1_12 tp r2 u3_13 u4_14 u5_15 u6_16 u7_17 r8], [zAr T 1 tp 600 ft], w2_48] _ _ := G
        exact z_back hQz_ (z_vret C hr hlocks G (Nat.le_of_ble_eq_true rfl) (Nat.le_of_ble_eq_true rfl) dX7_readDeed_62 ⟨u0_11, u1_12, u3_13, u4_14, u5_15, u6_16, u7_17, w2_48, u_49, g1_50, g2_51, g3_52, rfl, h_53, (by rw [pDeed_1 hbq, pDY_lo (by omega)]; exact h_19), (by subst hbq; rw [h_54, h_55, h_56, h_57]; exact zDc_step (a := pAdv k a) hC hw hd5 hxd hB.2.2.2.2.2.1 h_19.2.2.2.2.2.1 h_20 (by rw [pDY_lo (by omega)]; exact fun _ => rfl))⟩)
      · have c_46n : x.toInt = (5 : Int) := (fa_eq _ _).mp c_46
        refine lv_aload_n hx hb dX7_readDeed_42 rfl (lv_at hl 1 rfl) ?_
        refine lv_iconst (v := 3) hx hb dX7_readDeed_43 (by decide) ?_
        refine z_Vi (bc := [[zO7 rd rl rdd rg u0_11 u1_12 tp r2 u3_13 u4_14 u5_15 u6_16 u7_17 r8], [zAr T 1 tp 600 ft]]) (br := [[(rdd, .inr (2, [.int dd, .ref a1_1, .ref a2_2, .ref a3_3]))], [zAr T 0 a1_1 40 d1], [zAr T 0 a2_2 40 d2], [zAr T 0 a3_3 40 d3]]) (As := [.int 3]) (rest := []) C G (c_f_readNumber l T rd rl rdd rg tp u0_11 u1_12 r2 u3_13 u4_14 u5_15 u6_16 u7_17 r8 ft k n ((pNum k 0 6 b).2) 3 h_19) (kV_RX7_120 C.2.2.2.2 (Nat.le_of_ble_eq_true rfl) (Nat.le_of_ble_eq_true rfl)) [4, 5] [4, 0] rfl rfl (ci := 7) (qc := (RX7, TX7, 13)) rfl rfl (List.mem_flatten.mpr ⟨_, List.mem_of_getElem? (i := 0) rfl, List.mem_cons_self⟩) rfl rfl hl.1 dX7_readDeed_44 (Nat.le_of_ble_eq_true rfl) (Nat.le_of_ble_eq_true rfl) (fun r_69 b1 H locs hw G => ?_)
        refine zEx7 hw ?_
        intro u0_59 u1_60 u3_61 u4_62 u5_63 u6_64 u7_65
        refine zCu4 ?_
        intro hbs9 h_66 h_67 h_68
        clear hw
        subst hbs9
        have G : zS T A s.heap s [[(rdd, .inr (2, [.int dd, .ref a1_1, .ref a2_2, .ref a3_3]))], [zAr T 0 a1_1 40 d1], [zAr T 0 a2_2 40 d2], [zAr T 0 a3_3 40 d3], [zO7 rd rl rdd rg u0_59 u1_60 tp r2 u3_61 u4_62 u5_63 u6_64 u7_65 r8], [zAr T 1 tp 600 ft]] _ _ := G
        refine lv_goto (tgt := 51) hx hb dX7_readDeed_47 (by decide) ?_
        refine lv_istore_n (lv' := [(3, .int r_69), (2, .int r_21), (0, .ref rd), (1, .int x)]) hx hb dX7_readDeed_51 rfl hl (by decide) (zLvf_h rfl) (fun ls hl => ?_)
        refine lv_aload_n hx hb dX7_readDeed_52 rfl (lv_at hl 2 rfl) ?_
        refine z_get C G clX7 4 rfl 1 (by decide) m_fl_RX7_21 rfl dX7_readDeed_53 ?_
        refine lv_iload_n hx hb dX7_readDeed_56 rfl (lv_at hl 3 rfl) ?_
        refine lv_iload_n hx hb dX7_readDeed_57 rfl (lv_at hl 1 rfl) ?_
        refine lv_iload_n hx hb dX7_readDeed_58 rfl (lv_at hl 0 rfl) ?_
        have hw_70 : bDay T rdd dd d1 d2 d3 [(rdd, .inr (2, [.int dd, .ref a1_1, .ref a2_2, .ref a3_3])), zAr T 0 a1_1 40 d1, zAr T 0 a2_2 40 d2, zAr T 0 a3_3 40 d3] := ⟨a1_1, a2_2, a3_3, rfl⟩
        have G : zS T A s.heap s [[(rdd, .inr (2, [.int dd, .ref a1_1, .ref a2_2, .ref a3_3])), zAr T 0 a1_1 40 d1, zAr T 0 a2_2 40 d2, zAr T 0 a3_3 40 d3], [zO7 rd rl rdd rg u0_59 u1_60 tp r2 u3_61 u4_62 u5_63 u6_64 u7_65 r8], [zAr T 1 tp 600 ft]] _ _ := G.re rfl
        refine z_Vv (bc := [[(rdd, .inr (2, [.int dd, .ref a1_1, .ref a2_2, .ref a3_3])), zAr T 0 a1_1 40 d1, zAr T 0 a2_2 40 d2, zAr T 0 a3_3 40 d3]]) (br := [[zO7 rd rl rdd rg u0_59 u1_60 tp r2 u3_61 u4_62 u5_63 u6_64 u7_65 r8], [zAr T 1 tp 600 ft]]) (As := [.int x, .int r_21, .int r_69]) (rest := []) C G (c_Day_add l T rdd dd d1 d2 d3 ([(rdd, .inr (2, [.int dd, .ref a1_1, .ref a2_2, .ref a3_3])), zAr T 0 a1_1 40 d1, zAr T 0 a2_2 40 d2, zAr T 0 a3_3 40 d3]) x r_21 r_69 hw_70) (kV_RX7_135 C.2.2.2.2 (Nat.le_of_ble_eq_true rfl) (Nat.le_of_ble_eq_true rfl)) [0] [0] rfl rfl (ci := 2) (qc := (RX2, TX2, 4)) rfl rfl (List.mem_flatten.mpr ⟨_, List.mem_of_getElem? (i := 0) rfl, (bDay_mem hw_70).choose_spec⟩) rfl rfl hl.1 dX7_readDeed_59 (Nat.le_of_ble_eq_true rfl) (Nat.le_of_ble_eq_true rfl) (fun b1 H locs hw G => ?_)
        refine zEx5 hw ?_
        intro w2_71 u_72 g1_73 g2_74 g3_75
        refine zCu6 ?_
        intro hbs9 h_76 h_77 h_78 h_79 h_80
        clear hw
        subst hbs9
        have G : zS T A s.heap s [[zO7 rd rl rdd rg u0_59 u1_60 tp r2 u3_61 u4_62 u5_63 u6_64 u7_65 r8], [zAr T 1 tp 600 ft], w2_71] _ _ := G
        exact z_back hQz_ (z_vret C hr hlocks G (Nat.le_of_ble_eq_true rfl) (Nat.le_of_ble_eq_true rfl) dX7_readDeed_62 ⟨u0_59, u1_60, u3_61, u4_62, u5_63, u6_64, u7_65, w2_71, u_72, g1_73, g2_74, g3_75, rfl, h_76, (by rw [pDeed_1 hbq, pDY_hi (by omega)]; exact h_67), (by subst hbq; rw [h_77, h_78, h_79, h_80]; exact zDc_step (a := pAdv k a) hC hw hd5 hxd hB.2.2.2.2.2.1 h_19.2.2.2.2.2.1 h_20 (by rw [pDY_hi (by omega)]; exact h_68))⟩)
  · have c_4n : ¬ dd.toInt < (40 : Int) := fun q => c_4 ((fa_lt _ _).mpr q)
    refine lv_aload_n hx hb dX7_readDeed_12 rfl (lv_at hl 0 rfl) ?_
    refine lv_iconst (v := 3) hx hb dX7_readDeed_13 (by decide) ?_
    refine lv_aload_n hx hb dX7_readDeed_14 rfl (lv_at hl 0 rfl) ?_
    refine z_get C G clX7 0 rfl 9 (by decide) m_fl_RX7_84 rfl dX7_readDeed_15 ?_
    refine z_Vv (bc := [[zO7 rd rl rdd rg r0 r1 tp r2 r3 r4 r5 r6 r7 r8]]) (br := [[zAr T 1 tp 600 ft], [(rdd, .inr (2, [.int dd, .ref a1_1, .ref a2_2, .ref a3_3]))], [zAr T 0 a1_1 40 d1], [zAr T 0 a2_2 40 d2], [zAr T 0 a3_3 40 d3]]) (As := [.int 3, .int r5]) (rest := []) C G (c_f_note l T rd rl rdd rg tp r0 r1 r2 r3 r4 r5 r6 r7 r8 3 r5) (kV_RX7_90 C.2.2.2.2 (Nat.le_of_ble_eq_true rfl) (Nat.le_of_ble_eq_true rfl)) [0] [0] rfl rfl (ci := 7) (qc := (RX7, TX7, 13)) rfl rfl (List.mem_flatten.mpr ⟨_, List.mem_of_getElem? (i := 0) rfl, List.mem_cons_self⟩) rfl rfl hl.1 dX7_readDeed_18 (Nat.le_of_ble_eq_true rfl) (Nat.le_of_ble_eq_true rfl) (fun b1 H locs hw G => ?_)
    refine zEx2 hw ?_
    intro u0_82 u1_83
    refine zCu3 ?_
    intro hbs9 h_84 h_85
    clear hw
    subst hbs9
    have G : zS T A s.heap s [[zAr T 1 tp 600 ft], [(rdd, .inr (2, [.int dd, .ref a1_1, .ref a2_2, .ref a3_3]))], [zAr T 0 a1_1 40 d1], [zAr T 0 a2_2 40 d2], [zAr T 0 a3_3 40 d3], [zO7 rd rl rdd rg u0_82 u1_83 tp r2 r3 r4 r5 r6 r7 r8]] _ _ := G
    refine lv_aload_n hx hb dX7_readDeed_21 rfl (lv_at hl 0 rfl) ?_
    refine z_Vv (bc := [[zO7 rd rl rdd rg u0_82 u1_83 tp r2 r3 r4 r5 r6 r7 r8], [zAr T 1 tp 600 ft]]) (br := [[(rdd, .inr (2, [.int dd, .ref a1_1, .ref a2_2, .ref a3_3]))], [zAr T 0 a1_1 40 d1], [zAr T 0 a2_2 40 d2], [zAr T 0 a3_3 40 d3]]) (As := []) (rest := []) C G (c_f_nextToken l T rd rl rdd rg tp u0_82 u1_83 r2 r3 r4 r5 r6 r7 r8 ft (pEn k a.1) n k t3 hka.1.2.2 hA1.1 hA1.2.2.1 hA1.2.1) (kV_RX7_71 C.2.2.2.2 (Nat.le_of_ble_eq_true rfl) (Nat.le_of_ble_eq_true rfl)) [5, 0] [0, 4] rfl rfl (ci := 7) (qc := (RX7, TX7, 13)) rfl rfl (List.mem_flatten.mpr ⟨_, List.mem_of_getElem? (i := 0) rfl, List.mem_cons_self⟩) rfl rfl hl.1 dX7_readDeed_22 (Nat.le_of_ble_eq_true rfl) (Nat.le_of_ble_eq_true rfl) (fun b1 H locs hw G => ?_)
    refine zEx4 hw ?_
    intro u3_87 u4_88 u5_89 u6_90
    refine zCu2 ?_
    intro hbs9 h_91
    clear hw
    subst hbs9
    have G : zS T A s.heap s [[(rdd, .inr (2, [.int dd, .ref a1_1, .ref a2_2, .ref a3_3]))], [zAr T 0 a1_1 40 d1], [zAr T 0 a2_2 40 d2], [zAr T 0 a3_3 40 d3], [zO7 rd rl rdd rg u0_82 u1_83 tp r2 u3_87 u4_88 u5_89 u6_90 r7 r8], [zAr T 1 tp 600 ft]] _ _ := G
    have hB := zRc_d1 (m := 40) hA hw hcn hdd (by omega) h_84 h_85 h_91
    obtain ⟨b, hbq⟩ : ∃ b, b = pDB 40 (nI (pWh k a.1)) f (pAdv k a) := ⟨_, rfl⟩
    rw [← hbq] at hB
    refine lv_aload_n hx hb dX7_readDeed_25 rfl (lv_at hl 0 rfl) ?_
    refine lv_bipush (v := 6) hx hb dX7_readDeed_26 (by decide) ?_
    refine z_Vi (bc := [[zO7 rd rl rdd rg u0_82 u1_83 tp r2 u3_87 u4_88 u5_89 u6_90 r7 r8], [zAr T 1 tp 600 ft]]) (br := [[(rdd, .inr (2, [.int dd, .ref a1_1, .ref a2_2, .ref a3_3]))], [zAr T 0 a1_1 40 d1], [zAr T 0 a2_2 40 d2], [zAr T 0 a3_3 40 d3]]) (As := [.int 6]) (rest := []) C G (c_f_readNumber l T rd rl rdd rg tp u0_82 u1_83 r2 u3_87 u4_88 u5_89 u6_90 r7 r8 ft k n b 6 hB) (kV_RX7_120 C.2.2.2.2 (Nat.le_of_ble_eq_true rfl) (Nat.le_of_ble_eq_true rfl)) [4, 5] [4, 0] rfl rfl (ci := 7) (qc := (RX7, TX7, 13)) rfl rfl (List.mem_flatten.mpr ⟨_, List.mem_of_getElem? (i := 0) rfl, List.mem_cons_self⟩) rfl rfl hl.1 dX7_readDeed_28 (Nat.le_of_ble_eq_true rfl) (Nat.le_of_ble_eq_true rfl) (fun r_103 b1 H locs hw G => ?_)
    refine zEx7 hw ?_
    intro u0_93 u1_94 u3_95 u4_96 u5_97 u6_98 u7_99
    refine zCu4 ?_
    intro hbs9 h_100 h_101 h_102
    clear hw
    subst hbs9
    have G : zS T A s.heap s [[(rdd, .inr (2, [.int dd, .ref a1_1, .ref a2_2, .ref a3_3]))], [zAr T 0 a1_1 40 d1], [zAr T 0 a2_2 40 d2], [zAr T 0 a3_3 40 d3], [zO7 rd rl rdd rg u0_93 u1_94 tp r2 u3_95 u4_96 u5_97 u6_98 u7_99 r8], [zAr T 1 tp 600 ft]] _ _ := G
    refine lv_istore_n (lv' := [(2, .int r_103), (0, .ref rd), (1, .int x)]) hx hb dX7_readDeed_31 rfl hl (by decide) (zLvf_h rfl) (fun ls hl => ?_)
    refine lv_iload_n hx hb dX7_readDeed_32 rfl (lv_at hl 2 rfl) ?_
    refine lv_iconst (v := 4) hx hb dX7_readDeed_33 (by decide) ?_
    refine lv_icmp_eq (tgt := 42) hx hb dX7_readDeed_34 (by decide) (fun c_104 => ?_) (fun c_104 => ?_)
    · have c_104n : x.toInt = (4 : Int) := (fa_eq _ _).mp c_104
      refine lv_aload_n hx hb dX7_readDeed_42 rfl (lv_at hl 1 rfl) ?_
      refine lv_iconst (v := 3) hx hb dX7_readDeed_43 (by decide) ?_
      refine z_Vi (bc := [[zO7 rd rl rdd rg u0_93 u1_94 tp r2 u3_95 u4_96 u5_97 u6_98 u7_99 r8], [zAr T 1 tp 600 ft]]) (br := [[(rdd, .inr (2, [.int dd, .ref a1_1, .ref a2_2, .ref a3_3]))], [zAr T 0 a1_1 40 d1], [zAr T 0 a2_2 40 d2], [zAr T 0 a3_3 40 d3]]) (As := [.int 3]) (rest := []) C G (c_f_readNumber l T rd rl rdd rg tp u0_93 u1_94 r2 u3_95 u4_96 u5_97 u6_98 u7_99 r8 ft k n ((pNum k 0 6 b).2) 3 h_101) (kV_RX7_120 C.2.2.2.2 (Nat.le_of_ble_eq_true rfl) (Nat.le_of_ble_eq_true rfl)) [4, 5] [4, 0] rfl rfl (ci := 7) (qc := (RX7, TX7, 13)) rfl rfl (List.mem_flatten.mpr ⟨_, List.mem_of_getElem? (i := 0) rfl, List.mem_cons_self⟩) rfl rfl hl.1 dX7_readDeed_44 (Nat.le_of_ble_eq_true rfl) (Nat.le_of_ble_eq_true rfl) (fun r_115 b1 H locs hw G => ?_)
      refine zEx7 hw ?_
      intro u0_105 u1_106 u3_107 u4_108 u5_109 u6_110 u7_111
      refine zCu4 ?_
      intro hbs9 h_112 h_113 h_114
      clear hw
      subst hbs9
      have G : zS T A s.heap s [[(rdd, .inr (2, [.int dd, .ref a1_1, .ref a2_2, .ref a3_3]))], [zAr T 0 a1_1 40 d1], [zAr T 0 a2_2 40 d2], [zAr T 0 a3_3 40 d3], [zO7 rd rl rdd rg u0_105 u1_106 tp r2 u3_107 u4_108 u5_109 u6_110 u7_111 r8], [zAr T 1 tp 600 ft]] _ _ := G
      refine lv_goto (tgt := 51) hx hb dX7_readDeed_47 (by decide) ?_
      refine lv_istore_n (lv' := [(3, .int r_115), (2, .int r_103), (0, .ref rd), (1, .int x)]) hx hb dX7_readDeed_51 rfl hl (by decide) (zLvf_h rfl) (fun ls hl => ?_)
      refine lv_aload_n hx hb dX7_readDeed_52 rfl (lv_at hl 2 rfl) ?_
      refine z_get C G clX7 4 rfl 1 (by decide) m_fl_RX7_21 rfl dX7_readDeed_53 ?_
      refine lv_iload_n hx hb dX7_readDeed_56 rfl (lv_at hl 3 rfl) ?_
      refine lv_iload_n hx hb dX7_readDeed_57 rfl (lv_at hl 1 rfl) ?_
      refine lv_iload_n hx hb dX7_readDeed_58 rfl (lv_at hl 0 rfl) ?_
      have hw_116 : bDay T rdd dd d1 d2 d3 [(rdd, .inr (2, [.int dd, .ref a1_1, .ref a2_2, .ref a3_3])), zAr T 0 a1_1 40 d1, zAr T 0 a2_2 40 d2, zAr T 0 a3_3 40 d3] := ⟨a1_1, a2_2, a3_3, rfl⟩
      have G : zS T A s.heap s [[(rdd, .inr (2, [.int dd, .ref a1_1, .ref a2_2, .ref a3_3])), zAr T 0 a1_1 40 d1, zAr T 0 a2_2 40 d2, zAr T 0 a3_3 40 d3], [zO7 rd rl rdd rg u0_105 u1_106 tp r2 u3_107 u4_108 u5_109 u6_110 u7_111 r8], [zAr T 1 tp 600 ft]] _ _ := G.re rfl
      refine z_Vv (bc := [[(rdd, .inr (2, [.int dd, .ref a1_1, .ref a2_2, .ref a3_3])), zAr T 0 a1_1 40 d1, zAr T 0 a2_2 40 d2, zAr T 0 a3_3 40 d3]]) (br := [[zO7 rd rl rdd rg u0_105 u1_106 tp r2 u3_107 u4_108 u5_109 u6_110 u7_111 r8], [zAr T 1 tp 600 ft]]) (As := [.int x, .int r_103, .int r_115]) (rest := []) C G (c_Day_add l T rdd dd d1 d2 d3 ([(rdd, .inr (2, [.int dd, .ref a1_1, .ref a2_2, .ref a3_3])), zAr T 0 a1_1 40 d1, zAr T 0 a2_2 40 d2, zAr T 0 a3_3 40 d3]) x r_103 r_115 hw_116) (kV_RX7_135 C.2.2.2.2 (Nat.le_of_ble_eq_true rfl) (Nat.le_of_ble_eq_true rfl)) [0] [0] rfl rfl (ci := 2) (qc := (RX2, TX2, 4)) rfl rfl (List.mem_flatten.mpr ⟨_, List.mem_of_getElem? (i := 0) rfl, (bDay_mem hw_116).choose_spec⟩) rfl rfl hl.1 dX7_readDeed_59 (Nat.le_of_ble_eq_true rfl) (Nat.le_of_ble_eq_true rfl) (fun b1 H locs hw G => ?_)
      refine zEx5 hw ?_
      intro w2_117 u_118 g1_119 g2_120 g3_121
      refine zCu6 ?_
      intro hbs9 h_122 h_123 h_124 h_125 h_126
      clear hw
      subst hbs9
      have G : zS T A s.heap s [[zO7 rd rl rdd rg u0_105 u1_106 tp r2 u3_107 u4_108 u5_109 u6_110 u7_111 r8], [zAr T 1 tp 600 ft], w2_117] _ _ := G
      exact z_back hQz_ (z_vret C hr hlocks G (Nat.le_of_ble_eq_true rfl) (Nat.le_of_ble_eq_true rfl) dX7_readDeed_62 ⟨u0_105, u1_106, u3_107, u4_108, u5_109, u6_110, u7_111, w2_117, u_118, g1_119, g2_120, g3_121, rfl, h_122, (by rw [pDeed_1 hbq, pDY_hi (by omega)]; exact h_113), (by subst hbq; rw [h_123, h_124, h_125, h_126]; exact zDc_step (a := pAdv k a) hC hw hd5 hxd hB.2.2.2.2.2.1 h_101.2.2.2.2.2.1 h_102 (by rw [pDY_hi (by omega)]; exact h_114))⟩)
    · have c_104n : ¬ x.toInt = (4 : Int) := fun q => c_104 ((fa_eq _ _).mpr q)
      refine lv_iload_n hx hb dX7_readDeed_37 rfl (lv_at hl 2 rfl) ?_
      refine lv_iconst (v := 5) hx hb dX7_readDeed_38 (by decide) ?_
      refine lv_icmp_ne (tgt := 50) hx hb dX7_readDeed_39 (by decide) (fun c_128 => ?_) (fun c_128 => ?_)
      · have c_128n : ¬ x.toInt = (5 : Int) := fun q => c_128 ((fa_eq _ _).mpr q)
        refine lv_iconst (v := (-1)) hx hb dX7_readDeed_50 (by decide) ?_
        refine lv_istore_n (lv' := [(3, .int (-1)), (2, .int r_103), (0, .ref rd), (1, .int x)]) hx hb dX7_readDeed_51 rfl hl (by decide) (zLvf_h rfl) (fun ls hl => ?_)
        refine lv_aload_n hx hb dX7_readDeed_52 rfl (lv_at hl 2 rfl) ?_
        refine z_get C G clX7 4 rfl 1 (by decide) m_fl_RX7_21 rfl dX7_readDeed_53 ?_
        refine lv_iload_n hx hb dX7_readDeed_56 rfl (lv_at hl 3 rfl) ?_
        refine lv_iload_n hx hb dX7_readDeed_57 rfl (lv_at hl 1 rfl) ?_
        refine lv_iload_n hx hb dX7_readDeed_58 rfl (lv_at hl 0 rfl) ?_
        have hw_129 : bDay T rdd dd d1 d2 d3 [(rdd, .inr (2, [.int dd, .ref a1_1, .ref a2_2, .ref a3_3])), zAr T 0 a1_1 40 d1, zAr T 0 a2_2 40 d2, zAr T 0 a3_3 40 d3] := ⟨a1_1, a2_2, a3_3, rfl⟩
        have G : zS T A s.heap s [[(rdd, .inr (2, [.int dd, .ref a1_1, .ref a2_2, .ref a3_3])), zAr T 0 a1_1 40 d1, zAr T 0 a2_2 40 d2, zAr T 0 a3_3 40 d3], [zO7 rd rl rdd rg u0_93 u1_94 tp r2 u3_95 u4_96 u5_97 u6_98 u7_99 r8], [zAr T 1 tp 600 ft]] _ _ := G.re rfl
        refine z_Vv (bc := [[(rdd, .inr (2, [.int dd, .ref a1_1, .ref a2_2, .ref a3_3])), zAr T 0 a1_1 40 d1, zAr T 0 a2_2 40 d2, zAr T 0 a3_3 40 d3]]) (br := [[zO7 rd rl rdd rg u0_93 u1_94 tp r2 u3_95 u4_96 u5_97 u6_98 u7_99 r8], [zAr T 1 tp 600 ft]]) (As := [.int x, .int r_103, .int (-1)]) (rest := []) C G (c_Day_add l T rdd dd d1 d2 d3 ([(rdd, .inr (2, [.int dd, .ref a1_1, .ref a2_2, .ref a3_3])), zAr T 0 a1_1 40 d1, zAr T 0 a2_2 40 d2, zAr T 0 a3_3 40 d3]) x r_103 (-1) hw_129) (kV_RX7_135 C.2.2.2.2 (Nat.le_of_ble_eq_true rfl) (Nat.le_of_ble_eq_true rfl)) [0] [0] rfl rfl (ci := 2) (qc := (RX2, TX2, 4)) rfl rfl (List.mem_flatten.mpr ⟨_, List.mem_of_getElem? (i := 0) rfl, (bDay_mem hw_129).choose_spec⟩) rfl rfl hl.1 dX7_readDeed_59 (Nat.le_of_ble_eq_true rfl) (Nat.le_of_ble_eq_true rfl) (fun b1 H locs hw G => ?_)
        refine zEx5 hw ?_
        intro w2_130 u_131 g1_132 g2_133 g3_134
        refine zCu6 ?_
        intro hbs9 h_135 h_136 h_137 h_138 h_139
        clear hw
        subst hbs9
        have G : zS T A s.heap s [[zO7 rd rl rdd rg u0_93 u1_94 tp r2 u3_95 u4_96 u5_97 u6_98 u7_99 r8], [zAr T 1 tp 600 ft], w2_130] _ _ := G
        exact z_back hQz_ (z_vret C hr hlocks G (Nat.le_of_ble_eq_true rfl) (Nat.le_of_ble_eq_true rfl) dX7_readDeed_62 ⟨u0_93, u1_94, u3_95, u4_96, u5_97, u6_98, u7_99, w2_130, u_131, g1_132, g2_133, g3_134, rfl, h_135, (by rw [pDeed_1 hbq, pDY_lo (by omega)]; exact h_101), (by subst hbq; rw [h_136, h_137, h_138, h_139]; exact zDc_step (a := pAdv k a) hC hw hd5 hxd hB.2.2.2.2.2.1 h_101.2.2.2.2.2.1 h_102 (by rw [pDY_lo (by omega)]; exact fun _ => rfl))⟩)
      · have c_128n : x.toInt = (5 : Int) := (fa_eq _ _).mp c_128
        refine lv_aload_n hx hb dX7_readDeed_42 rfl (lv_at hl 1 rfl) ?_
        refine lv_iconst (v := 3) hx hb dX7_readDeed_43 (by decide) ?_
        refine z_Vi (bc := [[zO7 rd rl rdd rg u0_93 u1_94 tp r2 u3_95 u4_96 u5_97 u6_98 u7_99 r8], [zAr T 1 tp 600 ft]]) (br := [[(rdd, .inr (2, [.int dd, .ref a1_1, .ref a2_2, .ref a3_3]))], [zAr T 0 a1_1 40 d1], [zAr T 0 a2_2 40 d2], [zAr T 0 a3_3 40 d3]]) (As := [.int 3]) (rest := []) C G (c_f_readNumber l T rd rl rdd rg tp u0_93 u1_94 r2 u3_95 u4_96 u5_97 u6_98 u7_99 r8 ft k n ((pNum k 0 6 b).2) 3 h_101) (kV_RX7_120 C.2.2.2.2 (Nat.le_of_ble_eq_true rfl) (Nat.le_of_ble_eq_true rfl)) [4, 5] [4, 0] rfl rfl (ci := 7) (qc := (RX7, TX7, 13)) rfl rfl (List.mem_flatten.mpr ⟨_, List.mem_of_getElem? (i := 0) rfl, List.mem_cons_self⟩) rfl rfl hl.1 dX7_readDeed_44 (Nat.le_of_ble_eq_true rfl) (Nat.le_of_ble_eq_true rfl) (fun r_151 b1 H locs hw G => ?_)
        refine zEx7 hw ?_
        intro u0_141 u1_142 u3_143 u4_144 u5_145 u6_146 u7_147
        refine zCu4 ?_
        intro hbs9 h_148 h_149 h_150
        clear hw
        subst hbs9
        have G : zS T A s.heap s [[(rdd, .inr (2, [.int dd, .ref a1_1, .ref a2_2, .ref a3_3]))], [zAr T 0 a1_1 40 d1], [zAr T 0 a2_2 40 d2], [zAr T 0 a3_3 40 d3], [zO7 rd rl rdd rg u0_141 u1_142 tp r2 u3_143 u4_144 u5_145 u6_146 u7_147 r8], [zAr T 1 tp 600 ft]] _ _ := G
        refine lv_goto (tgt := 51) hx hb dX7_readDeed_47 (by decide) ?_
        refine lv_istore_n (lv' := [(3, .int r_151), (2, .int r_103), (0, .ref rd), (1, .int x)]) hx hb dX7_readDeed_51 rfl hl (by decide) (zLvf_h rfl) (fun ls hl => ?_)
        refine lv_aload_n hx hb dX7_readDeed_52 rfl (lv_at hl 2 rfl) ?_
        refine z_get C G clX7 4 rfl 1 (by decide) m_fl_RX7_21 rfl dX7_readDeed_53 ?_
        refine lv_iload_n hx hb dX7_readDeed_56 rfl (lv_at hl 3 rfl) ?_
        refine lv_iload_n hx hb dX7_readDeed_57 rfl (lv_at hl 1 rfl) ?_
        refine lv_iload_n hx hb dX7_readDeed_58 rfl (lv_at hl 0 rfl) ?_
        have hw_152 : bDay T rdd dd d1 d2 d3 [(rdd, .inr (2, [.int dd, .ref a1_1, .ref a2_2, .ref a3_3])), zAr T 0 a1_1 40 d1, zAr T 0 a2_2 40 d2, zAr T 0 a3_3 40 d3] := ⟨a1_1, a2_2, a3_3, rfl⟩
        have G : zS T A s.heap s [[(rdd, .inr (2, [.int dd, .ref a1_1, .ref a2_2, .ref a3_3])), zAr T 0 a1_1 40 d1, zAr T 0 a2_2 40 d2, zAr T 0 a3_3 40 d3], [zO7 rd rl rdd rg u0_141 u1_142 tp r2 u3_143 u4_144 u5_145 u6_146 u7_147 r8], [zAr T 1 tp 600 ft]] _ _ := G.re rfl
        refine z_Vv (bc := [[(rdd, .inr (2, [.int dd, .ref a1_1, .ref a2_2, .ref a3_3])), zAr T 0 a1_1 40 d1, zAr T 0 a2_2 40 d2, zAr T 0 a3_3 40 d3]]) (br := [[zO7 rd rl rdd rg u0_141 u1_142 tp r2 u3_143 u4_144 u5_145 u6_146 u7_147 r8], [zAr T 1 tp 600 ft]]) (As := [.int x, .int r_103, .int r_151]) (rest := []) C G (c_Day_add l T rdd dd d1 d2 d3 ([(rdd, .inr (2, [.int dd, .ref a1_1, .ref a2_2, .ref a3_3])), zAr T 0 a1_1 40 d1, zAr T 0 a2_2 40 d2, zAr T 0 a3_3 40 d3]) x r_103 r_151 hw_152) (kV_RX7_135 C.2.2.2.2 (Nat.le_of_ble_eq_true rfl) (Nat.le_of_ble_eq_true rfl)) [0] [0] rfl rfl (ci := 2) (qc := (RX2, TX2, 4)) rfl rfl (List.mem_flatten.mpr ⟨_, List.mem_of_getElem? (i := 0) rfl, (bDay_mem hw_152).choose_spec⟩) rfl rfl hl.1 dX7_readDeed_59 (Nat.le_of_ble_eq_true rfl) (Nat.le_of_ble_eq_true rfl) (fun b1 H locs hw G => ?_)
        refine zEx5 hw ?_
        intro w2_153 u_154 g1_155 g2_156 g3_157
        refine zCu6 ?_
        intro hbs9 h_158 h_159 h_160 h_161 h_162
        clear hw
        subst hbs9
        have G : zS T A s.heap s [[zO7 rd rl rdd rg u0_141 u1_142 tp r2 u3_143 u4_144 u5_145 u6_146 u7_147 r8], [zAr T 1 tp 600 ft], w2_153] _ _ := G
        exact z_back hQz_ (z_vret C hr hlocks G (Nat.le_of_ble_eq_true rfl) (Nat.le_of_ble_eq_true rfl) dX7_readDeed_62 ⟨u0_141, u1_142, u3_143, u4_144, u5_145, u6_146, u7_147, w2_153, u_154, g1_155, g2_156, g3_157, rfl, h_158, (by rw [pDeed_1 hbq, pDY_hi (by omega)]; exact h_149), (by subst hbq; rw [h_159, h_160, h_161, h_162]; exact zDc_step (a := pAdv k a) hC hw hd5 hxd hB.2.2.2.2.2.1 h_101.2.2.2.2.2.1 h_102 (by rw [pDY_hi (by omega)]; exact h_150))⟩)
set_option maxHeartbeats 4000000 in
set_option maxRecDepth 100000 in
/-- c_f_readFact -/
theorem c_f_readFact (l : Launch) (T : zTy) (rd : Nat) (rl : Nat) (rdd : Nat) (rg : Nat) (tp : Nat) (r0 : Int32) (r1 : Int32) (r2 : Int32) (r3 : Int32) (r4 : Int32) (r5 : Int32) (r6 : Int32) (r7 : Int32) (r8 : Int32) (ft : Nat → Int32) (gg : Int32) (e1 : Nat → Int32) (e2 : Nat → Int32) (wg : va_W) (k : pT) (n : Nat) (a : pS) (f : Nat → Int32) (d : Nat) (x : Int32) (hA : zRc k n ft r0 r1 r2 r3 r4 r5 r6 r7 a) (hw : a.2.1.toInt = 0) (hcl : pCl k a.1 = 1) (hg : bLog T rg gg e1 e2 wg) (hC : zGc gg e1 e2 a f) (hd5 : 11 ≤ d ∧ d ≤ 12) (hxi : x.toInt = (d : Int) - 11) : zMv l T yX7_readFact cX7_readFact 4 5 0 0 [.ref rd, .int x] [[zO7 rd rl rdd rg r0 r1 tp r2 r3 r4 r5 r6 r7 r8], [zAr T 1 tp 600 ft], wg] (fun bs => ∃ (u0 : Int32) (u1 : Int32) (u3 : Int32) (u4 : Int32) (u5 : Int32) (u6 : Int32) (u7 : Int32) (wg2 : va_W) (gg2 : Int32) (b1 : Nat → Int32) (b2 : Nat → Int32), bs = [[zO7 rd rl rdd rg u0 u1 tp r2 u3 u4 u5 u6 u7 r8], [zAr T 1 tp 600 ft], wg2] ∧ bLog T rg gg2 b1 b2 wg2 ∧ zRc k n ft u0 u1 r2 u3 u4 u5 u6 u7 (pFact k d (nI (pWh k a.1)) (pAdv k a) f).1 ∧ zGc gg2 b1 b2 (pFact k d (nI (pWh k a.1)) (pAdv k a) f).1 (pFact k d (nI (pWh k a.1)) (pAdv k a) f).2) := by
  refine zMv_of (own := RX7) (by decide) rfl (Nat.le_of_ble_eq_true rfl) ?_
  intro p e s m args below meth c A ls C hr hlocks hnm hAe G hl
  refine zHide (fun Qz_ hQz_ => ?_)
  have hx := C.1
  have hb := C.2.1
  have hl : lv_has ls 4 [(0, .ref rd), (1, .int x)] := hl
  have hok := zRc_ok hA
  obtain ⟨hA1, hA6, hA7, hA8, hA9, hAI, hAE⟩ := id hA
  have hka := hok a.1 hA1.2.2.2
  obtain ⟨t3, t4, t5, t6⟩ := hA7 hw
  have t4i : r4.toInt = (pCl k a.1 : Int) := by rw [t4]; exact nI_toInt (by omega)
  have hcn : ¬ pCl k a.1 = 0 := by omega
  have hdd := fun q => (hC q).1
  refine lv_aload_n hx hb dX7_readFact_0 rfl (lv_at hl 0 rfl) ?_
  refine z_get C G clX7 0 rfl 2 (by decide) m_fl_RX7_28 rfl dX7_readFact_1 ?_
  refine zEx2 hg ?_
  intro a1_1 a2_2 hbs9
  clear hg
  subst hbs9
  have G : zS T A s.heap s [[zO7 rd rl rdd rg r0 r1 tp r2 r3 r4 r5 r6 r7 r8], [zAr T 1 tp 600 ft], [(rg, .inr (5, [.int gg, .ref a1_1, .ref a2_2]))], [zAr T 0 a1_1 8 e1], [zAr T 0 a2_2 8 e2]] _ _ := G.re rfl
  refine z_get C G clX5 2 rfl 0 (by decide) m_fl_RX7_68 rfl dX7_readFact_4 ?_
  refine lv_bipush (v := 8) hx hb dX7_readFact_7 (by decide) ?_
  refine lv_icmp_lt (tgt := 21) hx hb dX7_readFact_9 (by decide) (fun c_3 => ?_) (fun c_3 => ?_)
  · have c_3n : gg.toInt < (8 : Int) := (fa_lt _ _).mp c_3
    refine lv_aload_n hx hb dX7_readFact_21 rfl (lv_at hl 0 rfl) ?_
    refine z_Vv (bc := [[zO7 rd rl rdd rg r0 r1 tp r2 r3 r4 r5 r6 r7 r8], [zAr T 1 tp 600 ft]]) (br := [[(rg, .inr (5, [.int gg, .ref a1_1, .ref a2_2]))], [zAr T 0 a1_1 8 e1], [zAr T 0 a2_2 8 e2]]) (As := []) (rest := []) C G (c_f_nextToken l T rd rl rdd rg tp r0 r1 r2 r3 r4 r5 r6 r7 r8 ft (pEn k a.1) n k t3 hka.1.2.2 hA1.1 hA1.2.2.1 hA1.2.1) (kV_RX7_71 C.2.2.2.2 (Nat.le_of_ble_eq_true rfl) (Nat.le_of_ble_eq_true rfl)) [0, 1] [0, 0] rfl rfl (ci := 7) (qc := (RX7, TX7, 13)) rfl rfl (List.mem_flatten.mpr ⟨_, List.mem_of_getElem? (i := 0) rfl, List.mem_cons_self⟩) rfl rfl hl.1 dX7_readFact_22 (Nat.le_of_ble_eq_true rfl) (Nat.le_of_ble_eq_true rfl) (fun b1 H locs hw G => ?_)
    refine zEx4 hw ?_
    intro u3_4 u4_5 u5_6 u6_7
    refine zCu2 ?_
    intro hbs9 h_8
    clear hw
    subst hbs9
    have G : zS T A s.heap s [[(rg, .inr (5, [.int gg, .ref a1_1, .ref a2_2]))], [zAr T 0 a1_1 8 e1], [zAr T 0 a2_2 8 e2], [zO7 rd rl rdd rg r0 r1 tp r2 u3_4 u4_5 u5_6 u6_7 r7 r8], [zAr T 1 tp 600 ft]] _ _ := G
    have hB := zRc_d0 (m := 8) hA hw hdd (by omega) h_8
    obtain ⟨b, hbq⟩ : ∃ b, b = pDB 8 (nI (pWh k a.1)) f (pAdv k a) := ⟨_, rfl⟩
    rw [← hbq] at hB
    refine lv_aload_n hx hb dX7_readFact_25 rfl (lv_at hl 0 rfl) ?_
    refine lv_bipush (v := 6) hx hb dX7_readFact_26 (by decide) ?_
    refine z_Vi (bc := [[zO7 rd rl rdd rg r0 r1 tp r2 u3_4 u4_5 u5_6 u6_7 r7 r8], [zAr T 1 tp 600 ft]]) (br := [[(rg, .inr (5, [.int gg, .ref a1_1, .ref a2_2]))], [zAr T 0 a1_1 8 e1], [zAr T 0 a2_2 8 e2]]) (As := [.int 6]) (rest := []) C G (c_f_readNumber l T rd rl rdd rg tp r0 r1 r2 u3_4 u4_5 u5_6 u6_7 r7 r8 ft k n b 6 hB) (kV_RX7_120 C.2.2.2.2 (Nat.le_of_ble_eq_true rfl) (Nat.le_of_ble_eq_true rfl)) [3, 4] [3, 0] rfl rfl (ci := 7) (qc := (RX7, TX7, 13)) rfl rfl (List.mem_flatten.mpr ⟨_, List.mem_of_getElem? (i := 0) rfl, List.mem_cons_self⟩) rfl rfl hl.1 dX7_readFact_28 (Nat.le_of_ble_eq_true rfl) (Nat.le_of_ble_eq_true rfl) (fun r_20 b1 H locs hw G => ?_)
    refine zEx7 hw ?_
    intro u0_10 u1_11 u3_12 u4_13 u5_14 u6_15 u7_16
    refine zCu4 ?_
    intro hbs9 h_17 h_18 h_19
    clear hw
    subst hbs9
    have G : zS T A s.heap s [[(rg, .inr (5, [.int gg, .ref a1_1, .ref a2_2]))], [zAr T 0 a1_1 8 e1], [zAr T 0 a2_2 8 e2], [zO7 rd rl rdd rg u0_10 u1_11 tp r2 u3_12 u4_13 u5_14 u6_15 u7_16 r8], [zAr T 1 tp 600 ft]] _ _ := G
    refine lv_istore_n (lv' := [(2, .int r_20), (0, .ref rd), (1, .int x)]) hx hb dX7_readFact_31 rfl hl (by decide) (zLvf_h rfl) (fun ls hl => ?_)
    refine lv_iload_n hx hb dX7_readFact_32 rfl (lv_at hl 2 rfl) ?_
    refine lv_if_ne (tgt := 45) hx hb dX7_readFact_33 (by decide) (fun c_21 => ?_) (fun c_21 => ?_)
    · have c_21n : ¬ x.toInt = (0 : Int) := fun q => c_21 ((fa_eq _ _).mpr q)
      refine lv_iconst (v := (-1)) hx hb dX7_readFact_45 (by decide) ?_
      refine lv_istore_n (lv' := [(3, .int (-1)), (2, .int r_20), (0, .ref rd), (1, .int x)]) hx hb dX7_readFact_46 rfl hl (by decide) (zLvf_h rfl) (fun ls hl => ?_)
      refine lv_aload_n hx hb dX7_readFact_47 rfl (lv_at hl 2 rfl) ?_
      refine z_get C G clX7 3 rfl 2 (by decide) m_fl_RX7_28 rfl dX7_readFact_48 ?_
      refine lv_iload_n hx hb dX7_readFact_51 rfl (lv_at hl 1 rfl) ?_
      refine lv_iload_n hx hb dX7_readFact_52 rfl (lv_at hl 0 rfl) ?_
      have hw_22 : bLog T rg gg e1 e2 [(rg, .inr (5, [.int gg, .ref a1_1, .ref a2_2])), zAr T 0 a1_1 8 e1, zAr T 0 a2_2 8 e2] := ⟨a1_1, a2_2, rfl⟩
      have G : zS T A s.heap s [[(rg, .inr (5, [.int gg, .ref a1_1, .ref a2_2])), zAr T 0 a1_1 8 e1, zAr T 0 a2_2 8 e2], [zO7 rd rl rdd rg u0_10 u1_11 tp r2 u3_12 u4_13 u5_14 u6_15 u7_16 r8], [zAr T 1 tp 600 ft]] _ _ := G.re rfl
      refine z_Vv (bc := [[(rg, .inr (5, [.int gg, .ref a1_1, .ref a2_2])), zAr T 0 a1_1 8 e1, zAr T 0 a2_2 8 e2]]) (br := [[zO7 rd rl rdd rg u0_10 u1_11 tp r2 u3_12 u4_13 u5_14 u6_15 u7_16 r8], [zAr T 1 tp 600 ft]]) (As := [.int r_20, .int (-1)]) (rest := []) C G (c_Log_add l T rg gg e1 e2 ([(rg, .inr (5, [.int gg, .ref a1_1, .ref a2_2])), zAr T 0 a1_1 8 e1, zAr T 0 a2_2 8 e2]) r_20 (-1) hw_22) (kV_RX7_139 C.2.2.2.2 (Nat.le_of_ble_eq_true rfl) (Nat.le_of_ble_eq_true rfl)) [0] [0] rfl rfl (ci := 5) (qc := (RX5, TX5, 3)) rfl rfl (List.mem_flatten.mpr ⟨_, List.mem_of_getElem? (i := 0) rfl, (bLog_mem hw_22).choose_spec⟩) rfl rfl hl.1 dX7_readFact_53 (Nat.le_of_ble_eq_true rfl) (Nat.le_of_ble_eq_true rfl) (fun b1 H locs hw G => ?_)
      refine zEx4 hw ?_
      intro w2_23 u_24 g1_25 g2_26
      refine zCu5 ?_
      intro hbs9 h_27 h_28 h_29 h_30
      clear hw
      subst hbs9
      have G : zS T A s.heap s [[zO7 rd rl rdd rg u0_10 u1_11 tp r2 u3_12 u4_13 u5_14 u6_15 u7_16 r8], [zAr T 1 tp 600 ft], w2_23] _ _ := G
      exact z_back hQz_ (z_vret C hr hlocks G (Nat.le_of_ble_eq_true rfl) (Nat.le_of_ble_eq_true rfl) dX7_readFact_56 ⟨u0_10, u1_11, u3_12, u4_13, u5_14, u6_15, u7_16, w2_23, u_24, g1_25, g2_26, rfl, h_27, (by rw [pFact_1 hbq, pGY_lo (by omega)]; exact h_18), (by subst hbq; rw [h_28, h_29, h_30]; exact zGc_step (a := pAdv k a) hC hw hB.2.2.2.2.2.1 h_18.2.2.2.2.2.1 h_19 (by rw [pGY_lo (by omega)]; exact fun _ => rfl))⟩)
    · have c_21n : x.toInt = (0 : Int) := (fa_eq _ _).mp c_21
      refine lv_aload_n hx hb dX7_readFact_36 rfl (lv_at hl 1 rfl) ?_
      refine lv_bipush (v := 6) hx hb dX7_readFact_37 (by decide) ?_
      refine z_Vi (bc := [[zO7 rd rl rdd rg u0_10 u1_11 tp r2 u3_12 u4_13 u5_14 u6_15 u7_16 r8], [zAr T 1 tp 600 ft]]) (br := [[(rg, .inr (5, [.int gg, .ref a1_1, .ref a2_2]))], [zAr T 0 a1_1 8 e1], [zAr T 0 a2_2 8 e2]]) (As := [.int 6]) (rest := []) C G (c_f_readNumber l T rd rl rdd rg tp u0_10 u1_11 r2 u3_12 u4_13 u5_14 u6_15 u7_16 r8 ft k n ((pNum k 0 6 b).2) 6 h_18) (kV_RX7_120 C.2.2.2.2 (Nat.le_of_ble_eq_true rfl) (Nat.le_of_ble_eq_true rfl)) [3, 4] [3, 0] rfl rfl (ci := 7) (qc := (RX7, TX7, 13)) rfl rfl (List.mem_flatten.mpr ⟨_, List.mem_of_getElem? (i := 0) rfl, List.mem_cons_self⟩) rfl rfl hl.1 dX7_readFact_39 (Nat.le_of_ble_eq_true rfl) (Nat.le_of_ble_eq_true rfl) (fun r_42 b1 H locs hw G => ?_)
      refine zEx7 hw ?_
      intro u0_32 u1_33 u3_34 u4_35 u5_36 u6_37 u7_38
      refine zCu4 ?_
      intro hbs9 h_39 h_40 h_41
      clear hw
      subst hbs9
      have G : zS T A s.heap s [[(rg, .inr (5, [.int gg, .ref a1_1, .ref a2_2]))], [zAr T 0 a1_1 8 e1], [zAr T 0 a2_2 8 e2], [zO7 rd rl rdd rg u0_32 u1_33 tp r2 u3_34 u4_35 u5_36 u6_37 u7_38 r8], [zAr T 1 tp 600 ft]] _ _ := G
      refine lv_goto (tgt := 46) hx hb dX7_readFact_42 (by decide) ?_
      refine lv_istore_n (lv' := [(3, .int r_42), (2, .int r_20), (0, .ref rd), (1, .int x)]) hx hb dX7_readFact_46 rfl hl (by decide) (zLvf_h rfl) (fun ls hl => ?_)
      refine lv_aload_n hx hb dX7_readFact_47 rfl (lv_at hl 2 rfl) ?_
      refine z_get C G clX7 3 rfl 2 (by decide) m_fl_RX7_28 rfl dX7_readFact_48 ?_
      refine lv_iload_n hx hb dX7_readFact_51 rfl (lv_at hl 1 rfl) ?_
      refine lv_iload_n hx hb dX7_readFact_52 rfl (lv_at hl 0 rfl) ?_
      have hw_43 : bLog T rg gg e1 e2 [(rg, .inr (5, [.int gg, .ref a1_1, .ref a2_2])), zAr T 0 a1_1 8 e1, zAr T 0 a2_2 8 e2] := ⟨a1_1, a2_2, rfl⟩
      have G : zS T A s.heap s [[(rg, .inr (5, [.int gg, .ref a1_1, .ref a2_2])), zAr T 0 a1_1 8 e1, zAr T 0 a2_2 8 e2], [zO7 rd rl rdd rg u0_32 u1_33 tp r2 u3_34 u4_35 u5_36 u6_37 u7_38 r8], [zAr T 1 tp 600 ft]] _ _ := G.re rfl
      refine z_Vv (bc := [[(rg, .inr (5, [.int gg, .ref a1_1, .ref a2_2])), zAr T 0 a1_1 8 e1, zAr T 0 a2_2 8 e2]]) (br := [[zO7 rd rl rdd rg u0_32 u1_33 tp r2 u3_34 u4_35 u5_36 u6_37 u7_38 r8], [zAr T 1 tp 600 ft]]) (As := [.int r_20, .int r_42]) (rest := []) C G (c_Log_add l T rg gg e1 e2 ([(rg, .inr (5, [.int gg, .ref a1_1, .ref a2_2])), zAr T 0 a1_1 8 e1, zAr T 0 a2_2 8 e2]) r_20 r_42 hw_43) (kV_RX7_139 C.2.2.2.2 (Nat.le_of_ble_eq_true rfl) (Nat.le_of_ble_eq_true rfl)) [0] [0] rfl rfl (ci := 5) (qc := (RX5, TX5, 3)) rfl rfl (List.mem_flatten.mpr ⟨_, List.mem_of_getElem? (i := 0) rfl, (bLog_mem hw_43).choose_spec⟩) rfl rfl hl.1 dX7_readFact_53 (Nat.le_of_ble_eq_true rfl) (Nat.le_of_ble_eq_true rfl) (fun b1 H locs hw G => ?_)
      refine zEx4 hw ?_
      intro w2_44 u_45 g1_46 g2_47
      refine zCu5 ?_
      intro hbs9 h_48 h_49 h_50 h_51
      clear hw
      subst hbs9
      have G : zS T A s.heap s [[zO7 rd rl rdd rg u0_32 u1_33 tp r2 u3_34 u4_35 u5_36 u6_37 u7_38 r8], [zAr T 1 tp 600 ft], w2_44] _ _ := G
      exact z_back hQz_ (z_vret C hr hlocks G (Nat.le_of_ble_eq_true rfl) (Nat.le_of_ble_eq_true rfl) dX7_readFact_56 ⟨u0_32, u1_33, u3_34, u4_35, u5_36, u6_37, u7_38, w2_44, u_45, g1_46, g2_47, rfl, h_48, (by rw [pFact_1 hbq, pGY_hi (by omega)]; exact h_40), (by subst hbq; rw [h_49, h_50, h_51]; exact zGc_step (a := pAdv k a) hC hw hB.2.2.2.2.2.1 h_18.2.2.2.2.2.1 h_19 (by rw [pGY_hi (by omega)]; exact h_41))⟩)
  · have c_3n : ¬ gg.toInt < (8 : Int) := fun q => c_3 ((fa_lt _ _).mpr q)
    refine lv_aload_n hx hb dX7_readFact_12 rfl (lv_at hl 0 rfl) ?_
    refine lv_iconst (v := 3) hx hb dX7_readFact_13 (by decide) ?_
    refine lv_aload_n hx hb dX7_readFact_14 rfl (lv_at hl 0 rfl) ?_
    refine z_get C G clX7 0 rfl 9 (by decide) m_fl_RX7_84 rfl dX7_readFact_15 ?_
    refine z_Vv (bc := [[zO7 rd rl rdd rg r0 r1 tp r2 r3 r4 r5 r6 r7 r8]]) (br := [[zAr T 1 tp 600 ft], [(rg, .inr (5, [.int gg, .ref a1_1, .ref a2_2]))], [zAr T 0 a1_1 8 e1], [zAr T 0 a2_2 8 e2]]) (As := [.int 3, .int r5]) (rest := []) C G (c_f_note l T rd rl rdd rg tp r0 r1 r2 r3 r4 r5 r6 r7 r8 3 r5) (kV_RX7_90 C.2.2.2.2 (Nat.le_of_ble_eq_true rfl) (Nat.le_of_ble_eq_true rfl)) [0] [0] rfl rfl (ci := 7) (qc := (RX7, TX7, 13)) rfl rfl (List.mem_flatten.mpr ⟨_, List.mem_of_getElem? (i := 0) rfl, List.mem_cons_self⟩) rfl rfl hl.1 dX7_readFact_18 (Nat.le_of_ble_eq_true rfl) (Nat.le_of_ble_eq_true rfl) (fun b1 H locs hw G => ?_)
    refine zEx2 hw ?_
    intro u0_53 u1_54
    refine zCu3 ?_
    intro hbs9 h_55 h_56
    clear hw
    subst hbs9
    have G : zS T A s.heap s [[zAr T 1 tp 600 ft], [(rg, .inr (5, [.int gg, .ref a1_1, .ref a2_2]))], [zAr T 0 a1_1 8 e1], [zAr T 0 a2_2 8 e2], [zO7 rd rl rdd rg u0_53 u1_54 tp r2 r3 r4 r5 r6 r7 r8]] _ _ := G
    refine lv_aload_n hx hb dX7_readFact_21 rfl (lv_at hl 0 rfl) ?_
    refine z_Vv (bc := [[zO7 rd rl rdd rg u0_53 u1_54 tp r2 r3 r4 r5 r6 r7 r8], [zAr T 1 tp 600 ft]]) (br := [[(rg, .inr (5, [.int gg, .ref a1_1, .ref a2_2]))], [zAr T 0 a1_1 8 e1], [zAr T 0 a2_2 8 e2]]) (As := []) (rest := []) C G (c_f_nextToken l T rd rl rdd rg tp u0_53 u1_54 r2 r3 r4 r5 r6 r7 r8 ft (pEn k a.1) n k t3 hka.1.2.2 hA1.1 hA1.2.2.1 hA1.2.1) (kV_RX7_71 C.2.2.2.2 (Nat.le_of_ble_eq_true rfl) (Nat.le_of_ble_eq_true rfl)) [4, 0] [0, 3] rfl rfl (ci := 7) (qc := (RX7, TX7, 13)) rfl rfl (List.mem_flatten.mpr ⟨_, List.mem_of_getElem? (i := 0) rfl, List.mem_cons_self⟩) rfl rfl hl.1 dX7_readFact_22 (Nat.le_of_ble_eq_true rfl) (Nat.le_of_ble_eq_true rfl) (fun b1 H locs hw G => ?_)
    refine zEx4 hw ?_
    intro u3_58 u4_59 u5_60 u6_61
    refine zCu2 ?_
    intro hbs9 h_62
    clear hw
    subst hbs9
    have G : zS T A s.heap s [[(rg, .inr (5, [.int gg, .ref a1_1, .ref a2_2]))], [zAr T 0 a1_1 8 e1], [zAr T 0 a2_2 8 e2], [zO7 rd rl rdd rg u0_53 u1_54 tp r2 u3_58 u4_59 u5_60 u6_61 r7 r8], [zAr T 1 tp 600 ft]] _ _ := G
    have hB := zRc_d1 (m := 8) hA hw hcn hdd (by omega) h_55 h_56 h_62
    obtain ⟨b, hbq⟩ : ∃ b, b = pDB 8 (nI (pWh k a.1)) f (pAdv k a) := ⟨_, rfl⟩
    rw [← hbq] at hB
    refine lv_aload_n hx hb dX7_readFact_25 rfl (lv_at hl 0 rfl) ?_
    refine lv_bipush (v := 6) hx hb dX7_readFact_26 (by decide) ?_
    refine z_Vi (bc := [[zO7 rd rl rdd rg u0_53 u1_54 tp r2 u3_58 u4_59 u5_60 u6_61 r7 r8], [zAr T 1 tp 600 ft]]) (br := [[(rg, .inr (5, [.int gg, .ref a1_1, .ref a2_2]))], [zAr T 0 a1_1 8 e1], [zAr T 0 a2_2 8 e2]]) (As := [.int 6]) (rest := []) C G (c_f_readNumber l T rd rl rdd rg tp u0_53 u1_54 r2 u3_58 u4_59 u5_60 u6_61 r7 r8 ft k n b 6 hB) (kV_RX7_120 C.2.2.2.2 (Nat.le_of_ble_eq_true rfl) (Nat.le_of_ble_eq_true rfl)) [3, 4] [3, 0] rfl rfl (ci := 7) (qc := (RX7, TX7, 13)) rfl rfl (List.mem_flatten.mpr ⟨_, List.mem_of_getElem? (i := 0) rfl, List.mem_cons_self⟩) rfl rfl hl.1 dX7_readFact_28 (Nat.le_of_ble_eq_true rfl) (Nat.le_of_ble_eq_true rfl) (fun r_74 b1 H locs hw G => ?_)
    refine zEx7 hw ?_
    intro u0_64 u1_65 u3_66 u4_67 u5_68 u6_69 u7_70
    refine zCu4 ?_
    intro hbs9 h_71 h_72 h_73
    clear hw
    subst hbs9
    have G : zS T A s.heap s [[(rg, .inr (5, [.int gg, .ref a1_1, .ref a2_2]))], [zAr T 0 a1_1 8 e1], [zAr T 0 a2_2 8 e2], [zO7 rd rl rdd rg u0_64 u1_65 tp r2 u3_66 u4_67 u5_68 u6_69 u7_70 r8], [zAr T 1 tp 600 ft]] _ _ := G
    refine lv_istore_n (lv' := [(2, .int r_74), (0, .ref rd), (1, .int x)]) hx hb dX7_readFact_31 rfl hl (by decide) (zLvf_h rfl) (fun ls hl => ?_)
    refine lv_iload_n hx hb dX7_readFact_32 rfl (lv_at hl 2 rfl) ?_
    refine lv_if_ne (tgt := 45) hx hb dX7_readFact_33 (by decide) (fun c_75 => ?_) (fun c_75 => ?_)
    · have c_75n : ¬ x.toInt = (0 : Int) := fun q => c_75 ((fa_eq _ _).mpr q)
      refine lv_iconst (v := (-1)) hx hb dX7_readFact_45 (by decide) ?_
      refine lv_istore_n (lv' := [(3, .int (-1)), (2, .int r_74), (0, .ref rd), (1, .int x)]) hx hb dX7_readFact_46 rfl hl (by decide) (zLvf_h rfl) (fun ls hl => ?_)
      refine lv_aload_n hx hb dX7_readFact_47 rfl (lv_at hl 2 rfl) ?_
      refine z_get C G clX7 3 rfl 2 (by decide) m_fl_RX7_28 rfl dX7_readFact_48 ?_
      refine lv_iload_n hx hb dX7_readFact_51 rfl (lv_at hl 1 rfl) ?_
      refine lv_iload_n hx hb dX7_readFact_52 rfl (lv_at hl 0 rfl) ?_
      have hw_76 : bLog T rg gg e1 e2 [(rg, .inr (5, [.int gg, .ref a1_1, .ref a2_2])), zAr T 0 a1_1 8 e1, zAr T 0 a2_2 8 e2] := ⟨a1_1, a2_2, rfl⟩
      have G : zS T A s.heap s [[(rg, .inr (5, [.int gg, .ref a1_1, .ref a2_2])), zAr T 0 a1_1 8 e1, zAr T 0 a2_2 8 e2], [zO7 rd rl rdd rg u0_64 u1_65 tp r2 u3_66 u4_67 u5_68 u6_69 u7_70 r8], [zAr T 1 tp 600 ft]] _ _ := G.re rfl
      refine z_Vv (bc := [[(rg, .inr (5, [.int gg, .ref a1_1, .ref a2_2])), zAr T 0 a1_1 8 e1, zAr T 0 a2_2 8 e2]]) (br := [[zO7 rd rl rdd rg u0_64 u1_65 tp r2 u3_66 u4_67 u5_68 u6_69 u7_70 r8], [zAr T 1 tp 600 ft]]) (As := [.int r_74, .int (-1)]) (rest := []) C G (c_Log_add l T rg gg e1 e2 ([(rg, .inr (5, [.int gg, .ref a1_1, .ref a2_2])), zAr T 0 a1_1 8 e1, zAr T 0 a2_2 8 e2]) r_74 (-1) hw_76) (kV_RX7_139 C.2.2.2.2 (Nat.le_of_ble_eq_true rfl) (Nat.le_of_ble_eq_true rfl)) [0] [0] rfl rfl (ci := 5) (qc := (RX5, TX5, 3)) rfl rfl (List.mem_flatten.mpr ⟨_, List.mem_of_getElem? (i := 0) rfl, (bLog_mem hw_76).choose_spec⟩) rfl rfl hl.1 dX7_readFact_53 (Nat.le_of_ble_eq_true rfl) (Nat.le_of_ble_eq_true rfl) (fun b1 H locs hw G => ?_)
      refine zEx4 hw ?_
      intro w2_77 u_78 g1_79 g2_80
      refine zCu5 ?_
      intro hbs9 h_81 h_82 h_83 h_84
      clear hw
      subst hbs9
      have G : zS T A s.heap s [[zO7 rd rl rdd rg u0_64 u1_65 tp r2 u3_66 u4_67 u5_68 u6_69 u7_70 r8], [zAr T 1 tp 600 ft], w2_77] _ _ := G
      exact z_back hQz_ (z_vret C hr hlocks G (Nat.le_of_ble_eq_true rfl) (Nat.le_of_ble_eq_true rfl) dX7_readFact_56 ⟨u0_64, u1_65, u3_66, u4_67, u5_68, u6_69, u7_70, w2_77, u_78, g1_79, g2_80, rfl, h_81, (by rw [pFact_1 hbq, pGY_lo (by omega)]; exact h_72), (by subst hbq; rw [h_82, h_83, h_84]; exact zGc_step (a := pAdv k a) hC hw hB.2.2.2.2.2.1 h_72.2.2.2.2.2.1 h_73 (by rw [pGY_lo (by omega)]; exact fun _ => rfl))⟩)
    · have c_75n : x.toInt = (0 : Int) := (fa_eq _ _).mp c_75
      refine lv_aload_n hx hb dX7_readFact_36 rfl (lv_at hl 1 rfl) ?_
      refine lv_bipush (v := 6) hx hb dX7_readFact_37 (by decide) ?_
      refine z_Vi (bc := [[zO7 rd rl rdd rg u0_64 u1_65 tp r2 u3_66 u4_67 u5_68 u6_69 u7_70 r8], [zAr T 1 tp 600 ft]]) (br := [[(rg, .inr (5, [.int gg, .ref a1_1, .ref a2_2]))], [zAr T 0 a1_1 8 e1], [zAr T 0 a2_2 8 e2]]) (As := [.int 6]) (rest := []) C G (c_f_readNumber l T rd rl rdd rg tp u0_64 u1_65 r2 u3_66 u4_67 u5_68 u6_69 u7_70 r8 ft k n ((pNum k 0 6 b).2) 6 h_72) (kV_RX7_120 C.2.2.2.2 (Nat.le_of_ble_eq_true rfl) (Nat.le_of_ble_eq_true rfl)) [3, 4] [3, 0] rfl rfl (ci := 7) (qc := (RX7, TX7, 13)) rfl rfl (List.mem_flatten.mpr ⟨_, List.mem_of_getElem? (i := 0) rfl, List.mem_cons_self⟩) rfl rfl hl.1 dX7_readFact_39 (Nat.le_of_ble_eq_true rfl) (Nat.le_of_ble_eq_true rfl) (fun r_96 b1 H locs hw G => ?_)
      refine zEx7 hw ?_
      intro u0_86 u1_87 u3_88 u4_89 u5_90 u6_91 u7_92
      refine zCu4 ?_
      intro hbs9 h_93 h_94 h_95
      clear hw
      subst hbs9
      have G : zS T A s.heap s [[(rg, .inr (5, [.int gg, .ref a1_1, .ref a2_2]))], [zAr T 0 a1_1 8 e1], [zAr T 0 a2_2 8 e2], [zO7 rd rl rdd rg u0_86 u1_87 tp r2 u3_88 u4_89 u5_90 u6_91 u7_92 r8], [zAr T 1 tp 600 ft]] _ _ := G
      refine lv_goto (tgt := 46) hx hb dX7_readFact_42 (by decide) ?_
      refine lv_istore_n (lv' := [(3, .int r_96), (2, .int r_74), (0, .ref rd), (1, .int x)]) hx hb dX7_readFact_46 rfl hl (by decide) (zLvf_h rfl) (fun ls hl => ?_)
      refine lv_aload_n hx hb dX7_readFact_47 rfl (lv_at hl 2 rfl) ?_
      refine z_get C G clX7 3 rfl 2 (by decide) m_fl_RX7_28 rfl dX7_readFact_48 ?_
      refine lv_iload_n hx hb dX7_readFact_51 rfl (lv_at hl 1 rfl) ?_
      refine lv_iload_n hx hb dX7_readFact_52 rfl (lv_at hl 0 rfl) ?_
      have hw_97 : bLog T rg gg e1 e2 [(rg, .inr (5, [.int gg, .ref a1_1, .ref a2_2])), zAr T 0 a1_1 8 e1, zAr T 0 a2_2 8 e2] := ⟨a1_1, a2_2, rfl⟩
      have G : zS T A s.heap s [[(rg, .inr (5, [.int gg, .ref a1_1, .ref a2_2])), zAr T 0 a1_1 8 e1, zAr T 0 a2_2 8 e2], [zO7 rd rl rdd rg u0_86 u1_87 tp r2 u3_88 u4_89 u5_90 u6_91 u7_92 r8], [zAr T 1 tp 600 ft]] _ _ := G.re rfl
      refine z_Vv (bc := [[(rg, .inr (5, [.int gg, .ref a1_1, .ref a2_2])), zAr T 0 a1_1 8 e1, zAr T 0 a2_2 8 e2]]) (br := [[zO7 rd rl rdd rg u0_86 u1_87 tp r2 u3_88 u4_89 u5_90 u6_91 u7_92 r8], [zAr T 1 tp 600 ft]]) (As := [.int r_74, .int r_96]) (rest := []) C G (c_Log_add l T rg gg e1 e2 ([(rg, .inr (5, [.int gg, .ref a1_1, .ref a2_2])), zAr T 0 a1_1 8 e1, zAr T 0 a2_2 8 e2]) r_74 r_96 hw_97) (kV_RX7_139 C.2.2.2.2 (Nat.le_of_ble_eq_true rfl) (Nat.le_of_ble_eq_true rfl)) [0] [0] rfl rfl (ci := 5) (qc := (RX5, TX5, 3)) rfl rfl (List.mem_flatten.mpr ⟨_, List.mem_of_getElem? (i := 0) rfl, (bLog_mem hw_97).choose_spec⟩) rfl rfl hl.1 dX7_readFact_53 (Nat.le_of_ble_eq_true rfl) (Nat.le_of_ble_eq_true rfl) (fun b1 H locs hw G => ?_)
      refine zEx4 hw ?_
      intro w2_98 u_99 g1_100 g2_101
      refine zCu5 ?_
      intro hbs9 h_102 h_103 h_104 h_105
      clear hw
      subst hbs9
      have G : zS T A s.heap s [[zO7 rd rl rdd rg u0_86 u1_87 tp r2 u3_88 u4_89 u5_90 u6_91 u7_92 r8], [zAr T 1 tp 600 ft], w2_98] _ _ := G
      exact z_back hQz_ (z_vret C hr hlocks G (Nat.le_of_ble_eq_true rfl) (Nat.le_of_ble_eq_true rfl) dX7_readFact_56 ⟨u0_86, u1_87, u3_88, u4_89, u5_90, u6_91, u7_92, w2_98, u_99, g1_100, g2_101, rfl, h_102, (by rw [pFact_1 hbq, pGY_hi (by omega)]; exact h_94), (by subst hbq; rw [h_103, h_104, h_105]; exact zGc_step (a := pAdv k a) hC hw hB.2.2.2.2.2.1 h_72.2.2.2.2.2.1 h_73 (by rw [pGY_hi (by omega)]; exact h_95))⟩)
set_option maxHeartbeats 4000000 in
set_option maxRecDepth 100000 in
/-- c_f_readOther1 -/
theorem c_f_readOther1 (l : Launch) (T : zTy) (rd : Nat) (rl : Nat) (rdd : Nat) (rg : Nat) (tp : Nat) (r0 : Int32) (r1 : Int32) (r2 : Int32) (r3 : Int32) (r4 : Int32) (r5 : Int32) (r6 : Int32) (r7 : Int32) (r8 : Int32) (ft : Nat → Int32) (cr : Int32) (inn : Int32) (k1 : Nat → Int32) (k2 : Nat → Int32) (k3 : Nat → Int32) (k4 : Nat → Int32) (z : va_W) (k : pT) (n : Nat) (a : pS) (f : Nat → Int32) (hA : zRc k n ft r0 r1 r2 r3 r4 r5 r6 r7 a) (hw : a.2.1.toInt = 0) (hcl : pCl k a.1 = 1) (hz : bLand T rl cr inn k1 k2 k3 k4 z) (hI : zLI cr k1 k3) (hC : zLc cr inn k1 k2 k3 k4 r8 a f) : zMv l T yX7_readOther cX7_readOther 4 5 0 0 [.ref rd, .int 1] [[zO7 rd rl rdd rg r0 r1 tp r2 r3 r4 r5 r6 r7 r8], [zAr T 1 tp 600 ft], z] (fun bs => ∃ (u0 : Int32) (u1 : Int32) (u3 : Int32) (u4 : Int32) (u5 : Int32) (u6 : Int32) (u7 : Int32) (u8 : Int32) (z2 : va_W) (i2 : Int32) (j3 : Nat → Int32) (j4 : Nat → Int32), bs = [[zO7 rd rl rdd rg u0 u1 tp r2 u3 u4 u5 u6 u7 u8], [zAr T 1 tp 600 ft], z2] ∧ bLand T rl cr i2 k1 k2 j3 j4 z2 ∧ zLI cr k1 j3 ∧ zRc k n ft u0 u1 r2 u3 u4 u5 u6 u7 (pPW k 2 (pAdv k a) f).1 ∧ zLc cr i2 k1 k2 j3 j4 u8 (pPW k 2 (pAdv k a) f).1 (pPW k 2 (pAdv k a) f).2) := by
  refine zMv_of (own := RX7) (by decide) rfl (Nat.le_of_ble_eq_true rfl) ?_
  intro p e s m args below meth c A ls C hr hlocks hnm hAe G hl
  refine zHide (fun Qz_ hQz_ => ?_)
  have hx := C.1
  have hb := C.2.1
  have hl : lv_has ls 4 [(0, .ref rd), (1, .int 1)] := hl
  have hok := zRc_ok hA
  obtain ⟨hA1, hA6, hA7, hA8, hA9, hAI, hAE⟩ := id hA
  have hka := hok a.1 hA1.2.2.2
  obtain ⟨t3, t4, t5, t6⟩ := hA7 hw
  have t4i : r4.toInt = (pCl k a.1 : Int) := by rw [t4]; exact nI_toInt (by omega)
  refine lv_aload_n hx hb dX7_readOther_0 rfl (lv_at hl 0 rfl) ?_
  refine z_Vv (bc := [[zO7 rd rl rdd rg r0 r1 tp r2 r3 r4 r5 r6 r7 r8], [zAr T 1 tp 600 ft]]) (br := [z]) (As := []) (rest := []) C G (c_f_nextToken l T rd rl rdd rg tp r0 r1 r2 r3 r4 r5 r6 r7 r8 ft (pEn k a.1) n k t3 hka.1.2.2 hA1.1 hA1.2.2.1 hA1.2.1) (kV_RX7_71 C.2.2.2.2 (Nat.le_of_ble_eq_true rfl) (Nat.le_of_ble_eq_true rfl)) [0, 1] [0, 0] rfl rfl (ci := 7) (qc := (RX7, TX7, 13)) rfl rfl (List.mem_flatten.mpr ⟨_, List.mem_of_getElem? (i := 0) rfl, List.mem_cons_self⟩) rfl rfl hl.1 dX7_readOther_1 (Nat.le_of_ble_eq_true rfl) (Nat.le_of_ble_eq_true rfl) (fun b1 H locs hw G => ?_)
  refine zEx4 hw ?_
  intro u3_1 u4_2 u5_3 u6_4
  refine zCu2 ?_
  intro hbs9 h_5
  clear hw
  subst hbs9
  have G : zS T A s.heap s [z, [zO7 rd rl rdd rg r0 r1 tp r2 u3_1 u4_2 u5_3 u6_4 r7 r8], [zAr T 1 tp 600 ft]] _ _ := G
  have hB := zRc_adv hA hw h_5
  refine lv_aload_n hx hb dX7_readOther_4 rfl (lv_at hl 0 rfl) ?_
  refine lv_bipush (v := 6) hx hb dX7_readOther_5 (by decide) ?_
  refine z_Vi (bc := [[zO7 rd rl rdd rg r0 r1 tp r2 u3_1 u4_2 u5_3 u6_4 r7 r8], [zAr T 1 tp 600 ft]]) (br := [z]) (As := [.int 6]) (rest := []) C G (c_f_readNumber l T rd rl rdd rg tp r0 r1 r2 u3_1 u4_2 u5_3 u6_4 r7 r8 ft k n (pAdv k a) 6 hB) (kV_RX7_120 C.2.2.2.2 (Nat.le_of_ble_eq_true rfl) (Nat.le_of_ble_eq_true rfl)) [1, 2] [1, 0] rfl rfl (ci := 7) (qc := (RX7, TX7, 13)) rfl rfl (List.mem_flatten.mpr ⟨_, List.mem_of_getElem? (i := 0) rfl, List.mem_cons_self⟩) rfl rfl hl.1 dX7_readOther_7 (Nat.le_of_ble_eq_true rfl) (Nat.le_of_ble_eq_true rfl) (fun r_17 b1 H locs hw G => ?_)
  refine zEx7 hw ?_
  intro u0_7 u1_8 u3_9 u4_10 u5_11 u6_12 u7_13
  refine zCu4 ?_
  intro hbs9 h_14 h_15 h_16
  clear hw
  subst hbs9
  have G : zS T A s.heap s [z, [zO7 rd rl rdd rg u0_7 u1_8 tp r2 u3_9 u4_10 u5_11 u6_12 u7_13 r8], [zAr T 1 tp 600 ft]] _ _ := G
  refine lv_istore_n (lv' := [(2, .int r_17), (0, .ref rd), (1, .int 1)]) hx hb dX7_readOther_10 rfl hl (by decide) (zLvf_h rfl) (fun ls hl => ?_)
  refine lv_aload_n hx hb dX7_readOther_11 rfl (lv_at hl 1 rfl) ?_
  refine lv_iload_n hx hb dX7_readOther_12 rfl (lv_at hl 0 rfl) ?_
  refine z_Vv (bc := [[zO7 rd rl rdd rg u0_7 u1_8 tp r2 u3_9 u4_10 u5_11 u6_12 u7_13 r8]]) (br := [z, [zAr T 1 tp 600 ft]]) (As := [.int r_17]) (rest := []) C G (c_f_tellOf l T rd rl rdd rg tp u0_7 u1_8 r2 u3_9 u4_10 u5_11 u6_12 u7_13 r8 r_17) (kV_RX7_126 C.2.2.2.2 (Nat.le_of_ble_eq_true rfl) (Nat.le_of_ble_eq_true rfl)) [1] [1] rfl rfl (ci := 7) (qc := (RX7, TX7, 13)) rfl rfl (List.mem_flatten.mpr ⟨_, List.mem_of_getElem? (i := 0) rfl, List.mem_cons_self⟩) rfl rfl hl.1 dX7_readOther_13 (Nat.le_of_ble_eq_true rfl) (Nat.le_of_ble_eq_true rfl) (fun b1 H locs hw G => ?_)
  refine zEx1 hw ?_
  intro u8_18
  refine zCu2 ?_
  intro hbs9 h_19
  clear hw
  subst hbs9
  have G : zS T A s.heap s [z, [zAr T 1 tp 600 ft], [zO7 rd rl rdd rg u0_7 u1_8 tp r2 u3_9 u4_10 u5_11 u6_12 u7_13 u8_18]] _ _ := G
  have hF : zRc k n ft u0_7 u1_8 r2 u3_9 u4_10 u5_11 u6_12 u7_13 (pCr k (pAdv k a)).2 := zRc_far h_15 _
  refine lv_iload_n hx hb dX7_readOther_16 rfl (lv_at hl 2 rfl) ?_
  refine lv_iconst (v := 3) hx hb dX7_readOther_17 (by decide) ?_
  refine lv_icmp_ne (tgt := 51) hx hb dX7_readOther_18 (by decide) (fun _ => ?_) (fun q => absurd q (by decide))
  refine lv_aload_n hx hb dX7_readOther_51 rfl (lv_at hl 1 rfl) ?_
  refine lv_iload_n hx hb dX7_readOther_52 rfl (lv_at hl 2 rfl) ?_
  refine lv_iconst (v := 1) hx hb dX7_readOther_53 (by decide) ?_
  refine lv_icmp_ne (tgt := 61) hx hb dX7_readOther_54 (by decide) (fun q => absurd (by decide) q) (fun _ => ?_)
  refine lv_iconst (v := 3) hx hb dX7_readOther_57 (by decide) ?_
  refine lv_goto (tgt := 63) hx hb dX7_readOther_58 (by decide) ?_
  refine z_Vi (bc := [[zO7 rd rl rdd rg u0_7 u1_8 tp r2 u3_9 u4_10 u5_11 u6_12 u7_13 u8_18], [zAr T 1 tp 600 ft]]) (br := [z]) (As := [.int 3]) (rest := []) C G (c_f_readNumber l T rd rl rdd rg tp u0_7 u1_8 r2 u3_9 u4_10 u5_11 u6_12 u7_13 u8_18 ft k n ((pCr k (pAdv k a)).2) 3 hF) (kV_RX7_120 C.2.2.2.2 (Nat.le_of_ble_eq_true rfl) (Nat.le_of_ble_eq_true rfl)) [2, 1] [1, 0] rfl rfl (ci := 7) (qc := (RX7, TX7, 13)) rfl rfl (List.mem_flatten.mpr ⟨_, List.mem_of_getElem? (i := 0) rfl, List.mem_cons_self⟩) rfl rfl hl.1 dX7_readOther_63 (Nat.le_of_ble_eq_true rfl) (Nat.le_of_ble_eq_true rfl) (fun r_31 b1 H locs hw G => ?_)
  refine zEx7 hw ?_
  intro u0_21 u1_22 u3_23 u4_24 u5_25 u6_26 u7_27
  refine zCu4 ?_
  intro hbs9 h_28 h_29 h_30
  clear hw
  subst hbs9
  have G : zS T A s.heap s [z, [zO7 rd rl rdd rg u0_21 u1_22 tp r2 u3_23 u4_24 u5_25 u6_26 u7_27 u8_18], [zAr T 1 tp 600 ft]] _ _ := G
  refine lv_istore_n (lv' := [(3, .int r_31), (2, .int r_17), (0, .ref rd), (1, .int 1)]) hx hb dX7_readOther_66 rfl hl (by decide) (zLvf_h rfl) (fun ls hl => ?_)
  refine lv_iload_n hx hb dX7_readOther_67 rfl (lv_at hl 1 rfl) ?_
  refine lv_if_lt (tgt := 77) hx hb dX7_readOther_68 (by decide) (fun c_32 => ?_) (fun c_32 => ?_)
  · have c_32n : r_17.toInt < (0 : Int) := (fa_lt _ _).mp c_32
    have G := G.sub (bs' := [[zO7 rd rl rdd rg u0_21 u1_22 tp r2 u3_23 u4_24 u5_25 u6_26 u7_27 u8_18], [zAr T 1 tp 600 ft], z]) [1, 2, 0] rfl
    exact z_back hQz_ (z_vret C hr hlocks G (Nat.le_of_ble_eq_true rfl) (Nat.le_of_ble_eq_true rfl) dX7_readOther_77 ⟨u0_21, u1_22, u3_23, u4_24, u5_25, u6_26, u7_27, u8_18, z, inn, k3, k4, rfl, hz, (by first | exact hI | exact zLI_post hI _ (by omega)), h_29, (by rw [h_19]; have hz := zLc_pw (d := 2) (by decide) (a := pAdv k a) hC hB.2.2.2.2.2.1 hF.2.2.2.2.2.1 h_16 h_30; rw [show (if 2 = 2 ∧ 0 ≤ r_17.toInt ∧ r_17.toInt < 7 then upd k3 r_17.toInt.toNat r_31 else k3) = k3 from if_neg (by omega), show (if 2 = 3 ∧ 0 ≤ r_17.toInt ∧ r_17.toInt < 7 then upd k4 r_17.toInt.toNat r_31 else k4) = k4 from if_neg (by omega)] at hz; exact hz)⟩)
  · have c_32n : ¬ r_17.toInt < (0 : Int) := fun q => c_32 ((fa_lt _ _).mpr q)
    refine lv_iload_n hx hb dX7_readOther_71 rfl (lv_at hl 1 rfl) ?_
    refine lv_bipush (v := 7) hx hb dX7_readOther_72 (by decide) ?_
    refine lv_icmp_lt (tgt := 78) hx hb dX7_readOther_74 (by decide) (fun c_33 => ?_) (fun c_33 => ?_)
    · have c_33n : r_17.toInt < (7 : Int) := (fa_lt _ _).mp c_33
      refine lv_iload_n hx hb dX7_readOther_78 rfl (lv_at hl 3 rfl) ?_
      refine lv_iconst (v := 1) hx hb dX7_readOther_79 (by decide) ?_
      refine lv_icmp_ne (tgt := 96) hx hb dX7_readOther_80 (by decide) (fun q => absurd (by decide) q) (fun _ => ?_)
      refine lv_aload_n hx hb dX7_readOther_83 rfl (lv_at hl 2 rfl) ?_
      refine z_get C G clX7 1 rfl 0 (by decide) m_fl_RX7_12 rfl dX7_readOther_84 ?_
      refine zEx4 hz ?_
      intro a1_34 a2_35 a3_36 a4_37 hbs9
      clear hz
      subst hbs9
      have G : zS T A s.heap s [[zO4 rl cr inn a1_34 a2_35 a3_36 a4_37], [zAr T 0 a1_34 7 k1], [zAr T 0 a2_35 28 k2], [zAr T 0 a3_36 7 k3], [zAr T 0 a4_37 7 k4], [zO7 rd rl rdd rg u0_21 u1_22 tp r2 u3_23 u4_24 u5_25 u6_26 u7_27 u8_18], [zAr T 1 tp 600 ft]] _ _ := G.re rfl
      refine z_get C G clX4 0 rfl 4 (by decide) m_fl_RX7_94 rfl dX7_readOther_87 ?_
      refine lv_iload_n hx hb dX7_readOther_90 rfl (lv_at hl 1 rfl) ?_
      refine lv_iload_n hx hb dX7_readOther_91 rfl (lv_at hl 0 rfl) ?_
      refine z_ist C G 3 rfl (vp_in_iff.mpr ⟨by omega, by omega⟩) dX7_readOther_92 (fun H locs G => ?_)
      have G : zS T A s.heap s [[zO4 rl cr inn a1_34 a2_35 a3_36 a4_37], [zAr T 0 a1_34 7 k1], [zAr T 0 a2_35 28 k2], [zAr T 0 a3_36 7 (upd k3 r_17.toNatClampNeg r_31)], [zAr T 0 a4_37 7 k4], [zO7 rd rl rdd rg u0_21 u1_22 tp r2 u3_23 u4_24 u5_25 u6_26 u7_27 u8_18], [zAr T 1 tp 600 ft]] _ _ := G
      refine lv_goto (tgt := 106) hx hb dX7_readOther_93 (by decide) ?_
      have hw_38 : bLand T rl cr inn k1 k2 (upd k3 r_17.toNatClampNeg r_31) k4 [zO4 rl cr inn a1_34 a2_35 a3_36 a4_37, zAr T 0 a1_34 7 k1, zAr T 0 a2_35 28 k2, zAr T 0 a3_36 7 (upd k3 r_17.toNatClampNeg r_31), zAr T 0 a4_37 7 k4] := ⟨a1_34, a2_35, a3_36, a4_37, rfl⟩
      have G : zS T A s.heap s [[zO4 rl cr inn a1_34 a2_35 a3_36 a4_37, zAr T 0 a1_34 7 k1, zAr T 0 a2_35 28 k2, zAr T 0 a3_36 7 (upd k3 r_17.toNatClampNeg r_31), zAr T 0 a4_37 7 k4], [zO7 rd rl rdd rg u0_21 u1_22 tp r2 u3_23 u4_24 u5_25 u6_26 u7_27 u8_18], [zAr T 1 tp 600 ft]] _ _ := G.re rfl
      have G := G.sub (bs' := [[zO7 rd rl rdd rg u0_21 u1_22 tp r2 u3_23 u4_24 u5_25 u6_26 u7_27 u8_18], [zAr T 1 tp 600 ft], [zO4 rl cr inn a1_34 a2_35 a3_36 a4_37, zAr T 0 a1_34 7 k1, zAr T 0 a2_35 28 k2, zAr T 0 a3_36 7 (upd k3 r_17.toNatClampNeg r_31), zAr T 0 a4_37 7 k4]]) [1, 2, 0] rfl
      exact z_back hQz_ (z_vret C hr hlocks G (Nat.le_of_ble_eq_true rfl) (Nat.le_of_ble_eq_true rfl) dX7_readOther_106 ⟨u0_21, u1_22, u3_23, u4_24, u5_25, u6_26, u7_27, u8_18, ([zO4 rl cr inn a1_34 a2_35 a3_36 a4_37, zAr T 0 a1_34 7 k1, zAr T 0 a2_35 28 k2, zAr T 0 a3_36 7 (upd k3 r_17.toNatClampNeg r_31), zAr T 0 a4_37 7 k4]), inn, (upd k3 r_17.toNatClampNeg r_31), k4, rfl, hw_38, (by first | exact hI | exact zLI_post hI _ (by omega)), h_29, (by rw [h_19]; have hz := zLc_pw (d := 2) (by decide) (a := pAdv k a) hC hB.2.2.2.2.2.1 hF.2.2.2.2.2.1 h_16 h_30; rw [show (if 2 = 2 ∧ 0 ≤ r_17.toInt ∧ r_17.toInt < 7 then upd k3 r_17.toInt.toNat r_31 else k3) = upd k3 r_17.toInt.toNat r_31 from if_pos (by omega), show (if 2 = 3 ∧ 0 ≤ r_17.toInt ∧ r_17.toInt < 7 then upd k4 r_17.toInt.toNat r_31 else k4) = k4 from if_neg (by omega)] at hz; exact hz)⟩)
    · have c_33n : ¬ r_17.toInt < (7 : Int) := fun q => c_33 ((fa_lt _ _).mpr q)
      have G := G.sub (bs' := [[zO7 rd rl rdd rg u0_21 u1_22 tp r2 u3_23 u4_24 u5_25 u6_26 u7_27 u8_18], [zAr T 1 tp 600 ft], z]) [1, 2, 0] rfl
      exact z_back hQz_ (z_vret C hr hlocks G (Nat.le_of_ble_eq_true rfl) (Nat.le_of_ble_eq_true rfl) dX7_readOther_77 ⟨u0_21, u1_22, u3_23, u4_24, u5_25, u6_26, u7_27, u8_18, z, inn, k3, k4, rfl, hz, (by first | exact hI | exact zLI_post hI _ (by omega)), h_29, (by rw [h_19]; have hz := zLc_pw (d := 2) (by decide) (a := pAdv k a) hC hB.2.2.2.2.2.1 hF.2.2.2.2.2.1 h_16 h_30; rw [show (if 2 = 2 ∧ 0 ≤ r_17.toInt ∧ r_17.toInt < 7 then upd k3 r_17.toInt.toNat r_31 else k3) = k3 from if_neg (by omega), show (if 2 = 3 ∧ 0 ≤ r_17.toInt ∧ r_17.toInt < 7 then upd k4 r_17.toInt.toNat r_31 else k4) = k4 from if_neg (by omega)] at hz; exact hz)⟩)
set_option maxHeartbeats 4000000 in
set_option maxRecDepth 100000 in
/-- c_f_readOther2 -/
theorem c_f_readOther2 (l : Launch) (T : zTy) (rd : Nat) (rl : Nat) (rdd : Nat) (rg : Nat) (tp : Nat) (r0 : Int32) (r1 : Int32) (r2 : Int32) (r3 : Int32) (r4 : Int32) (r5 : Int32) (r6 : Int32) (r7 : Int32) (r8 : Int32) (ft : Nat → Int32) (cr : Int32) (inn : Int32) (k1 : Nat → Int32) (k2 : Nat → Int32) (k3 : Nat → Int32) (k4 : Nat → Int32) (z : va_W) (k : pT) (n : Nat) (a : pS) (f : Nat → Int32) (hA : zRc k n ft r0 r1 r2 r3 r4 r5 r6 r7 a) (hw : a.2.1.toInt = 0) (hcl : pCl k a.1 = 1) (hz : bLand T rl cr inn k1 k2 k3 k4 z) (hI : zLI cr k1 k3) (hC : zLc cr inn k1 k2 k3 k4 r8 a f) : zMv l T yX7_readOther cX7_readOther 4 5 0 0 [.ref rd, .int 2] [[zO7 rd rl rdd rg r0 r1 tp r2 r3 r4 r5 r6 r7 r8], [zAr T 1 tp 600 ft], z] (fun bs => ∃ (u0 : Int32) (u1 : Int32) (u3 : Int32) (u4 : Int32) (u5 : Int32) (u6 : Int32) (u7 : Int32) (u8 : Int32) (z2 : va_W) (i2 : Int32) (j3 : Nat → Int32) (j4 : Nat → Int32), bs = [[zO7 rd rl rdd rg u0 u1 tp r2 u3 u4 u5 u6 u7 u8], [zAr T 1 tp 600 ft], z2] ∧ bLand T rl cr i2 k1 k2 j3 j4 z2 ∧ zLI cr k1 j3 ∧ zRc k n ft u0 u1 r2 u3 u4 u5 u6 u7 (pPW k 3 (pAdv k a) f).1 ∧ zLc cr i2 k1 k2 j3 j4 u8 (pPW k 3 (pAdv k a) f).1 (pPW k 3 (pAdv k a) f).2) := by
  refine zMv_of (own := RX7) (by decide) rfl (Nat.le_of_ble_eq_true rfl) ?_
  intro p e s m args below meth c A ls C hr hlocks hnm hAe G hl
  refine zHide (fun Qz_ hQz_ => ?_)
  have hx := C.1
  have hb := C.2.1
  have hl : lv_has ls 4 [(0, .ref rd), (1, .int 2)] := hl
  have hok := zRc_ok hA
  obtain ⟨hA1, hA6, hA7, hA8, hA9, hAI, hAE⟩ := id hA
  have hka := hok a.1 hA1.2.2.2
  obtain ⟨t3, t4, t5, t6⟩ := hA7 hw
  have t4i : r4.toInt = (pCl k a.1 : Int) := by rw [t4]; exact nI_toInt (by omega)
  refine lv_aload_n hx hb dX7_readOther_0 rfl (lv_at hl 0 rfl) ?_
  refine z_Vv (bc := [[zO7 rd rl rdd rg r0 r1 tp r2 r3 r4 r5 r6 r7 r8], [zAr T 1 tp 600 ft]]) (br := [z]) (As := []) (rest := []) C G (c_f_nextToken l T rd rl rdd rg tp r0 r1 r2 r3 r4 r5 r6 r7 r8 ft (pEn k a.1) n k t3 hka.1.2.2 hA1.1 hA1.2.2.1 hA1.2.1) (kV_RX7_71 C.2.2.2.2 (Nat.le_of_ble_eq_true rfl) (Nat.le_of_ble_eq_true rfl)) [0, 1] [0, 0] rfl rfl (ci := 7) (qc := (RX7, TX7, 13)) rfl rfl (List.mem_flatten.mpr ⟨_, List.mem_of_getElem? (i := 0) rfl, List.mem_cons_self⟩) rfl rfl hl.1 dX7_readOther_1 (Nat.le_of_ble_eq_true rfl) (Nat.le_of_ble_eq_true rfl) (fun b1 H locs hw G => ?_)
  refine zEx4 hw ?_
  intro u3_1 u4_2 u5_3 u6_4
  refine zCu2 ?_
  intro hbs9 h_5
  clear hw
  subst hbs9
  have G : zS T A s.heap s [z, [zO7 rd rl rdd rg r0 r1 tp r2 u3_1 u4_2 u5_3 u6_4 r7 r8], [zAr T 1 tp 600 ft]] _ _ := G
  have hB := zRc_adv hA hw h_5
  refine lv_aload_n hx hb dX7_readOther_4 rfl (lv_at hl 0 rfl) ?_
  refine lv_bipush (v := 6) hx hb dX7_readOther_5 (by decide) ?_
  refine z_Vi (bc := [[zO7 rd rl rdd rg r0 r1 tp r2 u3_1 u4_2 u5_3 u6_4 r7 r8], [zAr T 1 tp 600 ft]]) (br := [z]) (As := [.int 6]) (rest := []) C G (c_f_readNumber l T rd rl rdd rg tp r0 r1 r2 u3_1 u4_2 u5_3 u6_4 r7 r8 ft k n (pAdv k a) 6 hB) (kV_RX7_120 C.2.2.2.2 (Nat.le_of_ble_eq_true rfl) (Nat.le_of_ble_eq_true rfl)) [1, 2] [1, 0] rfl rfl (ci := 7) (qc := (RX7, TX7, 13)) rfl rfl (List.mem_flatten.mpr ⟨_, List.mem_of_getElem? (i := 0) rfl, List.mem_cons_self⟩) rfl rfl hl.1 dX7_readOther_7 (Nat.le_of_ble_eq_true rfl) (Nat.le_of_ble_eq_true rfl) (fun r_17 b1 H locs hw G => ?_)
  refine zEx7 hw ?_
  intro u0_7 u1_8 u3_9 u4_10 u5_11 u6_12 u7_13
  refine zCu4 ?_
  intro hbs9 h_14 h_15 h_16
  clear hw
  subst hbs9
  have G : zS T A s.heap s [z, [zO7 rd rl rdd rg u0_7 u1_8 tp r2 u3_9 u4_10 u5_11 u6_12 u7_13 r8], [zAr T 1 tp 600 ft]] _ _ := G
  refine lv_istore_n (lv' := [(2, .int r_17), (0, .ref rd), (1, .int 2)]) hx hb dX7_readOther_10 rfl hl (by decide) (zLvf_h rfl) (fun ls hl => ?_)
  refine lv_aload_n hx hb dX7_readOther_11 rfl (lv_at hl 1 rfl) ?_
  refine lv_iload_n hx hb dX7_readOther_12 rfl (lv_at hl 0 rfl) ?_
  refine z_Vv (bc := [[zO7 rd rl rdd rg u0_7 u1_8 tp r2 u3_9 u4_10 u5_11 u6_12 u7_13 r8]]) (br := [z, [zAr T 1 tp 600 ft]]) (As := [.int r_17]) (rest := []) C G (c_f_tellOf l T rd rl rdd rg tp u0_7 u1_8 r2 u3_9 u4_10 u5_11 u6_12 u7_13 r8 r_17) (kV_RX7_126 C.2.2.2.2 (Nat.le_of_ble_eq_true rfl) (Nat.le_of_ble_eq_true rfl)) [1] [1] rfl rfl (ci := 7) (qc := (RX7, TX7, 13)) rfl rfl (List.mem_flatten.mpr ⟨_, List.mem_of_getElem? (i := 0) rfl, List.mem_cons_self⟩) rfl rfl hl.1 dX7_readOther_13 (Nat.le_of_ble_eq_true rfl) (Nat.le_of_ble_eq_true rfl) (fun b1 H locs hw G => ?_)
  refine zEx1 hw ?_
  intro u8_18
  refine zCu2 ?_
  intro hbs9 h_19
  clear hw
  subst hbs9
  have G : zS T A s.heap s [z, [zAr T 1 tp 600 ft], [zO7 rd rl rdd rg u0_7 u1_8 tp r2 u3_9 u4_10 u5_11 u6_12 u7_13 u8_18]] _ _ := G
  have hF : zRc k n ft u0_7 u1_8 r2 u3_9 u4_10 u5_11 u6_12 u7_13 (pCr k (pAdv k a)).2 := zRc_far h_15 _
  refine lv_iload_n hx hb dX7_readOther_16 rfl (lv_at hl 2 rfl) ?_
  refine lv_iconst (v := 3) hx hb dX7_readOther_17 (by decide) ?_
  refine lv_icmp_ne (tgt := 51) hx hb dX7_readOther_18 (by decide) (fun _ => ?_) (fun q => absurd q (by decide))
  refine lv_aload_n hx hb dX7_readOther_51 rfl (lv_at hl 1 rfl) ?_
  refine lv_iload_n hx hb dX7_readOther_52 rfl (lv_at hl 2 rfl) ?_
  refine lv_iconst (v := 1) hx hb dX7_readOther_53 (by decide) ?_
  refine lv_icmp_ne (tgt := 61) hx hb dX7_readOther_54 (by decide) (fun _ => ?_) (fun q => absurd q (by decide))
  refine lv_bipush (v := 9) hx hb dX7_readOther_61 (by decide) ?_
  refine z_Vi (bc := [[zO7 rd rl rdd rg u0_7 u1_8 tp r2 u3_9 u4_10 u5_11 u6_12 u7_13 u8_18], [zAr T 1 tp 600 ft]]) (br := [z]) (As := [.int 9]) (rest := []) C G (c_f_readNumber l T rd rl rdd rg tp u0_7 u1_8 r2 u3_9 u4_10 u5_11 u6_12 u7_13 u8_18 ft k n ((pCr k (pAdv k a)).2) 9 hF) (kV_RX7_120 C.2.2.2.2 (Nat.le_of_ble_eq_true rfl) (Nat.le_of_ble_eq_true rfl)) [2, 1] [1, 0] rfl rfl (ci := 7) (qc := (RX7, TX7, 13)) rfl rfl (List.mem_flatten.mpr ⟨_, List.mem_of_getElem? (i := 0) rfl, List.mem_cons_self⟩) rfl rfl hl.1 dX7_readOther_63 (Nat.le_of_ble_eq_true rfl) (Nat.le_of_ble_eq_true rfl) (fun r_31 b1 H locs hw G => ?_)
  refine zEx7 hw ?_
  intro u0_21 u1_22 u3_23 u4_24 u5_25 u6_26 u7_27
  refine zCu4 ?_
  intro hbs9 h_28 h_29 h_30
  clear hw
  subst hbs9
  have G : zS T A s.heap s [z, [zO7 rd rl rdd rg u0_21 u1_22 tp r2 u3_23 u4_24 u5_25 u6_26 u7_27 u8_18], [zAr T 1 tp 600 ft]] _ _ := G
  refine lv_istore_n (lv' := [(3, .int r_31), (2, .int r_17), (0, .ref rd), (1, .int 2)]) hx hb dX7_readOther_66 rfl hl (by decide) (zLvf_h rfl) (fun ls hl => ?_)
  refine lv_iload_n hx hb dX7_readOther_67 rfl (lv_at hl 1 rfl) ?_
  refine lv_if_lt (tgt := 77) hx hb dX7_readOther_68 (by decide) (fun c_32 => ?_) (fun c_32 => ?_)
  · have c_32n : r_17.toInt < (0 : Int) := (fa_lt _ _).mp c_32
    have G := G.sub (bs' := [[zO7 rd rl rdd rg u0_21 u1_22 tp r2 u3_23 u4_24 u5_25 u6_26 u7_27 u8_18], [zAr T 1 tp 600 ft], z]) [1, 2, 0] rfl
    exact z_back hQz_ (z_vret C hr hlocks G (Nat.le_of_ble_eq_true rfl) (Nat.le_of_ble_eq_true rfl) dX7_readOther_77 ⟨u0_21, u1_22, u3_23, u4_24, u5_25, u6_26, u7_27, u8_18, z, inn, k3, k4, rfl, hz, (by first | exact hI | exact zLI_post hI _ (by omega)), h_29, (by rw [h_19]; have hz := zLc_pw (d := 3) (by decide) (a := pAdv k a) hC hB.2.2.2.2.2.1 hF.2.2.2.2.2.1 h_16 h_30; rw [show (if 3 = 2 ∧ 0 ≤ r_17.toInt ∧ r_17.toInt < 7 then upd k3 r_17.toInt.toNat r_31 else k3) = k3 from if_neg (by omega), show (if 3 = 3 ∧ 0 ≤ r_17.toInt ∧ r_17.toInt < 7 then upd k4 r_17.toInt.toNat r_31 else k4) = k4 from if_neg (by omega)] at hz; exact hz)⟩)
  · have c_32n : ¬ r_17.toInt < (0 : Int) := fun q => c_32 ((fa_lt _ _).mpr q)
    refine lv_iload_n hx hb dX7_readOther_71 rfl (lv_at hl 1 rfl) ?_
    refine lv_bipush (v := 7) hx hb dX7_readOther_72 (by decide) ?_
    refine lv_icmp_lt (tgt := 78) hx hb dX7_readOther_74 (by decide) (fun c_33 => ?_) (fun c_33 => ?_)
    · have c_33n : r_17.toInt < (7 : Int) := (fa_lt _ _).mp c_33
      refine lv_iload_n hx hb dX7_readOther_78 rfl (lv_at hl 3 rfl) ?_
      refine lv_iconst (v := 1) hx hb dX7_readOther_79 (by decide) ?_
      refine lv_icmp_ne (tgt := 96) hx hb dX7_readOther_80 (by decide) (fun _ => ?_) (fun q => absurd q (by decide))
      refine lv_aload_n hx hb dX7_readOther_96 rfl (lv_at hl 2 rfl) ?_
      refine z_get C G clX7 1 rfl 0 (by decide) m_fl_RX7_12 rfl dX7_readOther_97 ?_
      refine zEx4 hz ?_
      intro a1_34 a2_35 a3_36 a4_37 hbs9
      clear hz
      subst hbs9
      have G : zS T A s.heap s [[zO4 rl cr inn a1_34 a2_35 a3_36 a4_37], [zAr T 0 a1_34 7 k1], [zAr T 0 a2_35 28 k2], [zAr T 0 a3_36 7 k3], [zAr T 0 a4_37 7 k4], [zO7 rd rl rdd rg u0_21 u1_22 tp r2 u3_23 u4_24 u5_25 u6_26 u7_27 u8_18], [zAr T 1 tp 600 ft]] _ _ := G.re rfl
      refine z_get C G clX4 0 rfl 5 (by decide) m_fl_RX7_132 rfl dX7_readOther_100 ?_
      refine lv_iload_n hx hb dX7_readOther_103 rfl (lv_at hl 1 rfl) ?_
      refine lv_iload_n hx hb dX7_readOther_104 rfl (lv_at hl 0 rfl) ?_
      refine z_ist C G 4 rfl (vp_in_iff.mpr ⟨by omega, by omega⟩) dX7_readOther_105 (fun H locs G => ?_)
      have G : zS T A s.heap s [[zO4 rl cr inn a1_34 a2_35 a3_36 a4_37], [zAr T 0 a1_34 7 k1], [zAr T 0 a2_35 28 k2], [zAr T 0 a3_36 7 k3], [zAr T 0 a4_37 7 (upd k4 r_17.toNatClampNeg r_31)], [zO7 rd rl rdd rg u0_21 u1_22 tp r2 u3_23 u4_24 u5_25 u6_26 u7_27 u8_18], [zAr T 1 tp 600 ft]] _ _ := G
      have hw_38 : bLand T rl cr inn k1 k2 k3 (upd k4 r_17.toNatClampNeg r_31) [zO4 rl cr inn a1_34 a2_35 a3_36 a4_37, zAr T 0 a1_34 7 k1, zAr T 0 a2_35 28 k2, zAr T 0 a3_36 7 k3, zAr T 0 a4_37 7 (upd k4 r_17.toNatClampNeg r_31)] := ⟨a1_34, a2_35, a3_36, a4_37, rfl⟩
      have G : zS T A s.heap s [[zO4 rl cr inn a1_34 a2_35 a3_36 a4_37, zAr T 0 a1_34 7 k1, zAr T 0 a2_35 28 k2, zAr T 0 a3_36 7 k3, zAr T 0 a4_37 7 (upd k4 r_17.toNatClampNeg r_31)], [zO7 rd rl rdd rg u0_21 u1_22 tp r2 u3_23 u4_24 u5_25 u6_26 u7_27 u8_18], [zAr T 1 tp 600 ft]] _ _ := G.re rfl
      have G := G.sub (bs' := [[zO7 rd rl rdd rg u0_21 u1_22 tp r2 u3_23 u4_24 u5_25 u6_26 u7_27 u8_18], [zAr T 1 tp 600 ft], [zO4 rl cr inn a1_34 a2_35 a3_36 a4_37, zAr T 0 a1_34 7 k1, zAr T 0 a2_35 28 k2, zAr T 0 a3_36 7 k3, zAr T 0 a4_37 7 (upd k4 r_17.toNatClampNeg r_31)]]) [1, 2, 0] rfl
      exact z_back hQz_ (z_vret C hr hlocks G (Nat.le_of_ble_eq_true rfl) (Nat.le_of_ble_eq_true rfl) dX7_readOther_106 ⟨u0_21, u1_22, u3_23, u4_24, u5_25, u6_26, u7_27, u8_18, ([zO4 rl cr inn a1_34 a2_35 a3_36 a4_37, zAr T 0 a1_34 7 k1, zAr T 0 a2_35 28 k2, zAr T 0 a3_36 7 k3, zAr T 0 a4_37 7 (upd k4 r_17.toNatClampNeg r_31)]), inn, k3, (upd k4 r_17.toNatClampNeg r_31), rfl, hw_38, (by first | exact hI | exact zLI_post hI _ (by omega)), h_29, (by rw [h_19]; have hz := zLc_pw (d := 3) (by decide) (a := pAdv k a) hC hB.2.2.2.2.2.1 hF.2.2.2.2.2.1 h_16 h_30; rw [show (if 3 = 2 ∧ 0 ≤ r_17.toInt ∧ r_17.toInt < 7 then upd k3 r_17.toInt.toNat r_31 else k3) = k3 from if_neg (by omega), show (if 3 = 3 ∧ 0 ≤ r_17.toInt ∧ r_17.toInt < 7 then upd k4 r_17.toInt.toNat r_31 else k4) = upd k4 r_17.toInt.toNat r_31 from if_pos (by omega)] at hz; exact hz)⟩)
    · have c_33n : ¬ r_17.toInt < (7 : Int) := fun q => c_33 ((fa_lt _ _).mpr q)
      have G := G.sub (bs' := [[zO7 rd rl rdd rg u0_21 u1_22 tp r2 u3_23 u4_24 u5_25 u6_26 u7_27 u8_18], [zAr T 1 tp 600 ft], z]) [1, 2, 0] rfl
      exact z_back hQz_ (z_vret C hr hlocks G (Nat.le_of_ble_eq_true rfl) (Nat.le_of_ble_eq_true rfl) dX7_readOther_77 ⟨u0_21, u1_22, u3_23, u4_24, u5_25, u6_26, u7_27, u8_18, z, inn, k3, k4, rfl, hz, (by first | exact hI | exact zLI_post hI _ (by omega)), h_29, (by rw [h_19]; have hz := zLc_pw (d := 3) (by decide) (a := pAdv k a) hC hB.2.2.2.2.2.1 hF.2.2.2.2.2.1 h_16 h_30; rw [show (if 3 = 2 ∧ 0 ≤ r_17.toInt ∧ r_17.toInt < 7 then upd k3 r_17.toInt.toNat r_31 else k3) = k3 from if_neg (by omega), show (if 3 = 3 ∧ 0 ≤ r_17.toInt ∧ r_17.toInt < 7 then upd k4 r_17.toInt.toNat r_31 else k4) = k4 from if_neg (by omega)] at hz; exact hz)⟩)
set_option maxHeartbeats 4000000 in
set_option maxRecDepth 100000 in
/-- c_f_readOther3 -/
theorem c_f_readOther3 (l : Launch) (T : zTy) (rd : Nat) (rl : Nat) (rdd : Nat) (rg : Nat) (tp : Nat) (r0 : Int32) (r1 : Int32) (r2 : Int32) (r3 : Int32) (r4 : Int32) (r5 : Int32) (r6 : Int32) (r7 : Int32) (r8 : Int32) (ft : Nat → Int32) (cr : Int32) (inn : Int32) (k1 : Nat → Int32) (k2 : Nat → Int32) (k3 : Nat → Int32) (k4 : Nat → Int32) (z : va_W) (k : pT) (n : Nat) (a : pS) (f : Nat → Int32) (hA : zRc k n ft r0 r1 r2 r3 r4 r5 r6 r7 a) (hw : a.2.1.toInt = 0) (hcl : pCl k a.1 = 1) (hz : bLand T rl cr inn k1 k2 k3 k4 z) (hI : zLI cr k1 k3) (hC : zLc cr inn k1 k2 k3 k4 r8 a f) : zMv l T yX7_readOther cX7_readOther 4 5 0 0 [.ref rd, .int 3] [[zO7 rd rl rdd rg r0 r1 tp r2 r3 r4 r5 r6 r7 r8], [zAr T 1 tp 600 ft], z] (fun bs => ∃ (u0 : Int32) (u1 : Int32) (u3 : Int32) (u4 : Int32) (u5 : Int32) (u6 : Int32) (u7 : Int32) (u8 : Int32) (z2 : va_W) (i2 : Int32) (j3 : Nat → Int32) (j4 : Nat → Int32), bs = [[zO7 rd rl rdd rg u0 u1 tp r2 u3 u4 u5 u6 u7 u8], [zAr T 1 tp 600 ft], z2] ∧ bLand T rl cr i2 k1 k2 j3 j4 z2 ∧ zLI cr k1 j3 ∧ zRc k n ft u0 u1 r2 u3 u4 u5 u6 u7 (pInn k (pAdv k a) f).1 ∧ zLc cr i2 k1 k2 j3 j4 u8 (pInn k (pAdv k a) f).1 (pInn k (pAdv k a) f).2) := by
  refine zMv_of (own := RX7) (by decide) rfl (Nat.le_of_ble_eq_true rfl) ?_
  intro p e s m args below meth c A ls C hr hlocks hnm hAe G hl
  refine zHide (fun Qz_ hQz_ => ?_)
  have hx := C.1
  have hb := C.2.1
  have hl : lv_has ls 4 [(0, .ref rd), (1, .int 3)] := hl
  have hok := zRc_ok hA
  obtain ⟨hA1, hA6, hA7, hA8, hA9, hAI, hAE⟩ := id hA
  have hka := hok a.1 hA1.2.2.2
  obtain ⟨t3, t4, t5, t6⟩ := hA7 hw
  have t4i : r4.toInt = (pCl k a.1 : Int) := by rw [t4]; exact nI_toInt (by omega)
  refine lv_aload_n hx hb dX7_readOther_0 rfl (lv_at hl 0 rfl) ?_
  refine z_Vv (bc := [[zO7 rd rl rdd rg r0 r1 tp r2 r3 r4 r5 r6 r7 r8], [zAr T 1 tp 600 ft]]) (br := [z]) (As := []) (rest := []) C G (c_f_nextToken l T rd rl rdd rg tp r0 r1 r2 r3 r4 r5 r6 r7 r8 ft (pEn k a.1) n k t3 hka.1.2.2 hA1.1 hA1.2.2.1 hA1.2.1) (kV_RX7_71 C.2.2.2.2 (Nat.le_of_ble_eq_true rfl) (Nat.le_of_ble_eq_true rfl)) [0, 1] [0, 0] rfl rfl (ci := 7) (qc := (RX7, TX7, 13)) rfl rfl (List.mem_flatten.mpr ⟨_, List.mem_of_getElem? (i := 0) rfl, List.mem_cons_self⟩) rfl rfl hl.1 dX7_readOther_1 (Nat.le_of_ble_eq_true rfl) (Nat.le_of_ble_eq_true rfl) (fun b1 H locs hw G => ?_)
  refine zEx4 hw ?_
  intro u3_1 u4_2 u5_3 u6_4
  refine zCu2 ?_
  intro hbs9 h_5
  clear hw
  subst hbs9
  have G : zS T A s.heap s [z, [zO7 rd rl rdd rg r0 r1 tp r2 u3_1 u4_2 u5_3 u6_4 r7 r8], [zAr T 1 tp 600 ft]] _ _ := G
  have hB := zRc_adv hA hw h_5
  refine lv_aload_n hx hb dX7_readOther_4 rfl (lv_at hl 0 rfl) ?_
  refine lv_bipush (v := 6) hx hb dX7_readOther_5 (by decide) ?_
  refine z_Vi (bc := [[zO7 rd rl rdd rg r0 r1 tp r2 u3_1 u4_2 u5_3 u6_4 r7 r8], [zAr T 1 tp 600 ft]]) (br := [z]) (As := [.int 6]) (rest := []) C G (c_f_readNumber l T rd rl rdd rg tp r0 r1 r2 u3_1 u4_2 u5_3 u6_4 r7 r8 ft k n (pAdv k a) 6 hB) (kV_RX7_120 C.2.2.2.2 (Nat.le_of_ble_eq_true rfl) (Nat.le_of_ble_eq_true rfl)) [1, 2] [1, 0] rfl rfl (ci := 7) (qc := (RX7, TX7, 13)) rfl rfl (List.mem_flatten.mpr ⟨_, List.mem_of_getElem? (i := 0) rfl, List.mem_cons_self⟩) rfl rfl hl.1 dX7_readOther_7 (Nat.le_of_ble_eq_true rfl) (Nat.le_of_ble_eq_true rfl) (fun r_17 b1 H locs hw G => ?_)
  refine zEx7 hw ?_
  intro u0_7 u1_8 u3_9 u4_10 u5_11 u6_12 u7_13
  refine zCu4 ?_
  intro hbs9 h_14 h_15 h_16
  clear hw
  subst hbs9
  have G : zS T A s.heap s [z, [zO7 rd rl rdd rg u0_7 u1_8 tp r2 u3_9 u4_10 u5_11 u6_12 u7_13 r8], [zAr T 1 tp 600 ft]] _ _ := G
  refine lv_istore_n (lv' := [(2, .int r_17), (0, .ref rd), (1, .int 3)]) hx hb dX7_readOther_10 rfl hl (by decide) (zLvf_h rfl) (fun ls hl => ?_)
  refine lv_aload_n hx hb dX7_readOther_11 rfl (lv_at hl 1 rfl) ?_
  refine lv_iload_n hx hb dX7_readOther_12 rfl (lv_at hl 0 rfl) ?_
  refine z_Vv (bc := [[zO7 rd rl rdd rg u0_7 u1_8 tp r2 u3_9 u4_10 u5_11 u6_12 u7_13 r8]]) (br := [z, [zAr T 1 tp 600 ft]]) (As := [.int r_17]) (rest := []) C G (c_f_tellOf l T rd rl rdd rg tp u0_7 u1_8 r2 u3_9 u4_10 u5_11 u6_12 u7_13 r8 r_17) (kV_RX7_126 C.2.2.2.2 (Nat.le_of_ble_eq_true rfl) (Nat.le_of_ble_eq_true rfl)) [1] [1] rfl rfl (ci := 7) (qc := (RX7, TX7, 13)) rfl rfl (List.mem_flatten.mpr ⟨_, List.mem_of_getElem? (i := 0) rfl, List.mem_cons_self⟩) rfl rfl hl.1 dX7_readOther_13 (Nat.le_of_ble_eq_true rfl) (Nat.le_of_ble_eq_true rfl) (fun b1 H locs hw G => ?_)
  refine zEx1 hw ?_
  intro u8_18
  refine zCu2 ?_
  intro hbs9 h_19
  clear hw
  subst hbs9
  have G : zS T A s.heap s [z, [zAr T 1 tp 600 ft], [zO7 rd rl rdd rg u0_7 u1_8 tp r2 u3_9 u4_10 u5_11 u6_12 u7_13 u8_18]] _ _ := G
  have hF : zRc k n ft u0_7 u1_8 r2 u3_9 u4_10 u5_11 u6_12 u7_13 (pCr k (pAdv k a)).2 := zRc_far h_15 _
  refine lv_iload_n hx hb dX7_readOther_16 rfl (lv_at hl 2 rfl) ?_
  refine lv_iconst (v := 3) hx hb dX7_readOther_17 (by decide) ?_
  refine lv_icmp_ne (tgt := 51) hx hb dX7_readOther_18 (by decide) (fun q => absurd (by decide) q) (fun _ => ?_)
  refine lv_aload_n hx hb dX7_readOther_21 rfl (lv_at hl 1 rfl) ?_
  refine z_get C G clX7 2 rfl 0 (by decide) m_fl_RX7_12 rfl dX7_readOther_22 ?_
  refine lv_dup hx hb dX7_readOther_25 rfl ?_
  refine zEx4 hz ?_
  intro a1_21 a2_22 a3_23 a4_24 hbs9
  clear hz
  subst hbs9
  have G : zS T A s.heap s [[zO4 rl cr inn a1_21 a2_22 a3_23 a4_24], [zAr T 0 a1_21 7 k1], [zAr T 0 a2_22 28 k2], [zAr T 0 a3_23 7 k3], [zAr T 0 a4_24 7 k4], [zAr T 1 tp 600 ft], [zO7 rd rl rdd rg u0_7 u1_8 tp r2 u3_9 u4_10 u5_11 u6_12 u7_13 u8_18]] _ _ := G.re rfl
  refine z_get C G clX4 0 rfl 1 (by decide) m_fl_RX7_129 rfl dX7_readOther_26 ?_
  refine lv_iload_n hx hb dX7_readOther_29 rfl (lv_at hl 0 rfl) ?_
  refine lv_if_lt (tgt := 45) hx hb dX7_readOther_30 (by decide) (fun c_25 => ?_) (fun c_25 => ?_)
  · have c_25n : r_17.toInt < (0 : Int) := (fa_lt _ _).mp c_25
    refine lv_iconst (v := 0) hx hb dX7_readOther_45 (by decide) ?_
    refine lv_ior hx hb dX7_readOther_46 ?_
    refine z_put C G clX4 0 rfl 1 (by decide) m_fl_RX7_129 rfl rfl rfl (Nat.le_of_ble_eq_true rfl) dX7_readOther_47 (fun H locs G => ?_)
    have G : zS T A s.heap s [[zO4 rl cr (inn ||| 0) a1_21 a2_22 a3_23 a4_24], [zAr T 0 a1_21 7 k1], [zAr T 0 a2_22 28 k2], [zAr T 0 a3_23 7 k3], [zAr T 0 a4_24 7 k4], [zAr T 1 tp 600 ft], [zO7 rd rl rdd rg u0_7 u1_8 tp r2 u3_9 u4_10 u5_11 u6_12 u7_13 u8_18]] _ _ := G
    have hw_26 : bLand T rl cr (inn ||| 0) k1 k2 k3 k4 [zO4 rl cr (inn ||| 0) a1_21 a2_22 a3_23 a4_24, zAr T 0 a1_21 7 k1, zAr T 0 a2_22 28 k2, zAr T 0 a3_23 7 k3, zAr T 0 a4_24 7 k4] := ⟨a1_21, a2_22, a3_23, a4_24, rfl⟩
    have G : zS T A s.heap s [[zO4 rl cr (inn ||| 0) a1_21 a2_22 a3_23 a4_24, zAr T 0 a1_21 7 k1, zAr T 0 a2_22 28 k2, zAr T 0 a3_23 7 k3, zAr T 0 a4_24 7 k4], [zAr T 1 tp 600 ft], [zO7 rd rl rdd rg u0_7 u1_8 tp r2 u3_9 u4_10 u5_11 u6_12 u7_13 u8_18]] _ _ := G.re rfl
    have G := G.sub (bs' := [[zO7 rd rl rdd rg u0_7 u1_8 tp r2 u3_9 u4_10 u5_11 u6_12 u7_13 u8_18], [zAr T 1 tp 600 ft], [zO4 rl cr (inn ||| 0) a1_21 a2_22 a3_23 a4_24, zAr T 0 a1_21 7 k1, zAr T 0 a2_22 28 k2, zAr T 0 a3_23 7 k3, zAr T 0 a4_24 7 k4]]) [2, 1, 0] rfl
    exact z_back hQz_ (z_vret C hr hlocks G (Nat.le_of_ble_eq_true rfl) (Nat.le_of_ble_eq_true rfl) dX7_readOther_50 ⟨u0_7, u1_8, u3_9, u4_10, u5_11, u6_12, u7_13, u8_18, ([zO4 rl cr (inn ||| 0) a1_21 a2_22 a3_23 a4_24, zAr T 0 a1_21 7 k1, zAr T 0 a2_22 28 k2, zAr T 0 a3_23 7 k3, zAr T 0 a4_24 7 k4]), (inn ||| 0), k3, k4, rfl, hw_26, hI, hF, (by rw [h_19]; have hz := zLc_inn (a := pAdv k a) hC hB.2.2.2.2.2.1 h_16; rw [show (if 0 ≤ r_17.toInt ∧ r_17.toInt < 7 then (1 : Int32) <<< (r_17 &&& 31) else (0 : Int32)) = (0 : Int32) from if_neg (by omega)] at hz; exact hz)⟩)
  · have c_25n : ¬ r_17.toInt < (0 : Int) := fun q => c_25 ((fa_lt _ _).mpr q)
    refine lv_iload_n hx hb dX7_readOther_33 rfl (lv_at hl 0 rfl) ?_
    refine lv_bipush (v := 7) hx hb dX7_readOther_34 (by decide) ?_
    refine lv_icmp_ge (tgt := 45) hx hb dX7_readOther_36 (by decide) (fun c_27 => ?_) (fun c_27 => ?_)
    · have c_27n : (7 : Int) ≤ r_17.toInt := (fa_le _ _).mp c_27
      refine lv_iconst (v := 0) hx hb dX7_readOther_45 (by decide) ?_
      refine lv_ior hx hb dX7_readOther_46 ?_
      refine z_put C G clX4 0 rfl 1 (by decide) m_fl_RX7_129 rfl rfl rfl (Nat.le_of_ble_eq_true rfl) dX7_readOther_47 (fun H locs G => ?_)
      have G : zS T A s.heap s [[zO4 rl cr (inn ||| 0) a1_21 a2_22 a3_23 a4_24], [zAr T 0 a1_21 7 k1], [zAr T 0 a2_22 28 k2], [zAr T 0 a3_23 7 k3], [zAr T 0 a4_24 7 k4], [zAr T 1 tp 600 ft], [zO7 rd rl rdd rg u0_7 u1_8 tp r2 u3_9 u4_10 u5_11 u6_12 u7_13 u8_18]] _ _ := G
      have hw_28 : bLand T rl cr (inn ||| 0) k1 k2 k3 k4 [zO4 rl cr (inn ||| 0) a1_21 a2_22 a3_23 a4_24, zAr T 0 a1_21 7 k1, zAr T 0 a2_22 28 k2, zAr T 0 a3_23 7 k3, zAr T 0 a4_24 7 k4] := ⟨a1_21, a2_22, a3_23, a4_24, rfl⟩
      have G : zS T A s.heap s [[zO4 rl cr (inn ||| 0) a1_21 a2_22 a3_23 a4_24, zAr T 0 a1_21 7 k1, zAr T 0 a2_22 28 k2, zAr T 0 a3_23 7 k3, zAr T 0 a4_24 7 k4], [zAr T 1 tp 600 ft], [zO7 rd rl rdd rg u0_7 u1_8 tp r2 u3_9 u4_10 u5_11 u6_12 u7_13 u8_18]] _ _ := G.re rfl
      have G := G.sub (bs' := [[zO7 rd rl rdd rg u0_7 u1_8 tp r2 u3_9 u4_10 u5_11 u6_12 u7_13 u8_18], [zAr T 1 tp 600 ft], [zO4 rl cr (inn ||| 0) a1_21 a2_22 a3_23 a4_24, zAr T 0 a1_21 7 k1, zAr T 0 a2_22 28 k2, zAr T 0 a3_23 7 k3, zAr T 0 a4_24 7 k4]]) [2, 1, 0] rfl
      exact z_back hQz_ (z_vret C hr hlocks G (Nat.le_of_ble_eq_true rfl) (Nat.le_of_ble_eq_true rfl) dX7_readOther_50 ⟨u0_7, u1_8, u3_9, u4_10, u5_11, u6_12, u7_13, u8_18, ([zO4 rl cr (inn ||| 0) a1_21 a2_22 a3_23 a4_24, zAr T 0 a1_21 7 k1, zAr T 0 a2_22 28 k2, zAr T 0 a3_23 7 k3, zAr T 0 a4_24 7 k4]), (inn ||| 0), k3, k4, rfl, hw_28, hI, hF, (by rw [h_19]; have hz := zLc_inn (a := pAdv k a) hC hB.2.2.2.2.2.1 h_16; rw [show (if 0 ≤ r_17.toInt ∧ r_17.toInt < 7 then (1 : Int32) <<< (r_17 &&& 31) else (0 : Int32)) = (0 : Int32) from if_neg (by omega)] at hz; exact hz)⟩)
    · have c_27n : ¬ (7 : Int) ≤ r_17.toInt := fun q => c_27 ((fa_le _ _).mpr q)
      refine lv_iconst (v := 1) hx hb dX7_readOther_39 (by decide) ?_
      refine lv_iload_n hx hb dX7_readOther_40 rfl (lv_at hl 0 rfl) ?_
      refine lv_ishl hx hb dX7_readOther_41 ?_
      refine lv_goto (tgt := 46) hx hb dX7_readOther_42 (by decide) ?_
      refine lv_ior hx hb dX7_readOther_46 ?_
      refine z_put C G clX4 0 rfl 1 (by decide) m_fl_RX7_129 rfl rfl rfl (Nat.le_of_ble_eq_true rfl) dX7_readOther_47 (fun H locs G => ?_)
      have G : zS T A s.heap s [[zO4 rl cr (inn ||| (1 <<< (r_17 &&& 31))) a1_21 a2_22 a3_23 a4_24], [zAr T 0 a1_21 7 k1], [zAr T 0 a2_22 28 k2], [zAr T 0 a3_23 7 k3], [zAr T 0 a4_24 7 k4], [zAr T 1 tp 600 ft], [zO7 rd rl rdd rg u0_7 u1_8 tp r2 u3_9 u4_10 u5_11 u6_12 u7_13 u8_18]] _ _ := G
      have hw_29 : bLand T rl cr (inn ||| (1 <<< (r_17 &&& 31))) k1 k2 k3 k4 [zO4 rl cr (inn ||| (1 <<< (r_17 &&& 31))) a1_21 a2_22 a3_23 a4_24, zAr T 0 a1_21 7 k1, zAr T 0 a2_22 28 k2, zAr T 0 a3_23 7 k3, zAr T 0 a4_24 7 k4] := ⟨a1_21, a2_22, a3_23, a4_24, rfl⟩
      have G : zS T A s.heap s [[zO4 rl cr (inn ||| (1 <<< (r_17 &&& 31))) a1_21 a2_22 a3_23 a4_24, zAr T 0 a1_21 7 k1, zAr T 0 a2_22 28 k2, zAr T 0 a3_23 7 k3, zAr T 0 a4_24 7 k4], [zAr T 1 tp 600 ft], [zO7 rd rl rdd rg u0_7 u1_8 tp r2 u3_9 u4_10 u5_11 u6_12 u7_13 u8_18]] _ _ := G.re rfl
      have G := G.sub (bs' := [[zO7 rd rl rdd rg u0_7 u1_8 tp r2 u3_9 u4_10 u5_11 u6_12 u7_13 u8_18], [zAr T 1 tp 600 ft], [zO4 rl cr (inn ||| (1 <<< (r_17 &&& 31))) a1_21 a2_22 a3_23 a4_24, zAr T 0 a1_21 7 k1, zAr T 0 a2_22 28 k2, zAr T 0 a3_23 7 k3, zAr T 0 a4_24 7 k4]]) [2, 1, 0] rfl
      exact z_back hQz_ (z_vret C hr hlocks G (Nat.le_of_ble_eq_true rfl) (Nat.le_of_ble_eq_true rfl) dX7_readOther_50 ⟨u0_7, u1_8, u3_9, u4_10, u5_11, u6_12, u7_13, u8_18, ([zO4 rl cr (inn ||| (1 <<< (r_17 &&& 31))) a1_21 a2_22 a3_23 a4_24, zAr T 0 a1_21 7 k1, zAr T 0 a2_22 28 k2, zAr T 0 a3_23 7 k3, zAr T 0 a4_24 7 k4]), (inn ||| (1 <<< (r_17 &&& 31))), k3, k4, rfl, hw_29, hI, hF, (by rw [h_19]; have hz := zLc_inn (a := pAdv k a) hC hB.2.2.2.2.2.1 h_16; rw [show (if 0 ≤ r_17.toInt ∧ r_17.toInt < 7 then (1 : Int32) <<< (r_17 &&& 31) else (0 : Int32)) = (1 : Int32) <<< (r_17 &&& 31) from if_pos (by omega)] at hz; exact hz)⟩)
set_option maxHeartbeats 4000000 in
set_option maxRecDepth 100000 in
/-- c_f_readCrossing -/
theorem c_f_readCrossing (l : Launch) (T : zTy) (rd : Nat) (rl : Nat) (rdd : Nat) (rg : Nat) (tp : Nat) (r0 : Int32) (r1 : Int32) (r2 : Int32) (r3 : Int32) (r4 : Int32) (r5 : Int32) (r6 : Int32) (r7 : Int32) (r8 : Int32) (ft : Nat → Int32) (cr : Int32) (inn : Int32) (k1 : Nat → Int32) (k2 : Nat → Int32) (k3 : Nat → Int32) (k4 : Nat → Int32) (z : va_W) (k : pT) (n : Nat) (a : pS) (f : Nat → Int32) (hA : zRc k n ft r0 r1 r2 r3 r4 r5 r6 r7 a) (hw : a.2.1.toInt = 0) (hcl : pCl k a.1 = 1) (hz : bLand T rl cr inn k1 k2 k3 k4 z) (hI : zLI cr k1 k3) (hC : zLc cr inn k1 k2 k3 k4 r8 a f) : zMv l T yX7_readCrossing cX7_readCrossing 6 5 0 0 [.ref rd] [[zO7 rd rl rdd rg r0 r1 tp r2 r3 r4 r5 r6 r7 r8], [zAr T 1 tp 600 ft], z] (fun bs => ∃ (u0 : Int32) (u1 : Int32) (u3 : Int32) (u4 : Int32) (u5 : Int32) (u6 : Int32) (u7 : Int32) (u8 : Int32) (z2 : va_W) (c2 : Int32) (j1 : Nat → Int32) (j2 : Nat → Int32), bs = [[zO7 rd rl rdd rg u0 u1 tp r2 u3 u4 u5 u6 u7 u8], [zAr T 1 tp 600 ft], z2] ∧ bLand T rl c2 inn j1 j2 k3 k4 z2 ∧ zLI c2 j1 k3 ∧ zRc k n ft u0 u1 r2 u3 u4 u5 u6 u7 (pCross k (nI (pWh k a.1)) (pAdv k a) f).1 ∧ zLc c2 inn j1 j2 k3 k4 u8 (pCross k (nI (pWh k a.1)) (pAdv k a) f).1 (pCross k (nI (pWh k a.1)) (pAdv k a) f).2) := by
  refine zMv_of (own := RX7) (by decide) rfl (Nat.le_of_ble_eq_true rfl) ?_
  intro p e s m args below meth c A ls C hr hlocks hnm hAe G hl
  refine zHide (fun Qz_ hQz_ => ?_)
  have hx := C.1
  have hb := C.2.1
  have hl : lv_has ls 6 [(0, .ref rd)] := hl
  have hok := zRc_ok hA
  obtain ⟨hA1, hA6, hA7, hA8, hA9, hAI, hAE⟩ := id hA
  have hka := hok a.1 hA1.2.2.2
  obtain ⟨t3, t4, t5, t6⟩ := hA7 hw
  have t4i : r4.toInt = (pCl k a.1 : Int) := by rw [t4]; exact nI_toInt (by omega)
  have hcr := hI.1
  have hcn : ¬ pCl k a.1 = 0 := by omega
  have hdd := fun q => (hC q).1
  refine lv_aload_n hx hb dX7_readCrossing_0 rfl (lv_at hl 0 rfl) ?_
  refine z_get C G clX7 0 rfl 0 (by decide) m_fl_RX7_12 rfl dX7_readCrossing_1 ?_
  refine zEx4 hz ?_
  intro a1_1 a2_2 a3_3 a4_4 hbs9
  clear hz
  subst hbs9
  have G : zS T A s.heap s [[zO7 rd rl rdd rg r0 r1 tp r2 r3 r4 r5 r6 r7 r8], [zAr T 1 tp 600 ft], [zO4 rl cr inn a1_1 a2_2 a3_3 a4_4], [zAr T 0 a1_1 7 k1], [zAr T 0 a2_2 28 k2], [zAr T 0 a3_3 7 k3], [zAr T 0 a4_4 7 k4]] _ _ := G.re rfl
  refine z_get C G clX4 2 rfl 0 (by decide) m_fl_RX7_87 rfl dX7_readCrossing_4 ?_
  refine lv_istore_n (lv' := [(1, .int cr), (0, .ref rd)]) hx hb dX7_readCrossing_7 rfl hl (by decide) (zLvf_h rfl) (fun ls hl => ?_)
  refine lv_iload_n hx hb dX7_readCrossing_8 rfl (lv_at hl 0 rfl) ?_
  refine lv_bipush (v := 7) hx hb dX7_readCrossing_9 (by decide) ?_
  refine lv_icmp_lt (tgt := 26) hx hb dX7_readCrossing_11 (by decide) (fun c_5 => ?_) (fun c_5 => ?_)
  · have c_5n : cr.toInt < (7 : Int) := (fa_lt _ _).mp c_5
    refine lv_aload_n hx hb dX7_readCrossing_26 rfl (lv_at hl 1 rfl) ?_
    refine z_get C G clX7 0 rfl 0 (by decide) m_fl_RX7_12 rfl dX7_readCrossing_27 ?_
    refine lv_dup hx hb dX7_readCrossing_30 rfl ?_
    refine z_get C G clX4 2 rfl 0 (by decide) m_fl_RX7_87 rfl dX7_readCrossing_31 ?_
    refine lv_iconst (v := 1) hx hb dX7_readCrossing_34 (by decide) ?_
    refine lv_iadd hx hb dX7_readCrossing_35 ?_
    refine lv_topi (fun y_6 ey_6 => ?_)
    have ey_6i : y_6.toInt = cr.toInt + (1 : Int) := by rw [ey_6]; exact z_iaddI (x := cr) (y := (1 : Int32)) (by show -2147483648 ≤ cr.toInt + (1 : Int); omega) (by show cr.toInt + (1 : Int) < 2147483648; omega)
    refine z_put C G clX4 2 rfl 0 (by decide) m_fl_RX7_87 rfl rfl rfl (Nat.le_of_ble_eq_true rfl) dX7_readCrossing_36 (fun H locs G => ?_)
    have G : zS T A s.heap s [[zO7 rd rl rdd rg r0 r1 tp r2 r3 r4 r5 r6 r7 r8], [zAr T 1 tp 600 ft], [zO4 rl y_6 inn a1_1 a2_2 a3_3 a4_4], [zAr T 0 a1_1 7 k1], [zAr T 0 a2_2 28 k2], [zAr T 0 a3_3 7 k3], [zAr T 0 a4_4 7 k4]] _ _ := G
    refine lv_aload_n hx hb dX7_readCrossing_39 rfl (lv_at hl 1 rfl) ?_
    refine z_Vv (bc := [[zO7 rd rl rdd rg r0 r1 tp r2 r3 r4 r5 r6 r7 r8], [zAr T 1 tp 600 ft]]) (br := [[zO4 rl y_6 inn a1_1 a2_2 a3_3 a4_4], [zAr T 0 a1_1 7 k1], [zAr T 0 a2_2 28 k2], [zAr T 0 a3_3 7 k3], [zAr T 0 a4_4 7 k4]]) (As := []) (rest := []) C G (c_f_nextToken l T rd rl rdd rg tp r0 r1 r2 r3 r4 r5 r6 r7 r8 ft (pEn k a.1) n k t3 hka.1.2.2 hA1.1 hA1.2.2.1 hA1.2.1) (kV_RX7_71 C.2.2.2.2 (Nat.le_of_ble_eq_true rfl) (Nat.le_of_ble_eq_true rfl)) [0, 1] [0, 0] rfl rfl (ci := 7) (qc := (RX7, TX7, 13)) rfl rfl (List.mem_flatten.mpr ⟨_, List.mem_of_getElem? (i := 0) rfl, List.mem_cons_self⟩) rfl rfl hl.1 dX7_readCrossing_40 (Nat.le_of_ble_eq_true rfl) (Nat.le_of_ble_eq_true rfl) (fun b1 H locs hw G => ?_)
    refine zEx4 hw ?_
    intro u3_7 u4_8 u5_9 u6_10
    refine zCu2 ?_
    intro hbs9 h_11
    clear hw
    subst hbs9
    have G : zS T A s.heap s [[zO4 rl y_6 inn a1_1 a2_2 a3_3 a4_4], [zAr T 0 a1_1 7 k1], [zAr T 0 a2_2 28 k2], [zAr T 0 a3_3 7 k3], [zAr T 0 a4_4 7 k4], [zO7 rd rl rdd rg r0 r1 tp r2 u3_7 u4_8 u5_9 u6_10 r7 r8], [zAr T 1 tp 600 ft]] _ _ := G
    have hB := zRc_d0 (m := 7) hA hw hdd (by omega) h_11
    obtain ⟨b, hbq⟩ : ∃ b, b = pDB 7 (nI (pWh k a.1)) f (pAdv k a) := ⟨_, rfl⟩
    rw [← hbq] at hB
    have hwb : b.2.1.toInt = 0 := by rw [hbq, pDB_fa.2]; exact hw
    have hIa : zLI y_6 k1 k3 := zLI_cr hI (by have q := hI.1; omega)
    have hL0 : zLr cr y_6 inn k1 k2 k3 k4 r8 0 b f := by rw [hbq]; exact zLr_in (k := k) (a := pAdv k a) hC hw (fun _ => ey_6)
    refine lv_iconst (v := 0) hx hb dX7_readCrossing_43 (by decide) ?_
    refine lv_istore_n (lv' := [(2, .int 0), (1, .int cr), (0, .ref rd)]) hx hb dX7_readCrossing_44 rfl hl (by decide) (zLvf_h rfl) (fun ls hl => ?_)
    refine lv_iconst (v := 0) hx hb dX7_readCrossing_45 (by decide) ?_
    refine lv_istore_n (lv' := [(3, .int 0), (2, .int 0), (1, .int cr), (0, .ref rd)]) hx hb dX7_readCrossing_46 rfl hl (by decide) (zLvf_h rfl) (fun ls hl => ?_)
    have hw_13 : bLand T rl y_6 inn k1 k2 k3 k4 [zO4 rl y_6 inn a1_1 a2_2 a3_3 a4_4, zAr T 0 a1_1 7 k1, zAr T 0 a2_2 28 k2, zAr T 0 a3_3 7 k3, zAr T 0 a4_4 7 k4] := ⟨a1_1, a2_2, a3_3, a4_4, rfl⟩
    have G : zS T A s.heap s [[zO4 rl y_6 inn a1_1 a2_2 a3_3 a4_4, zAr T 0 a1_1 7 k1, zAr T 0 a2_2 28 k2, zAr T 0 a3_3 7 k3, zAr T 0 a4_4 7 k4], [zO7 rd rl rdd rg r0 r1 tp r2 u3_7 u4_8 u5_9 u6_10 r7 r8], [zAr T 1 tp 600 ft]] _ _ := G.re rfl
    refine z_lp14 (T := T) 47 (fun (j : Nat) (A9 : pS) (fr : Nat → Int32) (y0 : Int32) (y1 : Int32) (y3 : Int32) (y4 : Int32) (y5 : Int32) (y6 : Int32) (y7 : Int32) (y8 : Int32) (z3 : va_W) (x1 : Nat → Int32) (x2 : Nat → Int32) => [z3, [zO7 rd rl rdd rg y0 y1 tp r2 y3 y4 y5 y6 y7 y8], [zAr T 1 tp 600 ft]]) (fun (j : Nat) (A9 : pS) (fr : Nat → Int32) (y0 : Int32) (y1 : Int32) (y3 : Int32) (y4 : Int32) (y5 : Int32) (y6 : Int32) (y7 : Int32) (y8 : Int32) (z3 : va_W) (x1 : Nat → Int32) (x2 : Nat → Int32) => [(3, .int (nI j)), (2, .int (nI j)), (1, .int cr), (0, .ref rd)]) (fun (j : Nat) (A9 : pS) (fr : Nat → Int32) (y0 : Int32) (y1 : Int32) (y3 : Int32) (y4 : Int32) (y5 : Int32) (y6 : Int32) (y7 : Int32) (y8 : Int32) (z3 : va_W) (x1 : Nat → Int32) (x2 : Nat → Int32) => bLand T rl y_6 inn x1 x2 k3 k4 z3 ∧ j ≤ 601 ∧ zRc k n ft y0 y1 r2 y3 y4 y5 y6 y7 A9 ∧ A9.2.1.toInt = 0 ∧ j ≤ A9.1 ∧ pRoads k (601 - j) (min j 4) A9 fr = pRoads k 601 0 b f ∧ fr 0 = f 0 ∧ zLr cr y_6 inn x1 x2 k3 k4 y8 (min j 4) A9 fr ∧ zLI y_6 x1 k3) (fun (j : Nat) (A9 : pS) (fr : Nat → Int32) (y0 : Int32) (y1 : Int32) (y3 : Int32) (y4 : Int32) (y5 : Int32) (y6 : Int32) (y7 : Int32) (y8 : Int32) (z3 : va_W) (x1 : Nat → Int32) (x2 : Nat → Int32) => 601 - j) ?_ 0 b f r0 r1 u3_7 u4_8 u5_9 u6_10 r7 r8 ([zO4 rl y_6 inn a1_1 a2_2 a3_3 a4_4, zAr T 0 a1_1 7 k1, zAr T 0 a2_2 28 k2, zAr T 0 a3_3 7 k3, zAr T 0 a4_4 7 k4]) k1 k2 (show bLand T rl y_6 inn k1 k2 k3 k4 ([zO4 rl y_6 inn a1_1 a2_2 a3_3 a4_4, zAr T 0 a1_1 7 k1, zAr T 0 a2_2 28 k2, zAr T 0 a3_3 7 k3, zAr T 0 a4_4 7 k4]) ∧ 0 ≤ 601 ∧ zRc k n ft r0 r1 r2 u3_7 u4_8 u5_9 u6_10 r7 b ∧ b.2.1.toInt = 0 ∧ 0 ≤ b.1 ∧ pRoads k (601 - 0) (min 0 4) b f = pRoads k 601 0 b f ∧ f 0 = f 0 ∧ zLr cr y_6 inn k1 k2 k3 k4 r8 (min 0 4) b f ∧ zLI y_6 k1 k3 from ⟨hw_13, by omega, hB, hwb, (Nat.zero_le _), rfl, rfl, hL0, hIa⟩) G (lv_sub hl [0, 1, 2, 3] rfl)
    intro j A9 fr y0 y1 y3 y4 y5 y6 y7 y8 z3 x1 x2 hI9 ih_47 H locs ls G hl
    replace hI9 : bLand T rl y_6 inn x1 x2 k3 k4 z3 ∧ j ≤ 601 ∧ zRc k n ft y0 y1 r2 y3 y4 y5 y6 y7 A9 ∧ A9.2.1.toInt = 0 ∧ j ≤ A9.1 ∧ pRoads k (601 - j) (min j 4) A9 fr = pRoads k 601 0 b f ∧ fr 0 = f 0 ∧ zLr cr y_6 inn x1 x2 k3 k4 y8 (min j 4) A9 fr ∧ zLI y_6 x1 k3 := hI9
    refine zAn9 hI9 ?_
    intro hz3 hj hBA hwA hpj hEq hf0 hLr hI2
    clear hI9
    replace G : zS T A s.heap s [z3, [zO7 rd rl rdd rg y0 y1 tp r2 y3 y4 y5 y6 y7 y8], [zAr T 1 tp 600 ft]] _ _ := G
    replace hl : lv_has ls 6 [(3, .int (nI j)), (2, .int (nI j)), (1, .int cr), (0, .ref rd)] := hl
    refine lv_iload_n hx hb dX7_readCrossing_47 rfl (lv_at hl 0 rfl) ?_
    have hokA := zRc_ok hBA
    obtain ⟨hA1A, hA6A, hA7A, hA8A, hA9A, hAIA, hAEA⟩ := id hBA
    have hkaA := hokA A9.1 hA1A.2.2.2
    obtain ⟨t3A, t4A, t5A, t6A⟩ := hA7A hwA
    have t4iA : y4.toInt = (pCl k A9.1 : Int) := by rw [t4A]; exact nI_toInt (by omega)
    have hjn : j ≤ n := Nat.le_trans hpj hA1A.2.2.2
    have hn6 := hA1A.2.1
    refine lv_sipush (v := 600) hx hb dX7_readCrossing_48 (by decide) ?_
    refine lv_icmp_gt (tgt := 113) hx hb dX7_readCrossing_51 (by decide) (fun c_14 => ?_) (fun c_14 => ?_)
    · have c_14n : 600 < j := (nI_ltI (a := 600) (b := j) (by omega) (by omega)).mp c_14
      have G := G.sub (bs' := [[zO7 rd rl rdd rg y0 y1 tp r2 y3 y4 y5 y6 y7 y8], [zAr T 1 tp 600 ft], z3]) [1, 2, 0] rfl
      exact z_back hQz_ (z_vret C hr hlocks G (Nat.le_of_ble_eq_true rfl) (Nat.le_of_ble_eq_true rfl) dX7_readCrossing_113 ⟨y0, y1, y3, y4, y5, y6, y7, y8, z3, y_6, x1, x2, rfl, hz3, hI2, (by first | (exfalso; omega) | (rw [pCross_e hbq (hEq.symm.trans (pRoads_x (fun q9 => by have := (pTk_1 hokA hA1A.2.2.2).mp q9.2; omega)))]; exact hBA)), (by first | (exfalso; omega) | (rw [pCross_e hbq (hEq.symm.trans (pRoads_x (fun q9 => by have := (pTk_1 hokA hA1A.2.2.2).mp q9.2; omega)))]; exact zLr_end hLr hf0))⟩)
    · have c_14n : ¬ 600 < j := fun q => c_14 ((nI_ltI (a := 600) (b := j) (by omega) (by omega)).mpr q)
      refine lv_aload_n hx hb dX7_readCrossing_54 rfl (lv_at hl 3 rfl) ?_
      refine z_get C G clX7 1 rfl 8 (by decide) m_fl_RX7_74 rfl dX7_readCrossing_55 ?_
      refine lv_iconst (v := 2) hx hb dX7_readCrossing_58 (by decide) ?_
      refine lv_icmp_ne (tgt := 113) hx hb dX7_readCrossing_59 (by decide) (fun c_15 => ?_) (fun c_15 => ?_)
      · have c_15n : ¬ y4.toInt = (2 : Int) := fun q => c_15 ((fa_eq _ _).mpr q)
        have G := G.sub (bs' := [[zO7 rd rl rdd rg y0 y1 tp r2 y3 y4 y5 y6 y7 y8], [zAr T 1 tp 600 ft], z3]) [1, 2, 0] rfl
        exact z_back hQz_ (z_vret C hr hlocks G (Nat.le_of_ble_eq_true rfl) (Nat.le_of_ble_eq_true rfl) dX7_readCrossing_113 ⟨y0, y1, y3, y4, y5, y6, y7, y8, z3, y_6, x1, x2, rfl, hz3, hI2, (by first | (exfalso; omega) | (rw [pCross_e hbq (hEq.symm.trans (pRoads_x (fun q9 => by have := (pTk_1 hokA hA1A.2.2.2).mp q9.2; omega)))]; exact hBA)), (by first | (exfalso; omega) | (rw [pCross_e hbq (hEq.symm.trans (pRoads_x (fun q9 => by have := (pTk_1 hokA hA1A.2.2.2).mp q9.2; omega)))]; exact zLr_end hLr hf0))⟩)
      · have c_15n : y4.toInt = (2 : Int) := (fa_eq _ _).mp c_15
        have hclA : pCl k A9.1 = 2 := by omega
        have htA := (pTk_1 hokA hA1A.2.2.2).mpr hclA
        have hst := pStep (f := fr) (g := f) hokA hA1A.2.2.2 hwA htA hpj hf0
        refine lv_aload_n hx hb dX7_readCrossing_62 rfl (lv_at hl 3 rfl) ?_
        refine z_get C G clX7 1 rfl 9 (by decide) m_fl_RX7_84 rfl dX7_readCrossing_63 ?_
        refine lv_istore (lv' := [(4, .int y5), (3, .int (nI j)), (2, .int (nI j)), (1, .int cr), (0, .ref rd)]) hx hb dX7_readCrossing_66 hl (by decide) (zLvf_h rfl) (fun ls hl => ?_)
        refine lv_aload_n hx hb dX7_readCrossing_68 rfl (lv_at hl 4 rfl) ?_
        refine lv_bipush (v := 6) hx hb dX7_readCrossing_69 (by decide) ?_
        refine z_Vi (bc := [[zO7 rd rl rdd rg y0 y1 tp r2 y3 y4 y5 y6 y7 y8], [zAr T 1 tp 600 ft]]) (br := [z3]) (As := [.int 6]) (rest := []) C G (c_f_readNumber l T rd rl rdd rg tp y0 y1 r2 y3 y4 y5 y6 y7 y8 ft k n A9 6 hBA) (kV_RX7_120 C.2.2.2.2 (Nat.le_of_ble_eq_true rfl) (Nat.le_of_ble_eq_true rfl)) [1, 2] [1, 0] rfl rfl (ci := 7) (qc := (RX7, TX7, 13)) rfl rfl (List.mem_flatten.mpr ⟨_, List.mem_of_getElem? (i := 0) rfl, List.mem_cons_self⟩) rfl rfl hl.1 dX7_readCrossing_71 (Nat.le_of_ble_eq_true rfl) (Nat.le_of_ble_eq_true rfl) (fun r_26 b1 H locs hw G => ?_)
        refine zEx7 hw ?_
        intro u0_16 u1_17 u3_18 u4_19 u5_20 u6_21 u7_22
        refine zCu4 ?_
        intro hbs9 h_23 h_24 h_25
        clear hw
        subst hbs9
        have G : zS T A s.heap s [z3, [zO7 rd rl rdd rg u0_16 u1_17 tp r2 u3_18 u4_19 u5_20 u6_21 u7_22 y8], [zAr T 1 tp 600 ft]] _ _ := G
        refine lv_istore (lv' := [(5, .int r_26), (4, .int y5), (3, .int (nI j)), (2, .int (nI j)), (1, .int cr), (0, .ref rd)]) hx hb dX7_readCrossing_74 hl (by decide) (zLvf_h rfl) (fun ls hl => ?_)
        refine lv_iload_n hx hb dX7_readCrossing_76 rfl (lv_at hl 3 rfl) ?_
        refine lv_iconst (v := 4) hx hb dX7_readCrossing_77 (by decide) ?_
        refine lv_icmp_lt (tgt := 88) hx hb dX7_readCrossing_78 (by decide) (fun c_27 => ?_) (fun c_27 => ?_)
        · have c_27n : j < 4 := (nI_ltI (a := j) (b := 4) (by omega) (by omega)).mp c_27
          have hnR : zRc k n ft u0_16 u1_17 r2 u3_18 u4_19 u5_20 u6_21 u7_22 (pCr k (pAt k j A9)).2 := zRc_cr0 (by omega) h_24
          refine lv_iinc (v := nI (j + 1)) (lv' := [(2, .int (nI (j + 1))), (5, .int r_26), (4, .int y5), (3, .int (nI j)), (1, .int cr), (0, .ref rd)]) hx hb dX7_readCrossing_88 hl (k := 3) rfl (z_inc j 1) (by decide) (zLvf_h rfl) (fun ls hl => ?_)
          refine lv_aload_n hx hb dX7_readCrossing_91 rfl (lv_at hl 5 rfl) ?_
          refine z_get C G clX7 1 rfl 0 (by decide) m_fl_RX7_12 rfl dX7_readCrossing_92 ?_
          refine lv_iload_n hx hb dX7_readCrossing_95 rfl (lv_at hl 4 rfl) ?_
          refine lv_iload hx hb dX7_readCrossing_96 (lv_at hl 1 rfl) ?_
          refine z_Vv (bc := [z3]) (br := [[zO7 rd rl rdd rg u0_16 u1_17 tp r2 u3_18 u4_19 u5_20 u6_21 u7_22 y8], [zAr T 1 tp 600 ft]]) (As := [.int cr, .int r_26]) (rest := []) C G (c_addRoad l T rl y_6 inn x1 x2 k3 k4 z3 cr r_26 hz3 hI2) (kV_RX7_123 C.2.2.2.2 (Nat.le_of_ble_eq_true rfl) (Nat.le_of_ble_eq_true rfl)) [0] [0] rfl rfl (ci := 4) (qc := (RX4, TX4, 6)) rfl rfl (List.mem_flatten.mpr ⟨_, List.mem_of_getElem? (i := 0) rfl, (bLand_mem hz3).choose_spec⟩) rfl rfl hl.1 dX7_readCrossing_98 (Nat.le_of_ble_eq_true rfl) (Nat.le_of_ble_eq_true rfl) (fun b1 H locs hw G => ?_)
          refine zEx3 hw ?_
          intro w2_28 g1_29 g2_30
          refine zCu4 ?_
          intro hbs9 h_31 h_32 h_33
          clear hw
          subst hbs9
          have G : zS T A s.heap s [[zO7 rd rl rdd rg u0_16 u1_17 tp r2 u3_18 u4_19 u5_20 u6_21 u7_22 y8], [zAr T 1 tp 600 ft], w2_28] _ _ := G
          have hI3 : zLI y_6 g1_29 k3 := by rw [h_32]; exact zLI_add hI2 _
          refine lv_aload_n hx hb dX7_readCrossing_101 rfl (lv_at hl 5 rfl) ?_
          refine lv_iload hx hb dX7_readCrossing_102 (lv_at hl 1 rfl) ?_
          refine z_Vv (bc := [[zO7 rd rl rdd rg u0_16 u1_17 tp r2 u3_18 u4_19 u5_20 u6_21 u7_22 y8]]) (br := [[zAr T 1 tp 600 ft], w2_28]) (As := [.int r_26]) (rest := []) C G (c_f_tellOf l T rd rl rdd rg tp u0_16 u1_17 r2 u3_18 u4_19 u5_20 u6_21 u7_22 y8 r_26) (kV_RX7_126 C.2.2.2.2 (Nat.le_of_ble_eq_true rfl) (Nat.le_of_ble_eq_true rfl)) [0] [0] rfl rfl (ci := 7) (qc := (RX7, TX7, 13)) rfl rfl (List.mem_flatten.mpr ⟨_, List.mem_of_getElem? (i := 0) rfl, List.mem_cons_self⟩) rfl rfl hl.1 dX7_readCrossing_104 (Nat.le_of_ble_eq_true rfl) (Nat.le_of_ble_eq_true rfl) (fun b1 H locs hw G => ?_)
          refine zEx1 hw ?_
          intro u8_35
          refine zCu2 ?_
          intro hbs9 h_36
          clear hw
          subst hbs9
          have G : zS T A s.heap s [[zAr T 1 tp 600 ft], w2_28, [zO7 rd rl rdd rg u0_16 u1_17 tp r2 u3_18 u4_19 u5_20 u6_21 u7_22 u8_35]] _ _ := G
          have hnL : zLr cr y_6 inn g1_29 g2_30 k3 k4 u8_35 (min (j + 1) 4) (pCr k (pAt k j A9)).2 (pRow k j A9 fr) := by rw [h_32, h_33, h_36]; exact zLr_next hLr hokA hA1A.2.2.2 hA1A.2.1 hAIA hwA htA h_25
          refine lv_iinc (v := nI (j + 1)) (lv' := [(3, .int (nI (j + 1))), (2, .int (nI (j + 1))), (5, .int r_26), (4, .int y5), (1, .int cr), (0, .ref rd)]) hx hb dX7_readCrossing_107 hl (k := 3) rfl (z_inc j 1) (by decide) (zLvf_h rfl) (fun ls hl => ?_)
          refine lv_goto (tgt := 47) hx hb dX7_readCrossing_110 (by decide) ?_
          have G := G.sub (bs' := [w2_28, [zO7 rd rl rdd rg u0_16 u1_17 tp r2 u3_18 u4_19 u5_20 u6_21 u7_22 u8_35], [zAr T 1 tp 600 ft]]) [1, 2, 0] rfl
          exact ih_47 (j + 1) ((pCr k (pAt k j A9)).2) (pRow k j A9 fr) u0_16 u1_17 u3_18 u4_19 u5_20 u6_21 u7_22 u8_35 w2_28 g1_29 g2_30 (show bLand T rl y_6 inn g1_29 g2_30 k3 k4 w2_28 ∧ (j + 1) ≤ 601 ∧ zRc k n ft u0_16 u1_17 r2 u3_18 u4_19 u5_20 u6_21 u7_22 ((pCr k (pAt k j A9)).2) ∧ ((pCr k (pAt k j A9)).2).2.1.toInt = 0 ∧ (j + 1) ≤ ((pCr k (pAt k j A9)).2).1 ∧ pRoads k (601 - (j + 1)) (min (j + 1) 4) ((pCr k (pAt k j A9)).2) (pRow k j A9 fr) = pRoads k 601 0 b f ∧ (pRow k j A9 fr) 0 = f 0 ∧ zLr cr y_6 inn g1_29 g2_30 k3 k4 u8_35 (min (j + 1) 4) ((pCr k (pAt k j A9)).2) (pRow k j A9 fr) ∧ zLI y_6 g1_29 k3 from ⟨h_31, by omega, hnR, hst.1, hst.2.1, (pRoads_n (by omega) hwA htA hEq), hst.2.2, hnL, hI3⟩) (show 601 - (j + 1) < 601 - j from by omega) _ _ ls G (lv_sub hl [0, 1, 4, 5] rfl)
        · have c_27n : ¬ j < 4 := fun q => c_27 ((nI_ltI (a := j) (b := 4) (by omega) (by omega)).mpr q)
          refine lv_aload_n hx hb dX7_readCrossing_81 rfl (lv_at hl 5 rfl) ?_
          refine lv_iconst (v := 3) hx hb dX7_readCrossing_82 (by decide) ?_
          refine lv_iload hx hb dX7_readCrossing_83 (lv_at hl 1 rfl) ?_
          refine z_Vv (bc := [[zO7 rd rl rdd rg u0_16 u1_17 tp r2 u3_18 u4_19 u5_20 u6_21 u7_22 y8]]) (br := [z3, [zAr T 1 tp 600 ft]]) (As := [.int 3, .int y5]) (rest := []) C G (c_f_note l T rd rl rdd rg tp u0_16 u1_17 r2 u3_18 u4_19 u5_20 u6_21 u7_22 y8 3 y5) (kV_RX7_90 C.2.2.2.2 (Nat.le_of_ble_eq_true rfl) (Nat.le_of_ble_eq_true rfl)) [1] [1] rfl rfl (ci := 7) (qc := (RX7, TX7, 13)) rfl rfl (List.mem_flatten.mpr ⟨_, List.mem_of_getElem? (i := 0) rfl, List.mem_cons_self⟩) rfl rfl hl.1 dX7_readCrossing_85 (Nat.le_of_ble_eq_true rfl) (Nat.le_of_ble_eq_true rfl) (fun b1 H locs hw G => ?_)
          refine zEx2 hw ?_
          intro u0_38 u1_39
          refine zCu3 ?_
          intro hbs9 h_40 h_41
          clear hw
          subst hbs9
          have G : zS T A s.heap s [z3, [zAr T 1 tp 600 ft], [zO7 rd rl rdd rg u0_38 u1_39 tp r2 u3_18 u4_19 u5_20 u6_21 u7_22 y8]] _ _ := G
          have hnR : zRc k n ft u0_38 u1_39 r2 u3_18 u4_19 u5_20 u6_21 u7_22 (pCr k (pAt k j A9)).2 := zRc_cr4 (by omega) hokA hA1A.2.2.2 hA1A.2.1 hAIA hwA htA h_24 t5A h_40 h_41
          refine lv_iinc (v := nI (j + 1)) (lv' := [(2, .int (nI (j + 1))), (5, .int r_26), (4, .int y5), (3, .int (nI j)), (1, .int cr), (0, .ref rd)]) hx hb dX7_readCrossing_88 hl (k := 3) rfl (z_inc j 1) (by decide) (zLvf_h rfl) (fun ls hl => ?_)
          refine lv_aload_n hx hb dX7_readCrossing_91 rfl (lv_at hl 5 rfl) ?_
          refine z_get C G clX7 2 rfl 0 (by decide) m_fl_RX7_12 rfl dX7_readCrossing_92 ?_
          refine lv_iload_n hx hb dX7_readCrossing_95 rfl (lv_at hl 4 rfl) ?_
          refine lv_iload hx hb dX7_readCrossing_96 (lv_at hl 1 rfl) ?_
          refine z_Vv (bc := [z3]) (br := [[zAr T 1 tp 600 ft], [zO7 rd rl rdd rg u0_38 u1_39 tp r2 u3_18 u4_19 u5_20 u6_21 u7_22 y8]]) (As := [.int cr, .int r_26]) (rest := []) C G (c_addRoad l T rl y_6 inn x1 x2 k3 k4 z3 cr r_26 hz3 hI2) (kV_RX7_123 C.2.2.2.2 (Nat.le_of_ble_eq_true rfl) (Nat.le_of_ble_eq_true rfl)) [0] [0] rfl rfl (ci := 4) (qc := (RX4, TX4, 6)) rfl rfl (List.mem_flatten.mpr ⟨_, List.mem_of_getElem? (i := 0) rfl, (bLand_mem hz3).choose_spec⟩) rfl rfl hl.1 dX7_readCrossing_98 (Nat.le_of_ble_eq_true rfl) (Nat.le_of_ble_eq_true rfl) (fun b1 H locs hw G => ?_)
          refine zEx3 hw ?_
          intro w2_43 g1_44 g2_45
          refine zCu4 ?_
          intro hbs9 h_46 h_47 h_48
          clear hw
          subst hbs9
          have G : zS T A s.heap s [[zAr T 1 tp 600 ft], [zO7 rd rl rdd rg u0_38 u1_39 tp r2 u3_18 u4_19 u5_20 u6_21 u7_22 y8], w2_43] _ _ := G
          have hI3 : zLI y_6 g1_44 k3 := by rw [h_47]; exact zLI_add hI2 _
          refine lv_aload_n hx hb dX7_readCrossing_101 rfl (lv_at hl 5 rfl) ?_
          refine lv_iload hx hb dX7_readCrossing_102 (lv_at hl 1 rfl) ?_
          refine z_Vv (bc := [[zO7 rd rl rdd rg u0_38 u1_39 tp r2 u3_18 u4_19 u5_20 u6_21 u7_22 y8]]) (br := [[zAr T 1 tp 600 ft], w2_43]) (As := [.int r_26]) (rest := []) C G (c_f_tellOf l T rd rl rdd rg tp u0_38 u1_39 r2 u3_18 u4_19 u5_20 u6_21 u7_22 y8 r_26) (kV_RX7_126 C.2.2.2.2 (Nat.le_of_ble_eq_true rfl) (Nat.le_of_ble_eq_true rfl)) [1] [1] rfl rfl (ci := 7) (qc := (RX7, TX7, 13)) rfl rfl (List.mem_flatten.mpr ⟨_, List.mem_of_getElem? (i := 0) rfl, List.mem_cons_self⟩) rfl rfl hl.1 dX7_readCrossing_104 (Nat.le_of_ble_eq_true rfl) (Nat.le_of_ble_eq_true rfl) (fun b1 H locs hw G => ?_)
          refine zEx1 hw ?_
          intro u8_50
          refine zCu2 ?_
          intro hbs9 h_51
          clear hw
          subst hbs9
          have G : zS T A s.heap s [[zAr T 1 tp 600 ft], w2_43, [zO7 rd rl rdd rg u0_38 u1_39 tp r2 u3_18 u4_19 u5_20 u6_21 u7_22 u8_50]] _ _ := G
          have hnL : zLr cr y_6 inn g1_44 g2_45 k3 k4 u8_50 (min (j + 1) 4) (pCr k (pAt k j A9)).2 (pRow k j A9 fr) := by rw [h_47, h_48, h_51]; exact zLr_next hLr hokA hA1A.2.2.2 hA1A.2.1 hAIA hwA htA h_25
          refine lv_iinc (v := nI (j + 1)) (lv' := [(3, .int (nI (j + 1))), (2, .int (nI (j + 1))), (5, .int r_26), (4, .int y5), (1, .int cr), (0, .ref rd)]) hx hb dX7_readCrossing_107 hl (k := 3) rfl (z_inc j 1) (by decide) (zLvf_h rfl) (fun ls hl => ?_)
          refine lv_goto (tgt := 47) hx hb dX7_readCrossing_110 (by decide) ?_
          have G := G.sub (bs' := [w2_43, [zO7 rd rl rdd rg u0_38 u1_39 tp r2 u3_18 u4_19 u5_20 u6_21 u7_22 u8_50], [zAr T 1 tp 600 ft]]) [1, 2, 0] rfl
          exact ih_47 (j + 1) ((pCr k (pAt k j A9)).2) (pRow k j A9 fr) u0_38 u1_39 u3_18 u4_19 u5_20 u6_21 u7_22 u8_50 w2_43 g1_44 g2_45 (show bLand T rl y_6 inn g1_44 g2_45 k3 k4 w2_43 ∧ (j + 1) ≤ 601 ∧ zRc k n ft u0_38 u1_39 r2 u3_18 u4_19 u5_20 u6_21 u7_22 ((pCr k (pAt k j A9)).2) ∧ ((pCr k (pAt k j A9)).2).2.1.toInt = 0 ∧ (j + 1) ≤ ((pCr k (pAt k j A9)).2).1 ∧ pRoads k (601 - (j + 1)) (min (j + 1) 4) ((pCr k (pAt k j A9)).2) (pRow k j A9 fr) = pRoads k 601 0 b f ∧ (pRow k j A9 fr) 0 = f 0 ∧ zLr cr y_6 inn g1_44 g2_45 k3 k4 u8_50 (min (j + 1) 4) ((pCr k (pAt k j A9)).2) (pRow k j A9 fr) ∧ zLI y_6 g1_44 k3 from ⟨h_46, by omega, hnR, hst.1, hst.2.1, (pRoads_n (by omega) hwA htA hEq), hst.2.2, hnL, hI3⟩) (show 601 - (j + 1) < 601 - j from by omega) _ _ ls G (lv_sub hl [0, 1, 4, 5] rfl)
  · have c_5n : ¬ cr.toInt < (7 : Int) := fun q => c_5 ((fa_lt _ _).mpr q)
    refine lv_aload_n hx hb dX7_readCrossing_14 rfl (lv_at hl 1 rfl) ?_
    refine lv_iconst (v := 3) hx hb dX7_readCrossing_15 (by decide) ?_
    refine lv_aload_n hx hb dX7_readCrossing_16 rfl (lv_at hl 1 rfl) ?_
    refine z_get C G clX7 0 rfl 9 (by decide) m_fl_RX7_84 rfl dX7_readCrossing_17 ?_
    refine z_Vv (bc := [[zO7 rd rl rdd rg r0 r1 tp r2 r3 r4 r5 r6 r7 r8]]) (br := [[zAr T 1 tp 600 ft], [zO4 rl cr inn a1_1 a2_2 a3_3 a4_4], [zAr T 0 a1_1 7 k1], [zAr T 0 a2_2 28 k2], [zAr T 0 a3_3 7 k3], [zAr T 0 a4_4 7 k4]]) (As := [.int 3, .int r5]) (rest := []) C G (c_f_note l T rd rl rdd rg tp r0 r1 r2 r3 r4 r5 r6 r7 r8 3 r5) (kV_RX7_90 C.2.2.2.2 (Nat.le_of_ble_eq_true rfl) (Nat.le_of_ble_eq_true rfl)) [0] [0] rfl rfl (ci := 7) (qc := (RX7, TX7, 13)) rfl rfl (List.mem_flatten.mpr ⟨_, List.mem_of_getElem? (i := 0) rfl, List.mem_cons_self⟩) rfl rfl hl.1 dX7_readCrossing_20 (Nat.le_of_ble_eq_true rfl) (Nat.le_of_ble_eq_true rfl) (fun b1 H locs hw G => ?_)
    refine zEx2 hw ?_
    intro u0_53 u1_54
    refine zCu3 ?_
    intro hbs9 h_55 h_56
    clear hw
    subst hbs9
    have G : zS T A s.heap s [[zAr T 1 tp 600 ft], [zO4 rl cr inn a1_1 a2_2 a3_3 a4_4], [zAr T 0 a1_1 7 k1], [zAr T 0 a2_2 28 k2], [zAr T 0 a3_3 7 k3], [zAr T 0 a4_4 7 k4], [zO7 rd rl rdd rg u0_53 u1_54 tp r2 r3 r4 r5 r6 r7 r8]] _ _ := G
    refine lv_goto (tgt := 39) hx hb dX7_readCrossing_23 (by decide) ?_
    refine lv_aload_n hx hb dX7_readCrossing_39 rfl (lv_at hl 1 rfl) ?_
    refine z_Vv (bc := [[zO7 rd rl rdd rg u0_53 u1_54 tp r2 r3 r4 r5 r6 r7 r8], [zAr T 1 tp 600 ft]]) (br := [[zO4 rl cr inn a1_1 a2_2 a3_3 a4_4], [zAr T 0 a1_1 7 k1], [zAr T 0 a2_2 28 k2], [zAr T 0 a3_3 7 k3], [zAr T 0 a4_4 7 k4]]) (As := []) (rest := []) C G (c_f_nextToken l T rd rl rdd rg tp u0_53 u1_54 r2 r3 r4 r5 r6 r7 r8 ft (pEn k a.1) n k t3 hka.1.2.2 hA1.1 hA1.2.2.1 hA1.2.1) (kV_RX7_71 C.2.2.2.2 (Nat.le_of_ble_eq_true rfl) (Nat.le_of_ble_eq_true rfl)) [6, 0] [0, 5] rfl rfl (ci := 7) (qc := (RX7, TX7, 13)) rfl rfl (List.mem_flatten.mpr ⟨_, List.mem_of_getElem? (i := 0) rfl, List.mem_cons_self⟩) rfl rfl hl.1 dX7_readCrossing_40 (Nat.le_of_ble_eq_true rfl) (Nat.le_of_ble_eq_true rfl) (fun b1 H locs hw G => ?_)
    refine zEx4 hw ?_
    intro u3_58 u4_59 u5_60 u6_61
    refine zCu2 ?_
    intro hbs9 h_62
    clear hw
    subst hbs9
    have G : zS T A s.heap s [[zO4 rl cr inn a1_1 a2_2 a3_3 a4_4], [zAr T 0 a1_1 7 k1], [zAr T 0 a2_2 28 k2], [zAr T 0 a3_3 7 k3], [zAr T 0 a4_4 7 k4], [zO7 rd rl rdd rg u0_53 u1_54 tp r2 u3_58 u4_59 u5_60 u6_61 r7 r8], [zAr T 1 tp 600 ft]] _ _ := G
    have hB := zRc_d1 (m := 7) hA hw hcn hdd (by omega) h_55 h_56 h_62
    obtain ⟨b, hbq⟩ : ∃ b, b = pDB 7 (nI (pWh k a.1)) f (pAdv k a) := ⟨_, rfl⟩
    rw [← hbq] at hB
    have hwb : b.2.1.toInt = 0 := by rw [hbq, pDB_fa.2]; exact hw
    have hIa : zLI cr k1 k3 := zLI_cr hI (by have q := hI.1; omega)
    have hL0 : zLr cr cr inn k1 k2 k3 k4 r8 0 b f := by rw [hbq]; exact zLr_in (k := k) (a := pAdv k a) hC hw (fun q9 => absurd q9 (by omega))
    refine lv_iconst (v := 0) hx hb dX7_readCrossing_43 (by decide) ?_
    refine lv_istore_n (lv' := [(2, .int 0), (1, .int cr), (0, .ref rd)]) hx hb dX7_readCrossing_44 rfl hl (by decide) (zLvf_h rfl) (fun ls hl => ?_)
    refine lv_iconst (v := 0) hx hb dX7_readCrossing_45 (by decide) ?_
    refine lv_istore_n (lv' := [(3, .int 0), (2, .int 0), (1, .int cr), (0, .ref rd)]) hx hb dX7_readCrossing_46 rfl hl (by decide) (zLvf_h rfl) (fun ls hl => ?_)
    have hw_64 : bLand T rl cr inn k1 k2 k3 k4 [zO4 rl cr inn a1_1 a2_2 a3_3 a4_4, zAr T 0 a1_1 7 k1, zAr T 0 a2_2 28 k2, zAr T 0 a3_3 7 k3, zAr T 0 a4_4 7 k4] := ⟨a1_1, a2_2, a3_3, a4_4, rfl⟩
    have G : zS T A s.heap s [[zO4 rl cr inn a1_1 a2_2 a3_3 a4_4, zAr T 0 a1_1 7 k1, zAr T 0 a2_2 28 k2, zAr T 0 a3_3 7 k3, zAr T 0 a4_4 7 k4], [zO7 rd rl rdd rg u0_53 u1_54 tp r2 u3_58 u4_59 u5_60 u6_61 r7 r8], [zAr T 1 tp 600 ft]] _ _ := G.re rfl
    refine z_lp14 (T := T) 47 (fun (j : Nat) (A9 : pS) (fr : Nat → Int32) (y0 : Int32) (y1 : Int32) (y3 : Int32) (y4 : Int32) (y5 : Int32) (y6 : Int32) (y7 : Int32) (y8 : Int32) (z3 : va_W) (x1 : Nat → Int32) (x2 : Nat → Int32) => [z3, [zO7 rd rl rdd rg y0 y1 tp r2 y3 y4 y5 y6 y7 y8], [zAr T 1 tp 600 ft]]) (fun (j : Nat) (A9 : pS) (fr : Nat → Int32) (y0 : Int32) (y1 : Int32) (y3 : Int32) (y4 : Int32) (y5 : Int32) (y6 : Int32) (y7 : Int32) (y8 : Int32) (z3 : va_W) (x1 : Nat → Int32) (x2 : Nat → Int32) => [(3, .int (nI j)), (2, .int (nI j)), (1, .int cr), (0, .ref rd)]) (fun (j : Nat) (A9 : pS) (fr : Nat → Int32) (y0 : Int32) (y1 : Int32) (y3 : Int32) (y4 : Int32) (y5 : Int32) (y6 : Int32) (y7 : Int32) (y8 : Int32) (z3 : va_W) (x1 : Nat → Int32) (x2 : Nat → Int32) => bLand T rl cr inn x1 x2 k3 k4 z3 ∧ j ≤ 601 ∧ zRc k n ft y0 y1 r2 y3 y4 y5 y6 y7 A9 ∧ A9.2.1.toInt = 0 ∧ j ≤ A9.1 ∧ pRoads k (601 - j) (min j 4) A9 fr = pRoads k 601 0 b f ∧ fr 0 = f 0 ∧ zLr cr cr inn x1 x2 k3 k4 y8 (min j 4) A9 fr ∧ zLI cr x1 k3) (fun (j : Nat) (A9 : pS) (fr : Nat → Int32) (y0 : Int32) (y1 : Int32) (y3 : Int32) (y4 : Int32) (y5 : Int32) (y6 : Int32) (y7 : Int32) (y8 : Int32) (z3 : va_W) (x1 : Nat → Int32) (x2 : Nat → Int32) => 601 - j) ?_ 0 b f u0_53 u1_54 u3_58 u4_59 u5_60 u6_61 r7 r8 ([zO4 rl cr inn a1_1 a2_2 a3_3 a4_4, zAr T 0 a1_1 7 k1, zAr T 0 a2_2 28 k2, zAr T 0 a3_3 7 k3, zAr T 0 a4_4 7 k4]) k1 k2 (show bLand T rl cr inn k1 k2 k3 k4 ([zO4 rl cr inn a1_1 a2_2 a3_3 a4_4, zAr T 0 a1_1 7 k1, zAr T 0 a2_2 28 k2, zAr T 0 a3_3 7 k3, zAr T 0 a4_4 7 k4]) ∧ 0 ≤ 601 ∧ zRc k n ft u0_53 u1_54 r2 u3_58 u4_59 u5_60 u6_61 r7 b ∧ b.2.1.toInt = 0 ∧ 0 ≤ b.1 ∧ pRoads k (601 - 0) (min 0 4) b f = pRoads k 601 0 b f ∧ f 0 = f 0 ∧ zLr cr cr inn k1 k2 k3 k4 r8 (min 0 4) b f ∧ zLI cr k1 k3 from ⟨hw_64, by omega, hB, hwb, (Nat.zero_le _), rfl, rfl, hL0, hIa⟩) G (lv_sub hl [0, 1, 2, 3] rfl)
    intro j A9 fr y0 y1 y3 y4 y5 y6 y7 y8 z3 x1 x2 hI9 ih_47 H locs ls G hl
    replace hI9 : bLand T rl cr inn x1 x2 k3 k4 z3 ∧ j ≤ 601 ∧ zRc k n ft y0 y1 r2 y3 y4 y5 y6 y7 A9 ∧ A9.2.1.toInt = 0 ∧ j ≤ A9.1 ∧ pRoads k (601 - j) (min j 4) A9 fr = pRoads k 601 0 b f ∧ fr 0 = f 0 ∧ zLr cr cr inn x1 x2 k3 k4 y8 (min j 4) A9 fr ∧ zLI cr x1 k3 := hI9
    refine zAn9 hI9 ?_
    intro hz3 hj hBA hwA hpj hEq hf0 hLr hI2
    clear hI9
    replace G : zS T A s.heap s [z3, [zO7 rd rl rdd rg y0 y1 tp r2 y3 y4 y5 y6 y7 y8], [zAr T 1 tp 600 ft]] _ _ := G
    replace hl : lv_has ls 6 [(3, .int (nI j)), (2, .int (nI j)), (1, .int cr), (0, .ref rd)] := hl
    refine lv_iload_n hx hb dX7_readCrossing_47 rfl (lv_at hl 0 rfl) ?_
    have hokA := zRc_ok hBA
    obtain ⟨hA1A, hA6A, hA7A, hA8A, hA9A, hAIA, hAEA⟩ := id hBA
    have hkaA := hokA A9.1 hA1A.2.2.2
    obtain ⟨t3A, t4A, t5A, t6A⟩ := hA7A hwA
    have t4iA : y4.toInt = (pCl k A9.1 : Int) := by rw [t4A]; exact nI_toInt (by omega)
    have hjn : j ≤ n := Nat.le_trans hpj hA1A.2.2.2
    have hn6 := hA1A.2.1
    refine lv_sipush (v := 600) hx hb dX7_readCrossing_48 (by decide) ?_
    refine lv_icmp_gt (tgt := 113) hx hb dX7_readCrossing_51 (by decide) (fun c_65 => ?_) (fun c_65 => ?_)
    · have c_65n : 600 < j := (nI_ltI (a := 600) (b := j) (by omega) (by omega)).mp c_65
      have G := G.sub (bs' := [[zO7 rd rl rdd rg y0 y1 tp r2 y3 y4 y5 y6 y7 y8], [zAr T 1 tp 600 ft], z3]) [1, 2, 0] rfl
      exact z_back hQz_ (z_vret C hr hlocks G (Nat.le_of_ble_eq_true rfl) (Nat.le_of_ble_eq_true rfl) dX7_readCrossing_113 ⟨y0, y1, y3, y4, y5, y6, y7, y8, z3, cr, x1, x2, rfl, hz3, hI2, (by first | (exfalso; omega) | (rw [pCross_e hbq (hEq.symm.trans (pRoads_x (fun q9 => by have := (pTk_1 hokA hA1A.2.2.2).mp q9.2; omega)))]; exact hBA)), (by first | (exfalso; omega) | (rw [pCross_e hbq (hEq.symm.trans (pRoads_x (fun q9 => by have := (pTk_1 hokA hA1A.2.2.2).mp q9.2; omega)))]; exact zLr_end hLr hf0))⟩)
    · have c_65n : ¬ 600 < j := fun q => c_65 ((nI_ltI (a := 600) (b := j) (by omega) (by omega)).mpr q)
      refine lv_aload_n hx hb dX7_readCrossing_54 rfl (lv_at hl 3 rfl) ?_
      refine z_get C G clX7 1 rfl 8 (by decide) m_fl_RX7_74 rfl dX7_readCrossing_55 ?_
      refine lv_iconst (v := 2) hx hb dX7_readCrossing_58 (by decide) ?_
      refine lv_icmp_ne (tgt := 113) hx hb dX7_readCrossing_59 (by decide) (fun c_66 => ?_) (fun c_66 => ?_)
      · have c_66n : ¬ y4.toInt = (2 : Int) := fun q => c_66 ((fa_eq _ _).mpr q)
        have G := G.sub (bs' := [[zO7 rd rl rdd rg y0 y1 tp r2 y3 y4 y5 y6 y7 y8], [zAr T 1 tp 600 ft], z3]) [1, 2, 0] rfl
        exact z_back hQz_ (z_vret C hr hlocks G (Nat.le_of_ble_eq_true rfl) (Nat.le_of_ble_eq_true rfl) dX7_readCrossing_113 ⟨y0, y1, y3, y4, y5, y6, y7, y8, z3, cr, x1, x2, rfl, hz3, hI2, (by first | (exfalso; omega) | (rw [pCross_e hbq (hEq.symm.trans (pRoads_x (fun q9 => by have := (pTk_1 hokA hA1A.2.2.2).mp q9.2; omega)))]; exact hBA)), (by first | (exfalso; omega) | (rw [pCross_e hbq (hEq.symm.trans (pRoads_x (fun q9 => by have := (pTk_1 hokA hA1A.2.2.2).mp q9.2; omega)))]; exact zLr_end hLr hf0))⟩)
      · have c_66n : y4.toInt = (2 : Int) := (fa_eq _ _).mp c_66
        have hclA : pCl k A9.1 = 2 := by omega
        have htA := (pTk_1 hokA hA1A.2.2.2).mpr hclA
        have hst := pStep (f := fr) (g := f) hokA hA1A.2.2.2 hwA htA hpj hf0
        refine lv_aload_n hx hb dX7_readCrossing_62 rfl (lv_at hl 3 rfl) ?_
        refine z_get C G clX7 1 rfl 9 (by decide) m_fl_RX7_84 rfl dX7_readCrossing_63 ?_
        refine lv_istore (lv' := [(4, .int y5), (3, .int (nI j)), (2, .int (nI j)), (1, .int cr), (0, .ref rd)]) hx hb dX7_readCrossing_66 hl (by decide) (zLvf_h rfl) (fun ls hl => ?_)
        refine lv_aload_n hx hb dX7_readCrossing_68 rfl (lv_at hl 4 rfl) ?_
        refine lv_bipush (v := 6) hx hb dX7_readCrossing_69 (by decide) ?_
        refine z_Vi (bc := [[zO7 rd rl rdd rg y0 y1 tp r2 y3 y4 y5 y6 y7 y8], [zAr T 1 tp 600 ft]]) (br := [z3]) (As := [.int 6]) (rest := []) C G (c_f_readNumber l T rd rl rdd rg tp y0 y1 r2 y3 y4 y5 y6 y7 y8 ft k n A9 6 hBA) (kV_RX7_120 C.2.2.2.2 (Nat.le_of_ble_eq_true rfl) (Nat.le_of_ble_eq_true rfl)) [1, 2] [1, 0] rfl rfl (ci := 7) (qc := (RX7, TX7, 13)) rfl rfl (List.mem_flatten.mpr ⟨_, List.mem_of_getElem? (i := 0) rfl, List.mem_cons_self⟩) rfl rfl hl.1 dX7_readCrossing_71 (Nat.le_of_ble_eq_true rfl) (Nat.le_of_ble_eq_true rfl) (fun r_77 b1 H locs hw G => ?_)
        refine zEx7 hw ?_
        intro u0_67 u1_68 u3_69 u4_70 u5_71 u6_72 u7_73
        refine zCu4 ?_
        intro hbs9 h_74 h_75 h_76
        clear hw
        subst hbs9
        have G : zS T A s.heap s [z3, [zO7 rd rl rdd rg u0_67 u1_68 tp r2 u3_69 u4_70 u5_71 u6_72 u7_73 y8], [zAr T 1 tp 600 ft]] _ _ := G
        refine lv_istore (lv' := [(5, .int r_77), (4, .int y5), (3, .int (nI j)), (2, .int (nI j)), (1, .int cr), (0, .ref rd)]) hx hb dX7_readCrossing_74 hl (by decide) (zLvf_h rfl) (fun ls hl => ?_)
        refine lv_iload_n hx hb dX7_readCrossing_76 rfl (lv_at hl 3 rfl) ?_
        refine lv_iconst (v := 4) hx hb dX7_readCrossing_77 (by decide) ?_
        refine lv_icmp_lt (tgt := 88) hx hb dX7_readCrossing_78 (by decide) (fun c_78 => ?_) (fun c_78 => ?_)
        · have c_78n : j < 4 := (nI_ltI (a := j) (b := 4) (by omega) (by omega)).mp c_78
          have hnR : zRc k n ft u0_67 u1_68 r2 u3_69 u4_70 u5_71 u6_72 u7_73 (pCr k (pAt k j A9)).2 := zRc_cr0 (by omega) h_75
          refine lv_iinc (v := nI (j + 1)) (lv' := [(2, .int (nI (j + 1))), (5, .int r_77), (4, .int y5), (3, .int (nI j)), (1, .int cr), (0, .ref rd)]) hx hb dX7_readCrossing_88 hl (k := 3) rfl (z_inc j 1) (by decide) (zLvf_h rfl) (fun ls hl => ?_)
          refine lv_aload_n hx hb dX7_readCrossing_91 rfl (lv_at hl 5 rfl) ?_
          refine z_get C G clX7 1 rfl 0 (by decide) m_fl_RX7_12 rfl dX7_readCrossing_92 ?_
          refine lv_iload_n hx hb dX7_readCrossing_95 rfl (lv_at hl 4 rfl) ?_
          refine lv_iload hx hb dX7_readCrossing_96 (lv_at hl 1 rfl) ?_
          refine z_Vv (bc := [z3]) (br := [[zO7 rd rl rdd rg u0_67 u1_68 tp r2 u3_69 u4_70 u5_71 u6_72 u7_73 y8], [zAr T 1 tp 600 ft]]) (As := [.int cr, .int r_77]) (rest := []) C G (c_addRoad l T rl cr inn x1 x2 k3 k4 z3 cr r_77 hz3 hI2) (kV_RX7_123 C.2.2.2.2 (Nat.le_of_ble_eq_true rfl) (Nat.le_of_ble_eq_true rfl)) [0] [0] rfl rfl (ci := 4) (qc := (RX4, TX4, 6)) rfl rfl (List.mem_flatten.mpr ⟨_, List.mem_of_getElem? (i := 0) rfl, (bLand_mem hz3).choose_spec⟩) rfl rfl hl.1 dX7_readCrossing_98 (Nat.le_of_ble_eq_true rfl) (Nat.le_of_ble_eq_true rfl) (fun b1 H locs hw G => ?_)
          refine zEx3 hw ?_
          intro w2_79 g1_80 g2_81
          refine zCu4 ?_
          intro hbs9 h_82 h_83 h_84
          clear hw
          subst hbs9
          have G : zS T A s.heap s [[zO7 rd rl rdd rg u0_67 u1_68 tp r2 u3_69 u4_70 u5_71 u6_72 u7_73 y8], [zAr T 1 tp 600 ft], w2_79] _ _ := G
          have hI3 : zLI cr g1_80 k3 := by rw [h_83]; exact zLI_add hI2 _
          refine lv_aload_n hx hb dX7_readCrossing_101 rfl (lv_at hl 5 rfl) ?_
          refine lv_iload hx hb dX7_readCrossing_102 (lv_at hl 1 rfl) ?_
          refine z_Vv (bc := [[zO7 rd rl rdd rg u0_67 u1_68 tp r2 u3_69 u4_70 u5_71 u6_72 u7_73 y8]]) (br := [[zAr T 1 tp 600 ft], w2_79]) (As := [.int r_77]) (rest := []) C G (c_f_tellOf l T rd rl rdd rg tp u0_67 u1_68 r2 u3_69 u4_70 u5_71 u6_72 u7_73 y8 r_77) (kV_RX7_126 C.2.2.2.2 (Nat.le_of_ble_eq_true rfl) (Nat.le_of_ble_eq_true rfl)) [0] [0] rfl rfl (ci := 7) (qc := (RX7, TX7, 13)) rfl rfl (List.mem_flatten.mpr ⟨_, List.mem_of_getElem? (i := 0) rfl, List.mem_cons_self⟩) rfl rfl hl.1 dX7_readCrossing_104 (Nat.le_of_ble_eq_true rfl) (Nat.le_of_ble_eq_true rfl) (fun b1 H locs hw G => ?_)
          refine zEx1 hw ?_
          intro u8_86
          refine zCu2 ?_
          intro hbs9 h_87
          clear hw
          subst hbs9
          have G : zS T A s.heap s [[zAr T 1 tp 600 ft], w2_79, [zO7 rd rl rdd rg u0_67 u1_68 tp r2 u3_69 u4_70 u5_71 u6_72 u7_73 u8_86]] _ _ := G
          have hnL : zLr cr cr inn g1_80 g2_81 k3 k4 u8_86 (min (j + 1) 4) (pCr k (pAt k j A9)).2 (pRow k j A9 fr) := by rw [h_83, h_84, h_87]; exact zLr_next hLr hokA hA1A.2.2.2 hA1A.2.1 hAIA hwA htA h_76
          refine lv_iinc (v := nI (j + 1)) (lv' := [(3, .int (nI (j + 1))), (2, .int (nI (j + 1))), (5, .int r_77), (4, .int y5), (1, .int cr), (0, .ref rd)]) hx hb dX7_readCrossing_107 hl (k := 3) rfl (z_inc j 1) (by decide) (zLvf_h rfl) (fun ls hl => ?_)
          refine lv_goto (tgt := 47) hx hb dX7_readCrossing_110 (by decide) ?_
          have G := G.sub (bs' := [w2_79, [zO7 rd rl rdd rg u0_67 u1_68 tp r2 u3_69 u4_70 u5_71 u6_72 u7_73 u8_86], [zAr T 1 tp 600 ft]]) [1, 2, 0] rfl
          exact ih_47 (j + 1) ((pCr k (pAt k j A9)).2) (pRow k j A9 fr) u0_67 u1_68 u3_69 u4_70 u5_71 u6_72 u7_73 u8_86 w2_79 g1_80 g2_81 (show bLand T rl cr inn g1_80 g2_81 k3 k4 w2_79 ∧ (j + 1) ≤ 601 ∧ zRc k n ft u0_67 u1_68 r2 u3_69 u4_70 u5_71 u6_72 u7_73 ((pCr k (pAt k j A9)).2) ∧ ((pCr k (pAt k j A9)).2).2.1.toInt = 0 ∧ (j + 1) ≤ ((pCr k (pAt k j A9)).2).1 ∧ pRoads k (601 - (j + 1)) (min (j + 1) 4) ((pCr k (pAt k j A9)).2) (pRow k j A9 fr) = pRoads k 601 0 b f ∧ (pRow k j A9 fr) 0 = f 0 ∧ zLr cr cr inn g1_80 g2_81 k3 k4 u8_86 (min (j + 1) 4) ((pCr k (pAt k j A9)).2) (pRow k j A9 fr) ∧ zLI cr g1_80 k3 from ⟨h_82, by omega, hnR, hst.1, hst.2.1, (pRoads_n (by omega) hwA htA hEq), hst.2.2, hnL, hI3⟩) (show 601 - (j + 1) < 601 - j from by omega) _ _ ls G (lv_sub hl [0, 1, 4, 5] rfl)
        · have c_78n : ¬ j < 4 := fun q => c_78 ((nI_ltI (a := j) (b := 4) (by omega) (by omega)).mpr q)
          refine lv_aload_n hx hb dX7_readCrossing_81 rfl (lv_at hl 5 rfl) ?_
          refine lv_iconst (v := 3) hx hb dX7_readCrossing_82 (by decide) ?_
          refine lv_iload hx hb dX7_readCrossing_83 (lv_at hl 1 rfl) ?_
          refine z_Vv (bc := [[zO7 rd rl rdd rg u0_67 u1_68 tp r2 u3_69 u4_70 u5_71 u6_72 u7_73 y8]]) (br := [z3, [zAr T 1 tp 600 ft]]) (As := [.int 3, .int y5]) (rest := []) C G (c_f_note l T rd rl rdd rg tp u0_67 u1_68 r2 u3_69 u4_70 u5_71 u6_72 u7_73 y8 3 y5) (kV_RX7_90 C.2.2.2.2 (Nat.le_of_ble_eq_true rfl) (Nat.le_of_ble_eq_true rfl)) [1] [1] rfl rfl (ci := 7) (qc := (RX7, TX7, 13)) rfl rfl (List.mem_flatten.mpr ⟨_, List.mem_of_getElem? (i := 0) rfl, List.mem_cons_self⟩) rfl rfl hl.1 dX7_readCrossing_85 (Nat.le_of_ble_eq_true rfl) (Nat.le_of_ble_eq_true rfl) (fun b1 H locs hw G => ?_)
          refine zEx2 hw ?_
          intro u0_89 u1_90
          refine zCu3 ?_
          intro hbs9 h_91 h_92
          clear hw
          subst hbs9
          have G : zS T A s.heap s [z3, [zAr T 1 tp 600 ft], [zO7 rd rl rdd rg u0_89 u1_90 tp r2 u3_69 u4_70 u5_71 u6_72 u7_73 y8]] _ _ := G
          have hnR : zRc k n ft u0_89 u1_90 r2 u3_69 u4_70 u5_71 u6_72 u7_73 (pCr k (pAt k j A9)).2 := zRc_cr4 (by omega) hokA hA1A.2.2.2 hA1A.2.1 hAIA hwA htA h_75 t5A h_91 h_92
          refine lv_iinc (v := nI (j + 1)) (lv' := [(2, .int (nI (j + 1))), (5, .int r_77), (4, .int y5), (3, .int (nI j)), (1, .int cr), (0, .ref rd)]) hx hb dX7_readCrossing_88 hl (k := 3) rfl (z_inc j 1) (by decide) (zLvf_h rfl) (fun ls hl => ?_)
          refine lv_aload_n hx hb dX7_readCrossing_91 rfl (lv_at hl 5 rfl) ?_
          refine z_get C G clX7 2 rfl 0 (by decide) m_fl_RX7_12 rfl dX7_readCrossing_92 ?_
          refine lv_iload_n hx hb dX7_readCrossing_95 rfl (lv_at hl 4 rfl) ?_
          refine lv_iload hx hb dX7_readCrossing_96 (lv_at hl 1 rfl) ?_
          refine z_Vv (bc := [z3]) (br := [[zAr T 1 tp 600 ft], [zO7 rd rl rdd rg u0_89 u1_90 tp r2 u3_69 u4_70 u5_71 u6_72 u7_73 y8]]) (As := [.int cr, .int r_77]) (rest := []) C G (c_addRoad l T rl cr inn x1 x2 k3 k4 z3 cr r_77 hz3 hI2) (kV_RX7_123 C.2.2.2.2 (Nat.le_of_ble_eq_true rfl) (Nat.le_of_ble_eq_true rfl)) [0] [0] rfl rfl (ci := 4) (qc := (RX4, TX4, 6)) rfl rfl (List.mem_flatten.mpr ⟨_, List.mem_of_getElem? (i := 0) rfl, (bLand_mem hz3).choose_spec⟩) rfl rfl hl.1 dX7_readCrossing_98 (Nat.le_of_ble_eq_true rfl) (Nat.le_of_ble_eq_true rfl) (fun b1 H locs hw G => ?_)
          refine zEx3 hw ?_
          intro w2_94 g1_95 g2_96
          refine zCu4 ?_
          intro hbs9 h_97 h_98 h_99
          clear hw
          subst hbs9
          have G : zS T A s.heap s [[zAr T 1 tp 600 ft], [zO7 rd rl rdd rg u0_89 u1_90 tp r2 u3_69 u4_70 u5_71 u6_72 u7_73 y8], w2_94] _ _ := G
          have hI3 : zLI cr g1_95 k3 := by rw [h_98]; exact zLI_add hI2 _
          refine lv_aload_n hx hb dX7_readCrossing_101 rfl (lv_at hl 5 rfl) ?_
          refine lv_iload hx hb dX7_readCrossing_102 (lv_at hl 1 rfl) ?_
          refine z_Vv (bc := [[zO7 rd rl rdd rg u0_89 u1_90 tp r2 u3_69 u4_70 u5_71 u6_72 u7_73 y8]]) (br := [[zAr T 1 tp 600 ft], w2_94]) (As := [.int r_77]) (rest := []) C G (c_f_tellOf l T rd rl rdd rg tp u0_89 u1_90 r2 u3_69 u4_70 u5_71 u6_72 u7_73 y8 r_77) (kV_RX7_126 C.2.2.2.2 (Nat.le_of_ble_eq_true rfl) (Nat.le_of_ble_eq_true rfl)) [1] [1] rfl rfl (ci := 7) (qc := (RX7, TX7, 13)) rfl rfl (List.mem_flatten.mpr ⟨_, List.mem_of_getElem? (i := 0) rfl, List.mem_cons_self⟩) rfl rfl hl.1 dX7_readCrossing_104 (Nat.le_of_ble_eq_true rfl) (Nat.le_of_ble_eq_true rfl) (fun b1 H locs hw G => ?_)
          refine zEx1 hw ?_
          intro u8_101
          refine zCu2 ?_
          intro hbs9 h_102
          clear hw
          subst hbs9
          have G : zS T A s.heap s [[zAr T 1 tp 600 ft], w2_94, [zO7 rd rl rdd rg u0_89 u1_90 tp r2 u3_69 u4_70 u5_71 u6_72 u7_73 u8_101]] _ _ := G
          have hnL : zLr cr cr inn g1_95 g2_96 k3 k4 u8_101 (min (j + 1) 4) (pCr k (pAt k j A9)).2 (pRow k j A9 fr) := by rw [h_98, h_99, h_102]; exact zLr_next hLr hokA hA1A.2.2.2 hA1A.2.1 hAIA hwA htA h_76
          refine lv_iinc (v := nI (j + 1)) (lv' := [(3, .int (nI (j + 1))), (2, .int (nI (j + 1))), (5, .int r_77), (4, .int y5), (1, .int cr), (0, .ref rd)]) hx hb dX7_readCrossing_107 hl (k := 3) rfl (z_inc j 1) (by decide) (zLvf_h rfl) (fun ls hl => ?_)
          refine lv_goto (tgt := 47) hx hb dX7_readCrossing_110 (by decide) ?_
          have G := G.sub (bs' := [w2_94, [zO7 rd rl rdd rg u0_89 u1_90 tp r2 u3_69 u4_70 u5_71 u6_72 u7_73 u8_101], [zAr T 1 tp 600 ft]]) [1, 2, 0] rfl
          exact ih_47 (j + 1) ((pCr k (pAt k j A9)).2) (pRow k j A9 fr) u0_89 u1_90 u3_69 u4_70 u5_71 u6_72 u7_73 u8_101 w2_94 g1_95 g2_96 (show bLand T rl cr inn g1_95 g2_96 k3 k4 w2_94 ∧ (j + 1) ≤ 601 ∧ zRc k n ft u0_89 u1_90 r2 u3_69 u4_70 u5_71 u6_72 u7_73 ((pCr k (pAt k j A9)).2) ∧ ((pCr k (pAt k j A9)).2).2.1.toInt = 0 ∧ (j + 1) ≤ ((pCr k (pAt k j A9)).2).1 ∧ pRoads k (601 - (j + 1)) (min (j + 1) 4) ((pCr k (pAt k j A9)).2) (pRow k j A9 fr) = pRoads k 601 0 b f ∧ (pRow k j A9 fr) 0 = f 0 ∧ zLr cr cr inn g1_95 g2_96 k3 k4 u8_101 (min (j + 1) 4) ((pCr k (pAt k j A9)).2) (pRow k j A9 fr) ∧ zLI cr g1_95 k3 from ⟨h_97, by omega, hnR, hst.1, hst.2.1, (pRoads_n (by omega) hwA htA hEq), hst.2.2, hnL, hI3⟩) (show 601 - (j + 1) < 601 - j from by omega) _ _ ls G (lv_sub hl [0, 1, 4, 5] rfl)
/-! LINES of the class -/
theorem pWd_eq {k : pT} {ft : Nat → Int32} {n p : Nat} (hk : k = tkT ft n) (hc : pCl k p = 1) : pWd k p = zWordAt ft (pWh k p) (pEn k p) := by
  subst hk
  have hc : tkC ft n p = 1 := hc
  show (if tkC ft n p = 1 then zWordAt ft (zWh ft n p) (tkE ft n p) else 0) = _
  rw [if_pos hc]
  rfl
theorem zWc_n0 {wd : Nat} (h : (zWc 0 wd).toInt = -1) : ¬ (1 ≤ wd ∧ wd ≤ 4) := by
  intro q
  unfold zWc at h
  rw [if_pos rfl, if_pos q, show Int32.ofNat (wd - 1) = nI (wd - 1) from rfl, nI_toInt (by omega)] at h
  omega
theorem zWc_y0 {wd : Nat} (h : ¬ (zWc 0 wd).toInt = -1) : (1 ≤ wd ∧ wd ≤ 4) ∧ (zWc 0 wd).toInt = (wd : Int) - 1 := by
  by_cases q : 1 ≤ wd ∧ wd ≤ 4
  · refine ⟨q, ?_⟩
    unfold zWc
    rw [if_pos rfl, if_pos q, show Int32.ofNat (wd - 1) = nI (wd - 1) from rfl, nI_toInt (by omega)]
    omega
  · unfold zWc at h
    rw [if_pos rfl, if_neg q] at h
    exact absurd rfl h
theorem zWc_n1 {wd : Nat} (h : (zWc 1 wd).toInt = -1) : ¬ (5 ≤ wd ∧ wd ≤ 10) := by
  intro q
  unfold zWc at h
  rw [if_neg (by decide), if_pos rfl, if_pos q, show Int32.ofNat (wd - 5) = nI (wd - 5) from rfl, nI_toInt (by omega)] at h
  omega
theorem zWc_y1 {wd : Nat} (h : ¬ (zWc 1 wd).toInt = -1) : (5 ≤ wd ∧ wd ≤ 10) ∧ (zWc 1 wd).toInt = (wd : Int) - 5 ∧ zWc 1 wd = nI wd - 5 := by
  by_cases q : 5 ≤ wd ∧ wd ≤ 10
  · have e : zWc 1 wd = nI (wd - 5) := by
      unfold zWc
      rw [if_neg (by decide), if_pos rfl, if_pos q]
      rfl
    refine ⟨q, ?_, e.trans (z_d5 wd (by omega) q.1).symm⟩
    rw [e, nI_toInt (by omega)]
    omega
  · unfold zWc at h
    rw [if_neg (by decide), if_pos rfl, if_neg q] at h
    exact absurd rfl h
theorem zWc_n2 {wd : Nat} (h : (zWc 2 wd).toInt = -1) : ¬ (11 ≤ wd ∧ wd ≤ 12) := by
  intro q
  unfold zWc at h
  rw [if_neg (by decide), if_neg (by decide), if_pos q, show Int32.ofNat (wd - 11) = nI (wd - 11) from rfl, nI_toInt (by omega)] at h
  omega
theorem zWc_y2 {wd : Nat} (h : ¬ (zWc 2 wd).toInt = -1) : (11 ≤ wd ∧ wd ≤ 12) ∧ (zWc 2 wd).toInt = (wd : Int) - 11 := by
  by_cases q : 11 ≤ wd ∧ wd ≤ 12
  · refine ⟨q, ?_⟩
    unfold zWc
    rw [if_neg (by decide), if_neg (by decide), if_pos q, show Int32.ofNat (wd - 11) = nI (wd - 11) from rfl, nI_toInt (by omega)]
    omega
  · unfold zWc at h
    rw [if_neg (by decide), if_neg (by decide), if_neg q] at h
    exact absurd rfl h
section PL
variable {k : pT} {a : pS} {f : Nat → Int32} {q : pS × (Nat → Int32)}
theorem pLine_d (hw : a.2.1.toInt = 0) (h3 : pTk k a.1 = 3) (h : 5 ≤ pWd k a.1 ∧ pWd k a.1 ≤ 10) (hq : q = pDeed k (pWd k a.1) (nI (pWh k a.1)) (pAdv k a) f) : pLine k 1 a f = (pEndL k q.1, q.2) := by
  have e : pWord k 5 10 a = (pWd k a.1, pAdv k a) := pWord_i hw h3 h
  rw [pLine_1]
  unfold pDay
  rw [e, hq]
theorem pLine_f (hw : a.2.1.toInt = 0) (h3 : pTk k a.1 = 3) (h : 11 ≤ pWd k a.1 ∧ pWd k a.1 ≤ 12) (hq : q = pFact k (pWd k a.1) (nI (pWh k a.1)) (pAdv k a) f) : pLine k 2 a f = (pEndL k q.1, q.2) := by
  have e : pWord k 11 12 a = (pWd k a.1, pAdv k a) := pWord_i hw h3 h
  rw [pLine_2]
  unfold pLog
  rw [e, hq]
theorem pLine_l (hw : a.2.1.toInt = 0) (h3 : pTk k a.1 = 3) (h : 1 ≤ pWd k a.1 ∧ pWd k a.1 ≤ 4) (hq : q = (if pWd k a.1 = 1 then pCross k (nI (pWh k a.1)) (pAdv k a) f else if pWd k a.1 = 4 then pInn k (pAdv k a) f else pPW k (pWd k a.1) (pAdv k a) f)) : pLine k 0 a f = (pEndL k q.1, q.2) := by
  have e : pWord k 1 4 a = (pWd k a.1, pAdv k a) := pWord_i hw h3 h
  rw [pLine_0]
  unfold pLand
  rw [e]
  have e2 : pOther k (pWd k a.1) (nI (pWh k a.1)) (pAdv k a) f = q := by
    rw [hq]
    exact if_neg (fun z => z hw)
  show (pEndL k (pOther k (pWd k a.1) (nI (pWh k a.1)) (pAdv k a) f).1, (pOther k (pWd k a.1) (nI (pWh k a.1)) (pAdv k a) f).2) = _
  rw [e2]
end PL
theorem zLc_e {k : pT} {cr inn tof : Int32} {k1 k2 k3 k4 f : Nat → Int32} {a : pS} (hI : pInv k a) : zLc cr inn k1 k2 k3 k4 tof (pEnds k a) f := fun q => absurd q (pEnds_f hI)
theorem zDc_e {k : pT} {dd : Int32} {d1 d2 d3 f : Nat → Int32} {a : pS} (hI : pInv k a) : zDc dd d1 d2 d3 (pEnds k a) f := fun q => absurd q (pEnds_f hI)
theorem zGc_e {k : pT} {dd : Int32} {d1 d2 f : Nat → Int32} {a : pS} (hI : pInv k a) : zGc dd d1 d2 (pEnds k a) f := fun q => absurd q (pEnds_f hI)
theorem zLc_l {k : pT} {cr inn tof : Int32} {k1 k2 k3 k4 f : Nat → Int32} {a : pS} (hI : pInv k a) (h : zLc cr inn k1 k2 k3 k4 tof a f) : zLc cr inn k1 k2 k3 k4 tof (pEndL k a) f := by
  unfold pEndL
  split
  · exact h
  · exact fun q => absurd q (pEnds_f hI)
theorem zDc_l {k : pT} {dd : Int32} {d1 d2 d3 f : Nat → Int32} {a : pS} (hI : pInv k a) (h : zDc dd d1 d2 d3 a f) : zDc dd d1 d2 d3 (pEndL k a) f := by
  unfold pEndL
  split
  · exact h
  · exact fun q => absurd q (pEnds_f hI)
theorem zGc_l {k : pT} {dd : Int32} {d1 d2 f : Nat → Int32} {a : pS} (hI : pInv k a) (h : zGc dd d1 d2 a f) : zGc dd d1 d2 (pEndL k a) f := by
  unfold pEndL
  split
  · exact h
  · exact fun q => absurd q (pEnds_f hI)
/-! the whole of a text -/
theorem zTof_k3 : ∀ t, t < 128 → ∀ m, m < 8 → ((nI t >>> (nI m &&& 31)).toInt = 0 ↔ t / 2 ^ m = 0) := by decide +kernel
/-- whether a crossing was told of that is not there -/
theorem zTof_sh {tof fa cr : Int32} (h : zTof tof fa) (hc : 0 ≤ cr.toInt ∧ cr.toInt ≤ 7) : ¬ (tof >>> (cr &&& 31)).toInt = 0 ↔ cr.toInt ≤ fa.toInt := by
  obtain ⟨t, ht, rfl, hf, hd⟩ := h
  have ec : cr = nI cr.toInt.toNat := z_nI (by omega) (by omega)
  have k1 := zTof_k3 t ht cr.toInt.toNat (by omega)
  rw [← ec] at k1
  rw [k1, hd _ (by omega)]
  omega
def zBad (k1 k3 : Nat → Int32) (c : Nat) : Prop := ¬ (k3 c).toInt = 0 ∧ (k1 c).toInt ≤ (k3 c).toInt
/-- behind the look at the first i crossings -/
def zLook (k1 k3 : Nat → Int32) (i : Nat) (n v0 v1 y0 y1 : Int32) : Prop := (¬ v0.toInt = 0 → y0 = v0 ∧ y1 = v1) ∧ (v0.toInt = 0 → (y0 = v0 ∧ y1 = v1 ∧ ∀ c, c < i → ¬ zBad k1 k3 c) ∨ (y0 = 5 ∧ y1 = n ∧ ∃ c, c < i ∧ zBad k1 k3 c))
theorem zLook_0 {k1 k3 : Nat → Int32} {n v0 v1 : Int32} : zLook k1 k3 0 n v0 v1 v0 v1 := ⟨fun _ => ⟨rfl, rfl⟩, fun _ => Or.inl ⟨rfl, rfl, fun c hc => absurd hc (Nat.not_lt_zero _)⟩⟩
theorem zLook_g {k1 k3 : Nat → Int32} {i : Nat} {n v0 v1 y0 y1 : Int32} (h : zLook k1 k3 i n v0 v1 y0 y1) (hg : ¬ zBad k1 k3 i) : zLook k1 k3 (i + 1) n v0 v1 y0 y1 := by
  refine ⟨h.1, fun q => ?_⟩
  rcases h.2 q with ⟨a, b, c⟩ | ⟨a, b, c, d, e⟩
  · refine Or.inl ⟨a, b, fun c1 hc1 => ?_⟩
    by_cases z : c1 = i
    · rw [z]; exact hg
    · exact c c1 (by omega)
  · exact Or.inr ⟨a, b, c, by omega, e⟩
theorem zLook_b {k1 k3 : Nat → Int32} {i : Nat} {n v0 v1 y0 y1 u0 u1 : Int32} (h : zLook k1 k3 i n v0 v1 y0 y1) (hb : zBad k1 k3 i) (e0 : u0 = if y0.toInt = 0 then 5 else y0) (e1 : u1 = if y0.toInt = 0 then n else y1) : zLook k1 k3 (i + 1) n v0 v1 u0 u1 := by
  refine ⟨fun q => ?_, fun q => ?_⟩
  · obtain ⟨a, b⟩ := h.1 q
    rw [if_neg (by rw [a]; exact q)] at e0 e1
    exact ⟨e0.trans a, e1.trans b⟩
  · rcases h.2 q with ⟨a, b, c⟩ | ⟨a, b, c, d, e⟩
    · rw [if_pos (by rw [a]; exact q)] at e0 e1
      exact Or.inr ⟨e0, e1, i, by omega, hb⟩
    · rw [if_neg (by rw [a]; decide)] at e0 e1
      exact Or.inr ⟨e0.trans a, e1.trans b, c, by omega, e⟩
theorem zLook_end {k : pT} {cr inn tof n5 r0 r1 v0 v1 u0 u1 : Int32} {k1 k2 k3 k4 f : Nat → Int32} {a : pS} {n : Nat} (hI : pInv k a) (h : zLc cr inn k1 k2 k3 k4 tof a f) (hn : n5 = nI n) (h0 : r0 = a.2.2.1) (h1 : r1 = a.2.2.2.1) (e : (tof >>> (cr &&& 31)).toInt = 0 ∧ v0 = r0 ∧ v1 = r1 ∨ ¬ (tof >>> (cr &&& 31)).toInt = 0 ∧ (v0 = if r0.toInt = 0 then 4 else r0) ∧ (v1 = if r0.toInt = 0 then n5 else r1)) (hl : zLook k1 k3 7 n5 v0 v1 u0 u1) : u0 = (pFin n 0 (a, f)).1.2.2.1 ∧ u1 = (pFin n 0 (a, f)).1.2.2.2.1 := by
  subst h0
  subst h1
  subst hn
  have z4 : ¬ (4 : Int32).toInt = 0 := by decide
  by_cases c : a.2.2.1.toInt = 0
  · have hw : a.2.1.toInt = 0 := by
      rcases hI with z | z
      · exact z.1
      · exact absurd c z.2
    obtain ⟨hc, hb, hi, hj, hz, hx, ht⟩ := h c
    have hs := zTof_sh (cr := cr) ht (by rw [hc]; exact hb)
    rw [hc] at hs
    by_cases c2 : (f 0).toInt ≤ a.2.2.2.2.toInt
    · have e1 : pFin n 0 (a, f) = ((a.1, a.2.1, 4, nI n, a.2.2.2.2), f) := by
        have e0 : pF4 n 0 a f = (a.1, a.2.1, 4, nI n, a.2.2.2.2) := (if_pos ⟨rfl, c, c2⟩).trans (pAlso_y hw c)
        have e5 : pF5 n 0 (a.1, a.2.1, 4, nI n, a.2.2.2.2) f = (a.1, a.2.1, 4, nI n, a.2.2.2.2) := if_neg (fun q => z4 q.2.1)
        show (pF5 n 0 (pF4 n 0 a f) f, f) = _
        rw [e0, e5]
      rw [e1]
      rcases e with ⟨q, -, -⟩ | ⟨-, q1, q2⟩
      · rw [hc] at q; exact absurd q (hs.mpr c2)
      · rw [if_pos c] at q1 q2
        obtain ⟨a1, a2⟩ := hl.1 (by rw [q1]; exact z4)
        exact ⟨a1.trans q1, a2.trans q2⟩
    · have hv : v0 = a.2.2.1 ∧ v1 = a.2.2.2.1 := by
        rcases e with ⟨-, q1, q2⟩ | ⟨q, -, -⟩
        · exact ⟨q1, q2⟩
        · rw [hc] at q; exact absurd (hs.mp q) c2
      have e0 : pF4 n 0 a f = a := if_neg (fun q => c2 q.2.2)
      have e1 : pFin n 0 (a, f) = (pF5 n 0 a f, f) := by
        show (pF5 n 0 (pF4 n 0 a f) f, f) = _
        rw [e0]
      have hbad : ∀ j, j < 7 → (zBad k1 k3 j ↔ ¬ ((f (9 + j)).toInt = 0 ∨ (f (9 + j)).toInt < (f (2 + j)).toInt)) := fun j hj7 => by
        unfold zBad
        rw [(hj j hj7).1, (hj j hj7).2.1]
        omega
      rw [e1]
      rcases hl.2 (by rw [hv.1]; exact c) with ⟨a1, a2, a3⟩ | ⟨a1, a2, c3, a4, a5⟩
      · have hp : pPosts f = true := by
          exact pPosts_t.mpr (fun j hj7 => Decidable.byContradiction (fun z => a3 j hj7 ((hbad j hj7).mpr z)))
        have e5 : pF5 n 0 a f = a := if_neg (fun q => by rw [hp] at q; exact absurd q.2.2 (by decide))
        rw [e5]
        exact ⟨a1.trans hv.1, a2.trans hv.2⟩
      · have hp : pPosts f = false := by
          cases z : pPosts f with
          | false => rfl
          | true => exact absurd (pPosts_t.mp z c3 a4) ((hbad c3 a4).mp a5)
        have e5 : pF5 n 0 a f = (a.1, a.2.1, 5, nI n, a.2.2.2.2) := (if_pos ⟨rfl, c, hp⟩).trans (pAlso_y hw c)
        rw [e5]
        exact ⟨a1, a2⟩
  · have hv : v0 = a.2.2.1 ∧ v1 = a.2.2.2.1 := by
      rcases e with ⟨-, q1, q2⟩ | ⟨-, q1, q2⟩
      · exact ⟨q1, q2⟩
      · rw [if_neg c] at q1 q2; exact ⟨q1, q2⟩
    have e0 : pF4 n 0 a f = a := if_neg (fun q => c q.2.1)
    have e5 : pF5 n 0 a f = a := if_neg (fun q => c q.2.1)
    have e1 : pFin n 0 (a, f) = (a, f) := by
      show (pF5 n 0 (pF4 n 0 a f) f, f) = _
      rw [e0, e5]
    rw [e1]
    obtain ⟨a1, a2⟩ := hl.1 (by rw [hv.1]; exact c)
    exact ⟨a1.trans hv.1, a2.trans hv.2⟩
theorem pFin_s {n s : Nat} {q : pS × (Nat → Int32)} (h : ¬ s = 0) : pFin n s q = q := by
  have e4 : pF4 n s q.1 q.2 = q.1 := if_neg (fun z => h z.1)
  have e5 : pF5 n s q.1 q.2 = q.1 := if_neg (fun z => h z.1)
  show (pF5 n s (pF4 n s q.1 q.2) q.2, q.2) = q
  rw [e4, e5]
theorem pAlso_z {n : Nat} {kd : Int32} {b : pS} (hk : ¬ kd.toInt = 0) (z : (pAlso kd (nI n) b).2.2.1.toInt = 0) : pAlso kd (nI n) b = b := by
  by_cases c : b.2.1.toInt = 0
  · exact absurd z (pAlso_f hk c)
  · exact pAlso_n (Or.inl c)
theorem pFin_f {n : Nat} {q : pS × (Nat → Int32)} (h : (pFin n 0 q).1.2.2.1.toInt = 0) : pFin n 0 q = q := by
  have h : (pF5 n 0 (pF4 n 0 q.1 q.2) q.2).2.2.1.toInt = 0 := h
  have e5 : pF5 n 0 (pF4 n 0 q.1 q.2) q.2 = pF4 n 0 q.1 q.2 := by
    unfold pF5 at h ⊢
    split at h
    · rename_i y; rw [if_pos y]; exact pAlso_z (by decide) h
    · rename_i y; exact if_neg y
  rw [e5] at h
  have e4 : pF4 n 0 q.1 q.2 = q.1 := by
    unfold pF4 at h ⊢
    split at h
    · rename_i y; rw [if_pos y]; exact pAlso_z (by decide) h
    · rename_i y; exact if_neg y
  show (pF5 n 0 (pF4 n 0 q.1 q.2) q.2, q.2) = q
  rw [e5, e4]
set_option maxHeartbeats 4000000 in
set_option maxRecDepth 100000 in
/-- c_f_readLine0 -/
theorem c_f_readLine0 (l : Launch) (T : zTy) (rd : Nat) (rl : Nat) (rdd : Nat) (rg : Nat) (tp : Nat) (r0 : Int32) (r1 : Int32) (r2 : Int32) (r3 : Int32) (r4 : Int32) (r5 : Int32) (r6 : Int32) (r7 : Int32) (r8 : Int32) (ft : Nat → Int32) (cr : Int32) (inn : Int32) (k1 : Nat → Int32) (k2 : Nat → Int32) (k3 : Nat → Int32) (k4 : Nat → Int32) (z : va_W) (k : pT) (n : Nat) (a : pS) (f : Nat → Int32) (hA : zRc k n ft r0 r1 r2 r3 r4 r5 r6 r7 a) (hw : a.2.1.toInt = 0) (hz : bLand T rl cr inn k1 k2 k3 k4 z) (hI : zLI cr k1 k3) (hC : zLc cr inn k1 k2 k3 k4 r8 a f) : zMv l T yX7_readLine cX7_readLine 3 7 0 0 [.ref rd, .int 0] [[zO7 rd rl rdd rg r0 r1 tp r2 r3 r4 r5 r6 r7 r8], [zAr T 1 tp 600 ft], z] (fun bs => ∃ (u0 : Int32) (u1 : Int32) (u3 : Int32) (u4 : Int32) (u5 : Int32) (u6 : Int32) (u7 : Int32) (u8 : Int32) (z2 : va_W) (c2 : Int32) (i2 : Int32) (j1 : Nat → Int32) (j2 : Nat → Int32) (j3 : Nat → Int32) (j4 : Nat → Int32), bs = [[zO7 rd rl rdd rg u0 u1 tp r2 u3 u4 u5 u6 u7 u8], [zAr T 1 tp 600 ft], z2] ∧ bLand T rl c2 i2 j1 j2 j3 j4 z2 ∧ zLI c2 j1 j3 ∧ zRc k n ft u0 u1 r2 u3 u4 u5 u6 u7 (pLine k 0 a f).1 ∧ zLc c2 i2 j1 j2 j3 j4 u8 (pLine k 0 a f).1 (pLine k 0 a f).2) := by
  refine zMv_of (own := RX7) (by decide) rfl (Nat.le_of_ble_eq_true rfl) ?_
  intro p e s m args below meth c A ls C hr hlocks hnm hAe G hl
  refine zHide (fun Qz_ hQz_ => ?_)
  have hx := C.1
  have hb := C.2.1
  have hl : lv_has ls 3 [(0, .ref rd), (1, .int 0)] := hl
  have hok := zRc_ok hA
  obtain ⟨hA1, hA6, hA7, hA8, hA9, hAI, hAE⟩ := id hA
  have hka := hok a.1 hA1.2.2.2
  obtain ⟨t3, t4, t5, t6⟩ := hA7 hw
  have t4i : r4.toInt = (pCl k a.1 : Int) := by rw [t4]; exact nI_toInt (by omega)
  refine lv_aload_n hx hb dX7_readLine_0 rfl (lv_at hl 0 rfl) ?_
  refine z_get C G clX7 0 rfl 8 (by decide) m_fl_RX7_74 rfl dX7_readLine_1 ?_
  refine lv_iconst (v := 1) hx hb dX7_readLine_4 (by decide) ?_
  refine lv_icmp_ne (tgt := 16) hx hb dX7_readLine_5 (by decide) (fun c_1 => ?_) (fun c_1 => ?_)
  · have c_1n : ¬ r4.toInt = (1 : Int) := fun q => c_1 ((fa_eq _ _).mpr q)
    refine lv_iconst (v := (-1)) hx hb dX7_readLine_16 (by decide) ?_
    refine lv_istore_n (lv' := [(2, .int (-1)), (0, .ref rd), (1, .int 0)]) hx hb dX7_readLine_17 rfl hl (by decide) (zLvf_h rfl) (fun ls hl => ?_)
    refine lv_iload_n hx hb dX7_readLine_18 rfl (lv_at hl 0 rfl) ?_
    refine lv_iconst (v := (-1)) hx hb dX7_readLine_19 (by decide) ?_
    refine lv_icmp_ne (tgt := 28) hx hb dX7_readLine_20 (by decide) (fun q => absurd (by decide) q) (fun _ => ?_)
    refine lv_aload_n hx hb dX7_readLine_23 rfl (lv_at hl 1 rfl) ?_
    refine z_Vv (bc := [[zO7 rd rl rdd rg r0 r1 tp r2 r3 r4 r5 r6 r7 r8]]) (br := [[zAr T 1 tp 600 ft], z]) (As := []) (rest := []) C G (c_f_breakHere l T rd rl rdd rg tp r0 r1 r2 r3 r4 r5 r6 r7 r8) (kV_RX7_105 C.2.2.2.2 (Nat.le_of_ble_eq_true rfl) (Nat.le_of_ble_eq_true rfl)) [0] [0] rfl rfl (ci := 7) (qc := (RX7, TX7, 13)) rfl rfl (List.mem_flatten.mpr ⟨_, List.mem_of_getElem? (i := 0) rfl, List.mem_cons_self⟩) rfl rfl hl.1 dX7_readLine_24 (Nat.le_of_ble_eq_true rfl) (Nat.le_of_ble_eq_true rfl) (fun b1 H locs hw G => ?_)
    refine zEx3 hw ?_
    intro u0_2 u1_3 u7_4
    refine zCu4 ?_
    intro hbs9 h_5 h_6 h_7
    clear hw
    subst hbs9
    have G : zS T A s.heap s [[zAr T 1 tp 600 ft], z, [zO7 rd rl rdd rg u0_2 u1_3 tp r2 r3 r4 r5 r6 u7_4 r8]] _ _ := G
    have G := G.sub (bs' := [[zO7 rd rl rdd rg u0_2 u1_3 tp r2 r3 r4 r5 r6 u7_4 r8], [zAr T 1 tp 600 ft], z]) [2, 0, 1] rfl
    exact z_back hQz_ (z_vret C hr hlocks G (Nat.le_of_ble_eq_true rfl) (Nat.le_of_ble_eq_true rfl) dX7_readLine_27 ⟨u0_2, u1_3, r3, r4, r5, r6, u7_4, r8, z, cr, inn, k1, k2, k3, k4, rfl, hz, hI, (by rw [pLine_e hw (s := 0) (lo := 1) (hi := 4) (by decide) (Or.inl (fun q9 => by have := pTk_3 q9; omega))]; exact zRc_brk hA h_5 h_6 h_7), (by rw [pLine_e hw (s := 0) (lo := 1) (hi := 4) (by decide) (Or.inl (fun q9 => by have := pTk_3 q9; omega))]; exact zLc_e hAI)⟩)
  · have c_1n : r4.toInt = (1 : Int) := (fa_eq _ _).mp c_1
    refine lv_aload_n hx hb dX7_readLine_8 rfl (lv_at hl 0 rfl) ?_
    refine lv_iload_n hx hb dX7_readLine_9 rfl (lv_at hl 1 rfl) ?_
    refine z_Vi (bc := [[zO7 rd rl rdd rg r0 r1 tp r2 r3 r4 r5 r6 r7 r8], [zAr T 1 tp 600 ft]]) (br := [z]) (As := [.int 0]) (rest := []) C G (c_f_wordOf0 l T rd rl rdd rg tp r0 r1 r2 r3 r4 r5 r6 r7 r8 ft (pWh k a.1) (pEn k a.1) n t3 t5 hka.1.2.1 hka.1.2.2 hA1.2.2.1 hA1.2.1) (kV_RX7_101 C.2.2.2.2 (Nat.le_of_ble_eq_true rfl) (Nat.le_of_ble_eq_true rfl)) [0, 1] [0, 0] rfl rfl (ci := 7) (qc := (RX7, TX7, 13)) rfl rfl (List.mem_flatten.mpr ⟨_, List.mem_of_getElem? (i := 0) rfl, List.mem_cons_self⟩) rfl rfl hl.1 dX7_readLine_10 (Nat.le_of_ble_eq_true rfl) (Nat.le_of_ble_eq_true rfl) (fun r_10 b1 H locs hw G => ?_)
    refine zAn2 hw ?_
    intro hbs9 h_9
    clear hw
    subst hbs9
    have G : zS T A s.heap s [z, [zO7 rd rl rdd rg r0 r1 tp r2 r3 r4 r5 r6 r7 r8], [zAr T 1 tp 600 ft]] _ _ := G
    have hcl : pCl k a.1 = 1 := by omega
    have hwd : r_10 = zWc 0 (pWd k a.1) := by rw [pWd_eq hA1.1 hcl]; exact h_9
    refine lv_goto (tgt := 17) hx hb dX7_readLine_13 (by decide) ?_
    refine lv_istore_n (lv' := [(2, .int r_10), (0, .ref rd), (1, .int 0)]) hx hb dX7_readLine_17 rfl hl (by decide) (zLvf_h rfl) (fun ls hl => ?_)
    refine lv_iload_n hx hb dX7_readLine_18 rfl (lv_at hl 0 rfl) ?_
    refine lv_iconst (v := (-1)) hx hb dX7_readLine_19 (by decide) ?_
    refine lv_icmp_ne (tgt := 28) hx hb dX7_readLine_20 (by decide) (fun c_11 => ?_) (fun c_11 => ?_)
    · have c_11n : ¬ r_10.toInt = (-1 : Int) := fun q => c_11 ((fa_eq _ _).mpr q)
      have hwy := zWc_y0 (wd := pWd k a.1) (by rw [← hwd]; omega)
      have hwi : r_10.toInt = (pWd k a.1 : Int) - 1 := by rw [hwd]; exact hwy.2
      have hwr := hwy.1
      have ht3 : pTk k a.1 = 3 := pTk_3w hcl (by omega)
      refine lv_iload_n hx hb dX7_readLine_28 rfl (lv_at hl 2 rfl) ?_
      refine lv_iconst (v := 1) hx hb dX7_readLine_29 (by decide) ?_
      refine lv_icmp_ne (tgt := 41) hx hb dX7_readLine_30 (by decide) (fun _ => ?_) (fun q => absurd q (by decide))
      refine lv_iload_n hx hb dX7_readLine_41 rfl (lv_at hl 2 rfl) ?_
      refine lv_iconst (v := 2) hx hb dX7_readLine_42 (by decide) ?_
      refine lv_icmp_ne (tgt := 54) hx hb dX7_readLine_43 (by decide) (fun _ => ?_) (fun q => absurd q (by decide))
      rcases (show r_10.toInt = 0 ∨ r_10.toInt = 1 ∨ r_10.toInt = 2 ∨ r_10.toInt = 3 from by omega) with hx9 | hx9 | hx9 | hx9
      · obtain rfl : r_10 = 0 := Int32.toInt_inj.mp hx9
        have hx8 : (0 : Int32).toInt = 0 := rfl
        have hd1 : pWd k a.1 = 1 := by omega
        refine lv_iload_n hx hb dX7_readLine_54 rfl (lv_at hl 0 rfl) ?_
        refine lv_if_ne (tgt := 65) hx hb dX7_readLine_55 (by decide) (fun q => absurd (by decide) q) (fun _ => ?_)
        refine lv_aload_n hx hb dX7_readLine_58 rfl (lv_at hl 1 rfl) ?_
        refine z_Vv (bc := [[zO7 rd rl rdd rg r0 r1 tp r2 r3 r4 r5 r6 r7 r8], [zAr T 1 tp 600 ft], z]) (br := []) (As := []) (rest := []) C G (c_f_readCrossing l T rd rl rdd rg tp r0 r1 r2 r3 r4 r5 r6 r7 r8 ft cr inn k1 k2 k3 k4 z k n a f hA hw hcl hz hI hC) (kV_RX7_114 C.2.2.2.2 (Nat.le_of_ble_eq_true rfl) (Nat.le_of_ble_eq_true rfl)) [1, 2, 0] [0, 0, 0] rfl rfl (ci := 7) (qc := (RX7, TX7, 13)) rfl rfl (List.mem_flatten.mpr ⟨_, List.mem_of_getElem? (i := 0) rfl, List.mem_cons_self⟩) rfl rfl hl.1 dX7_readLine_59 (Nat.le_of_ble_eq_true rfl) (Nat.le_of_ble_eq_true rfl) (fun b1 H locs hw G => ?_)
        refine zEx12 hw ?_
        intro u0_12 u1_13 u3_14 u4_15 u5_16 u6_17 u7_18 u8_19 z2_20 c2_21 j1_22 j2_23
        refine zCu5 ?_
        intro hbs9 h_24 h_25 h_26 h_27
        clear hw
        subst hbs9
        have G : zS T A s.heap s [[zO7 rd rl rdd rg u0_12 u1_13 tp r2 u3_14 u4_15 u5_16 u6_17 u7_18 u8_19], [zAr T 1 tp 600 ft], z2_20] _ _ := G
        obtain ⟨q, hq⟩ : ∃ q, q = pCross k (nI (pWh k a.1)) (pAdv k a) f := ⟨_, rfl⟩
        rw [← hq] at h_26 h_27
        have hpl : pLine k 0 a f = (pEndL k q.1, q.2) := pLine_l hw ht3 hwr (hq.trans (if_pos hd1).symm)
        have hokQ := zRc_ok h_26
        obtain ⟨hA1Q, hA6Q, hA7Q, hA8Q, hA9Q, hAIQ, hAEQ⟩ := id h_26
        have hkaQ := hokQ q.1.1 hA1Q.2.2.2
        refine lv_goto (tgt := 70) hx hb dX7_readLine_62 (by decide) ?_
        rcases (Decidable.em (q.1.2.1.toInt = 0)) with hbk | hbk
        · obtain ⟨t3Q, t4Q, t5Q, t6Q⟩ := hA7Q hbk
          have t4iQ : u4_15.toInt = (pCl k q.1.1 : Int) := by rw [t4Q]; exact nI_toInt (by omega)
          refine lv_aload_n hx hb dX7_readLine_70 rfl (lv_at hl 1 rfl) ?_
          refine z_get C G clX7 0 rfl 8 (by decide) m_fl_RX7_74 rfl dX7_readLine_71 ?_
          refine lv_iconst (v := 3) hx hb dX7_readLine_74 (by decide) ?_
          refine lv_icmp_ne (tgt := 85) hx hb dX7_readLine_75 (by decide) (fun c_29 => ?_) (fun c_29 => ?_)
          · have c_29n : ¬ u4_15.toInt = (3 : Int) := fun q => c_29 ((fa_eq _ _).mpr q)
            refine lv_aload_n hx hb dX7_readLine_85 rfl (lv_at hl 1 rfl) ?_
            refine z_Vv (bc := [[zO7 rd rl rdd rg u0_12 u1_13 tp r2 u3_14 u4_15 u5_16 u6_17 u7_18 u8_19]]) (br := [[zAr T 1 tp 600 ft], z2_20]) (As := []) (rest := []) C G (c_f_breakHere l T rd rl rdd rg tp u0_12 u1_13 r2 u3_14 u4_15 u5_16 u6_17 u7_18 u8_19) (kV_RX7_105 C.2.2.2.2 (Nat.le_of_ble_eq_true rfl) (Nat.le_of_ble_eq_true rfl)) [0] [0] rfl rfl (ci := 7) (qc := (RX7, TX7, 13)) rfl rfl (List.mem_flatten.mpr ⟨_, List.mem_of_getElem? (i := 0) rfl, List.mem_cons_self⟩) rfl rfl hl.1 dX7_readLine_86 (Nat.le_of_ble_eq_true rfl) (Nat.le_of_ble_eq_true rfl) (fun b1 H locs hw G => ?_)
            refine zEx3 hw ?_
            intro u0_30 u1_31 u7_32
            refine zCu4 ?_
            intro hbs9 h_33 h_34 h_35
            clear hw
            subst hbs9
            have G : zS T A s.heap s [[zAr T 1 tp 600 ft], z2_20, [zO7 rd rl rdd rg u0_30 u1_31 tp r2 u3_14 u4_15 u5_16 u6_17 u7_32 u8_19]] _ _ := G
            have G := G.sub (bs' := [[zO7 rd rl rdd rg u0_30 u1_31 tp r2 u3_14 u4_15 u5_16 u6_17 u7_32 u8_19], [zAr T 1 tp 600 ft], z2_20]) [2, 0, 1] rfl
            exact z_back hQz_ (z_vret C hr hlocks G (Nat.le_of_ble_eq_true rfl) (Nat.le_of_ble_eq_true rfl) dX7_readLine_89 ⟨u0_30, u1_31, u3_14, u4_15, u5_16, u6_17, u7_32, u8_19, z2_20, c2_21, inn, j1_22, j2_23, k3, k4, rfl, h_24, h_25, (by rw [hpl]; show zRc _ _ _ _ _ _ _ _ _ _ _ (pEndL k q.1); rw [pEndL_e (fun z9 => by have := (pTk_2 hokQ hA1Q.2.2.2).mp z9.2; omega)]; exact zRc_brk h_26 h_33 h_34 h_35), (by rw [hpl]; exact zLc_l hAIQ h_27)⟩)
          · have c_29n : u4_15.toInt = (3 : Int) := (fa_eq _ _).mp c_29
            refine lv_aload_n hx hb dX7_readLine_78 rfl (lv_at hl 1 rfl) ?_
            refine z_Vv (bc := [[zO7 rd rl rdd rg u0_12 u1_13 tp r2 u3_14 u4_15 u5_16 u6_17 u7_18 u8_19], [zAr T 1 tp 600 ft]]) (br := [z2_20]) (As := []) (rest := []) C G (c_f_nextToken l T rd rl rdd rg tp u0_12 u1_13 r2 u3_14 u4_15 u5_16 u6_17 u7_18 u8_19 ft (pEn k q.1.1) n k t3Q hkaQ.1.2.2 hA1Q.1 hA1Q.2.2.1 hA1Q.2.1) (kV_RX7_71 C.2.2.2.2 (Nat.le_of_ble_eq_true rfl) (Nat.le_of_ble_eq_true rfl)) [0, 1] [0, 0] rfl rfl (ci := 7) (qc := (RX7, TX7, 13)) rfl rfl (List.mem_flatten.mpr ⟨_, List.mem_of_getElem? (i := 0) rfl, List.mem_cons_self⟩) rfl rfl hl.1 dX7_readLine_79 (Nat.le_of_ble_eq_true rfl) (Nat.le_of_ble_eq_true rfl) (fun b1 H locs hw G => ?_)
            refine zEx4 hw ?_
            intro u3_37 u4_38 u5_39 u6_40
            refine zCu2 ?_
            intro hbs9 h_41
            clear hw
            subst hbs9
            have G : zS T A s.heap s [z2_20, [zO7 rd rl rdd rg u0_12 u1_13 tp r2 u3_37 u4_38 u5_39 u6_40 u7_18 u8_19], [zAr T 1 tp 600 ft]] _ _ := G
            refine lv_goto (tgt := 89) hx hb dX7_readLine_82 (by decide) ?_
            have G := G.sub (bs' := [[zO7 rd rl rdd rg u0_12 u1_13 tp r2 u3_37 u4_38 u5_39 u6_40 u7_18 u8_19], [zAr T 1 tp 600 ft], z2_20]) [1, 2, 0] rfl
            exact z_back hQz_ (z_vret C hr hlocks G (Nat.le_of_ble_eq_true rfl) (Nat.le_of_ble_eq_true rfl) dX7_readLine_89 ⟨u0_12, u1_13, u3_37, u4_38, u5_39, u6_40, u7_18, u8_19, z2_20, c2_21, inn, j1_22, j2_23, k3, k4, rfl, h_24, h_25, (by rw [hpl]; show zRc _ _ _ _ _ _ _ _ _ _ _ (pEndL k q.1); rw [pEndL_a ⟨hbk, (pTk_2 hokQ hA1Q.2.2.2).mpr (by omega)⟩]; exact zRc_adv h_26 hbk h_41), (by rw [hpl]; exact zLc_l hAIQ h_27)⟩)
        · obtain ⟨p9, hp9, e9⟩ := hAEQ
          refine lv_aload_n hx hb dX7_readLine_70 rfl (lv_at hl 1 rfl) ?_
          refine z_get C G clX7 0 rfl 8 (by decide) m_fl_RX7_74 rfl dX7_readLine_71 ?_
          refine lv_iconst (v := 3) hx hb dX7_readLine_74 (by decide) ?_
          refine lv_icmp_ne (tgt := 85) hx hb dX7_readLine_75 (by decide) (fun c_43 => ?_) (fun c_43 => ?_)
          · have c_43n : ¬ u4_15.toInt = (3 : Int) := fun q => c_43 ((fa_eq _ _).mpr q)
            refine lv_aload_n hx hb dX7_readLine_85 rfl (lv_at hl 1 rfl) ?_
            refine z_Vv (bc := [[zO7 rd rl rdd rg u0_12 u1_13 tp r2 u3_14 u4_15 u5_16 u6_17 u7_18 u8_19]]) (br := [[zAr T 1 tp 600 ft], z2_20]) (As := []) (rest := []) C G (c_f_breakHere l T rd rl rdd rg tp u0_12 u1_13 r2 u3_14 u4_15 u5_16 u6_17 u7_18 u8_19) (kV_RX7_105 C.2.2.2.2 (Nat.le_of_ble_eq_true rfl) (Nat.le_of_ble_eq_true rfl)) [0] [0] rfl rfl (ci := 7) (qc := (RX7, TX7, 13)) rfl rfl (List.mem_flatten.mpr ⟨_, List.mem_of_getElem? (i := 0) rfl, List.mem_cons_self⟩) rfl rfl hl.1 dX7_readLine_86 (Nat.le_of_ble_eq_true rfl) (Nat.le_of_ble_eq_true rfl) (fun b1 H locs hw G => ?_)
            refine zEx3 hw ?_
            intro u0_44 u1_45 u7_46
            refine zCu4 ?_
            intro hbs9 h_47 h_48 h_49
            clear hw
            subst hbs9
            have G : zS T A s.heap s [[zAr T 1 tp 600 ft], z2_20, [zO7 rd rl rdd rg u0_44 u1_45 tp r2 u3_14 u4_15 u5_16 u6_17 u7_46 u8_19]] _ _ := G
            have G := G.sub (bs' := [[zO7 rd rl rdd rg u0_44 u1_45 tp r2 u3_14 u4_15 u5_16 u6_17 u7_46 u8_19], [zAr T 1 tp 600 ft], z2_20]) [2, 0, 1] rfl
            exact z_back hQz_ (z_vret C hr hlocks G (Nat.le_of_ble_eq_true rfl) (Nat.le_of_ble_eq_true rfl) dX7_readLine_89 ⟨u0_44, u1_45, u3_14, u4_15, u5_16, u6_17, u7_46, u8_19, z2_20, c2_21, inn, j1_22, j2_23, k3, k4, rfl, h_24, h_25, (by rw [hpl]; show zRc _ _ _ _ _ _ _ _ _ _ _ (pEndL k q.1); rw [pEndL_e (fun z9 => hbk z9.1)]; exact zRc_brk h_26 h_47 h_48 h_49), (by rw [hpl]; exact zLc_l hAIQ h_27)⟩)
          · have c_43n : u4_15.toInt = (3 : Int) := (fa_eq _ _).mp c_43
            refine lv_aload_n hx hb dX7_readLine_78 rfl (lv_at hl 1 rfl) ?_
            refine z_Vv (bc := [[zO7 rd rl rdd rg u0_12 u1_13 tp r2 u3_14 u4_15 u5_16 u6_17 u7_18 u8_19], [zAr T 1 tp 600 ft]]) (br := [z2_20]) (As := []) (rest := []) C G (c_f_nextToken l T rd rl rdd rg tp u0_12 u1_13 r2 u3_14 u4_15 u5_16 u6_17 u7_18 u8_19 ft p9 n k e9 hp9 hA1Q.1 hA1Q.2.2.1 hA1Q.2.1) (kV_RX7_71 C.2.2.2.2 (Nat.le_of_ble_eq_true rfl) (Nat.le_of_ble_eq_true rfl)) [0, 1] [0, 0] rfl rfl (ci := 7) (qc := (RX7, TX7, 13)) rfl rfl (List.mem_flatten.mpr ⟨_, List.mem_of_getElem? (i := 0) rfl, List.mem_cons_self⟩) rfl rfl hl.1 dX7_readLine_79 (Nat.le_of_ble_eq_true rfl) (Nat.le_of_ble_eq_true rfl) (fun b1 H locs hw G => ?_)
            refine zEx4 hw ?_
            intro u3_51 u4_52 u5_53 u6_54
            refine zCu2 ?_
            intro hbs9 h_55
            clear hw
            subst hbs9
            have G : zS T A s.heap s [z2_20, [zO7 rd rl rdd rg u0_12 u1_13 tp r2 u3_51 u4_52 u5_53 u6_54 u7_18 u8_19], [zAr T 1 tp 600 ft]] _ _ := G
            refine lv_goto (tgt := 89) hx hb dX7_readLine_82 (by decide) ?_
            have G := G.sub (bs' := [[zO7 rd rl rdd rg u0_12 u1_13 tp r2 u3_51 u4_52 u5_53 u6_54 u7_18 u8_19], [zAr T 1 tp 600 ft], z2_20]) [1, 2, 0] rfl
            exact z_back hQz_ (z_vret C hr hlocks G (Nat.le_of_ble_eq_true rfl) (Nat.le_of_ble_eq_true rfl) dX7_readLine_89 ⟨u0_12, u1_13, u3_51, u4_52, u5_53, u6_54, u7_18, u8_19, z2_20, c2_21, inn, j1_22, j2_23, k3, k4, rfl, h_24, h_25, (by rw [hpl]; show zRc _ _ _ _ _ _ _ _ _ _ _ (pEndL k q.1); rw [pEndL_e (fun z9 => hbk z9.1), pEnds_n hbk]; exact zRc_any h_26 hbk ⟨_, (hokQ p9 hp9).1.2.2, h_55.1⟩), (by rw [hpl]; exact zLc_l hAIQ h_27)⟩)
      · obtain rfl : r_10 = 1 := Int32.toInt_inj.mp hx9
        have hx8 : (1 : Int32).toInt = 1 := rfl
        have hd1 : pWd k a.1 = 2 := by omega
        refine lv_iload_n hx hb dX7_readLine_54 rfl (lv_at hl 0 rfl) ?_
        refine lv_if_ne (tgt := 65) hx hb dX7_readLine_55 (by decide) (fun _ => ?_) (fun q => absurd q (by decide))
        refine lv_aload_n hx hb dX7_readLine_65 rfl (lv_at hl 1 rfl) ?_
        refine lv_iload_n hx hb dX7_readLine_66 rfl (lv_at hl 0 rfl) ?_
        refine z_Vv (bc := [[zO7 rd rl rdd rg r0 r1 tp r2 r3 r4 r5 r6 r7 r8], [zAr T 1 tp 600 ft], z]) (br := []) (As := [.int 1]) (rest := []) C G (c_f_readOther1 l T rd rl rdd rg tp r0 r1 r2 r3 r4 r5 r6 r7 r8 ft cr inn k1 k2 k3 k4 z k n a f hA hw hcl hz hI hC) (kV_RX7_117 C.2.2.2.2 (Nat.le_of_ble_eq_true rfl) (Nat.le_of_ble_eq_true rfl)) [1, 2, 0] [0, 0, 0] rfl rfl (ci := 7) (qc := (RX7, TX7, 13)) rfl rfl (List.mem_flatten.mpr ⟨_, List.mem_of_getElem? (i := 0) rfl, List.mem_cons_self⟩) rfl rfl hl.1 dX7_readLine_67 (Nat.le_of_ble_eq_true rfl) (Nat.le_of_ble_eq_true rfl) (fun b1 H locs hw G => ?_)
        refine zEx12 hw ?_
        intro u0_57 u1_58 u3_59 u4_60 u5_61 u6_62 u7_63 u8_64 z2_65 i2_66 j3_67 j4_68
        refine zCu5 ?_
        intro hbs9 h_69 h_70 h_71 h_72
        clear hw
        subst hbs9
        have G : zS T A s.heap s [[zO7 rd rl rdd rg u0_57 u1_58 tp r2 u3_59 u4_60 u5_61 u6_62 u7_63 u8_64], [zAr T 1 tp 600 ft], z2_65] _ _ := G
        obtain ⟨q, hq⟩ : ∃ q, q = pPW k 2 (pAdv k a) f := ⟨_, rfl⟩
        rw [← hq] at h_71 h_72
        have hpl : pLine k 0 a f = (pEndL k q.1, q.2) := pLine_l hw ht3 hwr (hq.trans (((if_neg (by omega)).trans (if_neg (by omega))).trans (by rw [hd1])).symm)
        have hokQ := zRc_ok h_71
        obtain ⟨hA1Q, hA6Q, hA7Q, hA8Q, hA9Q, hAIQ, hAEQ⟩ := id h_71
        have hkaQ := hokQ q.1.1 hA1Q.2.2.2
        rcases (Decidable.em (q.1.2.1.toInt = 0)) with hbk | hbk
        · obtain ⟨t3Q, t4Q, t5Q, t6Q⟩ := hA7Q hbk
          have t4iQ : u4_60.toInt = (pCl k q.1.1 : Int) := by rw [t4Q]; exact nI_toInt (by omega)
          refine lv_aload_n hx hb dX7_readLine_70 rfl (lv_at hl 1 rfl) ?_
          refine z_get C G clX7 0 rfl 8 (by decide) m_fl_RX7_74 rfl dX7_readLine_71 ?_
          refine lv_iconst (v := 3) hx hb dX7_readLine_74 (by decide) ?_
          refine lv_icmp_ne (tgt := 85) hx hb dX7_readLine_75 (by decide) (fun c_74 => ?_) (fun c_74 => ?_)
          · have c_74n : ¬ u4_60.toInt = (3 : Int) := fun q => c_74 ((fa_eq _ _).mpr q)
            refine lv_aload_n hx hb dX7_readLine_85 rfl (lv_at hl 1 rfl) ?_
            refine z_Vv (bc := [[zO7 rd rl rdd rg u0_57 u1_58 tp r2 u3_59 u4_60 u5_61 u6_62 u7_63 u8_64]]) (br := [[zAr T 1 tp 600 ft], z2_65]) (As := []) (rest := []) C G (c_f_breakHere l T rd rl rdd rg tp u0_57 u1_58 r2 u3_59 u4_60 u5_61 u6_62 u7_63 u8_64) (kV_RX7_105 C.2.2.2.2 (Nat.le_of_ble_eq_true rfl) (Nat.le_of_ble_eq_true rfl)) [0] [0] rfl rfl (ci := 7) (qc := (RX7, TX7, 13)) rfl rfl (List.mem_flatten.mpr ⟨_, List.mem_of_getElem? (i := 0) rfl, List.mem_cons_self⟩) rfl rfl hl.1 dX7_readLine_86 (Nat.le_of_ble_eq_true rfl) (Nat.le_of_ble_eq_true rfl) (fun b1 H locs hw G => ?_)
            refine zEx3 hw ?_
            intro u0_75 u1_76 u7_77
            refine zCu4 ?_
            intro hbs9 h_78 h_79 h_80
            clear hw
            subst hbs9
            have G : zS T A s.heap s [[zAr T 1 tp 600 ft], z2_65, [zO7 rd rl rdd rg u0_75 u1_76 tp r2 u3_59 u4_60 u5_61 u6_62 u7_77 u8_64]] _ _ := G
            have G := G.sub (bs' := [[zO7 rd rl rdd rg u0_75 u1_76 tp r2 u3_59 u4_60 u5_61 u6_62 u7_77 u8_64], [zAr T 1 tp 600 ft], z2_65]) [2, 0, 1] rfl
            exact z_back hQz_ (z_vret C hr hlocks G (Nat.le_of_ble_eq_true rfl) (Nat.le_of_ble_eq_true rfl) dX7_readLine_89 ⟨u0_75, u1_76, u3_59, u4_60, u5_61, u6_62, u7_77, u8_64, z2_65, cr, i2_66, k1, k2, j3_67, j4_68, rfl, h_69, h_70, (by rw [hpl]; show zRc _ _ _ _ _ _ _ _ _ _ _ (pEndL k q.1); rw [pEndL_e (fun z9 => by have := (pTk_2 hokQ hA1Q.2.2.2).mp z9.2; omega)]; exact zRc_brk h_71 h_78 h_79 h_80), (by rw [hpl]; exact zLc_l hAIQ h_72)⟩)
          · have c_74n : u4_60.toInt = (3 : Int) := (fa_eq _ _).mp c_74
            refine lv_aload_n hx hb dX7_readLine_78 rfl (lv_at hl 1 rfl) ?_
            refine z_Vv (bc := [[zO7 rd rl rdd rg u0_57 u1_58 tp r2 u3_59 u4_60 u5_61 u6_62 u7_63 u8_64], [zAr T 1 tp 600 ft]]) (br := [z2_65]) (As := []) (rest := []) C G (c_f_nextToken l T rd rl rdd rg tp u0_57 u1_58 r2 u3_59 u4_60 u5_61 u6_62 u7_63 u8_64 ft (pEn k q.1.1) n k t3Q hkaQ.1.2.2 hA1Q.1 hA1Q.2.2.1 hA1Q.2.1) (kV_RX7_71 C.2.2.2.2 (Nat.le_of_ble_eq_true rfl) (Nat.le_of_ble_eq_true rfl)) [0, 1] [0, 0] rfl rfl (ci := 7) (qc := (RX7, TX7, 13)) rfl rfl (List.mem_flatten.mpr ⟨_, List.mem_of_getElem? (i := 0) rfl, List.mem_cons_self⟩) rfl rfl hl.1 dX7_readLine_79 (Nat.le_of_ble_eq_true rfl) (Nat.le_of_ble_eq_true rfl) (fun b1 H locs hw G => ?_)
            refine zEx4 hw ?_
            intro u3_82 u4_83 u5_84 u6_85
            refine zCu2 ?_
            intro hbs9 h_86
            clear hw
            subst hbs9
            have G : zS T A s.heap s [z2_65, [zO7 rd rl rdd rg u0_57 u1_58 tp r2 u3_82 u4_83 u5_84 u6_85 u7_63 u8_64], [zAr T 1 tp 600 ft]] _ _ := G
            refine lv_goto (tgt := 89) hx hb dX7_readLine_82 (by decide) ?_
            have G := G.sub (bs' := [[zO7 rd rl rdd rg u0_57 u1_58 tp r2 u3_82 u4_83 u5_84 u6_85 u7_63 u8_64], [zAr T 1 tp 600 ft], z2_65]) [1, 2, 0] rfl
            exact z_back hQz_ (z_vret C hr hlocks G (Nat.le_of_ble_eq_true rfl) (Nat.le_of_ble_eq_true rfl) dX7_readLine_89 ⟨u0_57, u1_58, u3_82, u4_83, u5_84, u6_85, u7_63, u8_64, z2_65, cr, i2_66, k1, k2, j3_67, j4_68, rfl, h_69, h_70, (by rw [hpl]; show zRc _ _ _ _ _ _ _ _ _ _ _ (pEndL k q.1); rw [pEndL_a ⟨hbk, (pTk_2 hokQ hA1Q.2.2.2).mpr (by omega)⟩]; exact zRc_adv h_71 hbk h_86), (by rw [hpl]; exact zLc_l hAIQ h_72)⟩)
        · obtain ⟨p9, hp9, e9⟩ := hAEQ
          refine lv_aload_n hx hb dX7_readLine_70 rfl (lv_at hl 1 rfl) ?_
          refine z_get C G clX7 0 rfl 8 (by decide) m_fl_RX7_74 rfl dX7_readLine_71 ?_
          refine lv_iconst (v := 3) hx hb dX7_readLine_74 (by decide) ?_
          refine lv_icmp_ne (tgt := 85) hx hb dX7_readLine_75 (by decide) (fun c_88 => ?_) (fun c_88 => ?_)
          · have c_88n : ¬ u4_60.toInt = (3 : Int) := fun q => c_88 ((fa_eq _ _).mpr q)
            refine lv_aload_n hx hb dX7_readLine_85 rfl (lv_at hl 1 rfl) ?_
            refine z_Vv (bc := [[zO7 rd rl rdd rg u0_57 u1_58 tp r2 u3_59 u4_60 u5_61 u6_62 u7_63 u8_64]]) (br := [[zAr T 1 tp 600 ft], z2_65]) (As := []) (rest := []) C G (c_f_breakHere l T rd rl rdd rg tp u0_57 u1_58 r2 u3_59 u4_60 u5_61 u6_62 u7_63 u8_64) (kV_RX7_105 C.2.2.2.2 (Nat.le_of_ble_eq_true rfl) (Nat.le_of_ble_eq_true rfl)) [0] [0] rfl rfl (ci := 7) (qc := (RX7, TX7, 13)) rfl rfl (List.mem_flatten.mpr ⟨_, List.mem_of_getElem? (i := 0) rfl, List.mem_cons_self⟩) rfl rfl hl.1 dX7_readLine_86 (Nat.le_of_ble_eq_true rfl) (Nat.le_of_ble_eq_true rfl) (fun b1 H locs hw G => ?_)
            refine zEx3 hw ?_
            intro u0_89 u1_90 u7_91
            refine zCu4 ?_
            intro hbs9 h_92 h_93 h_94
            clear hw
            subst hbs9
            have G : zS T A s.heap s [[zAr T 1 tp 600 ft], z2_65, [zO7 rd rl rdd rg u0_89 u1_90 tp r2 u3_59 u4_60 u5_61 u6_62 u7_91 u8_64]] _ _ := G
            have G := G.sub (bs' := [[zO7 rd rl rdd rg u0_89 u1_90 tp r2 u3_59 u4_60 u5_61 u6_62 u7_91 u8_64], [zAr T 1 tp 600 ft], z2_65]) [2, 0, 1] rfl
            exact z_back hQz_ (z_vret C hr hlocks G (Nat.le_of_ble_eq_true rfl) (Nat.le_of_ble_eq_true rfl) dX7_readLine_89 ⟨u0_89, u1_90, u3_59, u4_60, u5_61, u6_62, u7_91, u8_64, z2_65, cr, i2_66, k1, k2, j3_67, j4_68, rfl, h_69, h_70, (by rw [hpl]; show zRc _ _ _ _ _ _ _ _ _ _ _ (pEndL k q.1); rw [pEndL_e (fun z9 => hbk z9.1)]; exact zRc_brk h_71 h_92 h_93 h_94), (by rw [hpl]; exact zLc_l hAIQ h_72)⟩)
          · have c_88n : u4_60.toInt = (3 : Int) := (fa_eq _ _).mp c_88
            refine lv_aload_n hx hb dX7_readLine_78 rfl (lv_at hl 1 rfl) ?_
            refine z_Vv (bc := [[zO7 rd rl rdd rg u0_57 u1_58 tp r2 u3_59 u4_60 u5_61 u6_62 u7_63 u8_64], [zAr T 1 tp 600 ft]]) (br := [z2_65]) (As := []) (rest := []) C G (c_f_nextToken l T rd rl rdd rg tp u0_57 u1_58 r2 u3_59 u4_60 u5_61 u6_62 u7_63 u8_64 ft p9 n k e9 hp9 hA1Q.1 hA1Q.2.2.1 hA1Q.2.1) (kV_RX7_71 C.2.2.2.2 (Nat.le_of_ble_eq_true rfl) (Nat.le_of_ble_eq_true rfl)) [0, 1] [0, 0] rfl rfl (ci := 7) (qc := (RX7, TX7, 13)) rfl rfl (List.mem_flatten.mpr ⟨_, List.mem_of_getElem? (i := 0) rfl, List.mem_cons_self⟩) rfl rfl hl.1 dX7_readLine_79 (Nat.le_of_ble_eq_true rfl) (Nat.le_of_ble_eq_true rfl) (fun b1 H locs hw G => ?_)
            refine zEx4 hw ?_
            intro u3_96 u4_97 u5_98 u6_99
            refine zCu2 ?_
            intro hbs9 h_100
            clear hw
            subst hbs9
            have G : zS T A s.heap s [z2_65, [zO7 rd rl rdd rg u0_57 u1_58 tp r2 u3_96 u4_97 u5_98 u6_99 u7_63 u8_64], [zAr T 1 tp 600 ft]] _ _ := G
            refine lv_goto (tgt := 89) hx hb dX7_readLine_82 (by decide) ?_
            have G := G.sub (bs' := [[zO7 rd rl rdd rg u0_57 u1_58 tp r2 u3_96 u4_97 u5_98 u6_99 u7_63 u8_64], [zAr T 1 tp 600 ft], z2_65]) [1, 2, 0] rfl
            exact z_back hQz_ (z_vret C hr hlocks G (Nat.le_of_ble_eq_true rfl) (Nat.le_of_ble_eq_true rfl) dX7_readLine_89 ⟨u0_57, u1_58, u3_96, u4_97, u5_98, u6_99, u7_63, u8_64, z2_65, cr, i2_66, k1, k2, j3_67, j4_68, rfl, h_69, h_70, (by rw [hpl]; show zRc _ _ _ _ _ _ _ _ _ _ _ (pEndL k q.1); rw [pEndL_e (fun z9 => hbk z9.1), pEnds_n hbk]; exact zRc_any h_71 hbk ⟨_, (hokQ p9 hp9).1.2.2, h_100.1⟩), (by rw [hpl]; exact zLc_l hAIQ h_72)⟩)
      · obtain rfl : r_10 = 2 := Int32.toInt_inj.mp hx9
        have hx8 : (2 : Int32).toInt = 2 := rfl
        have hd1 : pWd k a.1 = 3 := by omega
        refine lv_iload_n hx hb dX7_readLine_54 rfl (lv_at hl 0 rfl) ?_
        refine lv_if_ne (tgt := 65) hx hb dX7_readLine_55 (by decide) (fun _ => ?_) (fun q => absurd q (by decide))
        refine lv_aload_n hx hb dX7_readLine_65 rfl (lv_at hl 1 rfl) ?_
        refine lv_iload_n hx hb dX7_readLine_66 rfl (lv_at hl 0 rfl) ?_
        refine z_Vv (bc := [[zO7 rd rl rdd rg r0 r1 tp r2 r3 r4 r5 r6 r7 r8], [zAr T 1 tp 600 ft], z]) (br := []) (As := [.int 2]) (rest := []) C G (c_f_readOther2 l T rd rl rdd rg tp r0 r1 r2 r3 r4 r5 r6 r7 r8 ft cr inn k1 k2 k3 k4 z k n a f hA hw hcl hz hI hC) (kV_RX7_117 C.2.2.2.2 (Nat.le_of_ble_eq_true rfl) (Nat.le_of_ble_eq_true rfl)) [1, 2, 0] [0, 0, 0] rfl rfl (ci := 7) (qc := (RX7, TX7, 13)) rfl rfl (List.mem_flatten.mpr ⟨_, List.mem_of_getElem? (i := 0) rfl, List.mem_cons_self⟩) rfl rfl hl.1 dX7_readLine_67 (Nat.le_of_ble_eq_true rfl) (Nat.le_of_ble_eq_true rfl) (fun b1 H locs hw G => ?_)
        refine zEx12 hw ?_
        intro u0_102 u1_103 u3_104 u4_105 u5_106 u6_107 u7_108 u8_109 z2_110 i2_111 j3_112 j4_113
        refine zCu5 ?_
        intro hbs9 h_114 h_115 h_116 h_117
        clear hw
        subst hbs9
        have G : zS T A s.heap s [[zO7 rd rl rdd rg u0_102 u1_103 tp r2 u3_104 u4_105 u5_106 u6_107 u7_108 u8_109], [zAr T 1 tp 600 ft], z2_110] _ _ := G
        obtain ⟨q, hq⟩ : ∃ q, q = pPW k 3 (pAdv k a) f := ⟨_, rfl⟩
        rw [← hq] at h_116 h_117
        have hpl : pLine k 0 a f = (pEndL k q.1, q.2) := pLine_l hw ht3 hwr (hq.trans (((if_neg (by omega)).trans (if_neg (by omega))).trans (by rw [hd1])).symm)
        have hokQ := zRc_ok h_116
        obtain ⟨hA1Q, hA6Q, hA7Q, hA8Q, hA9Q, hAIQ, hAEQ⟩ := id h_116
        have hkaQ := hokQ q.1.1 hA1Q.2.2.2
        rcases (Decidable.em (q.1.2.1.toInt = 0)) with hbk | hbk
        · obtain ⟨t3Q, t4Q, t5Q, t6Q⟩ := hA7Q hbk
          have t4iQ : u4_105.toInt = (pCl k q.1.1 : Int) := by rw [t4Q]; exact nI_toInt (by omega)
          refine lv_aload_n hx hb dX7_readLine_70 rfl (lv_at hl 1 rfl) ?_
          refine z_get C G clX7 0 rfl 8 (by decide) m_fl_RX7_74 rfl dX7_readLine_71 ?_
          refine lv_iconst (v := 3) hx hb dX7_readLine_74 (by decide) ?_
          refine lv_icmp_ne (tgt := 85) hx hb dX7_readLine_75 (by decide) (fun c_119 => ?_) (fun c_119 => ?_)
          · have c_119n : ¬ u4_105.toInt = (3 : Int) := fun q => c_119 ((fa_eq _ _).mpr q)
            refine lv_aload_n hx hb dX7_readLine_85 rfl (lv_at hl 1 rfl) ?_
            refine z_Vv (bc := [[zO7 rd rl rdd rg u0_102 u1_103 tp r2 u3_104 u4_105 u5_106 u6_107 u7_108 u8_109]]) (br := [[zAr T 1 tp 600 ft], z2_110]) (As := []) (rest := []) C G (c_f_breakHere l T rd rl rdd rg tp u0_102 u1_103 r2 u3_104 u4_105 u5_106 u6_107 u7_108 u8_109) (kV_RX7_105 C.2.2.2.2 (Nat.le_of_ble_eq_true rfl) (Nat.le_of_ble_eq_true rfl)) [0] [0] rfl rfl (ci := 7) (qc := (RX7, TX7, 13)) rfl rfl (List.mem_flatten.mpr ⟨_, List.mem_of_getElem? (i := 0) rfl, List.mem_cons_self⟩) rfl rfl hl.1 dX7_readLine_86 (Nat.le_of_ble_eq_true rfl) (Nat.le_of_ble_eq_true rfl) (fun b1 H locs hw G => ?_)
            refine zEx3 hw ?_
            intro u0_120 u1_121 u7_122
            refine zCu4 ?_
            intro hbs9 h_123 h_124 h_125
            clear hw
            subst hbs9
            have G : zS T A s.heap s [[zAr T 1 tp 600 ft], z2_110, [zO7 rd rl rdd rg u0_120 u1_121 tp r2 u3_104 u4_105 u5_106 u6_107 u7_122 u8_109]] _ _ := G
            have G := G.sub (bs' := [[zO7 rd rl rdd rg u0_120 u1_121 tp r2 u3_104 u4_105 u5_106 u6_107 u7_122 u8_109], [zAr T 1 tp 600 ft], z2_110]) [2, 0, 1] rfl
            exact z_back hQz_ (z_vret C hr hlocks G (Nat.le_of_ble_eq_true rfl) (Nat.le_of_ble_eq_true rfl) dX7_readLine_89 ⟨u0_120, u1_121, u3_104, u4_105, u5_106, u6_107, u7_122, u8_109, z2_110, cr, i2_111, k1, k2, j3_112, j4_113, rfl, h_114, h_115, (by rw [hpl]; show zRc _ _ _ _ _ _ _ _ _ _ _ (pEndL k q.1); rw [pEndL_e (fun z9 => by have := (pTk_2 hokQ hA1Q.2.2.2).mp z9.2; omega)]; exact zRc_brk h_116 h_123 h_124 h_125), (by rw [hpl]; exact zLc_l hAIQ h_117)⟩)
          · have c_119n : u4_105.toInt = (3 : Int) := (fa_eq _ _).mp c_119
            refine lv_aload_n hx hb dX7_readLine_78 rfl (lv_at hl 1 rfl) ?_
            refine z_Vv (bc := [[zO7 rd rl rdd rg u0_102 u1_103 tp r2 u3_104 u4_105 u5_106 u6_107 u7_108 u8_109], [zAr T 1 tp 600 ft]]) (br := [z2_110]) (As := []) (rest := []) C G (c_f_nextToken l T rd rl rdd rg tp u0_102 u1_103 r2 u3_104 u4_105 u5_106 u6_107 u7_108 u8_109 ft (pEn k q.1.1) n k t3Q hkaQ.1.2.2 hA1Q.1 hA1Q.2.2.1 hA1Q.2.1) (kV_RX7_71 C.2.2.2.2 (Nat.le_of_ble_eq_true rfl) (Nat.le_of_ble_eq_true rfl)) [0, 1] [0, 0] rfl rfl (ci := 7) (qc := (RX7, TX7, 13)) rfl rfl (List.mem_flatten.mpr ⟨_, List.mem_of_getElem? (i := 0) rfl, List.mem_cons_self⟩) rfl rfl hl.1 dX7_readLine_79 (Nat.le_of_ble_eq_true rfl) (Nat.le_of_ble_eq_true rfl) (fun b1 H locs hw G => ?_)
            refine zEx4 hw ?_
            intro u3_127 u4_128 u5_129 u6_130
            refine zCu2 ?_
            intro hbs9 h_131
            clear hw
            subst hbs9
            have G : zS T A s.heap s [z2_110, [zO7 rd rl rdd rg u0_102 u1_103 tp r2 u3_127 u4_128 u5_129 u6_130 u7_108 u8_109], [zAr T 1 tp 600 ft]] _ _ := G
            refine lv_goto (tgt := 89) hx hb dX7_readLine_82 (by decide) ?_
            have G := G.sub (bs' := [[zO7 rd rl rdd rg u0_102 u1_103 tp r2 u3_127 u4_128 u5_129 u6_130 u7_108 u8_109], [zAr T 1 tp 600 ft], z2_110]) [1, 2, 0] rfl
            exact z_back hQz_ (z_vret C hr hlocks G (Nat.le_of_ble_eq_true rfl) (Nat.le_of_ble_eq_true rfl) dX7_readLine_89 ⟨u0_102, u1_103, u3_127, u4_128, u5_129, u6_130, u7_108, u8_109, z2_110, cr, i2_111, k1, k2, j3_112, j4_113, rfl, h_114, h_115, (by rw [hpl]; show zRc _ _ _ _ _ _ _ _ _ _ _ (pEndL k q.1); rw [pEndL_a ⟨hbk, (pTk_2 hokQ hA1Q.2.2.2).mpr (by omega)⟩]; exact zRc_adv h_116 hbk h_131), (by rw [hpl]; exact zLc_l hAIQ h_117)⟩)
        · obtain ⟨p9, hp9, e9⟩ := hAEQ
          refine lv_aload_n hx hb dX7_readLine_70 rfl (lv_at hl 1 rfl) ?_
          refine z_get C G clX7 0 rfl 8 (by decide) m_fl_RX7_74 rfl dX7_readLine_71 ?_
          refine lv_iconst (v := 3) hx hb dX7_readLine_74 (by decide) ?_
          refine lv_icmp_ne (tgt := 85) hx hb dX7_readLine_75 (by decide) (fun c_133 => ?_) (fun c_133 => ?_)
          · have c_133n : ¬ u4_105.toInt = (3 : Int) := fun q => c_133 ((fa_eq _ _).mpr q)
            refine lv_aload_n hx hb dX7_readLine_85 rfl (lv_at hl 1 rfl) ?_
            refine z_Vv (bc := [[zO7 rd rl rdd rg u0_102 u1_103 tp r2 u3_104 u4_105 u5_106 u6_107 u7_108 u8_109]]) (br := [[zAr T 1 tp 600 ft], z2_110]) (As := []) (rest := []) C G (c_f_breakHere l T rd rl rdd rg tp u0_102 u1_103 r2 u3_104 u4_105 u5_106 u6_107 u7_108 u8_109) (kV_RX7_105 C.2.2.2.2 (Nat.le_of_ble_eq_true rfl) (Nat.le_of_ble_eq_true rfl)) [0] [0] rfl rfl (ci := 7) (qc := (RX7, TX7, 13)) rfl rfl (List.mem_flatten.mpr ⟨_, List.mem_of_getElem? (i := 0) rfl, List.mem_cons_self⟩) rfl rfl hl.1 dX7_readLine_86 (Nat.le_of_ble_eq_true rfl) (Nat.le_of_ble_eq_true rfl) (fun b1 H locs hw G => ?_)
            refine zEx3 hw ?_
            intro u0_134 u1_135 u7_136
            refine zCu4 ?_
            intro hbs9 h_137 h_138 h_139
            clear hw
            subst hbs9
            have G : zS T A s.heap s [[zAr T 1 tp 600 ft], z2_110, [zO7 rd rl rdd rg u0_134 u1_135 tp r2 u3_104 u4_105 u5_106 u6_107 u7_136 u8_109]] _ _ := G
            have G := G.sub (bs' := [[zO7 rd rl rdd rg u0_134 u1_135 tp r2 u3_104 u4_105 u5_106 u6_107 u7_136 u8_109], [zAr T 1 tp 600 ft], z2_110]) [2, 0, 1] rfl
            exact z_back hQz_ (z_vret C hr hlocks G (Nat.le_of_ble_eq_true rfl) (Nat.le_of_ble_eq_true rfl) dX7_readLine_89 ⟨u0_134, u1_135, u3_104, u4_105, u5_106, u6_107, u7_136, u8_109, z2_110, cr, i2_111, k1, k2, j3_112, j4_113, rfl, h_114, h_115, (by rw [hpl]; show zRc _ _ _ _ _ _ _ _ _ _ _ (pEndL k q.1); rw [pEndL_e (fun z9 => hbk z9.1)]; exact zRc_brk h_116 h_137 h_138 h_139), (by rw [hpl]; exact zLc_l hAIQ h_117)⟩)
          · have c_133n : u4_105.toInt = (3 : Int) := (fa_eq _ _).mp c_133
            refine lv_aload_n hx hb dX7_readLine_78 rfl (lv_at hl 1 rfl) ?_
            refine z_Vv (bc := [[zO7 rd rl rdd rg u0_102 u1_103 tp r2 u3_104 u4_105 u5_106 u6_107 u7_108 u8_109], [zAr T 1 tp 600 ft]]) (br := [z2_110]) (As := []) (rest := []) C G (c_f_nextToken l T rd rl rdd rg tp u0_102 u1_103 r2 u3_104 u4_105 u5_106 u6_107 u7_108 u8_109 ft p9 n k e9 hp9 hA1Q.1 hA1Q.2.2.1 hA1Q.2.1) (kV_RX7_71 C.2.2.2.2 (Nat.le_of_ble_eq_true rfl) (Nat.le_of_ble_eq_true rfl)) [0, 1] [0, 0] rfl rfl (ci := 7) (qc := (RX7, TX7, 13)) rfl rfl (List.mem_flatten.mpr ⟨_, List.mem_of_getElem? (i := 0) rfl, List.mem_cons_self⟩) rfl rfl hl.1 dX7_readLine_79 (Nat.le_of_ble_eq_true rfl) (Nat.le_of_ble_eq_true rfl) (fun b1 H locs hw G => ?_)
            refine zEx4 hw ?_
            intro u3_141 u4_142 u5_143 u6_144
            refine zCu2 ?_
            intro hbs9 h_145
            clear hw
            subst hbs9
            have G : zS T A s.heap s [z2_110, [zO7 rd rl rdd rg u0_102 u1_103 tp r2 u3_141 u4_142 u5_143 u6_144 u7_108 u8_109], [zAr T 1 tp 600 ft]] _ _ := G
            refine lv_goto (tgt := 89) hx hb dX7_readLine_82 (by decide) ?_
            have G := G.sub (bs' := [[zO7 rd rl rdd rg u0_102 u1_103 tp r2 u3_141 u4_142 u5_143 u6_144 u7_108 u8_109], [zAr T 1 tp 600 ft], z2_110]) [1, 2, 0] rfl
            exact z_back hQz_ (z_vret C hr hlocks G (Nat.le_of_ble_eq_true rfl) (Nat.le_of_ble_eq_true rfl) dX7_readLine_89 ⟨u0_102, u1_103, u3_141, u4_142, u5_143, u6_144, u7_108, u8_109, z2_110, cr, i2_111, k1, k2, j3_112, j4_113, rfl, h_114, h_115, (by rw [hpl]; show zRc _ _ _ _ _ _ _ _ _ _ _ (pEndL k q.1); rw [pEndL_e (fun z9 => hbk z9.1), pEnds_n hbk]; exact zRc_any h_116 hbk ⟨_, (hokQ p9 hp9).1.2.2, h_145.1⟩), (by rw [hpl]; exact zLc_l hAIQ h_117)⟩)
      · obtain rfl : r_10 = 3 := Int32.toInt_inj.mp hx9
        have hx8 : (3 : Int32).toInt = 3 := rfl
        have hd1 : pWd k a.1 = 4 := by omega
        refine lv_iload_n hx hb dX7_readLine_54 rfl (lv_at hl 0 rfl) ?_
        refine lv_if_ne (tgt := 65) hx hb dX7_readLine_55 (by decide) (fun _ => ?_) (fun q => absurd q (by decide))
        refine lv_aload_n hx hb dX7_readLine_65 rfl (lv_at hl 1 rfl) ?_
        refine lv_iload_n hx hb dX7_readLine_66 rfl (lv_at hl 0 rfl) ?_
        refine z_Vv (bc := [[zO7 rd rl rdd rg r0 r1 tp r2 r3 r4 r5 r6 r7 r8], [zAr T 1 tp 600 ft], z]) (br := []) (As := [.int 3]) (rest := []) C G (c_f_readOther3 l T rd rl rdd rg tp r0 r1 r2 r3 r4 r5 r6 r7 r8 ft cr inn k1 k2 k3 k4 z k n a f hA hw hcl hz hI hC) (kV_RX7_117 C.2.2.2.2 (Nat.le_of_ble_eq_true rfl) (Nat.le_of_ble_eq_true rfl)) [1, 2, 0] [0, 0, 0] rfl rfl (ci := 7) (qc := (RX7, TX7, 13)) rfl rfl (List.mem_flatten.mpr ⟨_, List.mem_of_getElem? (i := 0) rfl, List.mem_cons_self⟩) rfl rfl hl.1 dX7_readLine_67 (Nat.le_of_ble_eq_true rfl) (Nat.le_of_ble_eq_true rfl) (fun b1 H locs hw G => ?_)
        refine zEx12 hw ?_
        intro u0_147 u1_148 u3_149 u4_150 u5_151 u6_152 u7_153 u8_154 z2_155 i2_156 j3_157 j4_158
        refine zCu5 ?_
        intro hbs9 h_159 h_160 h_161 h_162
        clear hw
        subst hbs9
        have G : zS T A s.heap s [[zO7 rd rl rdd rg u0_147 u1_148 tp r2 u3_149 u4_150 u5_151 u6_152 u7_153 u8_154], [zAr T 1 tp 600 ft], z2_155] _ _ := G
        obtain ⟨q, hq⟩ : ∃ q, q = pInn k (pAdv k a) f := ⟨_, rfl⟩
        rw [← hq] at h_161 h_162
        have hpl : pLine k 0 a f = (pEndL k q.1, q.2) := pLine_l hw ht3 hwr (hq.trans ((if_neg (by omega)).trans (if_pos hd1)).symm)
        have hokQ := zRc_ok h_161
        obtain ⟨hA1Q, hA6Q, hA7Q, hA8Q, hA9Q, hAIQ, hAEQ⟩ := id h_161
        have hkaQ := hokQ q.1.1 hA1Q.2.2.2
        rcases (Decidable.em (q.1.2.1.toInt = 0)) with hbk | hbk
        · obtain ⟨t3Q, t4Q, t5Q, t6Q⟩ := hA7Q hbk
          have t4iQ : u4_150.toInt = (pCl k q.1.1 : Int) := by rw [t4Q]; exact nI_toInt (by omega)
          refine lv_aload_n hx hb dX7_readLine_70 rfl (lv_at hl 1 rfl) ?_
          refine z_get C G clX7 0 rfl 8 (by decide) m_fl_RX7_74 rfl dX7_readLine_71 ?_
          refine lv_iconst (v := 3) hx hb dX7_readLine_74 (by decide) ?_
          refine lv_icmp_ne (tgt := 85) hx hb dX7_readLine_75 (by decide) (fun c_164 => ?_) (fun c_164 => ?_)
          · have c_164n : ¬ u4_150.toInt = (3 : Int) := fun q => c_164 ((fa_eq _ _).mpr q)
            refine lv_aload_n hx hb dX7_readLine_85 rfl (lv_at hl 1 rfl) ?_
            refine z_Vv (bc := [[zO7 rd rl rdd rg u0_147 u1_148 tp r2 u3_149 u4_150 u5_151 u6_152 u7_153 u8_154]]) (br := [[zAr T 1 tp 600 ft], z2_155]) (As := []) (rest := []) C G (c_f_breakHere l T rd rl rdd rg tp u0_147 u1_148 r2 u3_149 u4_150 u5_151 u6_152 u7_153 u8_154) (kV_RX7_105 C.2.2.2.2 (Nat.le_of_ble_eq_true rfl) (Nat.le_of_ble_eq_true rfl)) [0] [0] rfl rfl (ci := 7) (qc := (RX7, TX7, 13)) rfl rfl (List.mem_flatten.mpr ⟨_, List.mem_of_getElem? (i := 0) rfl, List.mem_cons_self⟩) rfl rfl hl.1 dX7_readLine_86 (Nat.le_of_ble_eq_true rfl) (Nat.le_of_ble_eq_true rfl) (fun b1 H locs hw G => ?_)
            refine zEx3 hw ?_
            intro u0_165 u1_166 u7_167
            refine zCu4 ?_
            intro hbs9 h_168 h_169 h_170
            clear hw
            subst hbs9
            have G : zS T A s.heap s [[zAr T 1 tp 600 ft], z2_155, [zO7 rd rl rdd rg u0_165 u1_166 tp r2 u3_149 u4_150 u5_151 u6_152 u7_167 u8_154]] _ _ := G
            have G := G.sub (bs' := [[zO7 rd rl rdd rg u0_165 u1_166 tp r2 u3_149 u4_150 u5_151 u6_152 u7_167 u8_154], [zAr T 1 tp 600 ft], z2_155]) [2, 0, 1] rfl
            exact z_back hQz_ (z_vret C hr hlocks G (Nat.le_of_ble_eq_true rfl) (Nat.le_of_ble_eq_true rfl) dX7_readLine_89 ⟨u0_165, u1_166, u3_149, u4_150, u5_151, u6_152, u7_167, u8_154, z2_155, cr, i2_156, k1, k2, j3_157, j4_158, rfl, h_159, h_160, (by rw [hpl]; show zRc _ _ _ _ _ _ _ _ _ _ _ (pEndL k q.1); rw [pEndL_e (fun z9 => by have := (pTk_2 hokQ hA1Q.2.2.2).mp z9.2; omega)]; exact zRc_brk h_161 h_168 h_169 h_170), (by rw [hpl]; exact zLc_l hAIQ h_162)⟩)
          · have c_164n : u4_150.toInt = (3 : Int) := (fa_eq _ _).mp c_164
            refine lv_aload_n hx hb dX7_readLine_78 rfl (lv_at hl 1 rfl) ?_
            refine z_Vv (bc := [[zO7 rd rl rdd rg u0_147 u1_148 tp r2 u3_149 u4_150 u5_151 u6_152 u7_153 u8_154], [zAr T 1 tp 600 ft]]) (br := [z2_155]) (As := []) (rest := []) C G (c_f_nextToken l T rd rl rdd rg tp u0_147 u1_148 r2 u3_149 u4_150 u5_151 u6_152 u7_153 u8_154 ft (pEn k q.1.1) n k t3Q hkaQ.1.2.2 hA1Q.1 hA1Q.2.2.1 hA1Q.2.1) (kV_RX7_71 C.2.2.2.2 (Nat.le_of_ble_eq_true rfl) (Nat.le_of_ble_eq_true rfl)) [0, 1] [0, 0] rfl rfl (ci := 7) (qc := (RX7, TX7, 13)) rfl rfl (List.mem_flatten.mpr ⟨_, List.mem_of_getElem? (i := 0) rfl, List.mem_cons_self⟩) rfl rfl hl.1 dX7_readLine_79 (Nat.le_of_ble_eq_true rfl) (Nat.le_of_ble_eq_true rfl) (fun b1 H locs hw G => ?_)
            refine zEx4 hw ?_
            intro u3_172 u4_173 u5_174 u6_175
            refine zCu2 ?_
            intro hbs9 h_176
            clear hw
            subst hbs9
            have G : zS T A s.heap s [z2_155, [zO7 rd rl rdd rg u0_147 u1_148 tp r2 u3_172 u4_173 u5_174 u6_175 u7_153 u8_154], [zAr T 1 tp 600 ft]] _ _ := G
            refine lv_goto (tgt := 89) hx hb dX7_readLine_82 (by decide) ?_
            have G := G.sub (bs' := [[zO7 rd rl rdd rg u0_147 u1_148 tp r2 u3_172 u4_173 u5_174 u6_175 u7_153 u8_154], [zAr T 1 tp 600 ft], z2_155]) [1, 2, 0] rfl
            exact z_back hQz_ (z_vret C hr hlocks G (Nat.le_of_ble_eq_true rfl) (Nat.le_of_ble_eq_true rfl) dX7_readLine_89 ⟨u0_147, u1_148, u3_172, u4_173, u5_174, u6_175, u7_153, u8_154, z2_155, cr, i2_156, k1, k2, j3_157, j4_158, rfl, h_159, h_160, (by rw [hpl]; show zRc _ _ _ _ _ _ _ _ _ _ _ (pEndL k q.1); rw [pEndL_a ⟨hbk, (pTk_2 hokQ hA1Q.2.2.2).mpr (by omega)⟩]; exact zRc_adv h_161 hbk h_176), (by rw [hpl]; exact zLc_l hAIQ h_162)⟩)
        · obtain ⟨p9, hp9, e9⟩ := hAEQ
          refine lv_aload_n hx hb dX7_readLine_70 rfl (lv_at hl 1 rfl) ?_
          refine z_get C G clX7 0 rfl 8 (by decide) m_fl_RX7_74 rfl dX7_readLine_71 ?_
          refine lv_iconst (v := 3) hx hb dX7_readLine_74 (by decide) ?_
          refine lv_icmp_ne (tgt := 85) hx hb dX7_readLine_75 (by decide) (fun c_178 => ?_) (fun c_178 => ?_)
          · have c_178n : ¬ u4_150.toInt = (3 : Int) := fun q => c_178 ((fa_eq _ _).mpr q)
            refine lv_aload_n hx hb dX7_readLine_85 rfl (lv_at hl 1 rfl) ?_
            refine z_Vv (bc := [[zO7 rd rl rdd rg u0_147 u1_148 tp r2 u3_149 u4_150 u5_151 u6_152 u7_153 u8_154]]) (br := [[zAr T 1 tp 600 ft], z2_155]) (As := []) (rest := []) C G (c_f_breakHere l T rd rl rdd rg tp u0_147 u1_148 r2 u3_149 u4_150 u5_151 u6_152 u7_153 u8_154) (kV_RX7_105 C.2.2.2.2 (Nat.le_of_ble_eq_true rfl) (Nat.le_of_ble_eq_true rfl)) [0] [0] rfl rfl (ci := 7) (qc := (RX7, TX7, 13)) rfl rfl (List.mem_flatten.mpr ⟨_, List.mem_of_getElem? (i := 0) rfl, List.mem_cons_self⟩) rfl rfl hl.1 dX7_readLine_86 (Nat.le_of_ble_eq_true rfl) (Nat.le_of_ble_eq_true rfl) (fun b1 H locs hw G => ?_)
            refine zEx3 hw ?_
            intro u0_179 u1_180 u7_181
            refine zCu4 ?_
            intro hbs9 h_182 h_183 h_184
            clear hw
            subst hbs9
            have G : zS T A s.heap s [[zAr T 1 tp 600 ft], z2_155, [zO7 rd rl rdd rg u0_179 u1_180 tp r2 u3_149 u4_150 u5_151 u6_152 u7_181 u8_154]] _ _ := G
            have G := G.sub (bs' := [[zO7 rd rl rdd rg u0_179 u1_180 tp r2 u3_149 u4_150 u5_151 u6_152 u7_181 u8_154], [zAr T 1 tp 600 ft], z2_155]) [2, 0, 1] rfl
            exact z_back hQz_ (z_vret C hr hlocks G (Nat.le_of_ble_eq_true rfl) (Nat.le_of_ble_eq_true rfl) dX7_readLine_89 ⟨u0_179, u1_180, u3_149, u4_150, u5_151, u6_152, u7_181, u8_154, z2_155, cr, i2_156, k1, k2, j3_157, j4_158, rfl, h_159, h_160, (by rw [hpl]; show zRc _ _ _ _ _ _ _ _ _ _ _ (pEndL k q.1); rw [pEndL_e (fun z9 => hbk z9.1)]; exact zRc_brk h_161 h_182 h_183 h_184), (by rw [hpl]; exact zLc_l hAIQ h_162)⟩)
          · have c_178n : u4_150.toInt = (3 : Int) := (fa_eq _ _).mp c_178
            refine lv_aload_n hx hb dX7_readLine_78 rfl (lv_at hl 1 rfl) ?_
            refine z_Vv (bc := [[zO7 rd rl rdd rg u0_147 u1_148 tp r2 u3_149 u4_150 u5_151 u6_152 u7_153 u8_154], [zAr T 1 tp 600 ft]]) (br := [z2_155]) (As := []) (rest := []) C G (c_f_nextToken l T rd rl rdd rg tp u0_147 u1_148 r2 u3_149 u4_150 u5_151 u6_152 u7_153 u8_154 ft p9 n k e9 hp9 hA1Q.1 hA1Q.2.2.1 hA1Q.2.1) (kV_RX7_71 C.2.2.2.2 (Nat.le_of_ble_eq_true rfl) (Nat.le_of_ble_eq_true rfl)) [0, 1] [0, 0] rfl rfl (ci := 7) (qc := (RX7, TX7, 13)) rfl rfl (List.mem_flatten.mpr ⟨_, List.mem_of_getElem? (i := 0) rfl, List.mem_cons_self⟩) rfl rfl hl.1 dX7_readLine_79 (Nat.le_of_ble_eq_true rfl) (Nat.le_of_ble_eq_true rfl) (fun b1 H locs hw G => ?_)
            refine zEx4 hw ?_
            intro u3_186 u4_187 u5_188 u6_189
            refine zCu2 ?_
            intro hbs9 h_190
            clear hw
            subst hbs9
            have G : zS T A s.heap s [z2_155, [zO7 rd rl rdd rg u0_147 u1_148 tp r2 u3_186 u4_187 u5_188 u6_189 u7_153 u8_154], [zAr T 1 tp 600 ft]] _ _ := G
            refine lv_goto (tgt := 89) hx hb dX7_readLine_82 (by decide) ?_
            have G := G.sub (bs' := [[zO7 rd rl rdd rg u0_147 u1_148 tp r2 u3_186 u4_187 u5_188 u6_189 u7_153 u8_154], [zAr T 1 tp 600 ft], z2_155]) [1, 2, 0] rfl
            exact z_back hQz_ (z_vret C hr hlocks G (Nat.le_of_ble_eq_true rfl) (Nat.le_of_ble_eq_true rfl) dX7_readLine_89 ⟨u0_147, u1_148, u3_186, u4_187, u5_188, u6_189, u7_153, u8_154, z2_155, cr, i2_156, k1, k2, j3_157, j4_158, rfl, h_159, h_160, (by rw [hpl]; show zRc _ _ _ _ _ _ _ _ _ _ _ (pEndL k q.1); rw [pEndL_e (fun z9 => hbk z9.1), pEnds_n hbk]; exact zRc_any h_161 hbk ⟨_, (hokQ p9 hp9).1.2.2, h_190.1⟩), (by rw [hpl]; exact zLc_l hAIQ h_162)⟩)
    · have c_11n : r_10.toInt = (-1 : Int) := (fa_eq _ _).mp c_11
      refine lv_aload_n hx hb dX7_readLine_23 rfl (lv_at hl 1 rfl) ?_
      refine z_Vv (bc := [[zO7 rd rl rdd rg r0 r1 tp r2 r3 r4 r5 r6 r7 r8]]) (br := [z, [zAr T 1 tp 600 ft]]) (As := []) (rest := []) C G (c_f_breakHere l T rd rl rdd rg tp r0 r1 r2 r3 r4 r5 r6 r7 r8) (kV_RX7_105 C.2.2.2.2 (Nat.le_of_ble_eq_true rfl) (Nat.le_of_ble_eq_true rfl)) [1] [1] rfl rfl (ci := 7) (qc := (RX7, TX7, 13)) rfl rfl (List.mem_flatten.mpr ⟨_, List.mem_of_getElem? (i := 0) rfl, List.mem_cons_self⟩) rfl rfl hl.1 dX7_readLine_24 (Nat.le_of_ble_eq_true rfl) (Nat.le_of_ble_eq_true rfl) (fun b1 H locs hw G => ?_)
      refine zEx3 hw ?_
      intro u0_192 u1_193 u7_194
      refine zCu4 ?_
      intro hbs9 h_195 h_196 h_197
      clear hw
      subst hbs9
      have G : zS T A s.heap s [z, [zAr T 1 tp 600 ft], [zO7 rd rl rdd rg u0_192 u1_193 tp r2 r3 r4 r5 r6 u7_194 r8]] _ _ := G
      have G := G.sub (bs' := [[zO7 rd rl rdd rg u0_192 u1_193 tp r2 r3 r4 r5 r6 u7_194 r8], [zAr T 1 tp 600 ft], z]) [2, 1, 0] rfl
      exact z_back hQz_ (z_vret C hr hlocks G (Nat.le_of_ble_eq_true rfl) (Nat.le_of_ble_eq_true rfl) dX7_readLine_27 ⟨u0_192, u1_193, r3, r4, r5, r6, u7_194, r8, z, cr, inn, k1, k2, k3, k4, rfl, hz, hI, (by rw [pLine_e hw (s := 0) (lo := 1) (hi := 4) (by decide) (Or.inr (zWc_n0 (by rw [← hwd]; omega)))]; exact zRc_brk hA h_195 h_196 h_197), (by rw [pLine_e hw (s := 0) (lo := 1) (hi := 4) (by decide) (Or.inr (zWc_n0 (by rw [← hwd]; omega)))]; exact zLc_e hAI)⟩)
set_option maxHeartbeats 4000000 in
set_option maxRecDepth 100000 in
/-- c_f_readLine1 -/
theorem c_f_readLine1 (l : Launch) (T : zTy) (rd : Nat) (rl : Nat) (rdd : Nat) (rg : Nat) (tp : Nat) (r0 : Int32) (r1 : Int32) (r2 : Int32) (r3 : Int32) (r4 : Int32) (r5 : Int32) (r6 : Int32) (r7 : Int32) (r8 : Int32) (ft : Nat → Int32) (dd : Int32) (d1 : Nat → Int32) (d2 : Nat → Int32) (d3 : Nat → Int32) (wd : va_W) (k : pT) (n : Nat) (a : pS) (f : Nat → Int32) (hA : zRc k n ft r0 r1 r2 r3 r4 r5 r6 r7 a) (hw : a.2.1.toInt = 0) (hd : bDay T rdd dd d1 d2 d3 wd) (hC : zDc dd d1 d2 d3 a f) : zMv l T yX7_readLine cX7_readLine 3 7 0 0 [.ref rd, .int 1] [[zO7 rd rl rdd rg r0 r1 tp r2 r3 r4 r5 r6 r7 r8], [zAr T 1 tp 600 ft], wd] (fun bs => ∃ (u0 : Int32) (u1 : Int32) (u3 : Int32) (u4 : Int32) (u5 : Int32) (u6 : Int32) (u7 : Int32) (u8 : Int32) (wd2 : va_W) (dd2 : Int32) (b1 : Nat → Int32) (b2 : Nat → Int32) (b3 : Nat → Int32), bs = [[zO7 rd rl rdd rg u0 u1 tp r2 u3 u4 u5 u6 u7 u8], [zAr T 1 tp 600 ft], wd2] ∧ bDay T rdd dd2 b1 b2 b3 wd2 ∧ zRc k n ft u0 u1 r2 u3 u4 u5 u6 u7 (pLine k 1 a f).1 ∧ zDc dd2 b1 b2 b3 (pLine k 1 a f).1 (pLine k 1 a f).2) := by
  refine zMv_of (own := RX7) (by decide) rfl (Nat.le_of_ble_eq_true rfl) ?_
  intro p e s m args below meth c A ls C hr hlocks hnm hAe G hl
  refine zHide (fun Qz_ hQz_ => ?_)
  have hx := C.1
  have hb := C.2.1
  have hl : lv_has ls 3 [(0, .ref rd), (1, .int 1)] := hl
  have hok := zRc_ok hA
  obtain ⟨hA1, hA6, hA7, hA8, hA9, hAI, hAE⟩ := id hA
  have hka := hok a.1 hA1.2.2.2
  obtain ⟨t3, t4, t5, t6⟩ := hA7 hw
  have t4i : r4.toInt = (pCl k a.1 : Int) := by rw [t4]; exact nI_toInt (by omega)
  refine lv_aload_n hx hb dX7_readLine_0 rfl (lv_at hl 0 rfl) ?_
  refine z_get C G clX7 0 rfl 8 (by decide) m_fl_RX7_74 rfl dX7_readLine_1 ?_
  refine lv_iconst (v := 1) hx hb dX7_readLine_4 (by decide) ?_
  refine lv_icmp_ne (tgt := 16) hx hb dX7_readLine_5 (by decide) (fun c_1 => ?_) (fun c_1 => ?_)
  · have c_1n : ¬ r4.toInt = (1 : Int) := fun q => c_1 ((fa_eq _ _).mpr q)
    refine lv_iconst (v := (-1)) hx hb dX7_readLine_16 (by decide) ?_
    refine lv_istore_n (lv' := [(2, .int (-1)), (0, .ref rd), (1, .int 1)]) hx hb dX7_readLine_17 rfl hl (by decide) (zLvf_h rfl) (fun ls hl => ?_)
    refine lv_iload_n hx hb dX7_readLine_18 rfl (lv_at hl 0 rfl) ?_
    refine lv_iconst (v := (-1)) hx hb dX7_readLine_19 (by decide) ?_
    refine lv_icmp_ne (tgt := 28) hx hb dX7_readLine_20 (by decide) (fun q => absurd (by decide) q) (fun _ => ?_)
    refine lv_aload_n hx hb dX7_readLine_23 rfl (lv_at hl 1 rfl) ?_
    refine z_Vv (bc := [[zO7 rd rl rdd rg r0 r1 tp r2 r3 r4 r5 r6 r7 r8]]) (br := [[zAr T 1 tp 600 ft], wd]) (As := []) (rest := []) C G (c_f_breakHere l T rd rl rdd rg tp r0 r1 r2 r3 r4 r5 r6 r7 r8) (kV_RX7_105 C.2.2.2.2 (Nat.le_of_ble_eq_true rfl) (Nat.le_of_ble_eq_true rfl)) [0] [0] rfl rfl (ci := 7) (qc := (RX7, TX7, 13)) rfl rfl (List.mem_flatten.mpr ⟨_, List.mem_of_getElem? (i := 0) rfl, List.mem_cons_self⟩) rfl rfl hl.1 dX7_readLine_24 (Nat.le_of_ble_eq_true rfl) (Nat.le_of_ble_eq_true rfl) (fun b1 H locs hw G => ?_)
    refine zEx3 hw ?_
    intro u0_2 u1_3 u7_4
    refine zCu4 ?_
    intro hbs9 h_5 h_6 h_7
    clear hw
    subst hbs9
    have G : zS T A s.heap s [[zAr T 1 tp 600 ft], wd, [zO7 rd rl rdd rg u0_2 u1_3 tp r2 r3 r4 r5 r6 u7_4 r8]] _ _ := G
    have G := G.sub (bs' := [[zO7 rd rl rdd rg u0_2 u1_3 tp r2 r3 r4 r5 r6 u7_4 r8], [zAr T 1 tp 600 ft], wd]) [2, 0, 1] rfl
    exact z_back hQz_ (z_vret C hr hlocks G (Nat.le_of_ble_eq_true rfl) (Nat.le_of_ble_eq_true rfl) dX7_readLine_27 ⟨u0_2, u1_3, r3, r4, r5, r6, u7_4, r8, wd, dd, d1, d2, d3, rfl, hd, (by rw [pLine_e hw (s := 1) (lo := 5) (hi := 10) (by decide) (Or.inl (fun q9 => by have := pTk_3 q9; omega))]; exact zRc_brk hA h_5 h_6 h_7), (by rw [pLine_e hw (s := 1) (lo := 5) (hi := 10) (by decide) (Or.inl (fun q9 => by have := pTk_3 q9; omega))]; exact zDc_e hAI)⟩)
  · have c_1n : r4.toInt = (1 : Int) := (fa_eq _ _).mp c_1
    refine lv_aload_n hx hb dX7_readLine_8 rfl (lv_at hl 0 rfl) ?_
    refine lv_iload_n hx hb dX7_readLine_9 rfl (lv_at hl 1 rfl) ?_
    refine z_Vi (bc := [[zO7 rd rl rdd rg r0 r1 tp r2 r3 r4 r5 r6 r7 r8], [zAr T 1 tp 600 ft]]) (br := [wd]) (As := [.int 1]) (rest := []) C G (c_f_wordOf1 l T rd rl rdd rg tp r0 r1 r2 r3 r4 r5 r6 r7 r8 ft (pWh k a.1) (pEn k a.1) n t3 t5 hka.1.2.1 hka.1.2.2 hA1.2.2.1 hA1.2.1) (kV_RX7_101 C.2.2.2.2 (Nat.le_of_ble_eq_true rfl) (Nat.le_of_ble_eq_true rfl)) [0, 1] [0, 0] rfl rfl (ci := 7) (qc := (RX7, TX7, 13)) rfl rfl (List.mem_flatten.mpr ⟨_, List.mem_of_getElem? (i := 0) rfl, List.mem_cons_self⟩) rfl rfl hl.1 dX7_readLine_10 (Nat.le_of_ble_eq_true rfl) (Nat.le_of_ble_eq_true rfl) (fun r_10 b1 H locs hw G => ?_)
    refine zAn2 hw ?_
    intro hbs9 h_9
    clear hw
    subst hbs9
    have G : zS T A s.heap s [wd, [zO7 rd rl rdd rg r0 r1 tp r2 r3 r4 r5 r6 r7 r8], [zAr T 1 tp 600 ft]] _ _ := G
    have hcl : pCl k a.1 = 1 := by omega
    have hwd : r_10 = zWc 1 (pWd k a.1) := by rw [pWd_eq hA1.1 hcl]; exact h_9
    refine lv_goto (tgt := 17) hx hb dX7_readLine_13 (by decide) ?_
    refine lv_istore_n (lv' := [(2, .int r_10), (0, .ref rd), (1, .int 1)]) hx hb dX7_readLine_17 rfl hl (by decide) (zLvf_h rfl) (fun ls hl => ?_)
    refine lv_iload_n hx hb dX7_readLine_18 rfl (lv_at hl 0 rfl) ?_
    refine lv_iconst (v := (-1)) hx hb dX7_readLine_19 (by decide) ?_
    refine lv_icmp_ne (tgt := 28) hx hb dX7_readLine_20 (by decide) (fun c_11 => ?_) (fun c_11 => ?_)
    · have c_11n : ¬ r_10.toInt = (-1 : Int) := fun q => c_11 ((fa_eq _ _).mpr q)
      have hwy := zWc_y1 (wd := pWd k a.1) (by rw [← hwd]; omega)
      have hwi : r_10.toInt = (pWd k a.1 : Int) - 5 := by rw [hwd]; exact hwy.2.1
      have hwr := hwy.1
      have ht3 : pTk k a.1 = 3 := pTk_3w hcl (by omega)
      have hwx : r_10 = nI (pWd k a.1) - 5 := hwd.trans hwy.2.2
      refine lv_iload_n hx hb dX7_readLine_28 rfl (lv_at hl 2 rfl) ?_
      refine lv_iconst (v := 1) hx hb dX7_readLine_29 (by decide) ?_
      refine lv_icmp_ne (tgt := 41) hx hb dX7_readLine_30 (by decide) (fun q => absurd (by decide) q) (fun _ => ?_)
      refine lv_aload_n hx hb dX7_readLine_33 rfl (lv_at hl 1 rfl) ?_
      refine lv_iload_n hx hb dX7_readLine_34 rfl (lv_at hl 0 rfl) ?_
      refine z_Vv (bc := [[zO7 rd rl rdd rg r0 r1 tp r2 r3 r4 r5 r6 r7 r8], [zAr T 1 tp 600 ft], wd]) (br := []) (As := [.int r_10]) (rest := []) C G (c_f_readDeed l T rd rl rdd rg tp r0 r1 r2 r3 r4 r5 r6 r7 r8 ft dd d1 d2 d3 wd k n a f (pWd k a.1) r_10 hA hw hcl hd hC hwr hwx hwi) (kV_RX7_108 C.2.2.2.2 (Nat.le_of_ble_eq_true rfl) (Nat.le_of_ble_eq_true rfl)) [1, 2, 0] [0, 0, 0] rfl rfl (ci := 7) (qc := (RX7, TX7, 13)) rfl rfl (List.mem_flatten.mpr ⟨_, List.mem_of_getElem? (i := 0) rfl, List.mem_cons_self⟩) rfl rfl hl.1 dX7_readLine_35 (Nat.le_of_ble_eq_true rfl) (Nat.le_of_ble_eq_true rfl) (fun b1 H locs hw G => ?_)
      refine zEx12 hw ?_
      intro u0_12 u1_13 u3_14 u4_15 u5_16 u6_17 u7_18 wd2_19 dd2_20 b1_21 b2_22 b3_23
      refine zCu4 ?_
      intro hbs9 h_24 h_25 h_26
      clear hw
      subst hbs9
      have G : zS T A s.heap s [[zO7 rd rl rdd rg u0_12 u1_13 tp r2 u3_14 u4_15 u5_16 u6_17 u7_18 r8], [zAr T 1 tp 600 ft], wd2_19] _ _ := G
      obtain ⟨q, hq⟩ : ∃ q, q = pDeed k (pWd k a.1) (nI (pWh k a.1)) (pAdv k a) f := ⟨_, rfl⟩
      rw [← hq] at h_25 h_26
      have hpl : pLine k 1 a f = (pEndL k q.1, q.2) := pLine_d hw ht3 hwr hq
      have hokQ := zRc_ok h_25
      obtain ⟨hA1Q, hA6Q, hA7Q, hA8Q, hA9Q, hAIQ, hAEQ⟩ := id h_25
      have hkaQ := hokQ q.1.1 hA1Q.2.2.2
      refine lv_goto (tgt := 70) hx hb dX7_readLine_38 (by decide) ?_
      rcases (Decidable.em (q.1.2.1.toInt = 0)) with hbk | hbk
      · obtain ⟨t3Q, t4Q, t5Q, t6Q⟩ := hA7Q hbk
        have t4iQ : u4_15.toInt = (pCl k q.1.1 : Int) := by rw [t4Q]; exact nI_toInt (by omega)
        refine lv_aload_n hx hb dX7_readLine_70 rfl (lv_at hl 1 rfl) ?_
        refine z_get C G clX7 0 rfl 8 (by decide) m_fl_RX7_74 rfl dX7_readLine_71 ?_
        refine lv_iconst (v := 3) hx hb dX7_readLine_74 (by decide) ?_
        refine lv_icmp_ne (tgt := 85) hx hb dX7_readLine_75 (by decide) (fun c_28 => ?_) (fun c_28 => ?_)
        · have c_28n : ¬ u4_15.toInt = (3 : Int) := fun q => c_28 ((fa_eq _ _).mpr q)
          refine lv_aload_n hx hb dX7_readLine_85 rfl (lv_at hl 1 rfl) ?_
          refine z_Vv (bc := [[zO7 rd rl rdd rg u0_12 u1_13 tp r2 u3_14 u4_15 u5_16 u6_17 u7_18 r8]]) (br := [[zAr T 1 tp 600 ft], wd2_19]) (As := []) (rest := []) C G (c_f_breakHere l T rd rl rdd rg tp u0_12 u1_13 r2 u3_14 u4_15 u5_16 u6_17 u7_18 r8) (kV_RX7_105 C.2.2.2.2 (Nat.le_of_ble_eq_true rfl) (Nat.le_of_ble_eq_true rfl)) [0] [0] rfl rfl (ci := 7) (qc := (RX7, TX7, 13)) rfl rfl (List.mem_flatten.mpr ⟨_, List.mem_of_getElem? (i := 0) rfl, List.mem_cons_self⟩) rfl rfl hl.1 dX7_readLine_86 (Nat.le_of_ble_eq_true rfl) (Nat.le_of_ble_eq_true rfl) (fun b1 H locs hw G => ?_)
          refine zEx3 hw ?_
          intro u0_29 u1_30 u7_31
          refine zCu4 ?_
          intro hbs9 h_32 h_33 h_34
          clear hw
          subst hbs9
          have G : zS T A s.heap s [[zAr T 1 tp 600 ft], wd2_19, [zO7 rd rl rdd rg u0_29 u1_30 tp r2 u3_14 u4_15 u5_16 u6_17 u7_31 r8]] _ _ := G
          have G := G.sub (bs' := [[zO7 rd rl rdd rg u0_29 u1_30 tp r2 u3_14 u4_15 u5_16 u6_17 u7_31 r8], [zAr T 1 tp 600 ft], wd2_19]) [2, 0, 1] rfl
          exact z_back hQz_ (z_vret C hr hlocks G (Nat.le_of_ble_eq_true rfl) (Nat.le_of_ble_eq_true rfl) dX7_readLine_89 ⟨u0_29, u1_30, u3_14, u4_15, u5_16, u6_17, u7_31, r8, wd2_19, dd2_20, b1_21, b2_22, b3_23, rfl, h_24, (by rw [hpl]; show zRc _ _ _ _ _ _ _ _ _ _ _ (pEndL k q.1); rw [pEndL_e (fun z9 => by have := (pTk_2 hokQ hA1Q.2.2.2).mp z9.2; omega)]; exact zRc_brk h_25 h_32 h_33 h_34), (by rw [hpl]; exact zDc_l hAIQ h_26)⟩)
        · have c_28n : u4_15.toInt = (3 : Int) := (fa_eq _ _).mp c_28
          refine lv_aload_n hx hb dX7_readLine_78 rfl (lv_at hl 1 rfl) ?_
          refine z_Vv (bc := [[zO7 rd rl rdd rg u0_12 u1_13 tp r2 u3_14 u4_15 u5_16 u6_17 u7_18 r8], [zAr T 1 tp 600 ft]]) (br := [wd2_19]) (As := []) (rest := []) C G (c_f_nextToken l T rd rl rdd rg tp u0_12 u1_13 r2 u3_14 u4_15 u5_16 u6_17 u7_18 r8 ft (pEn k q.1.1) n k t3Q hkaQ.1.2.2 hA1Q.1 hA1Q.2.2.1 hA1Q.2.1) (kV_RX7_71 C.2.2.2.2 (Nat.le_of_ble_eq_true rfl) (Nat.le_of_ble_eq_true rfl)) [0, 1] [0, 0] rfl rfl (ci := 7) (qc := (RX7, TX7, 13)) rfl rfl (List.mem_flatten.mpr ⟨_, List.mem_of_getElem? (i := 0) rfl, List.mem_cons_self⟩) rfl rfl hl.1 dX7_readLine_79 (Nat.le_of_ble_eq_true rfl) (Nat.le_of_ble_eq_true rfl) (fun b1 H locs hw G => ?_)
          refine zEx4 hw ?_
          intro u3_36 u4_37 u5_38 u6_39
          refine zCu2 ?_
          intro hbs9 h_40
          clear hw
          subst hbs9
          have G : zS T A s.heap s [wd2_19, [zO7 rd rl rdd rg u0_12 u1_13 tp r2 u3_36 u4_37 u5_38 u6_39 u7_18 r8], [zAr T 1 tp 600 ft]] _ _ := G
          refine lv_goto (tgt := 89) hx hb dX7_readLine_82 (by decide) ?_
          have G := G.sub (bs' := [[zO7 rd rl rdd rg u0_12 u1_13 tp r2 u3_36 u4_37 u5_38 u6_39 u7_18 r8], [zAr T 1 tp 600 ft], wd2_19]) [1, 2, 0] rfl
          exact z_back hQz_ (z_vret C hr hlocks G (Nat.le_of_ble_eq_true rfl) (Nat.le_of_ble_eq_true rfl) dX7_readLine_89 ⟨u0_12, u1_13, u3_36, u4_37, u5_38, u6_39, u7_18, r8, wd2_19, dd2_20, b1_21, b2_22, b3_23, rfl, h_24, (by rw [hpl]; show zRc _ _ _ _ _ _ _ _ _ _ _ (pEndL k q.1); rw [pEndL_a ⟨hbk, (pTk_2 hokQ hA1Q.2.2.2).mpr (by omega)⟩]; exact zRc_adv h_25 hbk h_40), (by rw [hpl]; exact zDc_l hAIQ h_26)⟩)
      · obtain ⟨p9, hp9, e9⟩ := hAEQ
        refine lv_aload_n hx hb dX7_readLine_70 rfl (lv_at hl 1 rfl) ?_
        refine z_get C G clX7 0 rfl 8 (by decide) m_fl_RX7_74 rfl dX7_readLine_71 ?_
        refine lv_iconst (v := 3) hx hb dX7_readLine_74 (by decide) ?_
        refine lv_icmp_ne (tgt := 85) hx hb dX7_readLine_75 (by decide) (fun c_42 => ?_) (fun c_42 => ?_)
        · have c_42n : ¬ u4_15.toInt = (3 : Int) := fun q => c_42 ((fa_eq _ _).mpr q)
          refine lv_aload_n hx hb dX7_readLine_85 rfl (lv_at hl 1 rfl) ?_
          refine z_Vv (bc := [[zO7 rd rl rdd rg u0_12 u1_13 tp r2 u3_14 u4_15 u5_16 u6_17 u7_18 r8]]) (br := [[zAr T 1 tp 600 ft], wd2_19]) (As := []) (rest := []) C G (c_f_breakHere l T rd rl rdd rg tp u0_12 u1_13 r2 u3_14 u4_15 u5_16 u6_17 u7_18 r8) (kV_RX7_105 C.2.2.2.2 (Nat.le_of_ble_eq_true rfl) (Nat.le_of_ble_eq_true rfl)) [0] [0] rfl rfl (ci := 7) (qc := (RX7, TX7, 13)) rfl rfl (List.mem_flatten.mpr ⟨_, List.mem_of_getElem? (i := 0) rfl, List.mem_cons_self⟩) rfl rfl hl.1 dX7_readLine_86 (Nat.le_of_ble_eq_true rfl) (Nat.le_of_ble_eq_true rfl) (fun b1 H locs hw G => ?_)
          refine zEx3 hw ?_
          intro u0_43 u1_44 u7_45
          refine zCu4 ?_
          intro hbs9 h_46 h_47 h_48
          clear hw
          subst hbs9
          have G : zS T A s.heap s [[zAr T 1 tp 600 ft], wd2_19, [zO7 rd rl rdd rg u0_43 u1_44 tp r2 u3_14 u4_15 u5_16 u6_17 u7_45 r8]] _ _ := G
          have G := G.sub (bs' := [[zO7 rd rl rdd rg u0_43 u1_44 tp r2 u3_14 u4_15 u5_16 u6_17 u7_45 r8], [zAr T 1 tp 600 ft], wd2_19]) [2, 0, 1] rfl
          exact z_back hQz_ (z_vret C hr hlocks G (Nat.le_of_ble_eq_true rfl) (Nat.le_of_ble_eq_true rfl) dX7_readLine_89 ⟨u0_43, u1_44, u3_14, u4_15, u5_16, u6_17, u7_45, r8, wd2_19, dd2_20, b1_21, b2_22, b3_23, rfl, h_24, (by rw [hpl]; show zRc _ _ _ _ _ _ _ _ _ _ _ (pEndL k q.1); rw [pEndL_e (fun z9 => hbk z9.1)]; exact zRc_brk h_25 h_46 h_47 h_48), (by rw [hpl]; exact zDc_l hAIQ h_26)⟩)
        · have c_42n : u4_15.toInt = (3 : Int) := (fa_eq _ _).mp c_42
          refine lv_aload_n hx hb dX7_readLine_78 rfl (lv_at hl 1 rfl) ?_
          refine z_Vv (bc := [[zO7 rd rl rdd rg u0_12 u1_13 tp r2 u3_14 u4_15 u5_16 u6_17 u7_18 r8], [zAr T 1 tp 600 ft]]) (br := [wd2_19]) (As := []) (rest := []) C G (c_f_nextToken l T rd rl rdd rg tp u0_12 u1_13 r2 u3_14 u4_15 u5_16 u6_17 u7_18 r8 ft p9 n k e9 hp9 hA1Q.1 hA1Q.2.2.1 hA1Q.2.1) (kV_RX7_71 C.2.2.2.2 (Nat.le_of_ble_eq_true rfl) (Nat.le_of_ble_eq_true rfl)) [0, 1] [0, 0] rfl rfl (ci := 7) (qc := (RX7, TX7, 13)) rfl rfl (List.mem_flatten.mpr ⟨_, List.mem_of_getElem? (i := 0) rfl, List.mem_cons_self⟩) rfl rfl hl.1 dX7_readLine_79 (Nat.le_of_ble_eq_true rfl) (Nat.le_of_ble_eq_true rfl) (fun b1 H locs hw G => ?_)
          refine zEx4 hw ?_
          intro u3_50 u4_51 u5_52 u6_53
          refine zCu2 ?_
          intro hbs9 h_54
          clear hw
          subst hbs9
          have G : zS T A s.heap s [wd2_19, [zO7 rd rl rdd rg u0_12 u1_13 tp r2 u3_50 u4_51 u5_52 u6_53 u7_18 r8], [zAr T 1 tp 600 ft]] _ _ := G
          refine lv_goto (tgt := 89) hx hb dX7_readLine_82 (by decide) ?_
          have G := G.sub (bs' := [[zO7 rd rl rdd rg u0_12 u1_13 tp r2 u3_50 u4_51 u5_52 u6_53 u7_18 r8], [zAr T 1 tp 600 ft], wd2_19]) [1, 2, 0] rfl
          exact z_back hQz_ (z_vret C hr hlocks G (Nat.le_of_ble_eq_true rfl) (Nat.le_of_ble_eq_true rfl) dX7_readLine_89 ⟨u0_12, u1_13, u3_50, u4_51, u5_52, u6_53, u7_18, r8, wd2_19, dd2_20, b1_21, b2_22, b3_23, rfl, h_24, (by rw [hpl]; show zRc _ _ _ _ _ _ _ _ _ _ _ (pEndL k q.1); rw [pEndL_e (fun z9 => hbk z9.1), pEnds_n hbk]; exact zRc_any h_25 hbk ⟨_, (hokQ p9 hp9).1.2.2, h_54.1⟩), (by rw [hpl]; exact zDc_l hAIQ h_26)⟩)
    · have c_11n : r_10.toInt = (-1 : Int) := (fa_eq _ _).mp c_11
      refine lv_aload_n hx hb dX7_readLine_23 rfl (lv_at hl 1 rfl) ?_
      refine z_Vv (bc := [[zO7 rd rl rdd rg r0 r1 tp r2 r3 r4 r5 r6 r7 r8]]) (br := [wd, [zAr T 1 tp 600 ft]]) (As := []) (rest := []) C G (c_f_breakHere l T rd rl rdd rg tp r0 r1 r2 r3 r4 r5 r6 r7 r8) (kV_RX7_105 C.2.2.2.2 (Nat.le_of_ble_eq_true rfl) (Nat.le_of_ble_eq_true rfl)) [1] [1] rfl rfl (ci := 7) (qc := (RX7, TX7, 13)) rfl rfl (List.mem_flatten.mpr ⟨_, List.mem_of_getElem? (i := 0) rfl, List.mem_cons_self⟩) rfl rfl hl.1 dX7_readLine_24 (Nat.le_of_ble_eq_true rfl) (Nat.le_of_ble_eq_true rfl) (fun b1 H locs hw G => ?_)
      refine zEx3 hw ?_
      intro u0_56 u1_57 u7_58
      refine zCu4 ?_
      intro hbs9 h_59 h_60 h_61
      clear hw
      subst hbs9
      have G : zS T A s.heap s [wd, [zAr T 1 tp 600 ft], [zO7 rd rl rdd rg u0_56 u1_57 tp r2 r3 r4 r5 r6 u7_58 r8]] _ _ := G
      have G := G.sub (bs' := [[zO7 rd rl rdd rg u0_56 u1_57 tp r2 r3 r4 r5 r6 u7_58 r8], [zAr T 1 tp 600 ft], wd]) [2, 1, 0] rfl
      exact z_back hQz_ (z_vret C hr hlocks G (Nat.le_of_ble_eq_true rfl) (Nat.le_of_ble_eq_true rfl) dX7_readLine_27 ⟨u0_56, u1_57, r3, r4, r5, r6, u7_58, r8, wd, dd, d1, d2, d3, rfl, hd, (by rw [pLine_e hw (s := 1) (lo := 5) (hi := 10) (by decide) (Or.inr (zWc_n1 (by rw [← hwd]; omega)))]; exact zRc_brk hA h_59 h_60 h_61), (by rw [pLine_e hw (s := 1) (lo := 5) (hi := 10) (by decide) (Or.inr (zWc_n1 (by rw [← hwd]; omega)))]; exact zDc_e hAI)⟩)
set_option maxHeartbeats 4000000 in
set_option maxRecDepth 100000 in
/-- c_f_readLine2 -/
theorem c_f_readLine2 (l : Launch) (T : zTy) (rd : Nat) (rl : Nat) (rdd : Nat) (rg : Nat) (tp : Nat) (r0 : Int32) (r1 : Int32) (r2 : Int32) (r3 : Int32) (r4 : Int32) (r5 : Int32) (r6 : Int32) (r7 : Int32) (r8 : Int32) (ft : Nat → Int32) (gg : Int32) (e1 : Nat → Int32) (e2 : Nat → Int32) (wg : va_W) (k : pT) (n : Nat) (a : pS) (f : Nat → Int32) (hA : zRc k n ft r0 r1 r2 r3 r4 r5 r6 r7 a) (hw : a.2.1.toInt = 0) (hg : bLog T rg gg e1 e2 wg) (hC : zGc gg e1 e2 a f) : zMv l T yX7_readLine cX7_readLine 3 7 0 0 [.ref rd, .int 2] [[zO7 rd rl rdd rg r0 r1 tp r2 r3 r4 r5 r6 r7 r8], [zAr T 1 tp 600 ft], wg] (fun bs => ∃ (u0 : Int32) (u1 : Int32) (u3 : Int32) (u4 : Int32) (u5 : Int32) (u6 : Int32) (u7 : Int32) (u8 : Int32) (wg2 : va_W) (gg2 : Int32) (b4 : Nat → Int32) (b5 : Nat → Int32), bs = [[zO7 rd rl rdd rg u0 u1 tp r2 u3 u4 u5 u6 u7 u8], [zAr T 1 tp 600 ft], wg2] ∧ bLog T rg gg2 b4 b5 wg2 ∧ zRc k n ft u0 u1 r2 u3 u4 u5 u6 u7 (pLine k 2 a f).1 ∧ zGc gg2 b4 b5 (pLine k 2 a f).1 (pLine k 2 a f).2) := by
  refine zMv_of (own := RX7) (by decide) rfl (Nat.le_of_ble_eq_true rfl) ?_
  intro p e s m args below meth c A ls C hr hlocks hnm hAe G hl
  refine zHide (fun Qz_ hQz_ => ?_)
  have hx := C.1
  have hb := C.2.1
  have hl : lv_has ls 3 [(0, .ref rd), (1, .int 2)] := hl
  have hok := zRc_ok hA
  obtain ⟨hA1, hA6, hA7, hA8, hA9, hAI, hAE⟩ := id hA
  have hka := hok a.1 hA1.2.2.2
  obtain ⟨t3, t4, t5, t6⟩ := hA7 hw
  have t4i : r4.toInt = (pCl k a.1 : Int) := by rw [t4]; exact nI_toInt (by omega)
  refine lv_aload_n hx hb dX7_readLine_0 rfl (lv_at hl 0 rfl) ?_
  refine z_get C G clX7 0 rfl 8 (by decide) m_fl_RX7_74 rfl dX7_readLine_1 ?_
  refine lv_iconst (v := 1) hx hb dX7_readLine_4 (by decide) ?_
  refine lv_icmp_ne (tgt := 16) hx hb dX7_readLine_5 (by decide) (fun c_1 => ?_) (fun c_1 => ?_)
  · have c_1n : ¬ r4.toInt = (1 : Int) := fun q => c_1 ((fa_eq _ _).mpr q)
    refine lv_iconst (v := (-1)) hx hb dX7_readLine_16 (by decide) ?_
    refine lv_istore_n (lv' := [(2, .int (-1)), (0, .ref rd), (1, .int 2)]) hx hb dX7_readLine_17 rfl hl (by decide) (zLvf_h rfl) (fun ls hl => ?_)
    refine lv_iload_n hx hb dX7_readLine_18 rfl (lv_at hl 0 rfl) ?_
    refine lv_iconst (v := (-1)) hx hb dX7_readLine_19 (by decide) ?_
    refine lv_icmp_ne (tgt := 28) hx hb dX7_readLine_20 (by decide) (fun q => absurd (by decide) q) (fun _ => ?_)
    refine lv_aload_n hx hb dX7_readLine_23 rfl (lv_at hl 1 rfl) ?_
    refine z_Vv (bc := [[zO7 rd rl rdd rg r0 r1 tp r2 r3 r4 r5 r6 r7 r8]]) (br := [[zAr T 1 tp 600 ft], wg]) (As := []) (rest := []) C G (c_f_breakHere l T rd rl rdd rg tp r0 r1 r2 r3 r4 r5 r6 r7 r8) (kV_RX7_105 C.2.2.2.2 (Nat.le_of_ble_eq_true rfl) (Nat.le_of_ble_eq_true rfl)) [0] [0] rfl rfl (ci := 7) (qc := (RX7, TX7, 13)) rfl rfl (List.mem_flatten.mpr ⟨_, List.mem_of_getElem? (i := 0) rfl, List.mem_cons_self⟩) rfl rfl hl.1 dX7_readLine_24 (Nat.le_of_ble_eq_true rfl) (Nat.le_of_ble_eq_true rfl) (fun b1 H locs hw G => ?_)
    refine zEx3 hw ?_
    intro u0_2 u1_3 u7_4
    refine zCu4 ?_
    intro hbs9 h_5 h_6 h_7
    clear hw
    subst hbs9
    have G : zS T A s.heap s [[zAr T 1 tp 600 ft], wg, [zO7 rd rl rdd rg u0_2 u1_3 tp r2 r3 r4 r5 r6 u7_4 r8]] _ _ := G
    have G := G.sub (bs' := [[zO7 rd rl rdd rg u0_2 u1_3 tp r2 r3 r4 r5 r6 u7_4 r8], [zAr T 1 tp 600 ft], wg]) [2, 0, 1] rfl
    exact z_back hQz_ (z_vret C hr hlocks G (Nat.le_of_ble_eq_true rfl) (Nat.le_of_ble_eq_true rfl) dX7_readLine_27 ⟨u0_2, u1_3, r3, r4, r5, r6, u7_4, r8, wg, gg, e1, e2, rfl, hg, (by rw [pLine_e hw (s := 2) (lo := 11) (hi := 12) (by decide) (Or.inl (fun q9 => by have := pTk_3 q9; omega))]; exact zRc_brk hA h_5 h_6 h_7), (by rw [pLine_e hw (s := 2) (lo := 11) (hi := 12) (by decide) (Or.inl (fun q9 => by have := pTk_3 q9; omega))]; exact zGc_e hAI)⟩)
  · have c_1n : r4.toInt = (1 : Int) := (fa_eq _ _).mp c_1
    refine lv_aload_n hx hb dX7_readLine_8 rfl (lv_at hl 0 rfl) ?_
    refine lv_iload_n hx hb dX7_readLine_9 rfl (lv_at hl 1 rfl) ?_
    refine z_Vi (bc := [[zO7 rd rl rdd rg r0 r1 tp r2 r3 r4 r5 r6 r7 r8], [zAr T 1 tp 600 ft]]) (br := [wg]) (As := [.int 2]) (rest := []) C G (c_f_wordOf2 l T rd rl rdd rg tp r0 r1 r2 r3 r4 r5 r6 r7 r8 ft (pWh k a.1) (pEn k a.1) n t3 t5 hka.1.2.1 hka.1.2.2 hA1.2.2.1 hA1.2.1) (kV_RX7_101 C.2.2.2.2 (Nat.le_of_ble_eq_true rfl) (Nat.le_of_ble_eq_true rfl)) [0, 1] [0, 0] rfl rfl (ci := 7) (qc := (RX7, TX7, 13)) rfl rfl (List.mem_flatten.mpr ⟨_, List.mem_of_getElem? (i := 0) rfl, List.mem_cons_self⟩) rfl rfl hl.1 dX7_readLine_10 (Nat.le_of_ble_eq_true rfl) (Nat.le_of_ble_eq_true rfl) (fun r_10 b1 H locs hw G => ?_)
    refine zAn2 hw ?_
    intro hbs9 h_9
    clear hw
    subst hbs9
    have G : zS T A s.heap s [wg, [zO7 rd rl rdd rg r0 r1 tp r2 r3 r4 r5 r6 r7 r8], [zAr T 1 tp 600 ft]] _ _ := G
    have hcl : pCl k a.1 = 1 := by omega
    have hwd : r_10 = zWc 2 (pWd k a.1) := by rw [pWd_eq hA1.1 hcl]; exact h_9
    refine lv_goto (tgt := 17) hx hb dX7_readLine_13 (by decide) ?_
    refine lv_istore_n (lv' := [(2, .int r_10), (0, .ref rd), (1, .int 2)]) hx hb dX7_readLine_17 rfl hl (by decide) (zLvf_h rfl) (fun ls hl => ?_)
    refine lv_iload_n hx hb dX7_readLine_18 rfl (lv_at hl 0 rfl) ?_
    refine lv_iconst (v := (-1)) hx hb dX7_readLine_19 (by decide) ?_
    refine lv_icmp_ne (tgt := 28) hx hb dX7_readLine_20 (by decide) (fun c_11 => ?_) (fun c_11 => ?_)
    · have c_11n : ¬ r_10.toInt = (-1 : Int) := fun q => c_11 ((fa_eq _ _).mpr q)
      have hwy := zWc_y2 (wd := pWd k a.1) (by rw [← hwd]; omega)
      have hwi : r_10.toInt = (pWd k a.1 : Int) - 11 := by rw [hwd]; exact hwy.2
      have hwr := hwy.1
      have ht3 : pTk k a.1 = 3 := pTk_3w hcl (by omega)
      refine lv_iload_n hx hb dX7_readLine_28 rfl (lv_at hl 2 rfl) ?_
      refine lv_iconst (v := 1) hx hb dX7_readLine_29 (by decide) ?_
      refine lv_icmp_ne (tgt := 41) hx hb dX7_readLine_30 (by decide) (fun _ => ?_) (fun q => absurd q (by decide))
      refine lv_iload_n hx hb dX7_readLine_41 rfl (lv_at hl 2 rfl) ?_
      refine lv_iconst (v := 2) hx hb dX7_readLine_42 (by decide) ?_
      refine lv_icmp_ne (tgt := 54) hx hb dX7_readLine_43 (by decide) (fun q => absurd (by decide) q) (fun _ => ?_)
      refine lv_aload_n hx hb dX7_readLine_46 rfl (lv_at hl 1 rfl) ?_
      refine lv_iload_n hx hb dX7_readLine_47 rfl (lv_at hl 0 rfl) ?_
      refine z_Vv (bc := [[zO7 rd rl rdd rg r0 r1 tp r2 r3 r4 r5 r6 r7 r8], [zAr T 1 tp 600 ft], wg]) (br := []) (As := [.int r_10]) (rest := []) C G (c_f_readFact l T rd rl rdd rg tp r0 r1 r2 r3 r4 r5 r6 r7 r8 ft gg e1 e2 wg k n a f (pWd k a.1) r_10 hA hw hcl hg hC hwr hwi) (kV_RX7_111 C.2.2.2.2 (Nat.le_of_ble_eq_true rfl) (Nat.le_of_ble_eq_true rfl)) [1, 2, 0] [0, 0, 0] rfl rfl (ci := 7) (qc := (RX7, TX7, 13)) rfl rfl (List.mem_flatten.mpr ⟨_, List.mem_of_getElem? (i := 0) rfl, List.mem_cons_self⟩) rfl rfl hl.1 dX7_readLine_48 (Nat.le_of_ble_eq_true rfl) (Nat.le_of_ble_eq_true rfl) (fun b1 H locs hw G => ?_)
      refine zEx11 hw ?_
      intro u0_12 u1_13 u3_14 u4_15 u5_16 u6_17 u7_18 wg2_19 gg2_20 b1_21 b2_22
      refine zCu4 ?_
      intro hbs9 h_23 h_24 h_25
      clear hw
      subst hbs9
      have G : zS T A s.heap s [[zO7 rd rl rdd rg u0_12 u1_13 tp r2 u3_14 u4_15 u5_16 u6_17 u7_18 r8], [zAr T 1 tp 600 ft], wg2_19] _ _ := G
      obtain ⟨q, hq⟩ : ∃ q, q = pFact k (pWd k a.1) (nI (pWh k a.1)) (pAdv k a) f := ⟨_, rfl⟩
      rw [← hq] at h_24 h_25
      have hpl : pLine k 2 a f = (pEndL k q.1, q.2) := pLine_f hw ht3 hwr hq
      have hokQ := zRc_ok h_24
      obtain ⟨hA1Q, hA6Q, hA7Q, hA8Q, hA9Q, hAIQ, hAEQ⟩ := id h_24
      have hkaQ := hokQ q.1.1 hA1Q.2.2.2
      refine lv_goto (tgt := 70) hx hb dX7_readLine_51 (by decide) ?_
      rcases (Decidable.em (q.1.2.1.toInt = 0)) with hbk | hbk
      · obtain ⟨t3Q, t4Q, t5Q, t6Q⟩ := hA7Q hbk
        have t4iQ : u4_15.toInt = (pCl k q.1.1 : Int) := by rw [t4Q]; exact nI_toInt (by omega)
        refine lv_aload_n hx hb dX7_readLine_70 rfl (lv_at hl 1 rfl) ?_
        refine z_get C G clX7 0 rfl 8 (by decide) m_fl_RX7_74 rfl dX7_readLine_71 ?_
        refine lv_iconst (v := 3) hx hb dX7_readLine_74 (by decide) ?_
        refine lv_icmp_ne (tgt := 85) hx hb dX7_readLine_75 (by decide) (fun c_27 => ?_) (fun c_27 => ?_)
        · have c_27n : ¬ u4_15.toInt = (3 : Int) := fun q => c_27 ((fa_eq _ _).mpr q)
          refine lv_aload_n hx hb dX7_readLine_85 rfl (lv_at hl 1 rfl) ?_
          refine z_Vv (bc := [[zO7 rd rl rdd rg u0_12 u1_13 tp r2 u3_14 u4_15 u5_16 u6_17 u7_18 r8]]) (br := [[zAr T 1 tp 600 ft], wg2_19]) (As := []) (rest := []) C G (c_f_breakHere l T rd rl rdd rg tp u0_12 u1_13 r2 u3_14 u4_15 u5_16 u6_17 u7_18 r8) (kV_RX7_105 C.2.2.2.2 (Nat.le_of_ble_eq_true rfl) (Nat.le_of_ble_eq_true rfl)) [0] [0] rfl rfl (ci := 7) (qc := (RX7, TX7, 13)) rfl rfl (List.mem_flatten.mpr ⟨_, List.mem_of_getElem? (i := 0) rfl, List.mem_cons_self⟩) rfl rfl hl.1 dX7_readLine_86 (Nat.le_of_ble_eq_true rfl) (Nat.le_of_ble_eq_true rfl) (fun b1 H locs hw G => ?_)
          refine zEx3 hw ?_
          intro u0_28 u1_29 u7_30
          refine zCu4 ?_
          intro hbs9 h_31 h_32 h_33
          clear hw
          subst hbs9
          have G : zS T A s.heap s [[zAr T 1 tp 600 ft], wg2_19, [zO7 rd rl rdd rg u0_28 u1_29 tp r2 u3_14 u4_15 u5_16 u6_17 u7_30 r8]] _ _ := G
          have G := G.sub (bs' := [[zO7 rd rl rdd rg u0_28 u1_29 tp r2 u3_14 u4_15 u5_16 u6_17 u7_30 r8], [zAr T 1 tp 600 ft], wg2_19]) [2, 0, 1] rfl
          exact z_back hQz_ (z_vret C hr hlocks G (Nat.le_of_ble_eq_true rfl) (Nat.le_of_ble_eq_true rfl) dX7_readLine_89 ⟨u0_28, u1_29, u3_14, u4_15, u5_16, u6_17, u7_30, r8, wg2_19, gg2_20, b1_21, b2_22, rfl, h_23, (by rw [hpl]; show zRc _ _ _ _ _ _ _ _ _ _ _ (pEndL k q.1); rw [pEndL_e (fun z9 => by have := (pTk_2 hokQ hA1Q.2.2.2).mp z9.2; omega)]; exact zRc_brk h_24 h_31 h_32 h_33), (by rw [hpl]; exact zGc_l hAIQ h_25)⟩)
        · have c_27n : u4_15.toInt = (3 : Int) := (fa_eq _ _).mp c_27
          refine lv_aload_n hx hb dX7_readLine_78 rfl (lv_at hl 1 rfl) ?_
          refine z_Vv (bc := [[zO7 rd rl rdd rg u0_12 u1_13 tp r2 u3_14 u4_15 u5_16 u6_17 u7_18 r8], [zAr T 1 tp 600 ft]]) (br := [wg2_19]) (As := []) (rest := []) C G (c_f_nextToken l T rd rl rdd rg tp u0_12 u1_13 r2 u3_14 u4_15 u5_16 u6_17 u7_18 r8 ft (pEn k q.1.1) n k t3Q hkaQ.1.2.2 hA1Q.1 hA1Q.2.2.1 hA1Q.2.1) (kV_RX7_71 C.2.2.2.2 (Nat.le_of_ble_eq_true rfl) (Nat.le_of_ble_eq_true rfl)) [0, 1] [0, 0] rfl rfl (ci := 7) (qc := (RX7, TX7, 13)) rfl rfl (List.mem_flatten.mpr ⟨_, List.mem_of_getElem? (i := 0) rfl, List.mem_cons_self⟩) rfl rfl hl.1 dX7_readLine_79 (Nat.le_of_ble_eq_true rfl) (Nat.le_of_ble_eq_true rfl) (fun b1 H locs hw G => ?_)
          refine zEx4 hw ?_
          intro u3_35 u4_36 u5_37 u6_38
          refine zCu2 ?_
          intro hbs9 h_39
          clear hw
          subst hbs9
          have G : zS T A s.heap s [wg2_19, [zO7 rd rl rdd rg u0_12 u1_13 tp r2 u3_35 u4_36 u5_37 u6_38 u7_18 r8], [zAr T 1 tp 600 ft]] _ _ := G
          refine lv_goto (tgt := 89) hx hb dX7_readLine_82 (by decide) ?_
          have G := G.sub (bs' := [[zO7 rd rl rdd rg u0_12 u1_13 tp r2 u3_35 u4_36 u5_37 u6_38 u7_18 r8], [zAr T 1 tp 600 ft], wg2_19]) [1, 2, 0] rfl
          exact z_back hQz_ (z_vret C hr hlocks G (Nat.le_of_ble_eq_true rfl) (Nat.le_of_ble_eq_true rfl) dX7_readLine_89 ⟨u0_12, u1_13, u3_35, u4_36, u5_37, u6_38, u7_18, r8, wg2_19, gg2_20, b1_21, b2_22, rfl, h_23, (by rw [hpl]; show zRc _ _ _ _ _ _ _ _ _ _ _ (pEndL k q.1); rw [pEndL_a ⟨hbk, (pTk_2 hokQ hA1Q.2.2.2).mpr (by omega)⟩]; exact zRc_adv h_24 hbk h_39), (by rw [hpl]; exact zGc_l hAIQ h_25)⟩)
      · obtain ⟨p9, hp9, e9⟩ := hAEQ
        refine lv_aload_n hx hb dX7_readLine_70 rfl (lv_at hl 1 rfl) ?_
        refine z_get C G clX7 0 rfl 8 (by decide) m_fl_RX7_74 rfl dX7_readLine_71 ?_
        refine lv_iconst (v := 3) hx hb dX7_readLine_74 (by decide) ?_
        refine lv_icmp_ne (tgt := 85) hx hb dX7_readLine_75 (by decide) (fun c_41 => ?_) (fun c_41 => ?_)
        · have c_41n : ¬ u4_15.toInt = (3 : Int) := fun q => c_41 ((fa_eq _ _).mpr q)
          refine lv_aload_n hx hb dX7_readLine_85 rfl (lv_at hl 1 rfl) ?_
          refine z_Vv (bc := [[zO7 rd rl rdd rg u0_12 u1_13 tp r2 u3_14 u4_15 u5_16 u6_17 u7_18 r8]]) (br := [[zAr T 1 tp 600 ft], wg2_19]) (As := []) (rest := []) C G (c_f_breakHere l T rd rl rdd rg tp u0_12 u1_13 r2 u3_14 u4_15 u5_16 u6_17 u7_18 r8) (kV_RX7_105 C.2.2.2.2 (Nat.le_of_ble_eq_true rfl) (Nat.le_of_ble_eq_true rfl)) [0] [0] rfl rfl (ci := 7) (qc := (RX7, TX7, 13)) rfl rfl (List.mem_flatten.mpr ⟨_, List.mem_of_getElem? (i := 0) rfl, List.mem_cons_self⟩) rfl rfl hl.1 dX7_readLine_86 (Nat.le_of_ble_eq_true rfl) (Nat.le_of_ble_eq_true rfl) (fun b1 H locs hw G => ?_)
          refine zEx3 hw ?_
          intro u0_42 u1_43 u7_44
          refine zCu4 ?_
          intro hbs9 h_45 h_46 h_47
          clear hw
          subst hbs9
          have G : zS T A s.heap s [[zAr T 1 tp 600 ft], wg2_19, [zO7 rd rl rdd rg u0_42 u1_43 tp r2 u3_14 u4_15 u5_16 u6_17 u7_44 r8]] _ _ := G
          have G := G.sub (bs' := [[zO7 rd rl rdd rg u0_42 u1_43 tp r2 u3_14 u4_15 u5_16 u6_17 u7_44 r8], [zAr T 1 tp 600 ft], wg2_19]) [2, 0, 1] rfl
          exact z_back hQz_ (z_vret C hr hlocks G (Nat.le_of_ble_eq_true rfl) (Nat.le_of_ble_eq_true rfl) dX7_readLine_89 ⟨u0_42, u1_43, u3_14, u4_15, u5_16, u6_17, u7_44, r8, wg2_19, gg2_20, b1_21, b2_22, rfl, h_23, (by rw [hpl]; show zRc _ _ _ _ _ _ _ _ _ _ _ (pEndL k q.1); rw [pEndL_e (fun z9 => hbk z9.1)]; exact zRc_brk h_24 h_45 h_46 h_47), (by rw [hpl]; exact zGc_l hAIQ h_25)⟩)
        · have c_41n : u4_15.toInt = (3 : Int) := (fa_eq _ _).mp c_41
          refine lv_aload_n hx hb dX7_readLine_78 rfl (lv_at hl 1 rfl) ?_
          refine z_Vv (bc := [[zO7 rd rl rdd rg u0_12 u1_13 tp r2 u3_14 u4_15 u5_16 u6_17 u7_18 r8], [zAr T 1 tp 600 ft]]) (br := [wg2_19]) (As := []) (rest := []) C G (c_f_nextToken l T rd rl rdd rg tp u0_12 u1_13 r2 u3_14 u4_15 u5_16 u6_17 u7_18 r8 ft p9 n k e9 hp9 hA1Q.1 hA1Q.2.2.1 hA1Q.2.1) (kV_RX7_71 C.2.2.2.2 (Nat.le_of_ble_eq_true rfl) (Nat.le_of_ble_eq_true rfl)) [0, 1] [0, 0] rfl rfl (ci := 7) (qc := (RX7, TX7, 13)) rfl rfl (List.mem_flatten.mpr ⟨_, List.mem_of_getElem? (i := 0) rfl, List.mem_cons_self⟩) rfl rfl hl.1 dX7_readLine_79 (Nat.le_of_ble_eq_true rfl) (Nat.le_of_ble_eq_true rfl) (fun b1 H locs hw G => ?_)
          refine zEx4 hw ?_
          intro u3_49 u4_50 u5_51 u6_52
          refine zCu2 ?_
          intro hbs9 h_53
          clear hw
          subst hbs9
          have G : zS T A s.heap s [wg2_19, [zO7 rd rl rdd rg u0_12 u1_13 tp r2 u3_49 u4_50 u5_51 u6_52 u7_18 r8], [zAr T 1 tp 600 ft]] _ _ := G
          refine lv_goto (tgt := 89) hx hb dX7_readLine_82 (by decide) ?_
          have G := G.sub (bs' := [[zO7 rd rl rdd rg u0_12 u1_13 tp r2 u3_49 u4_50 u5_51 u6_52 u7_18 r8], [zAr T 1 tp 600 ft], wg2_19]) [1, 2, 0] rfl
          exact z_back hQz_ (z_vret C hr hlocks G (Nat.le_of_ble_eq_true rfl) (Nat.le_of_ble_eq_true rfl) dX7_readLine_89 ⟨u0_12, u1_13, u3_49, u4_50, u5_51, u6_52, u7_18, r8, wg2_19, gg2_20, b1_21, b2_22, rfl, h_23, (by rw [hpl]; show zRc _ _ _ _ _ _ _ _ _ _ _ (pEndL k q.1); rw [pEndL_e (fun z9 => hbk z9.1), pEnds_n hbk]; exact zRc_any h_24 hbk ⟨_, (hokQ p9 hp9).1.2.2, h_53.1⟩), (by rw [hpl]; exact zGc_l hAIQ h_25)⟩)
    · have c_11n : r_10.toInt = (-1 : Int) := (fa_eq _ _).mp c_11
      refine lv_aload_n hx hb dX7_readLine_23 rfl (lv_at hl 1 rfl) ?_
      refine z_Vv (bc := [[zO7 rd rl rdd rg r0 r1 tp r2 r3 r4 r5 r6 r7 r8]]) (br := [wg, [zAr T 1 tp 600 ft]]) (As := []) (rest := []) C G (c_f_breakHere l T rd rl rdd rg tp r0 r1 r2 r3 r4 r5 r6 r7 r8) (kV_RX7_105 C.2.2.2.2 (Nat.le_of_ble_eq_true rfl) (Nat.le_of_ble_eq_true rfl)) [1] [1] rfl rfl (ci := 7) (qc := (RX7, TX7, 13)) rfl rfl (List.mem_flatten.mpr ⟨_, List.mem_of_getElem? (i := 0) rfl, List.mem_cons_self⟩) rfl rfl hl.1 dX7_readLine_24 (Nat.le_of_ble_eq_true rfl) (Nat.le_of_ble_eq_true rfl) (fun b1 H locs hw G => ?_)
      refine zEx3 hw ?_
      intro u0_55 u1_56 u7_57
      refine zCu4 ?_
      intro hbs9 h_58 h_59 h_60
      clear hw
      subst hbs9
      have G : zS T A s.heap s [wg, [zAr T 1 tp 600 ft], [zO7 rd rl rdd rg u0_55 u1_56 tp r2 r3 r4 r5 r6 u7_57 r8]] _ _ := G
      have G := G.sub (bs' := [[zO7 rd rl rdd rg u0_55 u1_56 tp r2 r3 r4 r5 r6 u7_57 r8], [zAr T 1 tp 600 ft], wg]) [2, 1, 0] rfl
      exact z_back hQz_ (z_vret C hr hlocks G (Nat.le_of_ble_eq_true rfl) (Nat.le_of_ble_eq_true rfl) dX7_readLine_27 ⟨u0_55, u1_56, r3, r4, r5, r6, u7_57, r8, wg, gg, e1, e2, rfl, hg, (by rw [pLine_e hw (s := 2) (lo := 11) (hi := 12) (by decide) (Or.inr (zWc_n2 (by rw [← hwd]; omega)))]; exact zRc_brk hA h_58 h_59 h_60), (by rw [pLine_e hw (s := 2) (lo := 11) (hi := 12) (by decide) (Or.inr (zWc_n2 (by rw [← hwd]; omega)))]; exact zGc_e hAI)⟩)
set_option maxHeartbeats 4000000 in
set_option maxRecDepth 100000 in
/-- c_f_lookAtWhole -/
theorem c_f_lookAtWhole (l : Launch) (T : zTy) (rd : Nat) (rl : Nat) (rdd : Nat) (rg : Nat) (tp : Nat) (r0 : Int32) (r1 : Int32) (r2 : Int32) (r3 : Int32) (r4 : Int32) (r5 : Int32) (r6 : Int32) (r7 : Int32) (r8 : Int32) (cr : Int32) (inn : Int32) (k1 : Nat → Int32) (k2 : Nat → Int32) (k3 : Nat → Int32) (k4 : Nat → Int32) (z : va_W) (ft : Nat → Int32) (k : pT) (n : Nat) (a : pS) (f : Nat → Int32) (hz : bLand T rl cr inn k1 k2 k3 k4 z) (hI : zLI cr k1 k3) (hA : zRc k n ft r0 r1 r2 r3 r4 r5 r6 r7 a) (hC : zLc cr inn k1 k2 k3 k4 r8 a f) : zMv l T yX7_lookAtWhole cX7_lookAtWhole 2 2 0 0 [.ref rd] [[zO7 rd rl rdd rg r0 r1 tp r2 r3 r4 r5 r6 r7 r8], z] (fun bs => ∃ (u0 : Int32) (u1 : Int32), bs = [[zO7 rd rl rdd rg u0 u1 tp r2 r3 r4 r5 r6 r7 r8], z] ∧ u0 = (pFin n 0 (a, f)).1.2.2.1 ∧ u1 = (pFin n 0 (a, f)).1.2.2.2.1) := by
  refine zMv_of (own := RX7) (by decide) rfl (Nat.le_of_ble_eq_true rfl) ?_
  intro p e s m args below meth c A ls C hr hlocks hnm hAe G hl
  refine zHide (fun Qz_ hQz_ => ?_)
  have hx := C.1
  have hb := C.2.1
  have hl : lv_has ls 2 [(0, .ref rd)] := hl
  have hok := zRc_ok hA
  obtain ⟨hA1, hA6, hA7, hA8, hA9, hAI, hAE⟩ := id hA
  have hka := hok a.1 hA1.2.2.2
  refine lv_aload_n hx hb dX7_lookAtWhole_0 rfl (lv_at hl 0 rfl) ?_
  refine z_get C G clX7 0 rfl 12 (by decide) m_fl_RX7_59 rfl dX7_lookAtWhole_1 ?_
  refine lv_aload_n hx hb dX7_lookAtWhole_4 rfl (lv_at hl 0 rfl) ?_
  refine z_get C G clX7 0 rfl 0 (by decide) m_fl_RX7_12 rfl dX7_lookAtWhole_5 ?_
  refine zEx4 hz ?_
  intro a1_1 a2_2 a3_3 a4_4 hbs9
  clear hz
  subst hbs9
  have G : zS T A s.heap s [[zO7 rd rl rdd rg r0 r1 tp r2 r3 r4 r5 r6 r7 r8], [zO4 rl cr inn a1_1 a2_2 a3_3 a4_4], [zAr T 0 a1_1 7 k1], [zAr T 0 a2_2 28 k2], [zAr T 0 a3_3 7 k3], [zAr T 0 a4_4 7 k4]] _ _ := G.re rfl
  refine z_get C G clX4 1 rfl 0 (by decide) m_fl_RX7_87 rfl dX7_lookAtWhole_8 ?_
  refine lv_ishr hx hb dX7_lookAtWhole_11 ?_
  refine lv_if_eq (tgt := 24) hx hb dX7_lookAtWhole_12 (by decide) (fun c_5 => ?_) (fun c_5 => ?_)
  · have c_5n : (r8 >>> (cr &&& 31)).toInt = (0 : Int) := (fa_eq _ _).mp c_5
    have hE : (r8 >>> (cr &&& 31)).toInt = 0 ∧ r0 = r0 ∧ r1 = r1 ∨ ¬ (r8 >>> (cr &&& 31)).toInt = 0 ∧ (r0 = if r0.toInt = 0 then 4 else r0) ∧ (r1 = if r0.toInt = 0 then r2 else r1) := Or.inl ⟨by first | with_reducible assumption | assumption, rfl, rfl⟩
    refine lv_iconst (v := 0) hx hb dX7_lookAtWhole_24 (by decide) ?_
    refine lv_istore_n (lv' := [(1, .int 0), (0, .ref rd)]) hx hb dX7_lookAtWhole_25 rfl hl (by decide) (zLvf_h rfl) (fun ls hl => ?_)
    have hw_6 : bLand T rl cr inn k1 k2 k3 k4 [zO4 rl cr inn a1_1 a2_2 a3_3 a4_4, zAr T 0 a1_1 7 k1, zAr T 0 a2_2 28 k2, zAr T 0 a3_3 7 k3, zAr T 0 a4_4 7 k4] := ⟨a1_1, a2_2, a3_3, a4_4, rfl⟩
    have G : zS T A s.heap s [[zO7 rd rl rdd rg r0 r1 tp r2 r3 r4 r5 r6 r7 r8], [zO4 rl cr inn a1_1 a2_2 a3_3 a4_4, zAr T 0 a1_1 7 k1, zAr T 0 a2_2 28 k2, zAr T 0 a3_3 7 k3, zAr T 0 a4_4 7 k4]] _ _ := G.re rfl
    refine z_lp3 (T := T) 26 (fun (i : Nat) (y0 : Int32) (y1 : Int32) => [[zO7 rd rl rdd rg y0 y1 tp r2 r3 r4 r5 r6 r7 r8], [zO4 rl cr inn a1_1 a2_2 a3_3 a4_4, zAr T 0 a1_1 7 k1, zAr T 0 a2_2 28 k2, zAr T 0 a3_3 7 k3, zAr T 0 a4_4 7 k4]]) (fun (i : Nat) (y0 : Int32) (y1 : Int32) => [(1, .int (nI i)), (0, .ref rd)]) (fun (i : Nat) (y0 : Int32) (y1 : Int32) => i ≤ 7 ∧ zLook k1 k3 i r2 r0 r1 y0 y1) (fun (i : Nat) (y0 : Int32) (y1 : Int32) => 7 - i) ?_ 0 r0 r1 (show 0 ≤ 7 ∧ zLook k1 k3 0 r2 r0 r1 r0 r1 from ⟨by omega, zLook_0⟩) G (lv_sub hl [0, 1] rfl)
    intro i y0 y1 hI9 ih_26 H locs ls G hl
    replace hI9 : i ≤ 7 ∧ zLook k1 k3 i r2 r0 r1 y0 y1 := hI9
    refine zAn2 hI9 ?_
    intro hi hlk
    clear hI9
    replace G : zS T A s.heap s [[zO7 rd rl rdd rg y0 y1 tp r2 r3 r4 r5 r6 r7 r8], [zO4 rl cr inn a1_1 a2_2 a3_3 a4_4, zAr T 0 a1_1 7 k1, zAr T 0 a2_2 28 k2, zAr T 0 a3_3 7 k3, zAr T 0 a4_4 7 k4]] _ _ := G
    replace hl : lv_has ls 2 [(1, .int (nI i)), (0, .ref rd)] := hl
    refine lv_iload_n hx hb dX7_lookAtWhole_26 rfl (lv_at hl 0 rfl) ?_
    refine lv_bipush (v := 7) hx hb dX7_lookAtWhole_27 (by decide) ?_
    refine lv_icmp_ge (tgt := 80) hx hb dX7_lookAtWhole_29 (by decide) (fun c_7 => ?_) (fun c_7 => ?_)
    · have c_7n : 7 ≤ i := (nI_leI (a := 7) (b := i) (by omega) (by omega)).mp c_7
      exact z_back hQz_ (z_vret C hr hlocks G (Nat.le_of_ble_eq_true rfl) (Nat.le_of_ble_eq_true rfl) dX7_lookAtWhole_80 ⟨y0, y1, rfl, (zLook_end hAI hC hA1.2.2.1 hA8 hA9 hE (by rw [show 7 = i by omega]; exact hlk)).1, (zLook_end hAI hC hA1.2.2.1 hA8 hA9 hE (by rw [show 7 = i by omega]; exact hlk)).2⟩)
    · have c_7n : ¬ 7 ≤ i := fun q => c_7 ((nI_leI (a := 7) (b := i) (by omega) (by omega)).mpr q)
      refine lv_aload_n hx hb dX7_lookAtWhole_32 rfl (lv_at hl 1 rfl) ?_
      refine z_get C G clX7 0 rfl 0 (by decide) m_fl_RX7_12 rfl dX7_lookAtWhole_33 ?_
      have G : zS T A s.heap s [[zO7 rd rl rdd rg y0 y1 tp r2 r3 r4 r5 r6 r7 r8], [zO4 rl cr inn a1_1 a2_2 a3_3 a4_4], [zAr T 0 a1_1 7 k1], [zAr T 0 a2_2 28 k2], [zAr T 0 a3_3 7 k3], [zAr T 0 a4_4 7 k4]] _ _ := G.re rfl
      refine z_get C G clX4 1 rfl 4 (by decide) m_fl_RX7_94 rfl dX7_lookAtWhole_36 ?_
      refine lv_iload_n hx hb dX7_lookAtWhole_39 rfl (lv_at hl 0 rfl) ?_
      refine z_ild C G 4 rfl (vp_in_nI (by omega) (by decide)) dX7_lookAtWhole_40 ?_
      refine lv_topi (fun v_8 ev_8 => ?_)
      rw [nI_clamp (by omega)] at ev_8
      subst ev_8
      refine lv_if_eq (tgt := 74) hx hb dX7_lookAtWhole_41 (by decide) (fun c_9 => ?_) (fun c_9 => ?_)
      · have c_9n : (k3 i).toInt = (0 : Int) := (fa_eq _ _).mp c_9
        refine lv_iinc (v := nI (i + 1)) (lv' := [(1, .int (nI (i + 1))), (0, .ref rd)]) hx hb dX7_lookAtWhole_74 hl (k := 0) rfl (z_inc i 1) (by decide) (zLvf_h rfl) (fun ls hl => ?_)
        refine lv_goto (tgt := 26) hx hb dX7_lookAtWhole_77 (by decide) ?_
        have hw_10 : bLand T rl cr inn k1 k2 k3 k4 [zO4 rl cr inn a1_1 a2_2 a3_3 a4_4, zAr T 0 a1_1 7 k1, zAr T 0 a2_2 28 k2, zAr T 0 a3_3 7 k3, zAr T 0 a4_4 7 k4] := ⟨a1_1, a2_2, a3_3, a4_4, rfl⟩
        have G : zS T A s.heap s [[zO7 rd rl rdd rg y0 y1 tp r2 r3 r4 r5 r6 r7 r8], [zO4 rl cr inn a1_1 a2_2 a3_3 a4_4, zAr T 0 a1_1 7 k1, zAr T 0 a2_2 28 k2, zAr T 0 a3_3 7 k3, zAr T 0 a4_4 7 k4]] _ _ := G.re rfl
        exact ih_26 (i + 1) y0 y1 (show (i + 1) ≤ 7 ∧ zLook k1 k3 (i + 1) r2 r0 r1 y0 y1 from ⟨by omega, (zLook_g hlk (by unfold zBad; omega))⟩) (show 7 - (i + 1) < 7 - i from by omega) _ _ ls G (lv_sub hl [0, 1] rfl)
      · have c_9n : ¬ (k3 i).toInt = (0 : Int) := fun q => c_9 ((fa_eq _ _).mpr q)
        refine lv_aload_n hx hb dX7_lookAtWhole_44 rfl (lv_at hl 1 rfl) ?_
        refine z_get C G clX7 0 rfl 0 (by decide) m_fl_RX7_12 rfl dX7_lookAtWhole_45 ?_
        refine z_get C G clX4 1 rfl 4 (by decide) m_fl_RX7_94 rfl dX7_lookAtWhole_48 ?_
        refine lv_iload_n hx hb dX7_lookAtWhole_51 rfl (lv_at hl 0 rfl) ?_
        refine z_ild C G 4 rfl (vp_in_nI (by omega) (by decide)) dX7_lookAtWhole_52 ?_
        refine lv_topi (fun v_11 ev_11 => ?_)
        rw [nI_clamp (by omega)] at ev_11
        subst ev_11
        refine lv_aload_n hx hb dX7_lookAtWhole_53 rfl (lv_at hl 1 rfl) ?_
        refine z_get C G clX7 0 rfl 0 (by decide) m_fl_RX7_12 rfl dX7_lookAtWhole_54 ?_
        refine z_get C G clX4 1 rfl 2 (by decide) m_fl_RX7_98 rfl dX7_lookAtWhole_57 ?_
        refine lv_iload_n hx hb dX7_lookAtWhole_60 rfl (lv_at hl 0 rfl) ?_
        refine z_ild C G 2 rfl (vp_in_nI (by omega) (by decide)) dX7_lookAtWhole_61 ?_
        refine lv_topi (fun v_12 ev_12 => ?_)
        rw [nI_clamp (by omega)] at ev_12
        subst ev_12
        refine lv_icmp_lt (tgt := 74) hx hb dX7_lookAtWhole_62 (by decide) (fun c_13 => ?_) (fun c_13 => ?_)
        · have c_13n : (k3 i).toInt < (k1 i).toInt := (fa_lt _ _).mp c_13
          refine lv_iinc (v := nI (i + 1)) (lv' := [(1, .int (nI (i + 1))), (0, .ref rd)]) hx hb dX7_lookAtWhole_74 hl (k := 0) rfl (z_inc i 1) (by decide) (zLvf_h rfl) (fun ls hl => ?_)
          refine lv_goto (tgt := 26) hx hb dX7_lookAtWhole_77 (by decide) ?_
          have hw_14 : bLand T rl cr inn k1 k2 k3 k4 [zO4 rl cr inn a1_1 a2_2 a3_3 a4_4, zAr T 0 a1_1 7 k1, zAr T 0 a2_2 28 k2, zAr T 0 a3_3 7 k3, zAr T 0 a4_4 7 k4] := ⟨a1_1, a2_2, a3_3, a4_4, rfl⟩
          have G : zS T A s.heap s [[zO7 rd rl rdd rg y0 y1 tp r2 r3 r4 r5 r6 r7 r8], [zO4 rl cr inn a1_1 a2_2 a3_3 a4_4, zAr T 0 a1_1 7 k1, zAr T 0 a2_2 28 k2, zAr T 0 a3_3 7 k3, zAr T 0 a4_4 7 k4]] _ _ := G.re rfl
          exact ih_26 (i + 1) y0 y1 (show (i + 1) ≤ 7 ∧ zLook k1 k3 (i + 1) r2 r0 r1 y0 y1 from ⟨by omega, (zLook_g hlk (by unfold zBad; omega))⟩) (show 7 - (i + 1) < 7 - i from by omega) _ _ ls G (lv_sub hl [0, 1] rfl)
        · have c_13n : ¬ (k3 i).toInt < (k1 i).toInt := fun q => c_13 ((fa_lt _ _).mpr q)
          have hbad : zBad k1 k3 i := ⟨by omega, by omega⟩
          refine lv_aload_n hx hb dX7_lookAtWhole_65 rfl (lv_at hl 1 rfl) ?_
          refine lv_iconst (v := 5) hx hb dX7_lookAtWhole_66 (by decide) ?_
          refine lv_aload_n hx hb dX7_lookAtWhole_67 rfl (lv_at hl 1 rfl) ?_
          refine z_get C G clX7 0 rfl 6 (by decide) m_fl_RX7_42 rfl dX7_lookAtWhole_68 ?_
          refine z_Vv (bc := [[zO7 rd rl rdd rg y0 y1 tp r2 r3 r4 r5 r6 r7 r8]]) (br := [[zO4 rl cr inn a1_1 a2_2 a3_3 a4_4], [zAr T 0 a1_1 7 k1], [zAr T 0 a2_2 28 k2], [zAr T 0 a3_3 7 k3], [zAr T 0 a4_4 7 k4]]) (As := [.int 5, .int r2]) (rest := []) C G (c_f_note l T rd rl rdd rg tp y0 y1 r2 r3 r4 r5 r6 r7 r8 5 r2) (kV_RX7_90 C.2.2.2.2 (Nat.le_of_ble_eq_true rfl) (Nat.le_of_ble_eq_true rfl)) [0] [0] rfl rfl (ci := 7) (qc := (RX7, TX7, 13)) rfl rfl (List.mem_flatten.mpr ⟨_, List.mem_of_getElem? (i := 0) rfl, List.mem_cons_self⟩) rfl rfl hl.1 dX7_lookAtWhole_71 (Nat.le_of_ble_eq_true rfl) (Nat.le_of_ble_eq_true rfl) (fun b1 H locs hw G => ?_)
          refine zEx2 hw ?_
          intro u0_15 u1_16
          refine zCu3 ?_
          intro hbs9 h_17 h_18
          clear hw
          subst hbs9
          have G : zS T A s.heap s [[zO4 rl cr inn a1_1 a2_2 a3_3 a4_4], [zAr T 0 a1_1 7 k1], [zAr T 0 a2_2 28 k2], [zAr T 0 a3_3 7 k3], [zAr T 0 a4_4 7 k4], [zO7 rd rl rdd rg u0_15 u1_16 tp r2 r3 r4 r5 r6 r7 r8]] _ _ := G
          refine lv_iinc (v := nI (i + 1)) (lv' := [(1, .int (nI (i + 1))), (0, .ref rd)]) hx hb dX7_lookAtWhole_74 hl (k := 0) rfl (z_inc i 1) (by decide) (zLvf_h rfl) (fun ls hl => ?_)
          refine lv_goto (tgt := 26) hx hb dX7_lookAtWhole_77 (by decide) ?_
          have hw_20 : bLand T rl cr inn k1 k2 k3 k4 [zO4 rl cr inn a1_1 a2_2 a3_3 a4_4, zAr T 0 a1_1 7 k1, zAr T 0 a2_2 28 k2, zAr T 0 a3_3 7 k3, zAr T 0 a4_4 7 k4] := ⟨a1_1, a2_2, a3_3, a4_4, rfl⟩
          have G : zS T A s.heap s [[zO4 rl cr inn a1_1 a2_2 a3_3 a4_4, zAr T 0 a1_1 7 k1, zAr T 0 a2_2 28 k2, zAr T 0 a3_3 7 k3, zAr T 0 a4_4 7 k4], [zO7 rd rl rdd rg u0_15 u1_16 tp r2 r3 r4 r5 r6 r7 r8]] _ _ := G.re rfl
          have G := G.sub (bs' := [[zO7 rd rl rdd rg u0_15 u1_16 tp r2 r3 r4 r5 r6 r7 r8], [zO4 rl cr inn a1_1 a2_2 a3_3 a4_4, zAr T 0 a1_1 7 k1, zAr T 0 a2_2 28 k2, zAr T 0 a3_3 7 k3, zAr T 0 a4_4 7 k4]]) [1, 0] rfl
          exact ih_26 (i + 1) u0_15 u1_16 (show (i + 1) ≤ 7 ∧ zLook k1 k3 (i + 1) r2 r0 r1 u0_15 u1_16 from ⟨by omega, (zLook_b hlk hbad h_17 h_18)⟩) (show 7 - (i + 1) < 7 - i from by omega) _ _ ls G (lv_sub hl [0, 1] rfl)
  · have c_5n : ¬ (r8 >>> (cr &&& 31)).toInt = (0 : Int) := fun q => c_5 ((fa_eq _ _).mpr q)
    refine lv_aload_n hx hb dX7_lookAtWhole_15 rfl (lv_at hl 0 rfl) ?_
    refine lv_iconst (v := 4) hx hb dX7_lookAtWhole_16 (by decide) ?_
    refine lv_aload_n hx hb dX7_lookAtWhole_17 rfl (lv_at hl 0 rfl) ?_
    refine z_get C G clX7 0 rfl 6 (by decide) m_fl_RX7_42 rfl dX7_lookAtWhole_18 ?_
    refine z_Vv (bc := [[zO7 rd rl rdd rg r0 r1 tp r2 r3 r4 r5 r6 r7 r8]]) (br := [[zO4 rl cr inn a1_1 a2_2 a3_3 a4_4], [zAr T 0 a1_1 7 k1], [zAr T 0 a2_2 28 k2], [zAr T 0 a3_3 7 k3], [zAr T 0 a4_4 7 k4]]) (As := [.int 4, .int r2]) (rest := []) C G (c_f_note l T rd rl rdd rg tp r0 r1 r2 r3 r4 r5 r6 r7 r8 4 r2) (kV_RX7_90 C.2.2.2.2 (Nat.le_of_ble_eq_true rfl) (Nat.le_of_ble_eq_true rfl)) [0] [0] rfl rfl (ci := 7) (qc := (RX7, TX7, 13)) rfl rfl (List.mem_flatten.mpr ⟨_, List.mem_of_getElem? (i := 0) rfl, List.mem_cons_self⟩) rfl rfl hl.1 dX7_lookAtWhole_21 (Nat.le_of_ble_eq_true rfl) (Nat.le_of_ble_eq_true rfl) (fun b1 H locs hw G => ?_)
    refine zEx2 hw ?_
    intro u0_21 u1_22
    refine zCu3 ?_
    intro hbs9 h_23 h_24
    clear hw
    subst hbs9
    have G : zS T A s.heap s [[zO4 rl cr inn a1_1 a2_2 a3_3 a4_4], [zAr T 0 a1_1 7 k1], [zAr T 0 a2_2 28 k2], [zAr T 0 a3_3 7 k3], [zAr T 0 a4_4 7 k4], [zO7 rd rl rdd rg u0_21 u1_22 tp r2 r3 r4 r5 r6 r7 r8]] _ _ := G
    have hE : (r8 >>> (cr &&& 31)).toInt = 0 ∧ u0_21 = r0 ∧ u1_22 = r1 ∨ ¬ (r8 >>> (cr &&& 31)).toInt = 0 ∧ (u0_21 = if r0.toInt = 0 then 4 else r0) ∧ (u1_22 = if r0.toInt = 0 then r2 else r1) := Or.inr ⟨by first | with_reducible assumption | assumption, h_23, h_24⟩
    refine lv_iconst (v := 0) hx hb dX7_lookAtWhole_24 (by decide) ?_
    refine lv_istore_n (lv' := [(1, .int 0), (0, .ref rd)]) hx hb dX7_lookAtWhole_25 rfl hl (by decide) (zLvf_h rfl) (fun ls hl => ?_)
    have hw_26 : bLand T rl cr inn k1 k2 k3 k4 [zO4 rl cr inn a1_1 a2_2 a3_3 a4_4, zAr T 0 a1_1 7 k1, zAr T 0 a2_2 28 k2, zAr T 0 a3_3 7 k3, zAr T 0 a4_4 7 k4] := ⟨a1_1, a2_2, a3_3, a4_4, rfl⟩
    have G : zS T A s.heap s [[zO4 rl cr inn a1_1 a2_2 a3_3 a4_4, zAr T 0 a1_1 7 k1, zAr T 0 a2_2 28 k2, zAr T 0 a3_3 7 k3, zAr T 0 a4_4 7 k4], [zO7 rd rl rdd rg u0_21 u1_22 tp r2 r3 r4 r5 r6 r7 r8]] _ _ := G.re rfl
    refine z_lp3 (T := T) 26 (fun (i : Nat) (y0 : Int32) (y1 : Int32) => [[zO4 rl cr inn a1_1 a2_2 a3_3 a4_4, zAr T 0 a1_1 7 k1, zAr T 0 a2_2 28 k2, zAr T 0 a3_3 7 k3, zAr T 0 a4_4 7 k4], [zO7 rd rl rdd rg y0 y1 tp r2 r3 r4 r5 r6 r7 r8]]) (fun (i : Nat) (y0 : Int32) (y1 : Int32) => [(1, .int (nI i)), (0, .ref rd)]) (fun (i : Nat) (y0 : Int32) (y1 : Int32) => i ≤ 7 ∧ zLook k1 k3 i r2 u0_21 u1_22 y0 y1) (fun (i : Nat) (y0 : Int32) (y1 : Int32) => 7 - i) ?_ 0 u0_21 u1_22 (show 0 ≤ 7 ∧ zLook k1 k3 0 r2 u0_21 u1_22 u0_21 u1_22 from ⟨by omega, zLook_0⟩) G (lv_sub hl [0, 1] rfl)
    intro i y0 y1 hI9 ih_26 H locs ls G hl
    replace hI9 : i ≤ 7 ∧ zLook k1 k3 i r2 u0_21 u1_22 y0 y1 := hI9
    refine zAn2 hI9 ?_
    intro hi hlk
    clear hI9
    replace G : zS T A s.heap s [[zO4 rl cr inn a1_1 a2_2 a3_3 a4_4, zAr T 0 a1_1 7 k1, zAr T 0 a2_2 28 k2, zAr T 0 a3_3 7 k3, zAr T 0 a4_4 7 k4], [zO7 rd rl rdd rg y0 y1 tp r2 r3 r4 r5 r6 r7 r8]] _ _ := G
    replace hl : lv_has ls 2 [(1, .int (nI i)), (0, .ref rd)] := hl
    refine lv_iload_n hx hb dX7_lookAtWhole_26 rfl (lv_at hl 0 rfl) ?_
    refine lv_bipush (v := 7) hx hb dX7_lookAtWhole_27 (by decide) ?_
    refine lv_icmp_ge (tgt := 80) hx hb dX7_lookAtWhole_29 (by decide) (fun c_27 => ?_) (fun c_27 => ?_)
    · have c_27n : 7 ≤ i := (nI_leI (a := 7) (b := i) (by omega) (by omega)).mp c_27
      have G := G.sub (bs' := [[zO7 rd rl rdd rg y0 y1 tp r2 r3 r4 r5 r6 r7 r8], [zO4 rl cr inn a1_1 a2_2 a3_3 a4_4, zAr T 0 a1_1 7 k1, zAr T 0 a2_2 28 k2, zAr T 0 a3_3 7 k3, zAr T 0 a4_4 7 k4]]) [1, 0] rfl
      exact z_back hQz_ (z_vret C hr hlocks G (Nat.le_of_ble_eq_true rfl) (Nat.le_of_ble_eq_true rfl) dX7_lookAtWhole_80 ⟨y0, y1, rfl, (zLook_end hAI hC hA1.2.2.1 hA8 hA9 hE (by rw [show 7 = i by omega]; exact hlk)).1, (zLook_end hAI hC hA1.2.2.1 hA8 hA9 hE (by rw [show 7 = i by omega]; exact hlk)).2⟩)
    · have c_27n : ¬ 7 ≤ i := fun q => c_27 ((nI_leI (a := 7) (b := i) (by omega) (by omega)).mpr q)
      refine lv_aload_n hx hb dX7_lookAtWhole_32 rfl (lv_at hl 1 rfl) ?_
      refine z_get C G clX7 1 rfl 0 (by decide) m_fl_RX7_12 rfl dX7_lookAtWhole_33 ?_
      have G : zS T A s.heap s [[zO4 rl cr inn a1_1 a2_2 a3_3 a4_4], [zAr T 0 a1_1 7 k1], [zAr T 0 a2_2 28 k2], [zAr T 0 a3_3 7 k3], [zAr T 0 a4_4 7 k4], [zO7 rd rl rdd rg y0 y1 tp r2 r3 r4 r5 r6 r7 r8]] _ _ := G.re rfl
      refine z_get C G clX4 0 rfl 4 (by decide) m_fl_RX7_94 rfl dX7_lookAtWhole_36 ?_
      refine lv_iload_n hx hb dX7_lookAtWhole_39 rfl (lv_at hl 0 rfl) ?_
      refine z_ild C G 3 rfl (vp_in_nI (by omega) (by decide)) dX7_lookAtWhole_40 ?_
      refine lv_topi (fun v_28 ev_28 => ?_)
      rw [nI_clamp (by omega)] at ev_28
      subst ev_28
      refine lv_if_eq (tgt := 74) hx hb dX7_lookAtWhole_41 (by decide) (fun c_29 => ?_) (fun c_29 => ?_)
      · have c_29n : (k3 i).toInt = (0 : Int) := (fa_eq _ _).mp c_29
        refine lv_iinc (v := nI (i + 1)) (lv' := [(1, .int (nI (i + 1))), (0, .ref rd)]) hx hb dX7_lookAtWhole_74 hl (k := 0) rfl (z_inc i 1) (by decide) (zLvf_h rfl) (fun ls hl => ?_)
        refine lv_goto (tgt := 26) hx hb dX7_lookAtWhole_77 (by decide) ?_
        have hw_30 : bLand T rl cr inn k1 k2 k3 k4 [zO4 rl cr inn a1_1 a2_2 a3_3 a4_4, zAr T 0 a1_1 7 k1, zAr T 0 a2_2 28 k2, zAr T 0 a3_3 7 k3, zAr T 0 a4_4 7 k4] := ⟨a1_1, a2_2, a3_3, a4_4, rfl⟩
        have G : zS T A s.heap s [[zO4 rl cr inn a1_1 a2_2 a3_3 a4_4, zAr T 0 a1_1 7 k1, zAr T 0 a2_2 28 k2, zAr T 0 a3_3 7 k3, zAr T 0 a4_4 7 k4], [zO7 rd rl rdd rg y0 y1 tp r2 r3 r4 r5 r6 r7 r8]] _ _ := G.re rfl
        exact ih_26 (i + 1) y0 y1 (show (i + 1) ≤ 7 ∧ zLook k1 k3 (i + 1) r2 u0_21 u1_22 y0 y1 from ⟨by omega, (zLook_g hlk (by unfold zBad; omega))⟩) (show 7 - (i + 1) < 7 - i from by omega) _ _ ls G (lv_sub hl [0, 1] rfl)
      · have c_29n : ¬ (k3 i).toInt = (0 : Int) := fun q => c_29 ((fa_eq _ _).mpr q)
        refine lv_aload_n hx hb dX7_lookAtWhole_44 rfl (lv_at hl 1 rfl) ?_
        refine z_get C G clX7 5 rfl 0 (by decide) m_fl_RX7_12 rfl dX7_lookAtWhole_45 ?_
        refine z_get C G clX4 0 rfl 4 (by decide) m_fl_RX7_94 rfl dX7_lookAtWhole_48 ?_
        refine lv_iload_n hx hb dX7_lookAtWhole_51 rfl (lv_at hl 0 rfl) ?_
        refine z_ild C G 3 rfl (vp_in_nI (by omega) (by decide)) dX7_lookAtWhole_52 ?_
        refine lv_topi (fun v_31 ev_31 => ?_)
        rw [nI_clamp (by omega)] at ev_31
        subst ev_31
        refine lv_aload_n hx hb dX7_lookAtWhole_53 rfl (lv_at hl 1 rfl) ?_
        refine z_get C G clX7 5 rfl 0 (by decide) m_fl_RX7_12 rfl dX7_lookAtWhole_54 ?_
        refine z_get C G clX4 0 rfl 2 (by decide) m_fl_RX7_98 rfl dX7_lookAtWhole_57 ?_
        refine lv_iload_n hx hb dX7_lookAtWhole_60 rfl (lv_at hl 0 rfl) ?_
        refine z_ild C G 1 rfl (vp_in_nI (by omega) (by decide)) dX7_lookAtWhole_61 ?_
        refine lv_topi (fun v_32 ev_32 => ?_)
        rw [nI_clamp (by omega)] at ev_32
        subst ev_32
        refine lv_icmp_lt (tgt := 74) hx hb dX7_lookAtWhole_62 (by decide) (fun c_33 => ?_) (fun c_33 => ?_)
        · have c_33n : (k3 i).toInt < (k1 i).toInt := (fa_lt _ _).mp c_33
          refine lv_iinc (v := nI (i + 1)) (lv' := [(1, .int (nI (i + 1))), (0, .ref rd)]) hx hb dX7_lookAtWhole_74 hl (k := 0) rfl (z_inc i 1) (by decide) (zLvf_h rfl) (fun ls hl => ?_)
          refine lv_goto (tgt := 26) hx hb dX7_lookAtWhole_77 (by decide) ?_
          have hw_34 : bLand T rl cr inn k1 k2 k3 k4 [zO4 rl cr inn a1_1 a2_2 a3_3 a4_4, zAr T 0 a1_1 7 k1, zAr T 0 a2_2 28 k2, zAr T 0 a3_3 7 k3, zAr T 0 a4_4 7 k4] := ⟨a1_1, a2_2, a3_3, a4_4, rfl⟩
          have G : zS T A s.heap s [[zO4 rl cr inn a1_1 a2_2 a3_3 a4_4, zAr T 0 a1_1 7 k1, zAr T 0 a2_2 28 k2, zAr T 0 a3_3 7 k3, zAr T 0 a4_4 7 k4], [zO7 rd rl rdd rg y0 y1 tp r2 r3 r4 r5 r6 r7 r8]] _ _ := G.re rfl
          exact ih_26 (i + 1) y0 y1 (show (i + 1) ≤ 7 ∧ zLook k1 k3 (i + 1) r2 u0_21 u1_22 y0 y1 from ⟨by omega, (zLook_g hlk (by unfold zBad; omega))⟩) (show 7 - (i + 1) < 7 - i from by omega) _ _ ls G (lv_sub hl [0, 1] rfl)
        · have c_33n : ¬ (k3 i).toInt < (k1 i).toInt := fun q => c_33 ((fa_lt _ _).mpr q)
          have hbad : zBad k1 k3 i := ⟨by omega, by omega⟩
          refine lv_aload_n hx hb dX7_lookAtWhole_65 rfl (lv_at hl 1 rfl) ?_
          refine lv_iconst (v := 5) hx hb dX7_lookAtWhole_66 (by decide) ?_
          refine lv_aload_n hx hb dX7_lookAtWhole_67 rfl (lv_at hl 1 rfl) ?_
          refine z_get C G clX7 5 rfl 6 (by decide) m_fl_RX7_42 rfl dX7_lookAtWhole_68 ?_
          refine z_Vv (bc := [[zO7 rd rl rdd rg y0 y1 tp r2 r3 r4 r5 r6 r7 r8]]) (br := [[zO4 rl cr inn a1_1 a2_2 a3_3 a4_4], [zAr T 0 a1_1 7 k1], [zAr T 0 a2_2 28 k2], [zAr T 0 a3_3 7 k3], [zAr T 0 a4_4 7 k4]]) (As := [.int 5, .int r2]) (rest := []) C G (c_f_note l T rd rl rdd rg tp y0 y1 r2 r3 r4 r5 r6 r7 r8 5 r2) (kV_RX7_90 C.2.2.2.2 (Nat.le_of_ble_eq_true rfl) (Nat.le_of_ble_eq_true rfl)) [5] [5] rfl rfl (ci := 7) (qc := (RX7, TX7, 13)) rfl rfl (List.mem_flatten.mpr ⟨_, List.mem_of_getElem? (i := 0) rfl, List.mem_cons_self⟩) rfl rfl hl.1 dX7_lookAtWhole_71 (Nat.le_of_ble_eq_true rfl) (Nat.le_of_ble_eq_true rfl) (fun b1 H locs hw G => ?_)
          refine zEx2 hw ?_
          intro u0_35 u1_36
          refine zCu3 ?_
          intro hbs9 h_37 h_38
          clear hw
          subst hbs9
          have G : zS T A s.heap s [[zO4 rl cr inn a1_1 a2_2 a3_3 a4_4], [zAr T 0 a1_1 7 k1], [zAr T 0 a2_2 28 k2], [zAr T 0 a3_3 7 k3], [zAr T 0 a4_4 7 k4], [zO7 rd rl rdd rg u0_35 u1_36 tp r2 r3 r4 r5 r6 r7 r8]] _ _ := G
          refine lv_iinc (v := nI (i + 1)) (lv' := [(1, .int (nI (i + 1))), (0, .ref rd)]) hx hb dX7_lookAtWhole_74 hl (k := 0) rfl (z_inc i 1) (by decide) (zLvf_h rfl) (fun ls hl => ?_)
          refine lv_goto (tgt := 26) hx hb dX7_lookAtWhole_77 (by decide) ?_
          have hw_40 : bLand T rl cr inn k1 k2 k3 k4 [zO4 rl cr inn a1_1 a2_2 a3_3 a4_4, zAr T 0 a1_1 7 k1, zAr T 0 a2_2 28 k2, zAr T 0 a3_3 7 k3, zAr T 0 a4_4 7 k4] := ⟨a1_1, a2_2, a3_3, a4_4, rfl⟩
          have G : zS T A s.heap s [[zO4 rl cr inn a1_1 a2_2 a3_3 a4_4, zAr T 0 a1_1 7 k1, zAr T 0 a2_2 28 k2, zAr T 0 a3_3 7 k3, zAr T 0 a4_4 7 k4], [zO7 rd rl rdd rg u0_35 u1_36 tp r2 r3 r4 r5 r6 r7 r8]] _ _ := G.re rfl
          exact ih_26 (i + 1) u0_35 u1_36 (show (i + 1) ≤ 7 ∧ zLook k1 k3 (i + 1) r2 u0_21 u1_22 u0_35 u1_36 from ⟨by omega, (zLook_b hlk hbad h_37 h_38)⟩) (show 7 - (i + 1) < 7 - i from by omega) _ _ ls G (lv_sub hl [0, 1] rfl)

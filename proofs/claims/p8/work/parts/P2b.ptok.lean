theorem z_allS {P : Int32 → Bool} {f : Nat → Int32} {q x : Nat} (h : ∀ j, q ≤ j → j < x → P (f j) = true) (hx : P (f x) = true) : ∀ j, q ≤ j → j < x + 1 → P (f j) = true := by
  intro j h1 h2
  by_cases e : j = x
  · rw [e]; exact hx
  · exact h j h1 (by omega)
theorem z_digV {f : Nat → Int32} {q x : Nat} {y y1 : Int32} (hq : q ≤ x) (hall : ∀ j, q ≤ j → j < x → tkD (f j) = true) (hd : tkD (f x) = true) (hv : x ≤ q + 2 → y.toInt = tkV f q x) (e : y1.toInt = y.toInt * 10 + (f x).toInt - 48) : x + 1 ≤ q + 2 → (if (1000 : Int32) < y1 then (1000 : Int32) else y1).toInt = tkV f q (x + 1) := by
  intro h
  have a := tkV_s (g := f) hq (by omega)
  have b := tkV_bd (z_allS hall hd) (by omega) h
  have c := hv (by omega)
  have d : y1.toInt = tkV f q (x + 1) := by omega
  rw [if_neg (fun z => by have z2 : (1000 : Int) < y1.toInt := (fa_lt _ _).mp z; omega)]
  exact d
theorem zChar_b : ∀ i, i < 12 → ∀ k, k < zLen.getD i 0 → zChar i k = (zByt.getD i []).getD k 0 := by decide +kernel
theorem zWI_fl {g : Nat → Int32} {w e i : Nat} (h : ¬ e - w = zLen.getD i 0) : zWI g w e i = false := by unfold zWI; exact decide_eq_false (fun q => h q.1)
theorem zWI_fb {g : Nat → Int32} {w e i k : Nat} (hi : i < 12) (hk : k < zLen.getD i 0) (h : ¬ g (w + k) = zChar i k) : zWI g w e i = false := by unfold zWI; exact decide_eq_false (fun q => h ((q.2 k hk).trans (zChar_b i hi k hk).symm))
theorem zWI_t {g : Nat → Int32} {w e i : Nat} (h : e - w = zLen.getD i 0) (h2 : ∀ j, j < zLen.getD i 0 → g (w + j) = (zByt.getD i []).getD j 0) : zWI g w e i = true := by unfold zWI; exact decide_eq_true ⟨h, h2⟩
theorem z_allE {f : Nat → Int32} {w i k : Nat} (h : ∀ j, j < k → f (w + j) = (zByt.getD i []).getD j 0) (hx : f (w + k) = (zByt.getD i []).getD k 0) : ∀ j, j < k + 1 → f (w + j) = (zByt.getD i []).getD j 0 := by
  intro j h1
  by_cases e : j = k
  · rw [e]; exact hx
  · exact h j (by omega)
def zNo (i : Nat) : Nat := [1, 2, 3, 4, 11, 12, 5, 6, 7, 8, 9, 10].getD i 0
theorem zWI_u {g : Nat → Int32} {w e i j : Nat} (hi : i < 12) (hj : j < 12) (h1 : zWI g w e i = true) (h2 : zWI g w e j = true) : i = j := by
  unfold zWI at h1 h2
  have a := of_decide_eq_true h1
  have b := of_decide_eq_true h2
  have key : ∀ i, i < 12 → ∀ j, j < 12 → i = j ∨ ¬ zLen.getD i 0 = zLen.getD j 0 ∨ ∃ k, k < zLen.getD i 0 ∧ ¬ (zByt.getD i []).getD k 0 = (zByt.getD j []).getD k 0 := by decide +kernel
  rcases key i hi j hj with c | c | ⟨k, c1, c2⟩
  · exact c
  · exact absurd (a.1.symm.trans b.1) c
  · have e1 : zLen.getD i 0 = zLen.getD j 0 := a.1.symm.trans b.1
    exact absurd ((a.2 k c1).symm.trans (b.2 k (by omega))) c2
theorem zWd_c (g : Nat → Int32) (w e : Nat) : (∃ i, i < 12 ∧ zWI g w e i = true ∧ zWordAt g w e = zNo i) ∨ zWordAt g w e = 99 := by
  unfold zWordAt
  by_cases h0 : zWI g w e 0 = true
  · exact Or.inl ⟨0, by decide, h0, if_pos h0⟩
  rw [if_neg h0]
  by_cases h1 : zWI g w e 1 = true
  · exact Or.inl ⟨1, by decide, h1, if_pos h1⟩
  rw [if_neg h1]
  by_cases h2 : zWI g w e 2 = true
  · exact Or.inl ⟨2, by decide, h2, if_pos h2⟩
  rw [if_neg h2]
  by_cases h3 : zWI g w e 3 = true
  · exact Or.inl ⟨3, by decide, h3, if_pos h3⟩
  rw [if_neg h3]
  by_cases h6 : zWI g w e 6 = true
  · exact Or.inl ⟨6, by decide, h6, if_pos h6⟩
  rw [if_neg h6]
  by_cases h7 : zWI g w e 7 = true
  · exact Or.inl ⟨7, by decide, h7, if_pos h7⟩
  rw [if_neg h7]
  by_cases h8 : zWI g w e 8 = true
  · exact Or.inl ⟨8, by decide, h8, if_pos h8⟩
  rw [if_neg h8]
  by_cases h9 : zWI g w e 9 = true
  · exact Or.inl ⟨9, by decide, h9, if_pos h9⟩
  rw [if_neg h9]
  by_cases h10 : zWI g w e 10 = true
  · exact Or.inl ⟨10, by decide, h10, if_pos h10⟩
  rw [if_neg h10]
  by_cases h11 : zWI g w e 11 = true
  · exact Or.inl ⟨11, by decide, h11, if_pos h11⟩
  rw [if_neg h11]
  by_cases h4 : zWI g w e 4 = true
  · exact Or.inl ⟨4, by decide, h4, if_pos h4⟩
  rw [if_neg h4]
  by_cases h5 : zWI g w e 5 = true
  · exact Or.inl ⟨5, by decide, h5, if_pos h5⟩
  exact Or.inr (if_neg h5)
theorem zNo_u : ∀ i, i < 12 → ∀ j, j < 12 → zNo i = zNo j → i = j := by decide +kernel
theorem zNo_99 : ∀ i, i < 12 → ¬ zNo i = 99 := by decide +kernel
theorem zWd_t {g : Nat → Int32} {w e i : Nat} (hi : i < 12) (h : zWI g w e i = true) : zWordAt g w e = zNo i := by
  rcases zWd_c g w e with ⟨j, hj, a, b⟩ | b
  · rw [b, zWI_u hi hj h a]
  · have key : ∀ i, i < 12 → zWI g w e i = true → ¬ zWordAt g w e = 99 := by
      intro i hi h
      unfold zWordAt
      rcases (show i = 0 ∨ i = 1 ∨ i = 2 ∨ i = 3 ∨ i = 4 ∨ i = 5 ∨ i = 6 ∨ i = 7 ∨ i = 8 ∨ i = 9 ∨ i = 10 ∨ i = 11 by omega) with q | q | q | q | q | q | q | q | q | q | q | q <;> subst q <;> simp only [h, if_true] <;> (repeat' split) <;> decide
    exact absurd b (key i hi h)
theorem zWd_f {g : Nat → Int32} {w e i : Nat} (hi : i < 12) (h : zWI g w e i = false) : ¬ zWordAt g w e = zNo i := by
  intro q
  rcases zWd_c g w e with ⟨j, hj, a, b⟩ | b
  · rw [zNo_u i hi j hj (q.symm.trans b), a] at h
    cases h
  · exact zNo_99 i hi (q.symm.trans b)
/-- a word's number among those of a sort, as the program counts them -/
def zWc (s wd : Nat) : Int32 := if s = 0 then (if 1 ≤ wd ∧ wd ≤ 4 then Int32.ofNat (wd - 1) else -1) else if s = 1 then (if 5 ≤ wd ∧ wd ≤ 10 then Int32.ofNat (wd - 5) else -1) else (if 11 ≤ wd ∧ wd ≤ 12 then Int32.ofNat (wd - 11) else -1)
theorem zWc_0 {wd : Nat} (h0 : ¬ wd = 1) (h1 : ¬ wd = 2) (h2 : ¬ wd = 3) (h3 : ¬ wd = 4) : (-1 : Int32) = zWc 0 wd := by unfold zWc; rw [if_pos rfl, if_neg (by omega)]
theorem zWc_1 {wd : Nat} (h0 : ¬ wd = 5) (h1 : ¬ wd = 6) (h2 : ¬ wd = 7) (h3 : ¬ wd = 8) (h4 : ¬ wd = 9) (h5 : ¬ wd = 10) : (-1 : Int32) = zWc 1 wd := by unfold zWc; rw [if_neg (by decide), if_pos rfl, if_neg (by omega)]
theorem zWc_2 {wd : Nat} (h0 : ¬ wd = 11) (h1 : ¬ wd = 12) : (-1 : Int32) = zWc 2 wd := by unfold zWc; rw [if_neg (by decide), if_neg (by decide), if_neg (by omega)]
set_option maxHeartbeats 4000000 in
set_option maxRecDepth 100000 in
/-- c_f_isBlank -/
theorem c_f_isBlank (l : Launch) (T : zTy) (x : Int32) : zMi l T yX7_isBlank cX7_isBlank 1 (some .boolean) 1 0 0 [.int x] [] (fun (r : Int32) bs => bs = [] ∧ ((r = 1 ∧ tkB x = true) ∨ (r = 0 ∧ tkB x = false))) := by
  refine zMi_of (own := RX7) (by decide) rfl (Nat.le_of_ble_eq_true rfl) ?_
  intro p e s m args below meth c A ls C hr hlocks hnm hAe G hl
  have hx := C.1
  have hb := C.2.1
  have hl : lv_has ls 1 [(0, .int x)] := hl
  refine lv_iload_n hx hb dX7_isBlank_0 rfl (lv_at hl 0 rfl) ?_
  refine lv_bipush (v := 10) hx hb dX7_isBlank_1 (by decide) ?_
  refine lv_icmp_eq (tgt := 12) hx hb dX7_isBlank_3 (by decide) (fun c_1 => ?_) (fun c_1 => ?_)
  · have c_1n : x.toInt = (10 : Int) := (fa_eq _ _).mp c_1
    refine lv_iconst (v := 1) hx hb dX7_isBlank_12 (by decide) ?_
    refine lv_goto (tgt := 17) hx hb dX7_isBlank_13 (by decide) ?_
    exact z_zret C hr hlocks G (Nat.le_of_ble_eq_true rfl) (Nat.le_of_ble_eq_true rfl) dX7_isBlank_17 rfl ⟨rfl, (Or.inl (⟨rfl, (tkB_iff.mpr (by omega))⟩))⟩
  · have c_1n : ¬ x.toInt = (10 : Int) := fun q => c_1 ((fa_eq _ _).mpr q)
    refine lv_iload_n hx hb dX7_isBlank_6 rfl (lv_at hl 0 rfl) ?_
    refine lv_bipush (v := 32) hx hb dX7_isBlank_7 (by decide) ?_
    refine lv_icmp_ne (tgt := 16) hx hb dX7_isBlank_9 (by decide) (fun c_2 => ?_) (fun c_2 => ?_)
    · have c_2n : ¬ x.toInt = (32 : Int) := fun q => c_2 ((fa_eq _ _).mpr q)
      refine lv_iconst (v := 0) hx hb dX7_isBlank_16 (by decide) ?_
      exact z_zret C hr hlocks G (Nat.le_of_ble_eq_true rfl) (Nat.le_of_ble_eq_true rfl) dX7_isBlank_17 rfl ⟨rfl, (Or.inr (⟨rfl, (tkB_f (by omega) (by omega))⟩))⟩
    · have c_2n : x.toInt = (32 : Int) := (fa_eq _ _).mp c_2
      refine lv_iconst (v := 1) hx hb dX7_isBlank_12 (by decide) ?_
      refine lv_goto (tgt := 17) hx hb dX7_isBlank_13 (by decide) ?_
      exact z_zret C hr hlocks G (Nat.le_of_ble_eq_true rfl) (Nat.le_of_ble_eq_true rfl) dX7_isBlank_17 rfl ⟨rfl, (Or.inl (⟨rfl, (tkB_iff.mpr (by omega))⟩))⟩
set_option maxHeartbeats 4000000 in
set_option maxRecDepth 100000 in
/-- c_f_isLetter -/
theorem c_f_isLetter (l : Launch) (T : zTy) (x : Int32) : zMi l T yX7_isLetter cX7_isLetter 1 (some .boolean) 1 0 0 [.int x] [] (fun (r : Int32) bs => bs = [] ∧ ((r = 1 ∧ tkL x = true) ∨ (r = 0 ∧ tkL x = false))) := by
  refine zMi_of (own := RX7) (by decide) rfl (Nat.le_of_ble_eq_true rfl) ?_
  intro p e s m args below meth c A ls C hr hlocks hnm hAe G hl
  have hx := C.1
  have hb := C.2.1
  have hl : lv_has ls 1 [(0, .int x)] := hl
  refine lv_iload_n hx hb dX7_isLetter_0 rfl (lv_at hl 0 rfl) ?_
  refine lv_bipush (v := 97) hx hb dX7_isLetter_1 (by decide) ?_
  refine lv_icmp_lt (tgt := 16) hx hb dX7_isLetter_3 (by decide) (fun c_1 => ?_) (fun c_1 => ?_)
  · have c_1n : x.toInt < (97 : Int) := (fa_lt _ _).mp c_1
    refine lv_iconst (v := 0) hx hb dX7_isLetter_16 (by decide) ?_
    exact z_zret C hr hlocks G (Nat.le_of_ble_eq_true rfl) (Nat.le_of_ble_eq_true rfl) dX7_isLetter_17 rfl ⟨rfl, (Or.inr (⟨rfl, (tkL_f (by omega))⟩))⟩
  · have c_1n : ¬ x.toInt < (97 : Int) := fun q => c_1 ((fa_lt _ _).mpr q)
    refine lv_iload_n hx hb dX7_isLetter_6 rfl (lv_at hl 0 rfl) ?_
    refine lv_bipush (v := 122) hx hb dX7_isLetter_7 (by decide) ?_
    refine lv_icmp_gt (tgt := 16) hx hb dX7_isLetter_9 (by decide) (fun c_2 => ?_) (fun c_2 => ?_)
    · have c_2n : (122 : Int) < x.toInt := (fa_lt _ _).mp c_2
      refine lv_iconst (v := 0) hx hb dX7_isLetter_16 (by decide) ?_
      exact z_zret C hr hlocks G (Nat.le_of_ble_eq_true rfl) (Nat.le_of_ble_eq_true rfl) dX7_isLetter_17 rfl ⟨rfl, (Or.inr (⟨rfl, (tkL_f (by omega))⟩))⟩
    · have c_2n : ¬ (122 : Int) < x.toInt := fun q => c_2 ((fa_lt _ _).mpr q)
      refine lv_iconst (v := 1) hx hb dX7_isLetter_12 (by decide) ?_
      refine lv_goto (tgt := 17) hx hb dX7_isLetter_13 (by decide) ?_
      exact z_zret C hr hlocks G (Nat.le_of_ble_eq_true rfl) (Nat.le_of_ble_eq_true rfl) dX7_isLetter_17 rfl ⟨rfl, (Or.inl (⟨rfl, (tkL_iff.mpr (by omega))⟩))⟩
set_option maxHeartbeats 4000000 in
set_option maxRecDepth 100000 in
/-- c_f_isDigit -/
theorem c_f_isDigit (l : Launch) (T : zTy) (x : Int32) : zMi l T yX7_isDigit cX7_isDigit 1 (some .boolean) 1 0 0 [.int x] [] (fun (r : Int32) bs => bs = [] ∧ ((r = 1 ∧ tkD x = true) ∨ (r = 0 ∧ tkD x = false))) := by
  refine zMi_of (own := RX7) (by decide) rfl (Nat.le_of_ble_eq_true rfl) ?_
  intro p e s m args below meth c A ls C hr hlocks hnm hAe G hl
  have hx := C.1
  have hb := C.2.1
  have hl : lv_has ls 1 [(0, .int x)] := hl
  refine lv_iload_n hx hb dX7_isDigit_0 rfl (lv_at hl 0 rfl) ?_
  refine lv_bipush (v := 48) hx hb dX7_isDigit_1 (by decide) ?_
  refine lv_icmp_lt (tgt := 16) hx hb dX7_isDigit_3 (by decide) (fun c_1 => ?_) (fun c_1 => ?_)
  · have c_1n : x.toInt < (48 : Int) := (fa_lt _ _).mp c_1
    refine lv_iconst (v := 0) hx hb dX7_isDigit_16 (by decide) ?_
    exact z_zret C hr hlocks G (Nat.le_of_ble_eq_true rfl) (Nat.le_of_ble_eq_true rfl) dX7_isDigit_17 rfl ⟨rfl, (Or.inr (⟨rfl, (tkD_f (by omega))⟩))⟩
  · have c_1n : ¬ x.toInt < (48 : Int) := fun q => c_1 ((fa_lt _ _).mpr q)
    refine lv_iload_n hx hb dX7_isDigit_6 rfl (lv_at hl 0 rfl) ?_
    refine lv_bipush (v := 57) hx hb dX7_isDigit_7 (by decide) ?_
    refine lv_icmp_gt (tgt := 16) hx hb dX7_isDigit_9 (by decide) (fun c_2 => ?_) (fun c_2 => ?_)
    · have c_2n : (57 : Int) < x.toInt := (fa_lt _ _).mp c_2
      refine lv_iconst (v := 0) hx hb dX7_isDigit_16 (by decide) ?_
      exact z_zret C hr hlocks G (Nat.le_of_ble_eq_true rfl) (Nat.le_of_ble_eq_true rfl) dX7_isDigit_17 rfl ⟨rfl, (Or.inr (⟨rfl, (tkD_f (by omega))⟩))⟩
    · have c_2n : ¬ (57 : Int) < x.toInt := fun q => c_2 ((fa_lt _ _).mpr q)
      refine lv_iconst (v := 1) hx hb dX7_isDigit_12 (by decide) ?_
      refine lv_goto (tgt := 17) hx hb dX7_isDigit_13 (by decide) ?_
      exact z_zret C hr hlocks G (Nat.le_of_ble_eq_true rfl) (Nat.le_of_ble_eq_true rfl) dX7_isDigit_17 rfl ⟨rfl, (Or.inl (⟨rfl, (tkD_iff.mpr (by omega))⟩))⟩
set_option maxHeartbeats 4000000 in
set_option maxRecDepth 100000 in
/-- c_f_takeLetters -/
theorem c_f_takeLetters (l : Launch) (T : zTy) (rd : Nat) (rl : Nat) (rdd : Nat) (rg : Nat) (tp : Nat) (r0 : Int32) (r1 : Int32) (r2 : Int32) (r3 : Int32) (r4 : Int32) (r5 : Int32) (r6 : Int32) (r7 : Int32) (r8 : Int32) (ft : Nat → Int32) (q : Nat) (n : Nat) (hp : r3 = nI q) (hqn : q ≤ n) (hn : r2 = nI n) (hn6 : n ≤ 600) : zMv l T yX7_takeLetters cX7_takeLetters 1 2 0 0 [.ref rd] [[(rd, .inr (7, [.ref rl, .ref rdd, .ref rg, .int r0, .int r1, .ref tp, .int r2, .int r3, .int r4, .int r5, .int r6, .int r7, .int r8]))], [(tp, .inl (T.2 1, 600, .inl ft))]] (fun bs => ∃ (u3 : Int32) (u4 : Int32), bs = [[(rd, .inr (7, [.ref rl, .ref rdd, .ref rg, .int r0, .int r1, .ref tp, .int r2, .int u3, .int u4, .int r5, .int r6, .int r7, .int r8]))], [(tp, .inl (T.2 1, 600, .inl ft))]] ∧ u3 = nI (zEnd tkL ft n q) ∧ u4 = 1) := by
  refine zMv_of (own := RX7) (by decide) rfl (Nat.le_of_ble_eq_true rfl) ?_
  intro p e s m args below meth c A ls C hr hlocks hnm hAe G hl
  have hx := C.1
  have hb := C.2.1
  have hl : lv_has ls 1 [(0, .ref rd)] := hl
  subst hp
  subst hn
  refine lv_aload_n hx hb dX7_takeLetters_0 rfl (lv_at hl 0 rfl) ?_
  refine lv_iconst (v := 1) hx hb dX7_takeLetters_1 (by decide) ?_
  refine z_put C G clX7 0 rfl 8 (by decide) m_fl_RX7_74 rfl rfl rfl (Nat.le_of_ble_eq_true rfl) dX7_takeLetters_2 (fun H locs G => ?_)
  have G : zS T A s.heap s [[(rd, .inr (7, [.ref rl, .ref rdd, .ref rg, .int r0, .int r1, .ref tp, .int (nI n), .int (nI q), .int 1, .int r5, .int r6, .int r7, .int r8]))], [(tp, .inl (T.2 1, 600, .inl ft))]] _ _ := G
  refine z_loop (T := T) (α := Nat) 5 (fun x => [[(rd, .inr (7, [.ref rl, .ref rdd, .ref rg, .int r0, .int r1, .ref tp, .int (nI n), .int (nI x), .int 1, .int r5, .int r6, .int r7, .int r8]))], [(tp, .inl (T.2 1, 600, .inl ft))]]) (fun x => [(0, .ref rd)]) (fun x => (q ≤ x ∧ x ≤ n) ∧ (∀ j, q ≤ j → j < x → tkL (ft j) = true)) (fun x => n - x) ?_ q (show (q ≤ q ∧ q ≤ n) ∧ (∀ j, q ≤ j → j < q → tkL (ft j) = true) from ⟨(by omega), (fun j h1 h2 => by omega)⟩) G (lv_sub hl [0] rfl)
  rintro x ⟨hxq, hall⟩ ih_5 H locs ls G hl
  replace hxq : (q ≤ x ∧ x ≤ n) := hxq
  replace hall : (∀ j, q ≤ j → j < x → tkL (ft j) = true) := hall
  replace G : zS T A s.heap s [[(rd, .inr (7, [.ref rl, .ref rdd, .ref rg, .int r0, .int r1, .ref tp, .int (nI n), .int (nI x), .int 1, .int r5, .int r6, .int r7, .int r8]))], [(tp, .inl (T.2 1, 600, .inl ft))]] _ _ := G
  replace hl : lv_has ls 1 [(0, .ref rd)] := hl
  refine lv_aload_n hx hb dX7_takeLetters_5 rfl (lv_at hl 0 rfl) ?_
  refine z_get C G clX7 0 rfl 7 (by decide) m_fl_RX7_46 rfl dX7_takeLetters_6 ?_
  refine lv_aload_n hx hb dX7_takeLetters_9 rfl (lv_at hl 0 rfl) ?_
  refine z_get C G clX7 0 rfl 6 (by decide) m_fl_RX7_42 rfl dX7_takeLetters_10 ?_
  refine lv_icmp_ge (tgt := 44) hx hb dX7_takeLetters_13 (by decide) (fun c_1 => ?_) (fun c_1 => ?_)
  · have c_1n : n ≤ x := (nI_leI (a := n) (b := x) (by omega) (by omega)).mp c_1
    have hE : x = zEnd tkL ft n q := zRun_eq ⟨hxq.1, Or.inl hxq.2, hall, fun h9 => by first | omega | assumption⟩
    exact z_vret C hr hlocks G (Nat.le_of_ble_eq_true rfl) (Nat.le_of_ble_eq_true rfl) dX7_takeLetters_44 ⟨(nI x), 1, rfl, (congrArg nI hE), rfl⟩
  · have c_1n : ¬ n ≤ x := fun q => c_1 ((nI_leI (a := n) (b := x) (by omega) (by omega)).mpr q)
    refine lv_aload_n hx hb dX7_takeLetters_16 rfl (lv_at hl 0 rfl) ?_
    refine z_get C G clX7 0 rfl 5 (by decide) m_fl_RX7_32 rfl dX7_takeLetters_17 ?_
    refine lv_aload_n hx hb dX7_takeLetters_20 rfl (lv_at hl 0 rfl) ?_
    refine z_get C G clX7 0 rfl 7 (by decide) m_fl_RX7_46 rfl dX7_takeLetters_21 ?_
    refine z_bld C G 1 rfl (vp_in_nI (by omega) (by omega)) dX7_takeLetters_24 ?_
    refine lv_topi (fun v_2 ev_2 => ?_)
    rw [nI_clamp (by omega)] at ev_2
    subst ev_2
    refine z_Si (bc := []) (br := [[(rd, .inr (7, [.ref rl, .ref rdd, .ref rg, .int r0, .int r1, .ref tp, .int (nI n), .int (nI x), .int 1, .int r5, .int r6, .int r7, .int r8]))], [(tp, .inl (T.2 1, 600, .inl ft))]]) (As := [.int (ft x)]) (rest := []) C G (c_f_isLetter l T (ft x)) (kS_RX7_148 C.2.2.2.2 (Nat.le_of_ble_eq_true rfl) (Nat.le_of_ble_eq_true rfl)) [] [0, 1] rfl rfl rfl rfl hl.1 dX7_takeLetters_25 (Nat.le_of_ble_eq_true rfl) (Nat.le_of_ble_eq_true rfl) (fun r_4 b1 H locs hw G => ?_)
    obtain ⟨rfl, hc_3⟩ := hw
    have G : zS T A s.heap s [[(rd, .inr (7, [.ref rl, .ref rdd, .ref rg, .int r0, .int r1, .ref tp, .int (nI n), .int (nI x), .int 1, .int r5, .int r6, .int r7, .int r8]))], [(tp, .inl (T.2 1, 600, .inl ft))]] _ _ := G
    rcases hc_3 with ⟨rfl, h_5⟩ | ⟨rfl, h_6⟩
    · have h_5 : tkL (ft x) = true := h_5
      refine lv_if_eq (tgt := 44) hx hb dX7_takeLetters_28 (by decide) (fun q => absurd q (by decide)) (fun _ => ?_)
      refine lv_aload_n hx hb dX7_takeLetters_31 rfl (lv_at hl 0 rfl) ?_
      refine lv_dup hx hb dX7_takeLetters_32 rfl ?_
      refine z_get C G clX7 0 rfl 7 (by decide) m_fl_RX7_46 rfl dX7_takeLetters_33 ?_
      refine lv_iconst (v := 1) hx hb dX7_takeLetters_36 (by decide) ?_
      refine lv_iadd hx hb dX7_takeLetters_37 ?_
      refine lv_topi (fun y_7 ey_7 => ?_)
      obtain rfl : y_7 = nI (x + 1) := ey_7.trans (z_iaddn x 1 rfl rfl)
      refine z_put C G clX7 0 rfl 7 (by decide) m_fl_RX7_46 rfl rfl rfl (Nat.le_of_ble_eq_true rfl) dX7_takeLetters_38 (fun H locs G => ?_)
      have G : zS T A s.heap s [[(rd, .inr (7, [.ref rl, .ref rdd, .ref rg, .int r0, .int r1, .ref tp, .int (nI n), .int (nI (x + 1)), .int 1, .int r5, .int r6, .int r7, .int r8]))], [(tp, .inl (T.2 1, 600, .inl ft))]] _ _ := G
      refine lv_goto (tgt := 5) hx hb dX7_takeLetters_41 (by decide) ?_
      exact ih_5 (x + 1) (show (q ≤ (x + 1) ∧ (x + 1) ≤ n) ∧ (∀ j, q ≤ j → j < (x + 1) → tkL (ft j) = true) from ⟨(by omega), (z_allS hall (by assumption))⟩) (show n - (x + 1) < n - x from by omega) _ _ ls G (lv_sub hl [0] rfl)
    · have h_6 : tkL (ft x) = false := h_6
      refine lv_if_eq (tgt := 44) hx hb dX7_takeLetters_28 (by decide) (fun _ => ?_) (fun q => absurd (by decide) q)
      have hE : x = zEnd tkL ft n q := zRun_eq ⟨hxq.1, Or.inl hxq.2, hall, fun h9 => by first | omega | assumption⟩
      exact z_vret C hr hlocks G (Nat.le_of_ble_eq_true rfl) (Nat.le_of_ble_eq_true rfl) dX7_takeLetters_44 ⟨(nI x), 1, rfl, (congrArg nI hE), rfl⟩
set_option maxHeartbeats 4000000 in
set_option maxRecDepth 100000 in
/-- c_f_takeDigits -/
theorem c_f_takeDigits (l : Launch) (T : zTy) (rd : Nat) (rl : Nat) (rdd : Nat) (rg : Nat) (tp : Nat) (r0 : Int32) (r1 : Int32) (r2 : Int32) (r3 : Int32) (r4 : Int32) (r5 : Int32) (r6 : Int32) (r7 : Int32) (r8 : Int32) (ft : Nat → Int32) (q : Nat) (n : Nat) (hp : r3 = nI q) (hpl : r5 = nI q) (hqn : q ≤ n) (hn : r2 = nI n) (hn6 : n ≤ 600) : zMv l T yX7_takeDigits cX7_takeDigits 1 2 0 0 [.ref rd] [[(rd, .inr (7, [.ref rl, .ref rdd, .ref rg, .int r0, .int r1, .ref tp, .int r2, .int r3, .int r4, .int r5, .int r6, .int r7, .int r8]))], [(tp, .inl (T.2 1, 600, .inl ft))]] (fun bs => ∃ (u3 : Int32) (u4 : Int32) (u6 : Int32), bs = [[(rd, .inr (7, [.ref rl, .ref rdd, .ref rg, .int r0, .int r1, .ref tp, .int r2, .int u3, .int u4, .int r5, .int u6, .int r7, .int r8]))], [(tp, .inl (T.2 1, 600, .inl ft))]] ∧ u3 = nI (zEnd tkD ft n q) ∧ u4 = nI (if zEnd tkD ft n q - q ≤ 2 then 2 else 4) ∧ (zEnd tkD ft n q - q ≤ 2 → u6 = Int32.ofInt (tkV ft q (zEnd tkD ft n q)))) := by
  refine zMv_of (own := RX7) (by decide) rfl (Nat.le_of_ble_eq_true rfl) ?_
  intro p e s m args below meth c A ls C hr hlocks hnm hAe G hl
  have hx := C.1
  have hb := C.2.1
  have hl : lv_has ls 1 [(0, .ref rd)] := hl
  subst hp
  subst hpl
  subst hn
  refine lv_aload_n hx hb dX7_takeDigits_0 rfl (lv_at hl 0 rfl) ?_
  refine lv_iconst (v := 0) hx hb dX7_takeDigits_1 (by decide) ?_
  refine z_put C G clX7 0 rfl 10 (by decide) m_fl_RX7_141 rfl rfl rfl (Nat.le_of_ble_eq_true rfl) dX7_takeDigits_2 (fun H locs G => ?_)
  have G : zS T A s.heap s [[(rd, .inr (7, [.ref rl, .ref rdd, .ref rg, .int r0, .int r1, .ref tp, .int (nI n), .int (nI q), .int r4, .int (nI q), .int 0, .int r7, .int r8]))], [(tp, .inl (T.2 1, 600, .inl ft))]] _ _ := G
  refine z_loop (T := T) (α := Nat × Int32) 5 (fun (x, y) => [[(rd, .inr (7, [.ref rl, .ref rdd, .ref rg, .int r0, .int r1, .ref tp, .int (nI n), .int (nI x), .int r4, .int (nI q), .int y, .int r7, .int r8]))], [(tp, .inl (T.2 1, 600, .inl ft))]]) (fun (x, y) => [(0, .ref rd)]) (fun (x, y) => (q ≤ x ∧ x ≤ n) ∧ (∀ j, q ≤ j → j < x → tkD (ft j) = true) ∧ (x ≤ q + 2 → y.toInt = tkV ft q x) ∧ (0 ≤ y.toInt ∧ y.toInt ≤ 1000)) (fun (x, y) => n - x) ?_ (q, 0) (show (q ≤ q ∧ q ≤ n) ∧ (∀ j, q ≤ j → j < q → tkD (ft j) = true) ∧ (q ≤ q + 2 → (0 : Int32).toInt = tkV ft q q) ∧ (0 ≤ (0 : Int32).toInt ∧ (0 : Int32).toInt ≤ 1000) from ⟨(by omega), (fun j h1 h2 => by omega), (fun _ => (tkV_0 rfl).symm), (by decide)⟩) G (lv_sub hl [0] rfl)
  rintro ⟨x, y⟩ ⟨hxq, hall, hv, hy⟩ ih_5 H locs ls G hl
  replace hxq : (q ≤ x ∧ x ≤ n) := hxq
  replace hall : (∀ j, q ≤ j → j < x → tkD (ft j) = true) := hall
  replace hv : (x ≤ q + 2 → y.toInt = tkV ft q x) := hv
  replace hy : (0 ≤ y.toInt ∧ y.toInt ≤ 1000) := hy
  replace G : zS T A s.heap s [[(rd, .inr (7, [.ref rl, .ref rdd, .ref rg, .int r0, .int r1, .ref tp, .int (nI n), .int (nI x), .int r4, .int (nI q), .int y, .int r7, .int r8]))], [(tp, .inl (T.2 1, 600, .inl ft))]] _ _ := G
  replace hl : lv_has ls 1 [(0, .ref rd)] := hl
  refine lv_aload_n hx hb dX7_takeDigits_5 rfl (lv_at hl 0 rfl) ?_
  refine z_get C G clX7 0 rfl 7 (by decide) m_fl_RX7_46 rfl dX7_takeDigits_6 ?_
  refine lv_aload_n hx hb dX7_takeDigits_9 rfl (lv_at hl 0 rfl) ?_
  refine z_get C G clX7 0 rfl 6 (by decide) m_fl_RX7_42 rfl dX7_takeDigits_10 ?_
  refine lv_icmp_ge (tgt := 74) hx hb dX7_takeDigits_13 (by decide) (fun c_1 => ?_) (fun c_1 => ?_)
  · have c_1n : n ≤ x := (nI_leI (a := n) (b := x) (by omega) (by omega)).mp c_1
    have hE : x = zEnd tkD ft n q := zRun_eq ⟨hxq.1, Or.inl hxq.2, hall, fun h9 => by first | omega | assumption⟩
    refine lv_aload_n hx hb dX7_takeDigits_74 rfl (lv_at hl 0 rfl) ?_
    refine lv_aload_n hx hb dX7_takeDigits_75 rfl (lv_at hl 0 rfl) ?_
    refine z_get C G clX7 0 rfl 7 (by decide) m_fl_RX7_46 rfl dX7_takeDigits_76 ?_
    refine lv_aload_n hx hb dX7_takeDigits_79 rfl (lv_at hl 0 rfl) ?_
    refine z_get C G clX7 0 rfl 9 (by decide) m_fl_RX7_84 rfl dX7_takeDigits_80 ?_
    refine lv_isub hx hb dX7_takeDigits_83 ?_
    refine lv_topi (fun y_2 ey_2 => ?_)
    have ey_2i : y_2.toInt = (x : Int) - (q : Int) := by rw [ey_2]; exact (z_isubI (x := (nI x)) (y := (nI q)) (by rw [nI_toInt (n := x) (by omega), nI_toInt (n := q) (by omega)]; show -2147483648 ≤ (x : Int) - (q : Int); omega) (by rw [nI_toInt (n := x) (by omega), nI_toInt (n := q) (by omega)]; show (x : Int) - (q : Int) < 2147483648; omega)).trans (by rw [nI_toInt (n := x) (by omega), nI_toInt (n := q) (by omega)] <;> rfl)
    refine lv_iconst (v := 2) hx hb dX7_takeDigits_84 (by decide) ?_
    refine lv_icmp_gt (tgt := 92) hx hb dX7_takeDigits_85 (by decide) (fun c_3 => ?_) (fun c_3 => ?_)
    · have c_3n : (2 : Int) < y_2.toInt := (fa_lt _ _).mp c_3
      refine lv_iconst (v := 4) hx hb dX7_takeDigits_92 (by decide) ?_
      refine z_put C G clX7 0 rfl 8 (by decide) m_fl_RX7_74 rfl rfl rfl (Nat.le_of_ble_eq_true rfl) dX7_takeDigits_93 (fun H locs G => ?_)
      have G : zS T A s.heap s [[(rd, .inr (7, [.ref rl, .ref rdd, .ref rg, .int r0, .int r1, .ref tp, .int (nI n), .int (nI x), .int 4, .int (nI q), .int y, .int r7, .int r8]))], [(tp, .inl (T.2 1, 600, .inl ft))]] _ _ := G
      exact z_vret C hr hlocks G (Nat.le_of_ble_eq_true rfl) (Nat.le_of_ble_eq_true rfl) dX7_takeDigits_96 ⟨(nI x), 4, y, rfl, (congrArg nI hE), (by rw [← hE, if_neg (by omega)]; rfl), (fun h9 => tk_of (by rw [← hE] at h9 ⊢; exact hv (by omega)))⟩
    · have c_3n : ¬ (2 : Int) < y_2.toInt := fun q => c_3 ((fa_lt _ _).mpr q)
      refine lv_iconst (v := 2) hx hb dX7_takeDigits_88 (by decide) ?_
      refine lv_goto (tgt := 93) hx hb dX7_takeDigits_89 (by decide) ?_
      refine z_put C G clX7 0 rfl 8 (by decide) m_fl_RX7_74 rfl rfl rfl (Nat.le_of_ble_eq_true rfl) dX7_takeDigits_93 (fun H locs G => ?_)
      have G : zS T A s.heap s [[(rd, .inr (7, [.ref rl, .ref rdd, .ref rg, .int r0, .int r1, .ref tp, .int (nI n), .int (nI x), .int 2, .int (nI q), .int y, .int r7, .int r8]))], [(tp, .inl (T.2 1, 600, .inl ft))]] _ _ := G
      exact z_vret C hr hlocks G (Nat.le_of_ble_eq_true rfl) (Nat.le_of_ble_eq_true rfl) dX7_takeDigits_96 ⟨(nI x), 2, y, rfl, (congrArg nI hE), (by rw [← hE, if_pos (by omega)]; rfl), (fun h9 => tk_of (by rw [← hE] at h9 ⊢; exact hv (by omega)))⟩
  · have c_1n : ¬ n ≤ x := fun q => c_1 ((nI_leI (a := n) (b := x) (by omega) (by omega)).mpr q)
    refine lv_aload_n hx hb dX7_takeDigits_16 rfl (lv_at hl 0 rfl) ?_
    refine z_get C G clX7 0 rfl 5 (by decide) m_fl_RX7_32 rfl dX7_takeDigits_17 ?_
    refine lv_aload_n hx hb dX7_takeDigits_20 rfl (lv_at hl 0 rfl) ?_
    refine z_get C G clX7 0 rfl 7 (by decide) m_fl_RX7_46 rfl dX7_takeDigits_21 ?_
    refine z_bld C G 1 rfl (vp_in_nI (by omega) (by omega)) dX7_takeDigits_24 ?_
    refine lv_topi (fun v_4 ev_4 => ?_)
    rw [nI_clamp (by omega)] at ev_4
    subst ev_4
    refine z_Si (bc := []) (br := [[(rd, .inr (7, [.ref rl, .ref rdd, .ref rg, .int r0, .int r1, .ref tp, .int (nI n), .int (nI x), .int r4, .int (nI q), .int y, .int r7, .int r8]))], [(tp, .inl (T.2 1, 600, .inl ft))]]) (As := [.int (ft x)]) (rest := []) C G (c_f_isDigit l T (ft x)) (kS_RX7_154 C.2.2.2.2 (Nat.le_of_ble_eq_true rfl) (Nat.le_of_ble_eq_true rfl)) [] [0, 1] rfl rfl rfl rfl hl.1 dX7_takeDigits_25 (Nat.le_of_ble_eq_true rfl) (Nat.le_of_ble_eq_true rfl) (fun r_6 b1 H locs hw G => ?_)
    obtain ⟨rfl, hc_5⟩ := hw
    have G : zS T A s.heap s [[(rd, .inr (7, [.ref rl, .ref rdd, .ref rg, .int r0, .int r1, .ref tp, .int (nI n), .int (nI x), .int r4, .int (nI q), .int y, .int r7, .int r8]))], [(tp, .inl (T.2 1, 600, .inl ft))]] _ _ := G
    rcases hc_5 with ⟨rfl, h_7⟩ | ⟨rfl, h_8⟩
    · have h_7 : tkD (ft x) = true := h_7
      have hd9 := tkD_iff.mp h_7
      refine lv_if_eq (tgt := 74) hx hb dX7_takeDigits_28 (by decide) (fun q => absurd q (by decide)) (fun _ => ?_)
      refine lv_aload_n hx hb dX7_takeDigits_31 rfl (lv_at hl 0 rfl) ?_
      refine lv_aload_n hx hb dX7_takeDigits_32 rfl (lv_at hl 0 rfl) ?_
      refine z_get C G clX7 0 rfl 10 (by decide) m_fl_RX7_141 rfl dX7_takeDigits_33 ?_
      refine lv_bipush (v := 10) hx hb dX7_takeDigits_36 (by decide) ?_
      refine lv_imul hx hb dX7_takeDigits_38 ?_
      refine lv_topi (fun y_9 ey_9 => ?_)
      have ey_9i : y_9.toInt = y.toInt * (10 : Int) := by rw [ey_9]; exact z_imulI (x := y) (y := (10 : Int32)) (by show -2147483648 ≤ y.toInt * (10 : Int); omega) (by show y.toInt * (10 : Int) < 2147483648; omega)
      refine lv_aload_n hx hb dX7_takeDigits_39 rfl (lv_at hl 0 rfl) ?_
      refine z_get C G clX7 0 rfl 5 (by decide) m_fl_RX7_32 rfl dX7_takeDigits_40 ?_
      refine lv_aload_n hx hb dX7_takeDigits_43 rfl (lv_at hl 0 rfl) ?_
      refine z_get C G clX7 0 rfl 7 (by decide) m_fl_RX7_46 rfl dX7_takeDigits_44 ?_
      refine z_bld C G 1 rfl (vp_in_nI (by omega) (by omega)) dX7_takeDigits_47 ?_
      refine lv_topi (fun v_10 ev_10 => ?_)
      rw [nI_clamp (by omega)] at ev_10
      subst ev_10
      refine lv_iadd hx hb dX7_takeDigits_48 ?_
      refine lv_topi (fun y_11 ey_11 => ?_)
      have ey_11i : y_11.toInt = y_9.toInt + (ft x).toInt := by rw [ey_11]; exact z_iaddI (x := y_9) (y := (ft x)) (by show -2147483648 ≤ y_9.toInt + (ft x).toInt; omega) (by show y_9.toInt + (ft x).toInt < 2147483648; omega)
      refine lv_bipush (v := 48) hx hb dX7_takeDigits_49 (by decide) ?_
      refine lv_isub hx hb dX7_takeDigits_51 ?_
      refine lv_topi (fun y_12 ey_12 => ?_)
      have ey_12i : y_12.toInt = y_11.toInt - (48 : Int) := by rw [ey_12]; exact z_isubI (x := y_11) (y := (48 : Int32)) (by show -2147483648 ≤ y_11.toInt - (48 : Int); omega) (by show y_11.toInt - (48 : Int) < 2147483648; omega)
      refine lv_sipush (v := 1000) hx hb dX7_takeDigits_52 (by decide) ?_
      refine va_mmin hx hb (C.2.2.1.trans hl.1.symm) C.2.2.2.1 (C.2.2.2.2 _ m_ml_RX7_36) (C.2.2.2.2 _ m_st_math_min) (C.2.2.2.2 _ m_ii_math) (C.2.2.2.2 _ m_co_math_min) (Nat.le_of_ble_eq_true rfl) (Nat.le_of_ble_eq_true rfl) (Nat.le_of_ble_eq_true rfl) (Nat.le_of_ble_eq_true rfl) dX7_takeDigits_55 ?_
      refine lv_topi (fun v_13 ev_13 => ?_)
      subst ev_13
      refine z_put C G clX7 0 rfl 10 (by decide) m_fl_RX7_141 rfl rfl rfl (Nat.le_of_ble_eq_true rfl) dX7_takeDigits_58 (fun H locs G => ?_)
      have G : zS T A s.heap s [[(rd, .inr (7, [.ref rl, .ref rdd, .ref rg, .int r0, .int r1, .ref tp, .int (nI n), .int (nI x), .int r4, .int (nI q), .int (if 1000 < y_12 then 1000 else y_12), .int r7, .int r8]))], [(tp, .inl (T.2 1, 600, .inl ft))]] _ _ := G
      refine lv_aload_n hx hb dX7_takeDigits_61 rfl (lv_at hl 0 rfl) ?_
      refine lv_dup hx hb dX7_takeDigits_62 rfl ?_
      refine z_get C G clX7 0 rfl 7 (by decide) m_fl_RX7_46 rfl dX7_takeDigits_63 ?_
      refine lv_iconst (v := 1) hx hb dX7_takeDigits_66 (by decide) ?_
      refine lv_iadd hx hb dX7_takeDigits_67 ?_
      refine lv_topi (fun y_14 ey_14 => ?_)
      obtain rfl : y_14 = nI (x + 1) := ey_14.trans (z_iaddn x 1 rfl rfl)
      refine z_put C G clX7 0 rfl 7 (by decide) m_fl_RX7_46 rfl rfl rfl (Nat.le_of_ble_eq_true rfl) dX7_takeDigits_68 (fun H locs G => ?_)
      have G : zS T A s.heap s [[(rd, .inr (7, [.ref rl, .ref rdd, .ref rg, .int r0, .int r1, .ref tp, .int (nI n), .int (nI (x + 1)), .int r4, .int (nI q), .int (if 1000 < y_12 then 1000 else y_12), .int r7, .int r8]))], [(tp, .inl (T.2 1, 600, .inl ft))]] _ _ := G
      refine lv_goto (tgt := 5) hx hb dX7_takeDigits_71 (by decide) ?_
      exact ih_5 ((x + 1), (if 1000 < y_12 then 1000 else y_12)) (show (q ≤ (x + 1) ∧ (x + 1) ≤ n) ∧ (∀ j, q ≤ j → j < (x + 1) → tkD (ft j) = true) ∧ ((x + 1) ≤ q + 2 → (if 1000 < y_12 then 1000 else y_12).toInt = tkV ft q (x + 1)) ∧ (0 ≤ (if 1000 < y_12 then 1000 else y_12).toInt ∧ (if 1000 < y_12 then 1000 else y_12).toInt ≤ 1000) from ⟨(by omega), (z_allS hall (by assumption)), (z_digV (y1 := y_12) hxq.1 hall (by assumption) hv (by omega)), (z_min1k (by omega))⟩) (show n - (x + 1) < n - x from by omega) _ _ ls G (lv_sub hl [0] rfl)
    · have h_8 : tkD (ft x) = false := h_8
      refine lv_if_eq (tgt := 74) hx hb dX7_takeDigits_28 (by decide) (fun _ => ?_) (fun q => absurd (by decide) q)
      have hE : x = zEnd tkD ft n q := zRun_eq ⟨hxq.1, Or.inl hxq.2, hall, fun h9 => by first | omega | assumption⟩
      refine lv_aload_n hx hb dX7_takeDigits_74 rfl (lv_at hl 0 rfl) ?_
      refine lv_aload_n hx hb dX7_takeDigits_75 rfl (lv_at hl 0 rfl) ?_
      refine z_get C G clX7 0 rfl 7 (by decide) m_fl_RX7_46 rfl dX7_takeDigits_76 ?_
      refine lv_aload_n hx hb dX7_takeDigits_79 rfl (lv_at hl 0 rfl) ?_
      refine z_get C G clX7 0 rfl 9 (by decide) m_fl_RX7_84 rfl dX7_takeDigits_80 ?_
      refine lv_isub hx hb dX7_takeDigits_83 ?_
      refine lv_topi (fun y_15 ey_15 => ?_)
      have ey_15i : y_15.toInt = (x : Int) - (q : Int) := by rw [ey_15]; exact (z_isubI (x := (nI x)) (y := (nI q)) (by rw [nI_toInt (n := x) (by omega), nI_toInt (n := q) (by omega)]; show -2147483648 ≤ (x : Int) - (q : Int); omega) (by rw [nI_toInt (n := x) (by omega), nI_toInt (n := q) (by omega)]; show (x : Int) - (q : Int) < 2147483648; omega)).trans (by rw [nI_toInt (n := x) (by omega), nI_toInt (n := q) (by omega)] <;> rfl)
      refine lv_iconst (v := 2) hx hb dX7_takeDigits_84 (by decide) ?_
      refine lv_icmp_gt (tgt := 92) hx hb dX7_takeDigits_85 (by decide) (fun c_16 => ?_) (fun c_16 => ?_)
      · have c_16n : (2 : Int) < y_15.toInt := (fa_lt _ _).mp c_16
        refine lv_iconst (v := 4) hx hb dX7_takeDigits_92 (by decide) ?_
        refine z_put C G clX7 0 rfl 8 (by decide) m_fl_RX7_74 rfl rfl rfl (Nat.le_of_ble_eq_true rfl) dX7_takeDigits_93 (fun H locs G => ?_)
        have G : zS T A s.heap s [[(rd, .inr (7, [.ref rl, .ref rdd, .ref rg, .int r0, .int r1, .ref tp, .int (nI n), .int (nI x), .int 4, .int (nI q), .int y, .int r7, .int r8]))], [(tp, .inl (T.2 1, 600, .inl ft))]] _ _ := G
        exact z_vret C hr hlocks G (Nat.le_of_ble_eq_true rfl) (Nat.le_of_ble_eq_true rfl) dX7_takeDigits_96 ⟨(nI x), 4, y, rfl, (congrArg nI hE), (by rw [← hE, if_neg (by omega)]; rfl), (fun h9 => tk_of (by rw [← hE] at h9 ⊢; exact hv (by omega)))⟩
      · have c_16n : ¬ (2 : Int) < y_15.toInt := fun q => c_16 ((fa_lt _ _).mpr q)
        refine lv_iconst (v := 2) hx hb dX7_takeDigits_88 (by decide) ?_
        refine lv_goto (tgt := 93) hx hb dX7_takeDigits_89 (by decide) ?_
        refine z_put C G clX7 0 rfl 8 (by decide) m_fl_RX7_74 rfl rfl rfl (Nat.le_of_ble_eq_true rfl) dX7_takeDigits_93 (fun H locs G => ?_)
        have G : zS T A s.heap s [[(rd, .inr (7, [.ref rl, .ref rdd, .ref rg, .int r0, .int r1, .ref tp, .int (nI n), .int (nI x), .int 2, .int (nI q), .int y, .int r7, .int r8]))], [(tp, .inl (T.2 1, 600, .inl ft))]] _ _ := G
        exact z_vret C hr hlocks G (Nat.le_of_ble_eq_true rfl) (Nat.le_of_ble_eq_true rfl) dX7_takeDigits_96 ⟨(nI x), 2, y, rfl, (congrArg nI hE), (by rw [← hE, if_pos (by omega)]; rfl), (fun h9 => tk_of (by rw [← hE] at h9 ⊢; exact hv (by omega)))⟩
set_option maxHeartbeats 4000000 in
set_option maxRecDepth 100000 in
/-- c_f_nextToken -/
theorem c_f_nextToken (l : Launch) (T : zTy) (rd : Nat) (rl : Nat) (rdd : Nat) (rg : Nat) (tp : Nat) (r0 : Int32) (r1 : Int32) (r2 : Int32) (r3 : Int32) (r4 : Int32) (r5 : Int32) (r6 : Int32) (r7 : Int32) (r8 : Int32) (ft : Nat → Int32) (pp : Nat) (n : Nat) (k : pT) (hp : r3 = nI pp) (hpn : pp ≤ n) (hk : k = tkT ft n) (hn : r2 = nI n) (hn6 : n ≤ 600) : zMv l T yX7_nextToken cX7_nextToken 2 3 0 0 [.ref rd] [[(rd, .inr (7, [.ref rl, .ref rdd, .ref rg, .int r0, .int r1, .ref tp, .int r2, .int r3, .int r4, .int r5, .int r6, .int r7, .int r8]))], [(tp, .inl (T.2 1, 600, .inl ft))]] (fun bs => ∃ (u3 : Int32) (u4 : Int32) (u5 : Int32) (u6 : Int32), bs = [[(rd, .inr (7, [.ref rl, .ref rdd, .ref rg, .int r0, .int r1, .ref tp, .int r2, .int u3, .int u4, .int u5, .int u6, .int r7, .int r8]))], [(tp, .inl (T.2 1, 600, .inl ft))]] ∧ zTokC k pp u3 u4 u5 u6) := by
  refine zMv_of (own := RX7) (by decide) rfl (Nat.le_of_ble_eq_true rfl) ?_
  intro p e s m args below meth c A ls C hr hlocks hnm hAe G hl
  have hx := C.1
  have hb := C.2.1
  have hl : lv_has ls 2 [(0, .ref rd)] := hl
  subst hp
  subst hn
  subst hk
  refine lv_aload_n hx hb dX7_nextToken_0 rfl (lv_at hl 0 rfl) ?_
  refine z_get C G clX7 0 rfl 7 (by decide) m_fl_RX7_46 rfl dX7_nextToken_1 ?_
  refine lv_istore_n (lv' := [(1, .int (nI pp)), (0, .ref rd)]) hx hb dX7_nextToken_4 rfl hl (by decide) rfl (fun ls hl => ?_)
  refine z_loop (T := T) (α := Nat) 5 (fun x => [[(rd, .inr (7, [.ref rl, .ref rdd, .ref rg, .int r0, .int r1, .ref tp, .int (nI n), .int (nI x), .int r4, .int r5, .int r6, .int r7, .int r8]))], [(tp, .inl (T.2 1, 600, .inl ft))]]) (fun x => [(1, .int (nI x)), (0, .ref rd)]) (fun x => (pp ≤ x ∧ x ≤ n) ∧ (∀ j, pp ≤ j → j < x → tkB (ft j) = true)) (fun x => n - x) ?_ pp (show (pp ≤ pp ∧ pp ≤ n) ∧ (∀ j, pp ≤ j → j < pp → tkB (ft j) = true) from ⟨(by omega), (fun j h1 h2 => by omega)⟩) G (lv_sub hl [0, 1] rfl)
  rintro x ⟨hxq, hall⟩ ih_5 H locs ls G hl
  replace hxq : (pp ≤ x ∧ x ≤ n) := hxq
  replace hall : (∀ j, pp ≤ j → j < x → tkB (ft j) = true) := hall
  replace G : zS T A s.heap s [[(rd, .inr (7, [.ref rl, .ref rdd, .ref rg, .int r0, .int r1, .ref tp, .int (nI n), .int (nI x), .int r4, .int r5, .int r6, .int r7, .int r8]))], [(tp, .inl (T.2 1, 600, .inl ft))]] _ _ := G
  replace hl : lv_has ls 2 [(1, .int (nI x)), (0, .ref rd)] := hl
  refine lv_iload_n hx hb dX7_nextToken_5 rfl (lv_at hl 0 rfl) ?_
  refine lv_aload_n hx hb dX7_nextToken_6 rfl (lv_at hl 1 rfl) ?_
  refine z_get C G clX7 0 rfl 6 (by decide) m_fl_RX7_42 rfl dX7_nextToken_7 ?_
  refine lv_icmp_ge (tgt := 38) hx hb dX7_nextToken_10 (by decide) (fun c_1 => ?_) (fun c_1 => ?_)
  · have c_1n : n ≤ x := (nI_leI (a := n) (b := x) (by omega) (by omega)).mp c_1
    have hB : zRun tkB ft n pp x := ⟨hxq.1, Or.inl hxq.2, hall, fun h9 => by first | omega | assumption⟩
    refine lv_aload_n hx hb dX7_nextToken_38 rfl (lv_at hl 1 rfl) ?_
    refine lv_aload_n hx hb dX7_nextToken_39 rfl (lv_at hl 1 rfl) ?_
    refine z_get C G clX7 0 rfl 7 (by decide) m_fl_RX7_46 rfl dX7_nextToken_40 ?_
    refine z_put C G clX7 0 rfl 9 (by decide) m_fl_RX7_84 rfl rfl rfl (Nat.le_of_ble_eq_true rfl) dX7_nextToken_43 (fun H locs G => ?_)
    have G : zS T A s.heap s [[(rd, .inr (7, [.ref rl, .ref rdd, .ref rg, .int r0, .int r1, .ref tp, .int (nI n), .int (nI x), .int r4, .int (nI x), .int r6, .int r7, .int r8]))], [(tp, .inl (T.2 1, 600, .inl ft))]] _ _ := G
    refine lv_aload_n hx hb dX7_nextToken_46 rfl (lv_at hl 1 rfl) ?_
    refine z_get C G clX7 0 rfl 7 (by decide) m_fl_RX7_46 rfl dX7_nextToken_47 ?_
    refine lv_aload_n hx hb dX7_nextToken_50 rfl (lv_at hl 1 rfl) ?_
    refine z_get C G clX7 0 rfl 6 (by decide) m_fl_RX7_42 rfl dX7_nextToken_51 ?_
    refine lv_icmp_lt (tgt := 65) hx hb dX7_nextToken_54 (by decide) (fun c_2 => ?_) (fun c_2 => ?_)
    · have c_2n : x < n := (nI_ltI (a := x) (b := n) (by omega) (by omega)).mp c_2
      refine lv_aload_n hx hb dX7_nextToken_65 rfl (lv_at hl 1 rfl) ?_
      refine z_get C G clX7 0 rfl 5 (by decide) m_fl_RX7_32 rfl dX7_nextToken_66 ?_
      refine lv_aload_n hx hb dX7_nextToken_69 rfl (lv_at hl 1 rfl) ?_
      refine z_get C G clX7 0 rfl 7 (by decide) m_fl_RX7_46 rfl dX7_nextToken_70 ?_
      refine z_bld C G 1 rfl (vp_in_nI (by omega) (by omega)) dX7_nextToken_73 ?_
      refine lv_topi (fun v_3 ev_3 => ?_)
      rw [nI_clamp (by omega)] at ev_3
      subst ev_3
      refine z_Si (bc := []) (br := [[(rd, .inr (7, [.ref rl, .ref rdd, .ref rg, .int r0, .int r1, .ref tp, .int (nI n), .int (nI x), .int r4, .int (nI x), .int r6, .int r7, .int r8]))], [(tp, .inl (T.2 1, 600, .inl ft))]]) (As := [.int (ft x)]) (rest := []) C G (c_f_isLetter l T (ft x)) (kS_RX7_148 C.2.2.2.2 (Nat.le_of_ble_eq_true rfl) (Nat.le_of_ble_eq_true rfl)) [] [0, 1] rfl rfl rfl rfl hl.1 dX7_nextToken_74 (Nat.le_of_ble_eq_true rfl) (Nat.le_of_ble_eq_true rfl) (fun r_5 b1 H locs hw G => ?_)
      obtain ⟨rfl, hc_4⟩ := hw
      have G : zS T A s.heap s [[(rd, .inr (7, [.ref rl, .ref rdd, .ref rg, .int r0, .int r1, .ref tp, .int (nI n), .int (nI x), .int r4, .int (nI x), .int r6, .int r7, .int r8]))], [(tp, .inl (T.2 1, 600, .inl ft))]] _ _ := G
      rcases hc_4 with ⟨rfl, h_6⟩ | ⟨rfl, h_7⟩
      · have h_6 : tkL (ft x) = true := h_6
        refine lv_if_eq (tgt := 87) hx hb dX7_nextToken_77 (by decide) (fun q => absurd q (by decide)) (fun _ => ?_)
        refine lv_aload_n hx hb dX7_nextToken_80 rfl (lv_at hl 1 rfl) ?_
        refine z_Vv (bc := [[(rd, .inr (7, [.ref rl, .ref rdd, .ref rg, .int r0, .int r1, .ref tp, .int (nI n), .int (nI x), .int r4, .int (nI x), .int r6, .int r7, .int r8]))], [(tp, .inl (T.2 1, 600, .inl ft))]]) (br := []) (As := []) (rest := []) C G (c_f_takeLetters l T rd rl rdd rg tp r0 r1 (nI n) (nI x) r4 (nI x) r6 r7 r8 ft x n rfl (by omega) rfl (by first | assumption | omega | rfl)) (kV_RX7_151 C.2.2.2.2 (Nat.le_of_ble_eq_true rfl) (Nat.le_of_ble_eq_true rfl)) [0, 1] [] rfl rfl (ci := 7) (qc := (RX7, TX7, 13)) rfl rfl (List.mem_flatten.mpr ⟨_, List.mem_of_getElem? (i := 0) rfl, List.mem_cons_self⟩) rfl rfl hl.1 dX7_nextToken_81 (Nat.le_of_ble_eq_true rfl) (Nat.le_of_ble_eq_true rfl) (fun b1 H locs hw G => ?_)
        obtain ⟨u3_8, u4_9, rfl, h_10, h_11⟩ := hw
        have G : zS T A s.heap s [[(rd, .inr (7, [.ref rl, .ref rdd, .ref rg, .int r0, .int r1, .ref tp, .int (nI n), .int u3_8, .int u4_9, .int (nI x), .int r6, .int r7, .int r8]))], [(tp, .inl (T.2 1, 600, .inl ft))]] _ _ := G
        refine lv_goto (tgt := 142) hx hb dX7_nextToken_84 (by decide) ?_
        exact z_vret C hr hlocks G (Nat.le_of_ble_eq_true rfl) (Nat.le_of_ble_eq_true rfl) dX7_nextToken_142 ⟨u3_8, u4_9, (nI x), r6, rfl, (by rw [h_10, h_11]; exact zTokC_of (c := 1) (tk_L hB (by omega) (by assumption) (zEnd_run _ _ _ _)) (fun h9 => absurd h9 (by decide)))⟩
      · have h_7 : tkL (ft x) = false := h_7
        refine lv_if_eq (tgt := 87) hx hb dX7_nextToken_77 (by decide) (fun _ => ?_) (fun q => absurd (by decide) q)
        refine lv_aload_n hx hb dX7_nextToken_87 rfl (lv_at hl 1 rfl) ?_
        refine z_get C G clX7 0 rfl 5 (by decide) m_fl_RX7_32 rfl dX7_nextToken_88 ?_
        refine lv_aload_n hx hb dX7_nextToken_91 rfl (lv_at hl 1 rfl) ?_
        refine z_get C G clX7 0 rfl 7 (by decide) m_fl_RX7_46 rfl dX7_nextToken_92 ?_
        refine z_bld C G 1 rfl (vp_in_nI (by omega) (by omega)) dX7_nextToken_95 ?_
        refine lv_topi (fun v_13 ev_13 => ?_)
        rw [nI_clamp (by omega)] at ev_13
        subst ev_13
        refine z_Si (bc := []) (br := [[(rd, .inr (7, [.ref rl, .ref rdd, .ref rg, .int r0, .int r1, .ref tp, .int (nI n), .int (nI x), .int r4, .int (nI x), .int r6, .int r7, .int r8]))], [(tp, .inl (T.2 1, 600, .inl ft))]]) (As := [.int (ft x)]) (rest := []) C G (c_f_isDigit l T (ft x)) (kS_RX7_154 C.2.2.2.2 (Nat.le_of_ble_eq_true rfl) (Nat.le_of_ble_eq_true rfl)) [] [0, 1] rfl rfl rfl rfl hl.1 dX7_nextToken_96 (Nat.le_of_ble_eq_true rfl) (Nat.le_of_ble_eq_true rfl) (fun r_15 b1 H locs hw G => ?_)
        obtain ⟨rfl, hc_14⟩ := hw
        have G : zS T A s.heap s [[(rd, .inr (7, [.ref rl, .ref rdd, .ref rg, .int r0, .int r1, .ref tp, .int (nI n), .int (nI x), .int r4, .int (nI x), .int r6, .int r7, .int r8]))], [(tp, .inl (T.2 1, 600, .inl ft))]] _ _ := G
        rcases hc_14 with ⟨rfl, h_16⟩ | ⟨rfl, h_17⟩
        · have h_16 : tkD (ft x) = true := h_16
          refine lv_if_eq (tgt := 109) hx hb dX7_nextToken_99 (by decide) (fun q => absurd q (by decide)) (fun _ => ?_)
          refine lv_aload_n hx hb dX7_nextToken_102 rfl (lv_at hl 1 rfl) ?_
          refine z_Vv (bc := [[(rd, .inr (7, [.ref rl, .ref rdd, .ref rg, .int r0, .int r1, .ref tp, .int (nI n), .int (nI x), .int r4, .int (nI x), .int r6, .int r7, .int r8]))], [(tp, .inl (T.2 1, 600, .inl ft))]]) (br := []) (As := []) (rest := []) C G (c_f_takeDigits l T rd rl rdd rg tp r0 r1 (nI n) (nI x) r4 (nI x) r6 r7 r8 ft x n rfl rfl (by omega) rfl (by first | assumption | omega | rfl)) (kV_RX7_157 C.2.2.2.2 (Nat.le_of_ble_eq_true rfl) (Nat.le_of_ble_eq_true rfl)) [0, 1] [] rfl rfl (ci := 7) (qc := (RX7, TX7, 13)) rfl rfl (List.mem_flatten.mpr ⟨_, List.mem_of_getElem? (i := 0) rfl, List.mem_cons_self⟩) rfl rfl hl.1 dX7_nextToken_103 (Nat.le_of_ble_eq_true rfl) (Nat.le_of_ble_eq_true rfl) (fun b1 H locs hw G => ?_)
          obtain ⟨u3_18, u4_19, u6_20, rfl, h_21, h_22, h_23⟩ := hw
          have G : zS T A s.heap s [[(rd, .inr (7, [.ref rl, .ref rdd, .ref rg, .int r0, .int r1, .ref tp, .int (nI n), .int u3_18, .int u4_19, .int (nI x), .int u6_20, .int r7, .int r8]))], [(tp, .inl (T.2 1, 600, .inl ft))]] _ _ := G
          refine lv_goto (tgt := 142) hx hb dX7_nextToken_106 (by decide) ?_
          exact z_vret C hr hlocks G (Nat.le_of_ble_eq_true rfl) (Nat.le_of_ble_eq_true rfl) dX7_nextToken_142 ⟨u3_18, u4_19, (nI x), u6_20, rfl, (by
    rw [h_21, h_22]
    refine zTokC_of (tk_D hB (by omega) (by assumption) (by assumption) (zEnd_run _ _ _ _)) (fun h9 => ?_)
    by_cases q9 : zEnd tkD ft n x - x ≤ 2
    · rw [if_pos q9]; exact h_23 q9
    · rw [if_neg q9] at h9; exact absurd h9 (by decide))⟩
        · have h_17 : tkD (ft x) = false := h_17
          refine lv_if_eq (tgt := 109) hx hb dX7_nextToken_99 (by decide) (fun _ => ?_) (fun q => absurd (by decide) q)
          refine lv_aload_n hx hb dX7_nextToken_109 rfl (lv_at hl 1 rfl) ?_
          refine lv_aload_n hx hb dX7_nextToken_110 rfl (lv_at hl 1 rfl) ?_
          refine z_get C G clX7 0 rfl 5 (by decide) m_fl_RX7_32 rfl dX7_nextToken_111 ?_
          refine lv_aload_n hx hb dX7_nextToken_114 rfl (lv_at hl 1 rfl) ?_
          refine z_get C G clX7 0 rfl 7 (by decide) m_fl_RX7_46 rfl dX7_nextToken_115 ?_
          refine z_bld C G 1 rfl (vp_in_nI (by omega) (by omega)) dX7_nextToken_118 ?_
          refine lv_topi (fun v_25 ev_25 => ?_)
          rw [nI_clamp (by omega)] at ev_25
          subst ev_25
          refine lv_bipush (v := 59) hx hb dX7_nextToken_119 (by decide) ?_
          refine lv_icmp_ne (tgt := 128) hx hb dX7_nextToken_121 (by decide) (fun c_26 => ?_) (fun c_26 => ?_)
          · have c_26n : ¬ (ft x).toInt = (59 : Int) := fun q => c_26 ((fa_eq _ _).mpr q)
            refine lv_iconst (v := 4) hx hb dX7_nextToken_128 (by decide) ?_
            refine z_put C G clX7 0 rfl 8 (by decide) m_fl_RX7_74 rfl rfl rfl (Nat.le_of_ble_eq_true rfl) dX7_nextToken_129 (fun H locs G => ?_)
            have G : zS T A s.heap s [[(rd, .inr (7, [.ref rl, .ref rdd, .ref rg, .int r0, .int r1, .ref tp, .int (nI n), .int (nI x), .int 4, .int (nI x), .int r6, .int r7, .int r8]))], [(tp, .inl (T.2 1, 600, .inl ft))]] _ _ := G
            refine lv_aload_n hx hb dX7_nextToken_132 rfl (lv_at hl 1 rfl) ?_
            refine lv_dup hx hb dX7_nextToken_133 rfl ?_
            refine z_get C G clX7 0 rfl 7 (by decide) m_fl_RX7_46 rfl dX7_nextToken_134 ?_
            refine lv_iconst (v := 1) hx hb dX7_nextToken_137 (by decide) ?_
            refine lv_iadd hx hb dX7_nextToken_138 ?_
            refine lv_topi (fun y_27 ey_27 => ?_)
            obtain rfl : y_27 = nI (x + 1) := ey_27.trans (z_iaddn x 1 rfl rfl)
            refine z_put C G clX7 0 rfl 7 (by decide) m_fl_RX7_46 rfl rfl rfl (Nat.le_of_ble_eq_true rfl) dX7_nextToken_139 (fun H locs G => ?_)
            have G : zS T A s.heap s [[(rd, .inr (7, [.ref rl, .ref rdd, .ref rg, .int r0, .int r1, .ref tp, .int (nI n), .int (nI (x + 1)), .int 4, .int (nI x), .int r6, .int r7, .int r8]))], [(tp, .inl (T.2 1, 600, .inl ft))]] _ _ := G
            exact z_vret C hr hlocks G (Nat.le_of_ble_eq_true rfl) (Nat.le_of_ble_eq_true rfl) dX7_nextToken_142 ⟨(nI (x + 1)), 4, (nI x), r6, rfl, (zTokC_of (w := x) (e := x + 1) (c := 4) (wd := 0) (nm := 0) ((tk_S hB (by omega) (by assumption) (by assumption)).trans (by rw [if_neg (by omega)])) (fun h9 => absurd h9 (by decide)))⟩
          · have c_26n : (ft x).toInt = (59 : Int) := (fa_eq _ _).mp c_26
            refine lv_iconst (v := 3) hx hb dX7_nextToken_124 (by decide) ?_
            refine lv_goto (tgt := 129) hx hb dX7_nextToken_125 (by decide) ?_
            refine z_put C G clX7 0 rfl 8 (by decide) m_fl_RX7_74 rfl rfl rfl (Nat.le_of_ble_eq_true rfl) dX7_nextToken_129 (fun H locs G => ?_)
            have G : zS T A s.heap s [[(rd, .inr (7, [.ref rl, .ref rdd, .ref rg, .int r0, .int r1, .ref tp, .int (nI n), .int (nI x), .int 3, .int (nI x), .int r6, .int r7, .int r8]))], [(tp, .inl (T.2 1, 600, .inl ft))]] _ _ := G
            refine lv_aload_n hx hb dX7_nextToken_132 rfl (lv_at hl 1 rfl) ?_
            refine lv_dup hx hb dX7_nextToken_133 rfl ?_
            refine z_get C G clX7 0 rfl 7 (by decide) m_fl_RX7_46 rfl dX7_nextToken_134 ?_
            refine lv_iconst (v := 1) hx hb dX7_nextToken_137 (by decide) ?_
            refine lv_iadd hx hb dX7_nextToken_138 ?_
            refine lv_topi (fun y_28 ey_28 => ?_)
            obtain rfl : y_28 = nI (x + 1) := ey_28.trans (z_iaddn x 1 rfl rfl)
            refine z_put C G clX7 0 rfl 7 (by decide) m_fl_RX7_46 rfl rfl rfl (Nat.le_of_ble_eq_true rfl) dX7_nextToken_139 (fun H locs G => ?_)
            have G : zS T A s.heap s [[(rd, .inr (7, [.ref rl, .ref rdd, .ref rg, .int r0, .int r1, .ref tp, .int (nI n), .int (nI (x + 1)), .int 3, .int (nI x), .int r6, .int r7, .int r8]))], [(tp, .inl (T.2 1, 600, .inl ft))]] _ _ := G
            exact z_vret C hr hlocks G (Nat.le_of_ble_eq_true rfl) (Nat.le_of_ble_eq_true rfl) dX7_nextToken_142 ⟨(nI (x + 1)), 3, (nI x), r6, rfl, (zTokC_of (w := x) (e := x + 1) (c := 3) (wd := 0) (nm := 0) ((tk_S hB (by omega) (by assumption) (by assumption)).trans (by rw [if_pos (by omega)])) (fun h9 => absurd h9 (by decide)))⟩
    · have c_2n : ¬ x < n := fun q => c_2 ((nI_ltI (a := x) (b := n) (by omega) (by omega)).mpr q)
      refine lv_aload_n hx hb dX7_nextToken_57 rfl (lv_at hl 1 rfl) ?_
      refine lv_iconst (v := 0) hx hb dX7_nextToken_58 (by decide) ?_
      refine z_put C G clX7 0 rfl 8 (by decide) m_fl_RX7_74 rfl rfl rfl (Nat.le_of_ble_eq_true rfl) dX7_nextToken_59 (fun H locs G => ?_)
      have G : zS T A s.heap s [[(rd, .inr (7, [.ref rl, .ref rdd, .ref rg, .int r0, .int r1, .ref tp, .int (nI n), .int (nI x), .int 0, .int (nI x), .int r6, .int r7, .int r8]))], [(tp, .inl (T.2 1, 600, .inl ft))]] _ _ := G
      refine lv_goto (tgt := 142) hx hb dX7_nextToken_62 (by decide) ?_
      exact z_vret C hr hlocks G (Nat.le_of_ble_eq_true rfl) (Nat.le_of_ble_eq_true rfl) dX7_nextToken_142 ⟨(nI x), 0, (nI x), r6, rfl, (zTokC_of (c := 0) (tk_0 hB (by omega)) (fun h9 => absurd h9 (by decide)))⟩
  · have c_1n : ¬ n ≤ x := fun q => c_1 ((nI_leI (a := n) (b := x) (by omega) (by omega)).mpr q)
    refine lv_aload_n hx hb dX7_nextToken_13 rfl (lv_at hl 1 rfl) ?_
    refine z_get C G clX7 0 rfl 5 (by decide) m_fl_RX7_32 rfl dX7_nextToken_14 ?_
    refine lv_iload_n hx hb dX7_nextToken_17 rfl (lv_at hl 0 rfl) ?_
    refine z_bld C G 1 rfl (vp_in_nI (by omega) (by omega)) dX7_nextToken_18 ?_
    refine lv_topi (fun v_29 ev_29 => ?_)
    rw [nI_clamp (by omega)] at ev_29
    subst ev_29
    refine z_Si (bc := []) (br := [[(rd, .inr (7, [.ref rl, .ref rdd, .ref rg, .int r0, .int r1, .ref tp, .int (nI n), .int (nI x), .int r4, .int r5, .int r6, .int r7, .int r8]))], [(tp, .inl (T.2 1, 600, .inl ft))]]) (As := [.int (ft x)]) (rest := []) C G (c_f_isBlank l T (ft x)) (kS_RX7_144 C.2.2.2.2 (Nat.le_of_ble_eq_true rfl) (Nat.le_of_ble_eq_true rfl)) [] [0, 1] rfl rfl rfl rfl hl.1 dX7_nextToken_19 (Nat.le_of_ble_eq_true rfl) (Nat.le_of_ble_eq_true rfl) (fun r_31 b1 H locs hw G => ?_)
    obtain ⟨rfl, hc_30⟩ := hw
    have G : zS T A s.heap s [[(rd, .inr (7, [.ref rl, .ref rdd, .ref rg, .int r0, .int r1, .ref tp, .int (nI n), .int (nI x), .int r4, .int r5, .int r6, .int r7, .int r8]))], [(tp, .inl (T.2 1, 600, .inl ft))]] _ _ := G
    rcases hc_30 with ⟨rfl, h_32⟩ | ⟨rfl, h_33⟩
    · have h_32 : tkB (ft x) = true := h_32
      refine lv_if_eq (tgt := 38) hx hb dX7_nextToken_22 (by decide) (fun q => absurd q (by decide)) (fun _ => ?_)
      refine lv_aload_n hx hb dX7_nextToken_25 rfl (lv_at hl 1 rfl) ?_
      refine lv_iload_n hx hb dX7_nextToken_26 rfl (lv_at hl 0 rfl) ?_
      refine lv_iconst (v := 1) hx hb dX7_nextToken_27 (by decide) ?_
      refine lv_iadd hx hb dX7_nextToken_28 ?_
      refine lv_topi (fun y_34 ey_34 => ?_)
      obtain rfl : y_34 = nI (x + 1) := ey_34.trans (z_iaddn x 1 rfl rfl)
      refine z_put C G clX7 0 rfl 7 (by decide) m_fl_RX7_46 rfl rfl rfl (Nat.le_of_ble_eq_true rfl) dX7_nextToken_29 (fun H locs G => ?_)
      have G : zS T A s.heap s [[(rd, .inr (7, [.ref rl, .ref rdd, .ref rg, .int r0, .int r1, .ref tp, .int (nI n), .int (nI (x + 1)), .int r4, .int r5, .int r6, .int r7, .int r8]))], [(tp, .inl (T.2 1, 600, .inl ft))]] _ _ := G
      refine lv_iinc (v := nI (x + 1)) (lv' := [(1, .int (nI (x + 1))), (0, .ref rd)]) hx hb dX7_nextToken_32 hl (k := 0) rfl (z_inc x 1) (by decide) rfl (fun ls hl => ?_)
      refine lv_goto (tgt := 5) hx hb dX7_nextToken_35 (by decide) ?_
      exact ih_5 (x + 1) (show (pp ≤ (x + 1) ∧ (x + 1) ≤ n) ∧ (∀ j, pp ≤ j → j < (x + 1) → tkB (ft j) = true) from ⟨(by omega), (z_allS hall (by assumption))⟩) (show n - (x + 1) < n - x from by omega) _ _ ls G (lv_sub hl [0, 1] rfl)
    · have h_33 : tkB (ft x) = false := h_33
      refine lv_if_eq (tgt := 38) hx hb dX7_nextToken_22 (by decide) (fun _ => ?_) (fun q => absurd (by decide) q)
      have hB : zRun tkB ft n pp x := ⟨hxq.1, Or.inl hxq.2, hall, fun h9 => by first | omega | assumption⟩
      refine lv_aload_n hx hb dX7_nextToken_38 rfl (lv_at hl 1 rfl) ?_
      refine lv_aload_n hx hb dX7_nextToken_39 rfl (lv_at hl 1 rfl) ?_
      refine z_get C G clX7 0 rfl 7 (by decide) m_fl_RX7_46 rfl dX7_nextToken_40 ?_
      refine z_put C G clX7 0 rfl 9 (by decide) m_fl_RX7_84 rfl rfl rfl (Nat.le_of_ble_eq_true rfl) dX7_nextToken_43 (fun H locs G => ?_)
      have G : zS T A s.heap s [[(rd, .inr (7, [.ref rl, .ref rdd, .ref rg, .int r0, .int r1, .ref tp, .int (nI n), .int (nI x), .int r4, .int (nI x), .int r6, .int r7, .int r8]))], [(tp, .inl (T.2 1, 600, .inl ft))]] _ _ := G
      refine lv_aload_n hx hb dX7_nextToken_46 rfl (lv_at hl 1 rfl) ?_
      refine z_get C G clX7 0 rfl 7 (by decide) m_fl_RX7_46 rfl dX7_nextToken_47 ?_
      refine lv_aload_n hx hb dX7_nextToken_50 rfl (lv_at hl 1 rfl) ?_
      refine z_get C G clX7 0 rfl 6 (by decide) m_fl_RX7_42 rfl dX7_nextToken_51 ?_
      refine lv_icmp_lt (tgt := 65) hx hb dX7_nextToken_54 (by decide) (fun c_35 => ?_) (fun c_35 => ?_)
      · have c_35n : x < n := (nI_ltI (a := x) (b := n) (by omega) (by omega)).mp c_35
        refine lv_aload_n hx hb dX7_nextToken_65 rfl (lv_at hl 1 rfl) ?_
        refine z_get C G clX7 0 rfl 5 (by decide) m_fl_RX7_32 rfl dX7_nextToken_66 ?_
        refine lv_aload_n hx hb dX7_nextToken_69 rfl (lv_at hl 1 rfl) ?_
        refine z_get C G clX7 0 rfl 7 (by decide) m_fl_RX7_46 rfl dX7_nextToken_70 ?_
        refine z_bld C G 1 rfl (vp_in_nI (by omega) (by omega)) dX7_nextToken_73 ?_
        refine lv_topi (fun v_36 ev_36 => ?_)
        rw [nI_clamp (by omega)] at ev_36
        subst ev_36
        refine z_Si (bc := []) (br := [[(rd, .inr (7, [.ref rl, .ref rdd, .ref rg, .int r0, .int r1, .ref tp, .int (nI n), .int (nI x), .int r4, .int (nI x), .int r6, .int r7, .int r8]))], [(tp, .inl (T.2 1, 600, .inl ft))]]) (As := [.int (ft x)]) (rest := []) C G (c_f_isLetter l T (ft x)) (kS_RX7_148 C.2.2.2.2 (Nat.le_of_ble_eq_true rfl) (Nat.le_of_ble_eq_true rfl)) [] [0, 1] rfl rfl rfl rfl hl.1 dX7_nextToken_74 (Nat.le_of_ble_eq_true rfl) (Nat.le_of_ble_eq_true rfl) (fun r_38 b1 H locs hw G => ?_)
        obtain ⟨rfl, hc_37⟩ := hw
        have G : zS T A s.heap s [[(rd, .inr (7, [.ref rl, .ref rdd, .ref rg, .int r0, .int r1, .ref tp, .int (nI n), .int (nI x), .int r4, .int (nI x), .int r6, .int r7, .int r8]))], [(tp, .inl (T.2 1, 600, .inl ft))]] _ _ := G
        rcases hc_37 with ⟨rfl, h_39⟩ | ⟨rfl, h_40⟩
        · have h_39 : tkL (ft x) = true := h_39
          refine lv_if_eq (tgt := 87) hx hb dX7_nextToken_77 (by decide) (fun q => absurd q (by decide)) (fun _ => ?_)
          refine lv_aload_n hx hb dX7_nextToken_80 rfl (lv_at hl 1 rfl) ?_
          refine z_Vv (bc := [[(rd, .inr (7, [.ref rl, .ref rdd, .ref rg, .int r0, .int r1, .ref tp, .int (nI n), .int (nI x), .int r4, .int (nI x), .int r6, .int r7, .int r8]))], [(tp, .inl (T.2 1, 600, .inl ft))]]) (br := []) (As := []) (rest := []) C G (c_f_takeLetters l T rd rl rdd rg tp r0 r1 (nI n) (nI x) r4 (nI x) r6 r7 r8 ft x n rfl (by omega) rfl (by first | assumption | omega | rfl)) (kV_RX7_151 C.2.2.2.2 (Nat.le_of_ble_eq_true rfl) (Nat.le_of_ble_eq_true rfl)) [0, 1] [] rfl rfl (ci := 7) (qc := (RX7, TX7, 13)) rfl rfl (List.mem_flatten.mpr ⟨_, List.mem_of_getElem? (i := 0) rfl, List.mem_cons_self⟩) rfl rfl hl.1 dX7_nextToken_81 (Nat.le_of_ble_eq_true rfl) (Nat.le_of_ble_eq_true rfl) (fun b1 H locs hw G => ?_)
          obtain ⟨u3_41, u4_42, rfl, h_43, h_44⟩ := hw
          have G : zS T A s.heap s [[(rd, .inr (7, [.ref rl, .ref rdd, .ref rg, .int r0, .int r1, .ref tp, .int (nI n), .int u3_41, .int u4_42, .int (nI x), .int r6, .int r7, .int r8]))], [(tp, .inl (T.2 1, 600, .inl ft))]] _ _ := G
          refine lv_goto (tgt := 142) hx hb dX7_nextToken_84 (by decide) ?_
          exact z_vret C hr hlocks G (Nat.le_of_ble_eq_true rfl) (Nat.le_of_ble_eq_true rfl) dX7_nextToken_142 ⟨u3_41, u4_42, (nI x), r6, rfl, (by rw [h_43, h_44]; exact zTokC_of (c := 1) (tk_L hB (by omega) (by assumption) (zEnd_run _ _ _ _)) (fun h9 => absurd h9 (by decide)))⟩
        · have h_40 : tkL (ft x) = false := h_40
          refine lv_if_eq (tgt := 87) hx hb dX7_nextToken_77 (by decide) (fun _ => ?_) (fun q => absurd (by decide) q)
          refine lv_aload_n hx hb dX7_nextToken_87 rfl (lv_at hl 1 rfl) ?_
          refine z_get C G clX7 0 rfl 5 (by decide) m_fl_RX7_32 rfl dX7_nextToken_88 ?_
          refine lv_aload_n hx hb dX7_nextToken_91 rfl (lv_at hl 1 rfl) ?_
          refine z_get C G clX7 0 rfl 7 (by decide) m_fl_RX7_46 rfl dX7_nextToken_92 ?_
          refine z_bld C G 1 rfl (vp_in_nI (by omega) (by omega)) dX7_nextToken_95 ?_
          refine lv_topi (fun v_46 ev_46 => ?_)
          rw [nI_clamp (by omega)] at ev_46
          subst ev_46
          refine z_Si (bc := []) (br := [[(rd, .inr (7, [.ref rl, .ref rdd, .ref rg, .int r0, .int r1, .ref tp, .int (nI n), .int (nI x), .int r4, .int (nI x), .int r6, .int r7, .int r8]))], [(tp, .inl (T.2 1, 600, .inl ft))]]) (As := [.int (ft x)]) (rest := []) C G (c_f_isDigit l T (ft x)) (kS_RX7_154 C.2.2.2.2 (Nat.le_of_ble_eq_true rfl) (Nat.le_of_ble_eq_true rfl)) [] [0, 1] rfl rfl rfl rfl hl.1 dX7_nextToken_96 (Nat.le_of_ble_eq_true rfl) (Nat.le_of_ble_eq_true rfl) (fun r_48 b1 H locs hw G => ?_)
          obtain ⟨rfl, hc_47⟩ := hw
          have G : zS T A s.heap s [[(rd, .inr (7, [.ref rl, .ref rdd, .ref rg, .int r0, .int r1, .ref tp, .int (nI n), .int (nI x), .int r4, .int (nI x), .int r6, .int r7, .int r8]))], [(tp, .inl (T.2 1, 600, .inl ft))]] _ _ := G
          rcases hc_47 with ⟨rfl, h_49⟩ | ⟨rfl, h_50⟩
          · have h_49 : tkD (ft x) = true := h_49
            refine lv_if_eq (tgt := 109) hx hb dX7_nextToken_99 (by decide) (fun q => absurd q (by decide)) (fun _ => ?_)
            refine lv_aload_n hx hb dX7_nextToken_102 rfl (lv_at hl 1 rfl) ?_
            refine z_Vv (bc := [[(rd, .inr (7, [.ref rl, .ref rdd, .ref rg, .int r0, .int r1, .ref tp, .int (nI n), .int (nI x), .int r4, .int (nI x), .int r6, .int r7, .int r8]))], [(tp, .inl (T.2 1, 600, .inl ft))]]) (br := []) (As := []) (rest := []) C G (c_f_takeDigits l T rd rl rdd rg tp r0 r1 (nI n) (nI x) r4 (nI x) r6 r7 r8 ft x n rfl rfl (by omega) rfl (by first | assumption | omega | rfl)) (kV_RX7_157 C.2.2.2.2 (Nat.le_of_ble_eq_true rfl) (Nat.le_of_ble_eq_true rfl)) [0, 1] [] rfl rfl (ci := 7) (qc := (RX7, TX7, 13)) rfl rfl (List.mem_flatten.mpr ⟨_, List.mem_of_getElem? (i := 0) rfl, List.mem_cons_self⟩) rfl rfl hl.1 dX7_nextToken_103 (Nat.le_of_ble_eq_true rfl) (Nat.le_of_ble_eq_true rfl) (fun b1 H locs hw G => ?_)
            obtain ⟨u3_51, u4_52, u6_53, rfl, h_54, h_55, h_56⟩ := hw
            have G : zS T A s.heap s [[(rd, .inr (7, [.ref rl, .ref rdd, .ref rg, .int r0, .int r1, .ref tp, .int (nI n), .int u3_51, .int u4_52, .int (nI x), .int u6_53, .int r7, .int r8]))], [(tp, .inl (T.2 1, 600, .inl ft))]] _ _ := G
            refine lv_goto (tgt := 142) hx hb dX7_nextToken_106 (by decide) ?_
            exact z_vret C hr hlocks G (Nat.le_of_ble_eq_true rfl) (Nat.le_of_ble_eq_true rfl) dX7_nextToken_142 ⟨u3_51, u4_52, (nI x), u6_53, rfl, (by
    rw [h_54, h_55]
    refine zTokC_of (tk_D hB (by omega) (by assumption) (by assumption) (zEnd_run _ _ _ _)) (fun h9 => ?_)
    by_cases q9 : zEnd tkD ft n x - x ≤ 2
    · rw [if_pos q9]; exact h_56 q9
    · rw [if_neg q9] at h9; exact absurd h9 (by decide))⟩
          · have h_50 : tkD (ft x) = false := h_50
            refine lv_if_eq (tgt := 109) hx hb dX7_nextToken_99 (by decide) (fun _ => ?_) (fun q => absurd (by decide) q)
            refine lv_aload_n hx hb dX7_nextToken_109 rfl (lv_at hl 1 rfl) ?_
            refine lv_aload_n hx hb dX7_nextToken_110 rfl (lv_at hl 1 rfl) ?_
            refine z_get C G clX7 0 rfl 5 (by decide) m_fl_RX7_32 rfl dX7_nextToken_111 ?_
            refine lv_aload_n hx hb dX7_nextToken_114 rfl (lv_at hl 1 rfl) ?_
            refine z_get C G clX7 0 rfl 7 (by decide) m_fl_RX7_46 rfl dX7_nextToken_115 ?_
            refine z_bld C G 1 rfl (vp_in_nI (by omega) (by omega)) dX7_nextToken_118 ?_
            refine lv_topi (fun v_58 ev_58 => ?_)
            rw [nI_clamp (by omega)] at ev_58
            subst ev_58
            refine lv_bipush (v := 59) hx hb dX7_nextToken_119 (by decide) ?_
            refine lv_icmp_ne (tgt := 128) hx hb dX7_nextToken_121 (by decide) (fun c_59 => ?_) (fun c_59 => ?_)
            · have c_59n : ¬ (ft x).toInt = (59 : Int) := fun q => c_59 ((fa_eq _ _).mpr q)
              refine lv_iconst (v := 4) hx hb dX7_nextToken_128 (by decide) ?_
              refine z_put C G clX7 0 rfl 8 (by decide) m_fl_RX7_74 rfl rfl rfl (Nat.le_of_ble_eq_true rfl) dX7_nextToken_129 (fun H locs G => ?_)
              have G : zS T A s.heap s [[(rd, .inr (7, [.ref rl, .ref rdd, .ref rg, .int r0, .int r1, .ref tp, .int (nI n), .int (nI x), .int 4, .int (nI x), .int r6, .int r7, .int r8]))], [(tp, .inl (T.2 1, 600, .inl ft))]] _ _ := G
              refine lv_aload_n hx hb dX7_nextToken_132 rfl (lv_at hl 1 rfl) ?_
              refine lv_dup hx hb dX7_nextToken_133 rfl ?_
              refine z_get C G clX7 0 rfl 7 (by decide) m_fl_RX7_46 rfl dX7_nextToken_134 ?_
              refine lv_iconst (v := 1) hx hb dX7_nextToken_137 (by decide) ?_
              refine lv_iadd hx hb dX7_nextToken_138 ?_
              refine lv_topi (fun y_60 ey_60 => ?_)
              obtain rfl : y_60 = nI (x + 1) := ey_60.trans (z_iaddn x 1 rfl rfl)
              refine z_put C G clX7 0 rfl 7 (by decide) m_fl_RX7_46 rfl rfl rfl (Nat.le_of_ble_eq_true rfl) dX7_nextToken_139 (fun H locs G => ?_)
              have G : zS T A s.heap s [[(rd, .inr (7, [.ref rl, .ref rdd, .ref rg, .int r0, .int r1, .ref tp, .int (nI n), .int (nI (x + 1)), .int 4, .int (nI x), .int r6, .int r7, .int r8]))], [(tp, .inl (T.2 1, 600, .inl ft))]] _ _ := G
              exact z_vret C hr hlocks G (Nat.le_of_ble_eq_true rfl) (Nat.le_of_ble_eq_true rfl) dX7_nextToken_142 ⟨(nI (x + 1)), 4, (nI x), r6, rfl, (zTokC_of (w := x) (e := x + 1) (c := 4) (wd := 0) (nm := 0) ((tk_S hB (by omega) (by assumption) (by assumption)).trans (by rw [if_neg (by omega)])) (fun h9 => absurd h9 (by decide)))⟩
            · have c_59n : (ft x).toInt = (59 : Int) := (fa_eq _ _).mp c_59
              refine lv_iconst (v := 3) hx hb dX7_nextToken_124 (by decide) ?_
              refine lv_goto (tgt := 129) hx hb dX7_nextToken_125 (by decide) ?_
              refine z_put C G clX7 0 rfl 8 (by decide) m_fl_RX7_74 rfl rfl rfl (Nat.le_of_ble_eq_true rfl) dX7_nextToken_129 (fun H locs G => ?_)
              have G : zS T A s.heap s [[(rd, .inr (7, [.ref rl, .ref rdd, .ref rg, .int r0, .int r1, .ref tp, .int (nI n), .int (nI x), .int 3, .int (nI x), .int r6, .int r7, .int r8]))], [(tp, .inl (T.2 1, 600, .inl ft))]] _ _ := G
              refine lv_aload_n hx hb dX7_nextToken_132 rfl (lv_at hl 1 rfl) ?_
              refine lv_dup hx hb dX7_nextToken_133 rfl ?_
              refine z_get C G clX7 0 rfl 7 (by decide) m_fl_RX7_46 rfl dX7_nextToken_134 ?_
              refine lv_iconst (v := 1) hx hb dX7_nextToken_137 (by decide) ?_
              refine lv_iadd hx hb dX7_nextToken_138 ?_
              refine lv_topi (fun y_61 ey_61 => ?_)
              obtain rfl : y_61 = nI (x + 1) := ey_61.trans (z_iaddn x 1 rfl rfl)
              refine z_put C G clX7 0 rfl 7 (by decide) m_fl_RX7_46 rfl rfl rfl (Nat.le_of_ble_eq_true rfl) dX7_nextToken_139 (fun H locs G => ?_)
              have G : zS T A s.heap s [[(rd, .inr (7, [.ref rl, .ref rdd, .ref rg, .int r0, .int r1, .ref tp, .int (nI n), .int (nI (x + 1)), .int 3, .int (nI x), .int r6, .int r7, .int r8]))], [(tp, .inl (T.2 1, 600, .inl ft))]] _ _ := G
              exact z_vret C hr hlocks G (Nat.le_of_ble_eq_true rfl) (Nat.le_of_ble_eq_true rfl) dX7_nextToken_142 ⟨(nI (x + 1)), 3, (nI x), r6, rfl, (zTokC_of (w := x) (e := x + 1) (c := 3) (wd := 0) (nm := 0) ((tk_S hB (by omega) (by assumption) (by assumption)).trans (by rw [if_pos (by omega)])) (fun h9 => absurd h9 (by decide)))⟩
      · have c_35n : ¬ x < n := fun q => c_35 ((nI_ltI (a := x) (b := n) (by omega) (by omega)).mpr q)
        refine lv_aload_n hx hb dX7_nextToken_57 rfl (lv_at hl 1 rfl) ?_
        refine lv_iconst (v := 0) hx hb dX7_nextToken_58 (by decide) ?_
        refine z_put C G clX7 0 rfl 8 (by decide) m_fl_RX7_74 rfl rfl rfl (Nat.le_of_ble_eq_true rfl) dX7_nextToken_59 (fun H locs G => ?_)
        have G : zS T A s.heap s [[(rd, .inr (7, [.ref rl, .ref rdd, .ref rg, .int r0, .int r1, .ref tp, .int (nI n), .int (nI x), .int 0, .int (nI x), .int r6, .int r7, .int r8]))], [(tp, .inl (T.2 1, 600, .inl ft))]] _ _ := G
        refine lv_goto (tgt := 142) hx hb dX7_nextToken_62 (by decide) ?_
        exact z_vret C hr hlocks G (Nat.le_of_ble_eq_true rfl) (Nat.le_of_ble_eq_true rfl) dX7_nextToken_142 ⟨(nI x), 0, (nI x), r6, rfl, (zTokC_of (c := 0) (tk_0 hB (by omega)) (fun h9 => absurd h9 (by decide)))⟩
set_option maxHeartbeats 4000000 in
set_option maxRecDepth 100000 in
/-- reads -/
theorem c_f_reads (l : Launch) (T : zTy) (rd : Nat) (rl : Nat) (rdd : Nat) (rg : Nat) (tp : Nat) (r0 : Int32) (r1 : Int32) (r2 : Int32) (r3 : Int32) (r4 : Int32) (r5 : Int32) (r6 : Int32) (r7 : Int32) (r8 : Int32) (ft : Nat → Int32) (i : Nat) (w_ : Nat) (e_ : Nat) (n : Nat) (hp : r3 = nI e_) (hpl : r5 = nI w_) (hwe : w_ ≤ e_) (hen : e_ ≤ n) (hn : r2 = nI n) (hn6 : n ≤ 600) (hi : i < 12) : zMi l T yX7_reads cX7_reads 3 (some .boolean) 5 0 0 [.ref rd, .ref (T.2 (100 + i))] [[(rd, .inr (7, [.ref rl, .ref rdd, .ref rg, .int r0, .int r1, .ref tp, .int r2, .int r3, .int r4, .int r5, .int r6, .int r7, .int r8]))], [(tp, .inl (T.2 1, 600, .inl ft))]] (fun (r : Int32) bs => bs = [[(rd, .inr (7, [.ref rl, .ref rdd, .ref rg, .int r0, .int r1, .ref tp, .int r2, .int r3, .int r4, .int r5, .int r6, .int r7, .int r8]))], [(tp, .inl (T.2 1, 600, .inl ft))]] ∧ ((r = 1 ∧ zWI ft w_ e_ i = true) ∨ (r = 0 ∧ zWI ft w_ e_ i = false))) := by
  refine zMi_of (own := RX7) (by decide) rfl (Nat.le_of_ble_eq_true rfl) ?_
  intro p e s m args below meth c A ls C hr hlocks hnm hAe G hl
  have hx := C.1
  have hb := C.2.1
  have hl : lv_has ls 3 [(0, .ref rd), (1, .ref (T.2 (100 + i)))] := hl
  subst hp
  subst hpl
  subst hn
  have hL := zLen_le i hi
  refine lv_aload_n hx hb dX7_reads_0 rfl (lv_at hl 0 rfl) ?_
  refine z_get C G clX7 0 rfl 7 (by decide) m_fl_RX7_46 rfl dX7_reads_1 ?_
  refine lv_aload_n hx hb dX7_reads_4 rfl (lv_at hl 0 rfl) ?_
  refine z_get C G clX7 0 rfl 9 (by decide) m_fl_RX7_84 rfl dX7_reads_5 ?_
  refine lv_isub hx hb dX7_reads_8 ?_
  refine lv_topi (fun y_1 ey_1 => ?_)
  have ey_1i : y_1.toInt = (e_ : Int) - (w_ : Int) := by rw [ey_1]; exact (z_isubI (x := (nI e_)) (y := (nI w_)) (by rw [nI_toInt (n := e_) (by omega), nI_toInt (n := w_) (by omega)]; show -2147483648 ≤ (e_ : Int) - (w_ : Int); omega) (by rw [nI_toInt (n := e_) (by omega), nI_toInt (n := w_) (by omega)]; show (e_ : Int) - (w_ : Int) < 2147483648; omega)).trans (by rw [nI_toInt (n := e_) (by omega), nI_toInt (n := w_) (by omega)] <;> rfl)
  refine lv_aload_n hx hb dX7_reads_9 rfl (lv_at hl 1 rfl) ?_
  refine z_Wi (bc := []) (br := [[(rd, .inr (7, [.ref rl, .ref rdd, .ref rg, .int r0, .int r1, .ref tp, .int (nI n), .int (nI e_), .int r4, .int (nI w_), .int r6, .int r7, .int r8]))], [(tp, .inl (T.2 1, 600, .inl ft))]]) (As := []) (rest := [.int y_1]) C G (c_slen l T i (by first | assumption | omega | rfl)) (kV_RX7_185 C.2.2.2.2 (Nat.le_of_ble_eq_true rfl) (Nat.le_of_ble_eq_true rfl)) [] [0, 1] rfl rfl (z_srecv G (by first | assumption | omega)) rfl rfl hl.1 dX7_reads_10 (Nat.le_of_ble_eq_true rfl) (Nat.le_of_ble_eq_true rfl) (fun r_3 b1 H locs hw G => ?_)
  obtain ⟨rfl, h_2⟩ := hw
  have G : zS T A s.heap s [[(rd, .inr (7, [.ref rl, .ref rdd, .ref rg, .int r0, .int r1, .ref tp, .int (nI n), .int (nI e_), .int r4, .int (nI w_), .int r6, .int r7, .int r8]))], [(tp, .inl (T.2 1, 600, .inl ft))]] _ _ := G
  subst h_2
  refine lv_icmp_ne (tgt := 34) hx hb dX7_reads_13 (by decide) (fun c_4 => ?_) (fun c_4 => ?_)
  · have c_4n : ¬ y_1.toInt = ((zLen.getD i 0) : Int) := fun q => c_4 ((fa_eq _ _).mpr (by rw [nI_toInt (n := zLen.getD i 0) (by omega)]; exact q))
    refine lv_iconst (v := 0) hx hb dX7_reads_34 (by decide) ?_
    exact z_zret C hr hlocks G (Nat.le_of_ble_eq_true rfl) (Nat.le_of_ble_eq_true rfl) dX7_reads_35 rfl ⟨rfl, (Or.inr (⟨rfl, (by first | (exfalso; omega) | exact zWI_fl (by omega))⟩))⟩
  · have c_4n : y_1.toInt = ((zLen.getD i 0) : Int) := by have q := (fa_eq _ _).mp c_4; rw [nI_toInt (n := zLen.getD i 0) (by omega)] at q; exact q
    refine lv_aload_n hx hb dX7_reads_16 rfl (lv_at hl 0 rfl) ?_
    refine z_get C G clX7 0 rfl 9 (by decide) m_fl_RX7_84 rfl dX7_reads_17 ?_
    refine lv_if_lt (tgt := 34) hx hb dX7_reads_20 (by decide) (fun c_5 => ?_) (fun c_5 => ?_)
    · have c_5n : w_ < 0 := (nI_ltI (a := w_) (b := 0) (by omega) (by omega)).mp c_5
      refine lv_iconst (v := 0) hx hb dX7_reads_34 (by decide) ?_
      exact z_zret C hr hlocks G (Nat.le_of_ble_eq_true rfl) (Nat.le_of_ble_eq_true rfl) dX7_reads_35 rfl ⟨rfl, (Or.inr (⟨rfl, (by first | (exfalso; omega) | exact zWI_fl (by omega))⟩))⟩
    · have c_5n : ¬ w_ < 0 := fun q => c_5 ((nI_ltI (a := w_) (b := 0) (by omega) (by omega)).mpr q)
      refine lv_aload_n hx hb dX7_reads_23 rfl (lv_at hl 0 rfl) ?_
      refine z_get C G clX7 0 rfl 7 (by decide) m_fl_RX7_46 rfl dX7_reads_24 ?_
      refine lv_aload_n hx hb dX7_reads_27 rfl (lv_at hl 0 rfl) ?_
      refine z_get C G clX7 0 rfl 6 (by decide) m_fl_RX7_42 rfl dX7_reads_28 ?_
      refine lv_icmp_le (tgt := 36) hx hb dX7_reads_31 (by decide) (fun c_6 => ?_) (fun c_6 => ?_)
      · have c_6n : e_ ≤ n := (nI_leI (a := e_) (b := n) (by omega) (by omega)).mp c_6
        refine lv_iconst (v := 0) hx hb dX7_reads_36 (by decide) ?_
        refine lv_istore_n (lv' := [(2, .int 0), (0, .ref rd), (1, .ref (T.2 (100 + i)))]) hx hb dX7_reads_37 rfl hl (by decide) rfl (fun ls hl => ?_)
        refine z_loop (T := T) (α := Nat) 38 (fun k => [[(rd, .inr (7, [.ref rl, .ref rdd, .ref rg, .int r0, .int r1, .ref tp, .int (nI n), .int (nI e_), .int r4, .int (nI w_), .int r6, .int r7, .int r8]))], [(tp, .inl (T.2 1, 600, .inl ft))]]) (fun k => [(2, .int (nI k)), (0, .ref rd), (1, .ref (T.2 (100 + i)))]) (fun k => k ≤ zLen.getD i 0 ∧ (∀ j, j < k → ft (w_ + j) = (zByt.getD i []).getD j 0)) (fun k => zLen.getD i 0 - k) ?_ 0 (show 0 ≤ zLen.getD i 0 ∧ (∀ j, j < 0 → ft (w_ + j) = (zByt.getD i []).getD j 0) from ⟨by omega, (fun j h1 => by omega)⟩) G (lv_sub hl [0, 1, 2] rfl)
        rintro k ⟨hk, hall⟩ ih_38 H locs ls G hl
        replace hk : k ≤ zLen.getD i 0 := hk
        replace hall : (∀ j, j < k → ft (w_ + j) = (zByt.getD i []).getD j 0) := hall
        replace G : zS T A s.heap s [[(rd, .inr (7, [.ref rl, .ref rdd, .ref rg, .int r0, .int r1, .ref tp, .int (nI n), .int (nI e_), .int r4, .int (nI w_), .int r6, .int r7, .int r8]))], [(tp, .inl (T.2 1, 600, .inl ft))]] _ _ := G
        replace hl : lv_has ls 3 [(2, .int (nI k)), (0, .ref rd), (1, .ref (T.2 (100 + i)))] := hl
        refine lv_iload_n hx hb dX7_reads_38 rfl (lv_at hl 0 rfl) ?_
        refine lv_aload_n hx hb dX7_reads_39 rfl (lv_at hl 2 rfl) ?_
        refine z_Wi (bc := []) (br := [[(rd, .inr (7, [.ref rl, .ref rdd, .ref rg, .int r0, .int r1, .ref tp, .int (nI n), .int (nI e_), .int r4, .int (nI w_), .int r6, .int r7, .int r8]))], [(tp, .inl (T.2 1, 600, .inl ft))]]) (As := []) (rest := [.int (nI k)]) C G (c_slen l T i (by first | assumption | omega | rfl)) (kV_RX7_185 C.2.2.2.2 (Nat.le_of_ble_eq_true rfl) (Nat.le_of_ble_eq_true rfl)) [] [0, 1] rfl rfl (z_srecv G (by first | assumption | omega)) rfl rfl hl.1 dX7_reads_40 (Nat.le_of_ble_eq_true rfl) (Nat.le_of_ble_eq_true rfl) (fun r_8 b1 H locs hw G => ?_)
        obtain ⟨rfl, h_7⟩ := hw
        have G : zS T A s.heap s [[(rd, .inr (7, [.ref rl, .ref rdd, .ref rg, .int r0, .int r1, .ref tp, .int (nI n), .int (nI e_), .int r4, .int (nI w_), .int r6, .int r7, .int r8]))], [(tp, .inl (T.2 1, 600, .inl ft))]] _ _ := G
        subst h_7
        refine lv_icmp_ge (tgt := 73) hx hb dX7_reads_43 (by decide) (fun c_9 => ?_) (fun c_9 => ?_)
        · have c_9n : zLen.getD i 0 ≤ k := (nI_leI (a := zLen.getD i 0) (b := k) (by omega) (by omega)).mp c_9
          refine lv_iconst (v := 1) hx hb dX7_reads_73 (by decide) ?_
          exact z_zret C hr hlocks G (Nat.le_of_ble_eq_true rfl) (Nat.le_of_ble_eq_true rfl) dX7_reads_74 rfl ⟨rfl, (Or.inl (⟨rfl, (zWI_t (by omega) (fun j hj => hall j (by omega)))⟩))⟩
        · have c_9n : ¬ zLen.getD i 0 ≤ k := fun q => c_9 ((nI_leI (a := zLen.getD i 0) (b := k) (by omega) (by omega)).mpr q)
          refine lv_aload_n hx hb dX7_reads_46 rfl (lv_at hl 1 rfl) ?_
          refine z_get C G clX7 0 rfl 5 (by decide) m_fl_RX7_32 rfl dX7_reads_47 ?_
          refine lv_aload_n hx hb dX7_reads_50 rfl (lv_at hl 1 rfl) ?_
          refine z_get C G clX7 0 rfl 9 (by decide) m_fl_RX7_84 rfl dX7_reads_51 ?_
          refine lv_iload_n hx hb dX7_reads_54 rfl (lv_at hl 0 rfl) ?_
          refine lv_iadd hx hb dX7_reads_55 ?_
          refine lv_topi (fun y_10 ey_10 => ?_)
          obtain rfl : y_10 = nI (w_ + k) := ey_10.trans (z_iaddn w_ k rfl rfl)
          refine z_bld C G 1 rfl (vp_in_nI (by omega) (by omega)) dX7_reads_56 ?_
          refine lv_topi (fun v_11 ev_11 => ?_)
          rw [nI_clamp (by omega)] at ev_11
          subst ev_11
          refine lv_aload_n hx hb dX7_reads_57 rfl (lv_at hl 2 rfl) ?_
          refine lv_iload_n hx hb dX7_reads_58 rfl (lv_at hl 0 rfl) ?_
          refine z_Wi (bc := []) (br := [[(rd, .inr (7, [.ref rl, .ref rdd, .ref rg, .int r0, .int r1, .ref tp, .int (nI n), .int (nI e_), .int r4, .int (nI w_), .int r6, .int r7, .int r8]))], [(tp, .inl (T.2 1, 600, .inl ft))]]) (As := [.int (nI k)]) (rest := [.int (ft (w_ + k))]) C G (c_schar l T i k (by first | assumption | omega | rfl) (by first | assumption | omega | rfl)) (kV_RX7_190 C.2.2.2.2 (Nat.le_of_ble_eq_true rfl) (Nat.le_of_ble_eq_true rfl)) [] [0, 1] rfl rfl (z_srecv G (by first | assumption | omega)) rfl rfl hl.1 dX7_reads_59 (Nat.le_of_ble_eq_true rfl) (Nat.le_of_ble_eq_true rfl) (fun r_13 b1 H locs hw G => ?_)
          obtain ⟨rfl, h_12⟩ := hw
          have G : zS T A s.heap s [[(rd, .inr (7, [.ref rl, .ref rdd, .ref rg, .int r0, .int r1, .ref tp, .int (nI n), .int (nI e_), .int r4, .int (nI w_), .int r6, .int r7, .int r8]))], [(tp, .inl (T.2 1, 600, .inl ft))]] _ _ := G
          subst h_12
          refine lv_icmp_eq (tgt := 67) hx hb dX7_reads_62 (by decide) (fun c_14 => ?_) (fun c_14 => ?_)
          · have c_14n : (ft (w_ + k)).toInt = (zChar i k).toInt := (fa_eq _ _).mp c_14
            refine lv_iinc (v := nI (k + 1)) (lv' := [(2, .int (nI (k + 1))), (0, .ref rd), (1, .ref (T.2 (100 + i)))]) hx hb dX7_reads_67 hl (k := 0) rfl (z_inc k 1) (by decide) rfl (fun ls hl => ?_)
            refine lv_goto (tgt := 38) hx hb dX7_reads_70 (by decide) ?_
            exact ih_38 (k + 1) (show (k + 1) ≤ zLen.getD i 0 ∧ (∀ j, j < (k + 1) → ft (w_ + j) = (zByt.getD i []).getD j 0) from ⟨by omega, (z_allE hall ((show ft (w_ + k) = zChar i k from c_14).trans (zChar_b i hi k (by omega))))⟩) (show zLen.getD i 0 - (k + 1) < zLen.getD i 0 - k from by omega) _ _ ls G (lv_sub hl [0, 1, 2] rfl)
          · have c_14n : ¬ (ft (w_ + k)).toInt = (zChar i k).toInt := fun q => c_14 ((fa_eq _ _).mpr q)
            refine lv_iconst (v := 0) hx hb dX7_reads_65 (by decide) ?_
            exact z_zret C hr hlocks G (Nat.le_of_ble_eq_true rfl) (Nat.le_of_ble_eq_true rfl) dX7_reads_66 rfl ⟨rfl, (Or.inr (⟨rfl, (zWI_fb (k := k) hi (by omega) c_14)⟩))⟩
      · have c_6n : ¬ e_ ≤ n := fun q => c_6 ((nI_leI (a := e_) (b := n) (by omega) (by omega)).mpr q)
        refine lv_iconst (v := 0) hx hb dX7_reads_34 (by decide) ?_
        exact z_zret C hr hlocks G (Nat.le_of_ble_eq_true rfl) (Nat.le_of_ble_eq_true rfl) dX7_reads_35 rfl ⟨rfl, (Or.inr (⟨rfl, (by first | (exfalso; omega) | exact zWI_fl (by omega))⟩))⟩
set_option maxHeartbeats 4000000 in
set_option maxRecDepth 100000 in
/-- wordOf 0 -/
theorem c_f_wordOf0 (l : Launch) (T : zTy) (rd : Nat) (rl : Nat) (rdd : Nat) (rg : Nat) (tp : Nat) (r0 : Int32) (r1 : Int32) (r2 : Int32) (r3 : Int32) (r4 : Int32) (r5 : Int32) (r6 : Int32) (r7 : Int32) (r8 : Int32) (ft : Nat → Int32) (w_ : Nat) (e_ : Nat) (n : Nat) (hp : r3 = nI e_) (hpl : r5 = nI w_) (hwe : w_ ≤ e_) (hen : e_ ≤ n) (hn : r2 = nI n) (hn6 : n ≤ 600) : zMi l T yX7_wordOf cX7_wordOf 2 (some .int) 6 0 0 [.ref rd, .int 0] [[(rd, .inr (7, [.ref rl, .ref rdd, .ref rg, .int r0, .int r1, .ref tp, .int r2, .int r3, .int r4, .int r5, .int r6, .int r7, .int r8]))], [(tp, .inl (T.2 1, 600, .inl ft))]] (fun (r : Int32) bs => bs = [[(rd, .inr (7, [.ref rl, .ref rdd, .ref rg, .int r0, .int r1, .ref tp, .int r2, .int r3, .int r4, .int r5, .int r6, .int r7, .int r8]))], [(tp, .inl (T.2 1, 600, .inl ft))]] ∧ r = zWc 0 (zWordAt ft w_ e_)) := by
  refine zMi_of (own := RX7) (by decide) rfl (Nat.le_of_ble_eq_true rfl) ?_
  intro p e s m args below meth c A ls C hr hlocks hnm hAe G hl
  have hx := C.1
  have hb := C.2.1
  have hl : lv_has ls 2 [(0, .ref rd), (1, .int 0)] := hl
  refine lv_iload_n hx hb dX7_wordOf_0 rfl (lv_at hl 1 rfl) ?_
  refine lv_if_ne (tgt := 58) hx hb dX7_wordOf_1 (by decide) (fun q => absurd (by decide) q) (fun _ => ?_)
  refine lv_aload_n hx hb dX7_wordOf_4 rfl (lv_at hl 0 rfl) ?_
  refine z_ldcS C G rfl 0 (by decide) rfl dX7_wordOf_5 ?_
  refine z_Vi (bc := [[(rd, .inr (7, [.ref rl, .ref rdd, .ref rg, .int r0, .int r1, .ref tp, .int r2, .int r3, .int r4, .int r5, .int r6, .int r7, .int r8]))], [(tp, .inl (T.2 1, 600, .inl ft))]]) (br := []) (As := [.ref (T.2 (100 + 0))]) (rest := []) C G (c_f_reads l T rd rl rdd rg tp r0 r1 r2 r3 r4 r5 r6 r7 r8 ft 0 w_ e_ n hp hpl hwe hen hn hn6 (by decide)) (kV_RX7_162 C.2.2.2.2 (Nat.le_of_ble_eq_true rfl) (Nat.le_of_ble_eq_true rfl)) [0, 1] [] rfl rfl (ci := 7) (qc := (RX7, TX7, 13)) rfl rfl (List.mem_flatten.mpr ⟨_, List.mem_of_getElem? (i := 0) rfl, List.mem_cons_self⟩) rfl rfl hl.1 dX7_wordOf_7 (Nat.le_of_ble_eq_true rfl) (Nat.le_of_ble_eq_true rfl) (fun r_2 b1 H locs hw G => ?_)
  obtain ⟨rfl, hc_1⟩ := hw
  have G : zS T A s.heap s [[(rd, .inr (7, [.ref rl, .ref rdd, .ref rg, .int r0, .int r1, .ref tp, .int r2, .int r3, .int r4, .int r5, .int r6, .int r7, .int r8]))], [(tp, .inl (T.2 1, 600, .inl ft))]] _ _ := G
  rcases hc_1 with ⟨rfl, h_3⟩ | ⟨rfl, h_4⟩
  · have h_3 : zWI ft w_ e_ 0 = true := h_3
    refine lv_if_eq (tgt := 17) hx hb dX7_wordOf_10 (by decide) (fun q => absurd q (by decide)) (fun _ => ?_)
    refine lv_iconst (v := 0) hx hb dX7_wordOf_13 (by decide) ?_
    refine lv_goto (tgt := 57) hx hb dX7_wordOf_14 (by decide) ?_
    exact z_iret C hr hlocks G (Nat.le_of_ble_eq_true rfl) (Nat.le_of_ble_eq_true rfl) dX7_wordOf_57 ⟨rfl, (by rw [zWd_t (i := 0) (by decide) (by assumption)]; rfl)⟩
  · have h_4 : zWI ft w_ e_ 0 = false := h_4
    refine lv_if_eq (tgt := 17) hx hb dX7_wordOf_10 (by decide) (fun _ => ?_) (fun q => absurd (by decide) q)
    refine lv_aload_n hx hb dX7_wordOf_17 rfl (lv_at hl 0 rfl) ?_
    refine z_ldcS C G rfl 1 (by decide) rfl dX7_wordOf_18 ?_
    refine z_Vi (bc := [[(rd, .inr (7, [.ref rl, .ref rdd, .ref rg, .int r0, .int r1, .ref tp, .int r2, .int r3, .int r4, .int r5, .int r6, .int r7, .int r8]))], [(tp, .inl (T.2 1, 600, .inl ft))]]) (br := []) (As := [.ref (T.2 (100 + 1))]) (rest := []) C G (c_f_reads l T rd rl rdd rg tp r0 r1 r2 r3 r4 r5 r6 r7 r8 ft 1 w_ e_ n hp hpl hwe hen hn hn6 (by decide)) (kV_RX7_162 C.2.2.2.2 (Nat.le_of_ble_eq_true rfl) (Nat.le_of_ble_eq_true rfl)) [0, 1] [] rfl rfl (ci := 7) (qc := (RX7, TX7, 13)) rfl rfl (List.mem_flatten.mpr ⟨_, List.mem_of_getElem? (i := 0) rfl, List.mem_cons_self⟩) rfl rfl hl.1 dX7_wordOf_20 (Nat.le_of_ble_eq_true rfl) (Nat.le_of_ble_eq_true rfl) (fun r_6 b1 H locs hw G => ?_)
    obtain ⟨rfl, hc_5⟩ := hw
    have G : zS T A s.heap s [[(rd, .inr (7, [.ref rl, .ref rdd, .ref rg, .int r0, .int r1, .ref tp, .int r2, .int r3, .int r4, .int r5, .int r6, .int r7, .int r8]))], [(tp, .inl (T.2 1, 600, .inl ft))]] _ _ := G
    rcases hc_5 with ⟨rfl, h_7⟩ | ⟨rfl, h_8⟩
    · have h_7 : zWI ft w_ e_ 1 = true := h_7
      refine lv_if_eq (tgt := 30) hx hb dX7_wordOf_23 (by decide) (fun q => absurd q (by decide)) (fun _ => ?_)
      refine lv_iconst (v := 1) hx hb dX7_wordOf_26 (by decide) ?_
      refine lv_goto (tgt := 57) hx hb dX7_wordOf_27 (by decide) ?_
      exact z_iret C hr hlocks G (Nat.le_of_ble_eq_true rfl) (Nat.le_of_ble_eq_true rfl) dX7_wordOf_57 ⟨rfl, (by rw [zWd_t (i := 1) (by decide) (by assumption)]; rfl)⟩
    · have h_8 : zWI ft w_ e_ 1 = false := h_8
      refine lv_if_eq (tgt := 30) hx hb dX7_wordOf_23 (by decide) (fun _ => ?_) (fun q => absurd (by decide) q)
      refine lv_aload_n hx hb dX7_wordOf_30 rfl (lv_at hl 0 rfl) ?_
      refine z_ldcS C G rfl 2 (by decide) rfl dX7_wordOf_31 ?_
      refine z_Vi (bc := [[(rd, .inr (7, [.ref rl, .ref rdd, .ref rg, .int r0, .int r1, .ref tp, .int r2, .int r3, .int r4, .int r5, .int r6, .int r7, .int r8]))], [(tp, .inl (T.2 1, 600, .inl ft))]]) (br := []) (As := [.ref (T.2 (100 + 2))]) (rest := []) C G (c_f_reads l T rd rl rdd rg tp r0 r1 r2 r3 r4 r5 r6 r7 r8 ft 2 w_ e_ n hp hpl hwe hen hn hn6 (by decide)) (kV_RX7_162 C.2.2.2.2 (Nat.le_of_ble_eq_true rfl) (Nat.le_of_ble_eq_true rfl)) [0, 1] [] rfl rfl (ci := 7) (qc := (RX7, TX7, 13)) rfl rfl (List.mem_flatten.mpr ⟨_, List.mem_of_getElem? (i := 0) rfl, List.mem_cons_self⟩) rfl rfl hl.1 dX7_wordOf_33 (Nat.le_of_ble_eq_true rfl) (Nat.le_of_ble_eq_true rfl) (fun r_10 b1 H locs hw G => ?_)
      obtain ⟨rfl, hc_9⟩ := hw
      have G : zS T A s.heap s [[(rd, .inr (7, [.ref rl, .ref rdd, .ref rg, .int r0, .int r1, .ref tp, .int r2, .int r3, .int r4, .int r5, .int r6, .int r7, .int r8]))], [(tp, .inl (T.2 1, 600, .inl ft))]] _ _ := G
      rcases hc_9 with ⟨rfl, h_11⟩ | ⟨rfl, h_12⟩
      · have h_11 : zWI ft w_ e_ 2 = true := h_11
        refine lv_if_eq (tgt := 43) hx hb dX7_wordOf_36 (by decide) (fun q => absurd q (by decide)) (fun _ => ?_)
        refine lv_iconst (v := 2) hx hb dX7_wordOf_39 (by decide) ?_
        refine lv_goto (tgt := 57) hx hb dX7_wordOf_40 (by decide) ?_
        exact z_iret C hr hlocks G (Nat.le_of_ble_eq_true rfl) (Nat.le_of_ble_eq_true rfl) dX7_wordOf_57 ⟨rfl, (by rw [zWd_t (i := 2) (by decide) (by assumption)]; rfl)⟩
      · have h_12 : zWI ft w_ e_ 2 = false := h_12
        refine lv_if_eq (tgt := 43) hx hb dX7_wordOf_36 (by decide) (fun _ => ?_) (fun q => absurd (by decide) q)
        refine lv_aload_n hx hb dX7_wordOf_43 rfl (lv_at hl 0 rfl) ?_
        refine z_ldcS C G rfl 3 (by decide) rfl dX7_wordOf_44 ?_
        refine z_Vi (bc := [[(rd, .inr (7, [.ref rl, .ref rdd, .ref rg, .int r0, .int r1, .ref tp, .int r2, .int r3, .int r4, .int r5, .int r6, .int r7, .int r8]))], [(tp, .inl (T.2 1, 600, .inl ft))]]) (br := []) (As := [.ref (T.2 (100 + 3))]) (rest := []) C G (c_f_reads l T rd rl rdd rg tp r0 r1 r2 r3 r4 r5 r6 r7 r8 ft 3 w_ e_ n hp hpl hwe hen hn hn6 (by decide)) (kV_RX7_162 C.2.2.2.2 (Nat.le_of_ble_eq_true rfl) (Nat.le_of_ble_eq_true rfl)) [0, 1] [] rfl rfl (ci := 7) (qc := (RX7, TX7, 13)) rfl rfl (List.mem_flatten.mpr ⟨_, List.mem_of_getElem? (i := 0) rfl, List.mem_cons_self⟩) rfl rfl hl.1 dX7_wordOf_46 (Nat.le_of_ble_eq_true rfl) (Nat.le_of_ble_eq_true rfl) (fun r_14 b1 H locs hw G => ?_)
        obtain ⟨rfl, hc_13⟩ := hw
        have G : zS T A s.heap s [[(rd, .inr (7, [.ref rl, .ref rdd, .ref rg, .int r0, .int r1, .ref tp, .int r2, .int r3, .int r4, .int r5, .int r6, .int r7, .int r8]))], [(tp, .inl (T.2 1, 600, .inl ft))]] _ _ := G
        rcases hc_13 with ⟨rfl, h_15⟩ | ⟨rfl, h_16⟩
        · have h_15 : zWI ft w_ e_ 3 = true := h_15
          refine lv_if_eq (tgt := 56) hx hb dX7_wordOf_49 (by decide) (fun q => absurd q (by decide)) (fun _ => ?_)
          refine lv_iconst (v := 3) hx hb dX7_wordOf_52 (by decide) ?_
          refine lv_goto (tgt := 57) hx hb dX7_wordOf_53 (by decide) ?_
          exact z_iret C hr hlocks G (Nat.le_of_ble_eq_true rfl) (Nat.le_of_ble_eq_true rfl) dX7_wordOf_57 ⟨rfl, (by rw [zWd_t (i := 3) (by decide) (by assumption)]; rfl)⟩
        · have h_16 : zWI ft w_ e_ 3 = false := h_16
          refine lv_if_eq (tgt := 56) hx hb dX7_wordOf_49 (by decide) (fun _ => ?_) (fun q => absurd (by decide) q)
          refine lv_iconst (v := (-1)) hx hb dX7_wordOf_56 (by decide) ?_
          exact z_iret C hr hlocks G (Nat.le_of_ble_eq_true rfl) (Nat.le_of_ble_eq_true rfl) dX7_wordOf_57 ⟨rfl, (zWc_0 (zWd_f (i := 0) (by decide) (by assumption)) (zWd_f (i := 1) (by decide) (by assumption)) (zWd_f (i := 2) (by decide) (by assumption)) (zWd_f (i := 3) (by decide) (by assumption)))⟩
set_option maxHeartbeats 4000000 in
set_option maxRecDepth 100000 in
/-- wordOf 1 -/
theorem c_f_wordOf1 (l : Launch) (T : zTy) (rd : Nat) (rl : Nat) (rdd : Nat) (rg : Nat) (tp : Nat) (r0 : Int32) (r1 : Int32) (r2 : Int32) (r3 : Int32) (r4 : Int32) (r5 : Int32) (r6 : Int32) (r7 : Int32) (r8 : Int32) (ft : Nat → Int32) (w_ : Nat) (e_ : Nat) (n : Nat) (hp : r3 = nI e_) (hpl : r5 = nI w_) (hwe : w_ ≤ e_) (hen : e_ ≤ n) (hn : r2 = nI n) (hn6 : n ≤ 600) : zMi l T yX7_wordOf cX7_wordOf 2 (some .int) 6 0 0 [.ref rd, .int 1] [[(rd, .inr (7, [.ref rl, .ref rdd, .ref rg, .int r0, .int r1, .ref tp, .int r2, .int r3, .int r4, .int r5, .int r6, .int r7, .int r8]))], [(tp, .inl (T.2 1, 600, .inl ft))]] (fun (r : Int32) bs => bs = [[(rd, .inr (7, [.ref rl, .ref rdd, .ref rg, .int r0, .int r1, .ref tp, .int r2, .int r3, .int r4, .int r5, .int r6, .int r7, .int r8]))], [(tp, .inl (T.2 1, 600, .inl ft))]] ∧ r = zWc 1 (zWordAt ft w_ e_)) := by
  refine zMi_of (own := RX7) (by decide) rfl (Nat.le_of_ble_eq_true rfl) ?_
  intro p e s m args below meth c A ls C hr hlocks hnm hAe G hl
  have hx := C.1
  have hb := C.2.1
  have hl : lv_has ls 2 [(0, .ref rd), (1, .int 1)] := hl
  refine lv_iload_n hx hb dX7_wordOf_0 rfl (lv_at hl 1 rfl) ?_
  refine lv_if_ne (tgt := 58) hx hb dX7_wordOf_1 (by decide) (fun _ => ?_) (fun q => absurd q (by decide))
  refine lv_iload_n hx hb dX7_wordOf_58 rfl (lv_at hl 1 rfl) ?_
  refine lv_iconst (v := 2) hx hb dX7_wordOf_59 (by decide) ?_
  refine lv_icmp_ne (tgt := 91) hx hb dX7_wordOf_60 (by decide) (fun _ => ?_) (fun q => absurd q (by decide))
  refine lv_aload_n hx hb dX7_wordOf_91 rfl (lv_at hl 0 rfl) ?_
  refine z_ldcS C G rfl 6 (by decide) rfl dX7_wordOf_92 ?_
  refine z_Vi (bc := [[(rd, .inr (7, [.ref rl, .ref rdd, .ref rg, .int r0, .int r1, .ref tp, .int r2, .int r3, .int r4, .int r5, .int r6, .int r7, .int r8]))], [(tp, .inl (T.2 1, 600, .inl ft))]]) (br := []) (As := [.ref (T.2 (100 + 6))]) (rest := []) C G (c_f_reads l T rd rl rdd rg tp r0 r1 r2 r3 r4 r5 r6 r7 r8 ft 6 w_ e_ n hp hpl hwe hen hn hn6 (by decide)) (kV_RX7_162 C.2.2.2.2 (Nat.le_of_ble_eq_true rfl) (Nat.le_of_ble_eq_true rfl)) [0, 1] [] rfl rfl (ci := 7) (qc := (RX7, TX7, 13)) rfl rfl (List.mem_flatten.mpr ⟨_, List.mem_of_getElem? (i := 0) rfl, List.mem_cons_self⟩) rfl rfl hl.1 dX7_wordOf_94 (Nat.le_of_ble_eq_true rfl) (Nat.le_of_ble_eq_true rfl) (fun r_2 b1 H locs hw G => ?_)
  obtain ⟨rfl, hc_1⟩ := hw
  have G : zS T A s.heap s [[(rd, .inr (7, [.ref rl, .ref rdd, .ref rg, .int r0, .int r1, .ref tp, .int r2, .int r3, .int r4, .int r5, .int r6, .int r7, .int r8]))], [(tp, .inl (T.2 1, 600, .inl ft))]] _ _ := G
  rcases hc_1 with ⟨rfl, h_3⟩ | ⟨rfl, h_4⟩
  · have h_3 : zWI ft w_ e_ 6 = true := h_3
    refine lv_if_eq (tgt := 102) hx hb dX7_wordOf_97 (by decide) (fun q => absurd q (by decide)) (fun _ => ?_)
    refine lv_iconst (v := 0) hx hb dX7_wordOf_100 (by decide) ?_
    exact z_iret C hr hlocks G (Nat.le_of_ble_eq_true rfl) (Nat.le_of_ble_eq_true rfl) dX7_wordOf_101 ⟨rfl, (by rw [zWd_t (i := 6) (by decide) (by assumption)]; rfl)⟩
  · have h_4 : zWI ft w_ e_ 6 = false := h_4
    refine lv_if_eq (tgt := 102) hx hb dX7_wordOf_97 (by decide) (fun _ => ?_) (fun q => absurd (by decide) q)
    refine lv_aload_n hx hb dX7_wordOf_102 rfl (lv_at hl 0 rfl) ?_
    refine z_ldcS C G rfl 7 (by decide) rfl dX7_wordOf_103 ?_
    refine z_Vi (bc := [[(rd, .inr (7, [.ref rl, .ref rdd, .ref rg, .int r0, .int r1, .ref tp, .int r2, .int r3, .int r4, .int r5, .int r6, .int r7, .int r8]))], [(tp, .inl (T.2 1, 600, .inl ft))]]) (br := []) (As := [.ref (T.2 (100 + 7))]) (rest := []) C G (c_f_reads l T rd rl rdd rg tp r0 r1 r2 r3 r4 r5 r6 r7 r8 ft 7 w_ e_ n hp hpl hwe hen hn hn6 (by decide)) (kV_RX7_162 C.2.2.2.2 (Nat.le_of_ble_eq_true rfl) (Nat.le_of_ble_eq_true rfl)) [0, 1] [] rfl rfl (ci := 7) (qc := (RX7, TX7, 13)) rfl rfl (List.mem_flatten.mpr ⟨_, List.mem_of_getElem? (i := 0) rfl, List.mem_cons_self⟩) rfl rfl hl.1 dX7_wordOf_105 (Nat.le_of_ble_eq_true rfl) (Nat.le_of_ble_eq_true rfl) (fun r_6 b1 H locs hw G => ?_)
    obtain ⟨rfl, hc_5⟩ := hw
    have G : zS T A s.heap s [[(rd, .inr (7, [.ref rl, .ref rdd, .ref rg, .int r0, .int r1, .ref tp, .int r2, .int r3, .int r4, .int r5, .int r6, .int r7, .int r8]))], [(tp, .inl (T.2 1, 600, .inl ft))]] _ _ := G
    rcases hc_5 with ⟨rfl, h_7⟩ | ⟨rfl, h_8⟩
    · have h_7 : zWI ft w_ e_ 7 = true := h_7
      refine lv_if_eq (tgt := 113) hx hb dX7_wordOf_108 (by decide) (fun q => absurd q (by decide)) (fun _ => ?_)
      refine lv_iconst (v := 1) hx hb dX7_wordOf_111 (by decide) ?_
      exact z_iret C hr hlocks G (Nat.le_of_ble_eq_true rfl) (Nat.le_of_ble_eq_true rfl) dX7_wordOf_112 ⟨rfl, (by rw [zWd_t (i := 7) (by decide) (by assumption)]; rfl)⟩
    · have h_8 : zWI ft w_ e_ 7 = false := h_8
      refine lv_if_eq (tgt := 113) hx hb dX7_wordOf_108 (by decide) (fun _ => ?_) (fun q => absurd (by decide) q)
      refine lv_aload_n hx hb dX7_wordOf_113 rfl (lv_at hl 0 rfl) ?_
      refine z_ldcS C G rfl 8 (by decide) rfl dX7_wordOf_114 ?_
      refine z_Vi (bc := [[(rd, .inr (7, [.ref rl, .ref rdd, .ref rg, .int r0, .int r1, .ref tp, .int r2, .int r3, .int r4, .int r5, .int r6, .int r7, .int r8]))], [(tp, .inl (T.2 1, 600, .inl ft))]]) (br := []) (As := [.ref (T.2 (100 + 8))]) (rest := []) C G (c_f_reads l T rd rl rdd rg tp r0 r1 r2 r3 r4 r5 r6 r7 r8 ft 8 w_ e_ n hp hpl hwe hen hn hn6 (by decide)) (kV_RX7_162 C.2.2.2.2 (Nat.le_of_ble_eq_true rfl) (Nat.le_of_ble_eq_true rfl)) [0, 1] [] rfl rfl (ci := 7) (qc := (RX7, TX7, 13)) rfl rfl (List.mem_flatten.mpr ⟨_, List.mem_of_getElem? (i := 0) rfl, List.mem_cons_self⟩) rfl rfl hl.1 dX7_wordOf_116 (Nat.le_of_ble_eq_true rfl) (Nat.le_of_ble_eq_true rfl) (fun r_10 b1 H locs hw G => ?_)
      obtain ⟨rfl, hc_9⟩ := hw
      have G : zS T A s.heap s [[(rd, .inr (7, [.ref rl, .ref rdd, .ref rg, .int r0, .int r1, .ref tp, .int r2, .int r3, .int r4, .int r5, .int r6, .int r7, .int r8]))], [(tp, .inl (T.2 1, 600, .inl ft))]] _ _ := G
      rcases hc_9 with ⟨rfl, h_11⟩ | ⟨rfl, h_12⟩
      · have h_11 : zWI ft w_ e_ 8 = true := h_11
        refine lv_if_eq (tgt := 124) hx hb dX7_wordOf_119 (by decide) (fun q => absurd q (by decide)) (fun _ => ?_)
        refine lv_iconst (v := 2) hx hb dX7_wordOf_122 (by decide) ?_
        exact z_iret C hr hlocks G (Nat.le_of_ble_eq_true rfl) (Nat.le_of_ble_eq_true rfl) dX7_wordOf_123 ⟨rfl, (by rw [zWd_t (i := 8) (by decide) (by assumption)]; rfl)⟩
      · have h_12 : zWI ft w_ e_ 8 = false := h_12
        refine lv_if_eq (tgt := 124) hx hb dX7_wordOf_119 (by decide) (fun _ => ?_) (fun q => absurd (by decide) q)
        refine lv_aload_n hx hb dX7_wordOf_124 rfl (lv_at hl 0 rfl) ?_
        refine z_ldcS C G rfl 9 (by decide) rfl dX7_wordOf_125 ?_
        refine z_Vi (bc := [[(rd, .inr (7, [.ref rl, .ref rdd, .ref rg, .int r0, .int r1, .ref tp, .int r2, .int r3, .int r4, .int r5, .int r6, .int r7, .int r8]))], [(tp, .inl (T.2 1, 600, .inl ft))]]) (br := []) (As := [.ref (T.2 (100 + 9))]) (rest := []) C G (c_f_reads l T rd rl rdd rg tp r0 r1 r2 r3 r4 r5 r6 r7 r8 ft 9 w_ e_ n hp hpl hwe hen hn hn6 (by decide)) (kV_RX7_162 C.2.2.2.2 (Nat.le_of_ble_eq_true rfl) (Nat.le_of_ble_eq_true rfl)) [0, 1] [] rfl rfl (ci := 7) (qc := (RX7, TX7, 13)) rfl rfl (List.mem_flatten.mpr ⟨_, List.mem_of_getElem? (i := 0) rfl, List.mem_cons_self⟩) rfl rfl hl.1 dX7_wordOf_127 (Nat.le_of_ble_eq_true rfl) (Nat.le_of_ble_eq_true rfl) (fun r_14 b1 H locs hw G => ?_)
        obtain ⟨rfl, hc_13⟩ := hw
        have G : zS T A s.heap s [[(rd, .inr (7, [.ref rl, .ref rdd, .ref rg, .int r0, .int r1, .ref tp, .int r2, .int r3, .int r4, .int r5, .int r6, .int r7, .int r8]))], [(tp, .inl (T.2 1, 600, .inl ft))]] _ _ := G
        rcases hc_13 with ⟨rfl, h_15⟩ | ⟨rfl, h_16⟩
        · have h_15 : zWI ft w_ e_ 9 = true := h_15
          refine lv_if_eq (tgt := 135) hx hb dX7_wordOf_130 (by decide) (fun q => absurd q (by decide)) (fun _ => ?_)
          refine lv_iconst (v := 3) hx hb dX7_wordOf_133 (by decide) ?_
          exact z_iret C hr hlocks G (Nat.le_of_ble_eq_true rfl) (Nat.le_of_ble_eq_true rfl) dX7_wordOf_134 ⟨rfl, (by rw [zWd_t (i := 9) (by decide) (by assumption)]; rfl)⟩
        · have h_16 : zWI ft w_ e_ 9 = false := h_16
          refine lv_if_eq (tgt := 135) hx hb dX7_wordOf_130 (by decide) (fun _ => ?_) (fun q => absurd (by decide) q)
          refine lv_aload_n hx hb dX7_wordOf_135 rfl (lv_at hl 0 rfl) ?_
          refine z_ldcS C G rfl 10 (by decide) rfl dX7_wordOf_136 ?_
          refine z_Vi (bc := [[(rd, .inr (7, [.ref rl, .ref rdd, .ref rg, .int r0, .int r1, .ref tp, .int r2, .int r3, .int r4, .int r5, .int r6, .int r7, .int r8]))], [(tp, .inl (T.2 1, 600, .inl ft))]]) (br := []) (As := [.ref (T.2 (100 + 10))]) (rest := []) C G (c_f_reads l T rd rl rdd rg tp r0 r1 r2 r3 r4 r5 r6 r7 r8 ft 10 w_ e_ n hp hpl hwe hen hn hn6 (by decide)) (kV_RX7_162 C.2.2.2.2 (Nat.le_of_ble_eq_true rfl) (Nat.le_of_ble_eq_true rfl)) [0, 1] [] rfl rfl (ci := 7) (qc := (RX7, TX7, 13)) rfl rfl (List.mem_flatten.mpr ⟨_, List.mem_of_getElem? (i := 0) rfl, List.mem_cons_self⟩) rfl rfl hl.1 dX7_wordOf_138 (Nat.le_of_ble_eq_true rfl) (Nat.le_of_ble_eq_true rfl) (fun r_18 b1 H locs hw G => ?_)
          obtain ⟨rfl, hc_17⟩ := hw
          have G : zS T A s.heap s [[(rd, .inr (7, [.ref rl, .ref rdd, .ref rg, .int r0, .int r1, .ref tp, .int r2, .int r3, .int r4, .int r5, .int r6, .int r7, .int r8]))], [(tp, .inl (T.2 1, 600, .inl ft))]] _ _ := G
          rcases hc_17 with ⟨rfl, h_19⟩ | ⟨rfl, h_20⟩
          · have h_19 : zWI ft w_ e_ 10 = true := h_19
            refine lv_if_eq (tgt := 148) hx hb dX7_wordOf_141 (by decide) (fun q => absurd q (by decide)) (fun _ => ?_)
            refine lv_iconst (v := 4) hx hb dX7_wordOf_144 (by decide) ?_
            refine lv_goto (tgt := 162) hx hb dX7_wordOf_145 (by decide) ?_
            exact z_iret C hr hlocks G (Nat.le_of_ble_eq_true rfl) (Nat.le_of_ble_eq_true rfl) dX7_wordOf_162 ⟨rfl, (by rw [zWd_t (i := 10) (by decide) (by assumption)]; rfl)⟩
          · have h_20 : zWI ft w_ e_ 10 = false := h_20
            refine lv_if_eq (tgt := 148) hx hb dX7_wordOf_141 (by decide) (fun _ => ?_) (fun q => absurd (by decide) q)
            refine lv_aload_n hx hb dX7_wordOf_148 rfl (lv_at hl 0 rfl) ?_
            refine z_ldcS C G rfl 11 (by decide) rfl dX7_wordOf_149 ?_
            refine z_Vi (bc := [[(rd, .inr (7, [.ref rl, .ref rdd, .ref rg, .int r0, .int r1, .ref tp, .int r2, .int r3, .int r4, .int r5, .int r6, .int r7, .int r8]))], [(tp, .inl (T.2 1, 600, .inl ft))]]) (br := []) (As := [.ref (T.2 (100 + 11))]) (rest := []) C G (c_f_reads l T rd rl rdd rg tp r0 r1 r2 r3 r4 r5 r6 r7 r8 ft 11 w_ e_ n hp hpl hwe hen hn hn6 (by decide)) (kV_RX7_162 C.2.2.2.2 (Nat.le_of_ble_eq_true rfl) (Nat.le_of_ble_eq_true rfl)) [0, 1] [] rfl rfl (ci := 7) (qc := (RX7, TX7, 13)) rfl rfl (List.mem_flatten.mpr ⟨_, List.mem_of_getElem? (i := 0) rfl, List.mem_cons_self⟩) rfl rfl hl.1 dX7_wordOf_151 (Nat.le_of_ble_eq_true rfl) (Nat.le_of_ble_eq_true rfl) (fun r_22 b1 H locs hw G => ?_)
            obtain ⟨rfl, hc_21⟩ := hw
            have G : zS T A s.heap s [[(rd, .inr (7, [.ref rl, .ref rdd, .ref rg, .int r0, .int r1, .ref tp, .int r2, .int r3, .int r4, .int r5, .int r6, .int r7, .int r8]))], [(tp, .inl (T.2 1, 600, .inl ft))]] _ _ := G
            rcases hc_21 with ⟨rfl, h_23⟩ | ⟨rfl, h_24⟩
            · have h_23 : zWI ft w_ e_ 11 = true := h_23
              refine lv_if_eq (tgt := 161) hx hb dX7_wordOf_154 (by decide) (fun q => absurd q (by decide)) (fun _ => ?_)
              refine lv_iconst (v := 5) hx hb dX7_wordOf_157 (by decide) ?_
              refine lv_goto (tgt := 162) hx hb dX7_wordOf_158 (by decide) ?_
              exact z_iret C hr hlocks G (Nat.le_of_ble_eq_true rfl) (Nat.le_of_ble_eq_true rfl) dX7_wordOf_162 ⟨rfl, (by rw [zWd_t (i := 11) (by decide) (by assumption)]; rfl)⟩
            · have h_24 : zWI ft w_ e_ 11 = false := h_24
              refine lv_if_eq (tgt := 161) hx hb dX7_wordOf_154 (by decide) (fun _ => ?_) (fun q => absurd (by decide) q)
              refine lv_iconst (v := (-1)) hx hb dX7_wordOf_161 (by decide) ?_
              exact z_iret C hr hlocks G (Nat.le_of_ble_eq_true rfl) (Nat.le_of_ble_eq_true rfl) dX7_wordOf_162 ⟨rfl, (zWc_1 (zWd_f (i := 6) (by decide) (by assumption)) (zWd_f (i := 7) (by decide) (by assumption)) (zWd_f (i := 8) (by decide) (by assumption)) (zWd_f (i := 9) (by decide) (by assumption)) (zWd_f (i := 10) (by decide) (by assumption)) (zWd_f (i := 11) (by decide) (by assumption)))⟩
set_option maxHeartbeats 4000000 in
set_option maxRecDepth 100000 in
/-- wordOf 2 -/
theorem c_f_wordOf2 (l : Launch) (T : zTy) (rd : Nat) (rl : Nat) (rdd : Nat) (rg : Nat) (tp : Nat) (r0 : Int32) (r1 : Int32) (r2 : Int32) (r3 : Int32) (r4 : Int32) (r5 : Int32) (r6 : Int32) (r7 : Int32) (r8 : Int32) (ft : Nat → Int32) (w_ : Nat) (e_ : Nat) (n : Nat) (hp : r3 = nI e_) (hpl : r5 = nI w_) (hwe : w_ ≤ e_) (hen : e_ ≤ n) (hn : r2 = nI n) (hn6 : n ≤ 600) : zMi l T yX7_wordOf cX7_wordOf 2 (some .int) 6 0 0 [.ref rd, .int 2] [[(rd, .inr (7, [.ref rl, .ref rdd, .ref rg, .int r0, .int r1, .ref tp, .int r2, .int r3, .int r4, .int r5, .int r6, .int r7, .int r8]))], [(tp, .inl (T.2 1, 600, .inl ft))]] (fun (r : Int32) bs => bs = [[(rd, .inr (7, [.ref rl, .ref rdd, .ref rg, .int r0, .int r1, .ref tp, .int r2, .int r3, .int r4, .int r5, .int r6, .int r7, .int r8]))], [(tp, .inl (T.2 1, 600, .inl ft))]] ∧ r = zWc 2 (zWordAt ft w_ e_)) := by
  refine zMi_of (own := RX7) (by decide) rfl (Nat.le_of_ble_eq_true rfl) ?_
  intro p e s m args below meth c A ls C hr hlocks hnm hAe G hl
  have hx := C.1
  have hb := C.2.1
  have hl : lv_has ls 2 [(0, .ref rd), (1, .int 2)] := hl
  refine lv_iload_n hx hb dX7_wordOf_0 rfl (lv_at hl 1 rfl) ?_
  refine lv_if_ne (tgt := 58) hx hb dX7_wordOf_1 (by decide) (fun _ => ?_) (fun q => absurd q (by decide))
  refine lv_iload_n hx hb dX7_wordOf_58 rfl (lv_at hl 1 rfl) ?_
  refine lv_iconst (v := 2) hx hb dX7_wordOf_59 (by decide) ?_
  refine lv_icmp_ne (tgt := 91) hx hb dX7_wordOf_60 (by decide) (fun q => absurd (by decide) q) (fun _ => ?_)
  refine lv_aload_n hx hb dX7_wordOf_63 rfl (lv_at hl 0 rfl) ?_
  refine z_ldcS C G rfl 4 (by decide) rfl dX7_wordOf_64 ?_
  refine z_Vi (bc := [[(rd, .inr (7, [.ref rl, .ref rdd, .ref rg, .int r0, .int r1, .ref tp, .int r2, .int r3, .int r4, .int r5, .int r6, .int r7, .int r8]))], [(tp, .inl (T.2 1, 600, .inl ft))]]) (br := []) (As := [.ref (T.2 (100 + 4))]) (rest := []) C G (c_f_reads l T rd rl rdd rg tp r0 r1 r2 r3 r4 r5 r6 r7 r8 ft 4 w_ e_ n hp hpl hwe hen hn hn6 (by decide)) (kV_RX7_162 C.2.2.2.2 (Nat.le_of_ble_eq_true rfl) (Nat.le_of_ble_eq_true rfl)) [0, 1] [] rfl rfl (ci := 7) (qc := (RX7, TX7, 13)) rfl rfl (List.mem_flatten.mpr ⟨_, List.mem_of_getElem? (i := 0) rfl, List.mem_cons_self⟩) rfl rfl hl.1 dX7_wordOf_66 (Nat.le_of_ble_eq_true rfl) (Nat.le_of_ble_eq_true rfl) (fun r_2 b1 H locs hw G => ?_)
  obtain ⟨rfl, hc_1⟩ := hw
  have G : zS T A s.heap s [[(rd, .inr (7, [.ref rl, .ref rdd, .ref rg, .int r0, .int r1, .ref tp, .int r2, .int r3, .int r4, .int r5, .int r6, .int r7, .int r8]))], [(tp, .inl (T.2 1, 600, .inl ft))]] _ _ := G
  rcases hc_1 with ⟨rfl, h_3⟩ | ⟨rfl, h_4⟩
  · have h_3 : zWI ft w_ e_ 4 = true := h_3
    refine lv_if_eq (tgt := 76) hx hb dX7_wordOf_69 (by decide) (fun q => absurd q (by decide)) (fun _ => ?_)
    refine lv_iconst (v := 0) hx hb dX7_wordOf_72 (by decide) ?_
    refine lv_goto (tgt := 90) hx hb dX7_wordOf_73 (by decide) ?_
    exact z_iret C hr hlocks G (Nat.le_of_ble_eq_true rfl) (Nat.le_of_ble_eq_true rfl) dX7_wordOf_90 ⟨rfl, (by rw [zWd_t (i := 4) (by decide) (by assumption)]; rfl)⟩
  · have h_4 : zWI ft w_ e_ 4 = false := h_4
    refine lv_if_eq (tgt := 76) hx hb dX7_wordOf_69 (by decide) (fun _ => ?_) (fun q => absurd (by decide) q)
    refine lv_aload_n hx hb dX7_wordOf_76 rfl (lv_at hl 0 rfl) ?_
    refine z_ldcS C G rfl 5 (by decide) rfl dX7_wordOf_77 ?_
    refine z_Vi (bc := [[(rd, .inr (7, [.ref rl, .ref rdd, .ref rg, .int r0, .int r1, .ref tp, .int r2, .int r3, .int r4, .int r5, .int r6, .int r7, .int r8]))], [(tp, .inl (T.2 1, 600, .inl ft))]]) (br := []) (As := [.ref (T.2 (100 + 5))]) (rest := []) C G (c_f_reads l T rd rl rdd rg tp r0 r1 r2 r3 r4 r5 r6 r7 r8 ft 5 w_ e_ n hp hpl hwe hen hn hn6 (by decide)) (kV_RX7_162 C.2.2.2.2 (Nat.le_of_ble_eq_true rfl) (Nat.le_of_ble_eq_true rfl)) [0, 1] [] rfl rfl (ci := 7) (qc := (RX7, TX7, 13)) rfl rfl (List.mem_flatten.mpr ⟨_, List.mem_of_getElem? (i := 0) rfl, List.mem_cons_self⟩) rfl rfl hl.1 dX7_wordOf_79 (Nat.le_of_ble_eq_true rfl) (Nat.le_of_ble_eq_true rfl) (fun r_6 b1 H locs hw G => ?_)
    obtain ⟨rfl, hc_5⟩ := hw
    have G : zS T A s.heap s [[(rd, .inr (7, [.ref rl, .ref rdd, .ref rg, .int r0, .int r1, .ref tp, .int r2, .int r3, .int r4, .int r5, .int r6, .int r7, .int r8]))], [(tp, .inl (T.2 1, 600, .inl ft))]] _ _ := G
    rcases hc_5 with ⟨rfl, h_7⟩ | ⟨rfl, h_8⟩
    · have h_7 : zWI ft w_ e_ 5 = true := h_7
      refine lv_if_eq (tgt := 89) hx hb dX7_wordOf_82 (by decide) (fun q => absurd q (by decide)) (fun _ => ?_)
      refine lv_iconst (v := 1) hx hb dX7_wordOf_85 (by decide) ?_
      refine lv_goto (tgt := 90) hx hb dX7_wordOf_86 (by decide) ?_
      exact z_iret C hr hlocks G (Nat.le_of_ble_eq_true rfl) (Nat.le_of_ble_eq_true rfl) dX7_wordOf_90 ⟨rfl, (by rw [zWd_t (i := 5) (by decide) (by assumption)]; rfl)⟩
    · have h_8 : zWI ft w_ e_ 5 = false := h_8
      refine lv_if_eq (tgt := 89) hx hb dX7_wordOf_82 (by decide) (fun _ => ?_) (fun q => absurd (by decide) q)
      refine lv_iconst (v := (-1)) hx hb dX7_wordOf_89 (by decide) ?_
      exact z_iret C hr hlocks G (Nat.le_of_ble_eq_true rfl) (Nat.le_of_ble_eq_true rfl) dX7_wordOf_90 ⟨rfl, (zWc_2 (zWd_f (i := 4) (by decide) (by assumption)) (zWd_f (i := 5) (by decide) (by assumption)))⟩


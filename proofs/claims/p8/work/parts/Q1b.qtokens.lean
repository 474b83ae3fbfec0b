/-! the reference's words: letters five bits each -/
def zVal (g : Nat → Int32) (w : Nat) : Nat → Int
  | 0 => 0
  | k + 1 => 32 * zVal g w k + ((g (w + k)).toInt - 96)
theorem zVal_bd {g : Nat → Int32} {w : Nat} : ∀ k : Nat, (∀ j, j < k → tkL (g (w + j)) = true) → 0 ≤ zVal g w k ∧ zVal g w k < 32 ^ k
  | 0, h => by unfold zVal; exact ⟨by omega, by decide⟩
  | k + 1, h => by
    have h1 := zVal_bd (g := g) (w := w) k (fun j hj => h j (by omega))
    have h2 := tkL_iff.mp (h k (by omega))
    unfold zVal
    rw [Int.pow_succ]
    omega
theorem zVal_inj {g g' : Nat → Int32} {w w' : Nat} : ∀ k k' : Nat, (∀ j, j < k → tkL (g (w + j)) = true) → (∀ j, j < k' → tkL (g' (w' + j)) = true) → zVal g w k = zVal g' w' k' → k = k' ∧ ∀ j, j < k → g (w + j) = g' (w' + j)
  | 0, 0, _, _, _ => ⟨rfl, fun j hj => absurd hj (by omega)⟩
  | 0, k' + 1, _, h', e => by
    have h1 := zVal_bd (g := g') (w := w') k' (fun j hj => h' j (by omega))
    have h2 := tkL_iff.mp (h' k' (by omega))
    unfold zVal at e
    omega
  | k + 1, 0, h, _, e => by
    have h1 := zVal_bd (g := g) (w := w) k (fun j hj => h j (by omega))
    have h2 := tkL_iff.mp (h k (by omega))
    unfold zVal at e
    omega
  | k + 1, k' + 1, h, h', e => by
    have h2 := tkL_iff.mp (h k (by omega))
    have h3 := tkL_iff.mp (h' k' (by omega))
    unfold zVal at e
    obtain ⟨q1, q2⟩ := zVal_inj k k' (fun j hj => h j (by omega)) (fun j hj => h' j (by omega)) (by omega)
    refine ⟨by omega, fun j hj => ?_⟩
    by_cases c : j = k
    · subst q1
      subst c
      exact Int32.toInt_inj.mp (by omega)
    · exact q2 j (by omega)
def zWq (i : Nat) : Nat → Int32 := fun j => (zByt.getD i []).getD j 0
theorem zWq_let : ∀ i, i < 12 → ∀ j, j < zLen.getD i 0 → tkL (zWq i j) = true := by decide +kernel
theorem zVal_word {g : Nat → Int32} {w e i : Nat} (hi : i < 12) (hw : w ≤ e) (hl : ∀ j, w ≤ j → j < e → tkL (g j) = true) : (zVal g w (e - w) = zVal (zWq i) 0 (zLen.getD i 0)) ↔ zWI g w e i = true := by
  unfold zWI
  rw [decide_eq_true_iff]
  constructor
  · intro h
    obtain ⟨q1, q2⟩ := zVal_inj _ _ (fun j hj => hl (w + j) (by omega) (by omega)) (fun j hj => by rw [Nat.zero_add]; exact zWq_let i hi j hj) h
    refine ⟨q1, fun j hj => ?_⟩
    have := q2 j (by omega)
    rw [Nat.zero_add] at this
    exact this
  · rintro ⟨h1, h2⟩
    rw [h1]
    have key : ∀ k, k ≤ zLen.getD i 0 → zVal g w k = zVal (zWq i) 0 k := by
      intro k
      induction k with
      | zero => intro _; rfl
      | succ k ih =>
        intro hk
        unfold zVal
        rw [ih (by omega), h2 k (by omega), Nat.zero_add]
        rfl
    exact key _ (Nat.le_refl _)
def zKon : List Int64 := [zEight 0 0 0 3 18 15 19 19, zFour 16 15 19 20, zEight 0 23 1 12 11 5 18 19, zFour 0 9 14 14, zFour 3 1 13 5, zEight 0 0 0 14 5 22 5 18, zFour 0 0 7 15, zFour 0 18 21 14, zFour 20 21 18 14, zFour 0 1 4 4, zFour 19 8 21 20, zFour 15 16 5 14]
theorem zKon_val : ∀ i, i < 12 → (zKon.getD i 0).toInt = zVal (zWq i) 0 (zLen.getD i 0) := by decide +kernel
theorem zWord_at {g : Nat → Int32} {w e : Nat} {v : Int64} (hw : w ≤ e) (hl : ∀ j, w ≤ j → j < e → tkL (g j) = true) (hv : v.toInt = zVal g w (e - w)) : (zWord v).toInt = (zWordAt g w e : Int) := by
  have c : ∀ i, i < 12 → ((v = zKon.getD i 0) ↔ zWI g w e i = true) := fun i hi => by
    rw [← zVal_word hi hw hl, ← zKon_val i hi, ← hv]
    exact Int64.toInt_inj.symm
  have c0 : (v = zEight 0 0 0 3 18 15 19 19) ↔ zWI g w e 0 = true := c 0 (by decide)
  have c1 : (v = zFour 16 15 19 20) ↔ zWI g w e 1 = true := c 1 (by decide)
  have c2 : (v = zEight 0 23 1 12 11 5 18 19) ↔ zWI g w e 2 = true := c 2 (by decide)
  have c3 : (v = zFour 0 9 14 14) ↔ zWI g w e 3 = true := c 3 (by decide)
  have c4 : (v = zFour 3 1 13 5) ↔ zWI g w e 4 = true := c 4 (by decide)
  have c5 : (v = zEight 0 0 0 14 5 22 5 18) ↔ zWI g w e 5 = true := c 5 (by decide)
  have c6 : (v = zFour 0 0 7 15) ↔ zWI g w e 6 = true := c 6 (by decide)
  have c7 : (v = zFour 0 18 21 14) ↔ zWI g w e 7 = true := c 7 (by decide)
  have c8 : (v = zFour 20 21 18 14) ↔ zWI g w e 8 = true := c 8 (by decide)
  have c9 : (v = zFour 0 1 4 4) ↔ zWI g w e 9 = true := c 9 (by decide)
  have c10 : (v = zFour 19 8 21 20) ↔ zWI g w e 10 = true := c 10 (by decide)
  have c11 : (v = zFour 15 16 5 14) ↔ zWI g w e 11 = true := c 11 (by decide)
  unfold zWord zWordAt
  simp only [c0, c1, c2, c3, c4, c5, c6, c7, c8, c9, c10, c11]
  by_cases h0 : zWI g w e 0 = true
  · rw [if_pos h0, if_pos h0]; rfl
  rw [if_neg h0, if_neg h0]
  by_cases h1 : zWI g w e 1 = true
  · rw [if_pos h1, if_pos h1]; rfl
  rw [if_neg h1, if_neg h1]
  by_cases h2 : zWI g w e 2 = true
  · rw [if_pos h2, if_pos h2]; rfl
  rw [if_neg h2, if_neg h2]
  by_cases h3 : zWI g w e 3 = true
  · rw [if_pos h3, if_pos h3]; rfl
  rw [if_neg h3, if_neg h3]
  by_cases h6 : zWI g w e 6 = true
  · rw [if_pos h6, if_pos h6]; rfl
  rw [if_neg h6, if_neg h6]
  by_cases h7 : zWI g w e 7 = true
  · rw [if_pos h7, if_pos h7]; rfl
  rw [if_neg h7, if_neg h7]
  by_cases h8 : zWI g w e 8 = true
  · rw [if_pos h8, if_pos h8]; rfl
  rw [if_neg h8, if_neg h8]
  by_cases h9 : zWI g w e 9 = true
  · rw [if_pos h9, if_pos h9]; rfl
  rw [if_neg h9, if_neg h9]
  by_cases h10 : zWI g w e 10 = true
  · rw [if_pos h10, if_pos h10]; rfl
  rw [if_neg h10, if_neg h10]
  by_cases h11 : zWI g w e 11 = true
  · rw [if_pos h11, if_pos h11]; rfl
  rw [if_neg h11, if_neg h11]
  by_cases h4 : zWI g w e 4 = true
  · rw [if_pos h4, if_pos h4]; rfl
  rw [if_neg h4, if_neg h4]
  by_cases h5 : zWI g w e 5 = true
  · rw [if_pos h5, if_pos h5]; rfl
  rw [if_neg h5, if_neg h5]
  rfl
theorem zWd_long {g : Nat → Int32} {w e : Nat} (h : 7 < e - w) : zWordAt g w e = 99 := by
  rcases zWd_c g w e with ⟨i, hi, a, -⟩ | b
  · unfold zWI at a
    have q := (of_decide_eq_true a).1
    have := zLen_le i hi
    omega
  · exact b
def zBt (f : Nat → Int32) (n q : Nat) : Int32 := if q < n then f (10 + q) else -1
theorem zBt_lt {f : Nat → Int32} {n q : Nat} (h : ¬ (zBt f n q).toInt = -1) : q < n := by
  by_cases c : q < n
  · exact c
  · exact absurd (by unfold zBt; rw [if_neg c]; rfl) h
theorem zBt_e {f : Nat → Int32} {n q : Nat} (h : q < n) : zBt f n q = f (10 + q) := if_pos h
theorem zBt_neg {f : Nat → Int32} {n q : Nat} (hb : ∀ j, j < n → 0 ≤ (f (10 + j)).toInt) (h : (zBt f n q).toInt < 0) : n ≤ q := by
  by_cases c : q < n
  · rw [zBt_e c] at h
    have := hb q c
    omega
  · omega
theorem zBt_B {f : Nat → Int32} {n q : Nat} (h : (zBt f n q).toInt = 10 ∨ (zBt f n q).toInt = 32) : q < n ∧ tkB (f (10 + q)) = true := by
  have c : q < n := zBt_lt (f := f) (by omega)
  rw [zBt_e c] at h
  exact ⟨c, tkB_iff.mpr h⟩
theorem zBt_nB {f : Nat → Int32} {n q : Nat} (c : q < n) (h1 : ¬ (zBt f n q).toInt = 10) (h2 : ¬ (zBt f n q).toInt = 32) : tkB (f (10 + q)) = false := by
  rw [zBt_e c] at h1 h2
  exact tkB_f h1 h2
theorem zBt_L {f : Nat → Int32} {n q : Nat} (h1 : 97 ≤ (zBt f n q).toInt) (h2 : (zBt f n q).toInt ≤ 122) : q < n ∧ tkL (f (10 + q)) = true := by
  have c : q < n := zBt_lt (f := f) (by omega)
  rw [zBt_e c] at h1 h2
  exact ⟨c, tkL_iff.mpr ⟨h1, h2⟩⟩
theorem zBt_nL {f : Nat → Int32} {n q : Nat} (c : q < n) (h : (zBt f n q).toInt < 97 ∨ 122 < (zBt f n q).toInt) : tkL (f (10 + q)) = false := by
  rw [zBt_e c] at h
  exact tkL_f h
theorem zBt_D {f : Nat → Int32} {n q : Nat} (h1 : 48 ≤ (zBt f n q).toInt) (h2 : (zBt f n q).toInt ≤ 57) : q < n ∧ tkD (f (10 + q)) = true := by
  have c : q < n := zBt_lt (f := f) (by omega)
  rw [zBt_e c] at h1 h2
  exact ⟨c, tkD_iff.mpr ⟨h1, h2⟩⟩
theorem zBt_nD {f : Nat → Int32} {n q : Nat} (c : q < n) (h : (zBt f n q).toInt < 48 ∨ 57 < (zBt f n q).toInt) : tkD (f (10 + q)) = false := by
  rw [zBt_e c] at h
  exact tkD_f h
theorem zVal_0 {g : Nat → Int32} {w : Nat} : (0 : Int64).toInt = zVal g w (min (w - w) 8) := by rw [Nat.sub_self]; rfl
theorem z_l32 {v : Int64} {x : Int32} (h0 : 0 ≤ v.toInt) (h1 : v.toInt < 1099511627776) (hx : 97 ≤ x.toInt ∧ x.toInt ≤ 122) : (32 * v + x.toInt64 - 96).toInt = 32 * v.toInt + (x.toInt - 96) := by
  have e32 : (32 : Int64).toInt = 32 := rfl
  have e96 : (96 : Int64).toInt = 96 := rfl
  rw [Int64.toInt_sub, Int64.toInt_add, Int64.toInt_mul, Int32.toInt_toInt64, e32, e96]
  rw [Int.bmod_eq_of_le (n := 32 * v.toInt) (by omega) (by omega), Int.bmod_eq_of_le (n := 32 * v.toInt + x.toInt) (by omega) (by omega), Int.bmod_eq_of_le (by omega) (by omega)]
  omega
theorem zVal_p {g : Nat → Int32} {w y : Nat} {v : Int64} (hall : ∀ j, w ≤ j → j < y → tkL (g j) = true) (hv : v.toInt = zVal g w (min (y - w) 8)) : 0 ≤ v.toInt ∧ v.toInt < 1099511627776 := by
  have h := zVal_bd (g := g) (w := w) (min (y - w) 8) (fun j hj => hall (w + j) (by omega) (by omega))
  have p : ∀ k, k ≤ 8 → (32 : Int) ^ k ≤ 32 ^ 8 := by decide
  have q := p (min (y - w) 8) (by omega)
  rw [hv]
  have e : (32 : Int) ^ 8 = 1099511627776 := rfl
  omega
theorem zVal_a {g : Nat → Int32} {w y : Nat} {v : Int64} {x : Int32} (hw : w ≤ y) (hall : ∀ j, w ≤ j → j < y → tkL (g j) = true) (hx : x = g y) (hl : tkL (g y) = true) (hv : v.toInt = zVal g w (min (y - w) 8)) (h8 : y - w < 8) : (32 * v + x.toInt64 - 96).toInt = zVal g w (min (y + 1 - w) 8) := by
  have b := zVal_p hall hv
  have c := tkL_iff.mp hl
  rw [z_l32 b.1 b.2 (by rw [hx]; exact c), hv, show min (y + 1 - w) 8 = min (y - w) 8 + 1 by omega]
  conv => rhs; unfold zVal
  rw [show w + min (y - w) 8 = y by omega, hx]
theorem zVal_b {g : Nat → Int32} {w y : Nat} {v : Int64} (hv : v.toInt = zVal g w (min (y - w) 8)) (h8 : 8 ≤ y - w) : v.toInt = zVal g w (min (y + 1 - w) 8) := by
  rw [hv, show min (y - w) 8 = min (y + 1 - w) 8 by omega]
theorem zTokR_old {k : pT} {n p : Nat} {nx wh tk nu wo : Int32} (hk : pOk k n) (hp : p ≤ n) (hn : n ≤ 600) (h : zTokR k p nx wh tk nu wo) : 0 ≤ nx.toInt ∧ nx.toInt ≤ (nI n).toInt ∧ (nI p).toInt ≤ nx.toInt ∧ (tk.toInt = 0 ∨ (nI p).toInt < nx.toInt) ∧ 0 ≤ tk.toInt ∧ tk.toInt ≤ 4 := by
  obtain ⟨h1, h2, h3, -, -⟩ := h
  have q := hk p hp
  have t := pTk_le hk hp
  have e1 : nx.toInt = (pEn k p : Int) := by rw [h1]; exact nI_toInt (by omega)
  have e3 : tk.toInt = (pTk k p : Int) := by rw [h3]; exact nI_toInt (by omega)
  have e4 : (nI n).toInt = (n : Int) := nI_toInt (by omega)
  have e5 : (nI p).toInt = (p : Int) := nI_toInt (by omega)
  rw [e1, e3, e4, e5]
  refine ⟨by omega, by omega, by omega, ?_, by omega, by omega⟩
  by_cases c : pTk k p = 0
  · exact Or.inl (by omega)
  · have := q.2.2.2.1 (fun z => c (pTk_0.mpr z))
    exact Or.inr (by omega)
theorem tkV_m {g : Nat → Int32} {x z : Nat} {nu y : Int32} (hx : x ≤ z) (hz : z < x + 2) (hnu : nu.toInt = tkV g x (min z (x + 2))) (e : y.toInt = 10 * nu.toInt + (g z).toInt - 48) : y.toInt = tkV g x (min (z + 1) (x + 2)) := by
  rw [show min (z + 1) (x + 2) = z + 1 by omega, tkV_s hx hz, e, hnu, show min z (x + 2) = z by omega]
  omega
theorem tkV_b2 {g : Nat → Int32} {x z : Nat} {nu : Int32} (hx : x ≤ z) (hall : ∀ j, x ≤ j → j < z → tkD (g j) = true) (hnu : nu.toInt = tkV g x (min z (x + 2))) : 0 ≤ nu.toInt ∧ nu.toInt ≤ 99 := by
  rw [hnu]
  exact tkV_bd (fun j h1 h2 => hall j h1 (by omega)) (by omega) (by omega)


/-- the end of the run from p of bytes of a kind, below n (k: how many may follow) -/
def zEndF (P : Int32 → Bool) (g : Nat → Int32) (n : Nat) : Nat → Nat → Nat
  | 0, p => p
  | k + 1, p => if p < n ∧ P (g p) = true then zEndF P g n k (p + 1) else p
def zEnd (P : Int32 → Bool) (g : Nat → Int32) (n p : Nat) : Nat := zEndF P g n (n - p) p
def zRun (P : Int32 → Bool) (g : Nat → Int32) (n p q : Nat) : Prop := p ≤ q ∧ (q ≤ n ∨ q = p) ∧ (∀ j, p ≤ j → j < q → P (g j) = true) ∧ (q < n → P (g q) = false)
theorem zEndF_run {P : Int32 → Bool} {g : Nat → Int32} {n : Nat} : ∀ (k p : Nat), n - p ≤ k → zRun P g n p (zEndF P g n k p)
  | 0, p, h => ⟨Nat.le_refl _, Or.inr rfl, fun j h1 h2 => by unfold zEndF at h2; omega, fun h2 => by unfold zEndF at h2; omega⟩
  | k + 1, p, h => by
    unfold zEndF
    by_cases c : p < n ∧ P (g p) = true
    · rw [if_pos c]
      obtain ⟨h1, h2, h3, h4⟩ := zEndF_run (P := P) (g := g) (n := n) k (p + 1) (by omega)
      refine ⟨by omega, Or.inl (by omega), fun j h5 h6 => ?_, h4⟩
      by_cases e : j = p
      · rw [e]; exact c.2
      · exact h3 j (by omega) h6
    · rw [if_neg c]
      refine ⟨Nat.le_refl _, Or.inr rfl, fun j h1 h2 => by omega, fun h2 => ?_⟩
      cases e : P (g p) with
      | false => rfl
      | true => exact absurd ⟨h2, e⟩ c
theorem zRun_uniq {P : Int32 → Bool} {g : Nat → Int32} {n p q r : Nat} (h : zRun P g n p q) (h' : zRun P g n p r) : q = r := by
  obtain ⟨a1, a2, a3, a4⟩ := h
  obtain ⟨b1, b2, b3, b4⟩ := h'
  rcases Nat.lt_trichotomy q r with c | c | c
  · have x := b3 q a1 c
    rw [a4 (by omega)] at x
    cases x
  · exact c
  · have x := a3 r b1 c
    rw [b4 (by omega)] at x
    cases x
theorem zEnd_run (P : Int32 → Bool) (g : Nat → Int32) (n p : Nat) : zRun P g n p (zEnd P g n p) := zEndF_run _ _ (Nat.le_refl _)
theorem zRun_eq {P : Int32 → Bool} {g : Nat → Int32} {n p q : Nat} (h : zRun P g n p q) : q = zEnd P g n p := zRun_uniq h (zEnd_run P g n p)
theorem zRun_cg {P : Int32 → Bool} {g g' : Nat → Int32} {n p q : Nat} (e : ∀ j, j < n → P (g' j) = P (g j)) (h : zRun P g n p q) : zRun P g' n p q := by
  obtain ⟨a1, a2, a3, a4⟩ := h
  exact ⟨a1, a2, fun j h1 h2 => by rw [e j (by omega)]; exact a3 j h1 h2, fun h => by rw [e q h]; exact a4 h⟩
def tkB (x : Int32) : Bool := decide (x.toInt = 10 ∨ x.toInt = 32)
def tkL (x : Int32) : Bool := decide (97 ≤ x.toInt ∧ x.toInt ≤ 122)
def tkD (x : Int32) : Bool := decide (48 ≤ x.toInt ∧ x.toInt ≤ 57)
/-- where the token behind p begins; where it ends -/
def zWh (g : Nat → Int32) (n p : Nat) : Nat := zEnd tkB g n p
def zWI (g : Nat → Int32) (w e i : Nat) : Bool := decide (e - w = zLen.getD i 0 ∧ ∀ j, j < zLen.getD i 0 → g (w + j) = (zByt.getD i []).getD j 0)
/-- which of the twelve words stands from w to e: 1 .. 12 as the reference counts them, 99 none -/
def zWordAt (g : Nat → Int32) (w e : Nat) : Nat := if zWI g w e 0 = true then 1 else if zWI g w e 1 = true then 2 else if zWI g w e 2 = true then 3 else if zWI g w e 3 = true then 4 else if zWI g w e 6 = true then 5 else if zWI g w e 7 = true then 6 else if zWI g w e 8 = true then 7 else if zWI g w e 9 = true then 8 else if zWI g w e 10 = true then 9 else if zWI g w e 11 = true then 10 else if zWI g w e 4 = true then 11 else if zWI g w e 5 = true then 12 else 99

def tkE (g : Nat → Int32) (n p : Nat) : Nat :=
  if n ≤ zWh g n p then zWh g n p
  else if tkL (g (zWh g n p)) = true then zEnd tkL g n (zWh g n p)
  else if tkD (g (zWh g n p)) = true then zEnd tkD g n (zWh g n p)
  else zWh g n p + 1
/-- its kind as the program counts them: 0 end, 1 letters, 2 number, 3 semicolon, 4 none -/
def tkC (g : Nat → Int32) (n p : Nat) : Nat :=
  if n ≤ zWh g n p then 0
  else if tkL (g (zWh g n p)) = true then 1
  else if tkD (g (zWh g n p)) = true then (if tkE g n p - zWh g n p ≤ 2 then 2 else 4)
  else if (g (zWh g n p)).toInt = 59 then 3 else 4
def tkV (g : Nat → Int32) (w e : Nat) : Int := if e ≤ w then 0 else if e = w + 1 then (g w).toInt - 48 else 10 * ((g w).toInt - 48) + ((g (w + 1)).toInt - 48)
abbrev pT : Type := Nat → Nat × Nat × Nat × Nat × Int32
def tkT (g : Nat → Int32) (n : Nat) : pT := fun p => (zWh g n p, tkE g n p, tkC g n p, (if tkC g n p = 1 then zWordAt g (zWh g n p) (tkE g n p) else 0), (if tkC g n p = 2 then Int32.ofInt (tkV g (zWh g n p) (tkE g n p)) else 0))
def pWh (k : pT) (p : Nat) : Nat := (k p).1
def pEn (k : pT) (p : Nat) : Nat := (k p).2.1
def pCl (k : pT) (p : Nat) : Nat := (k p).2.2.1
def pWd (k : pT) (p : Nat) : Nat := (k p).2.2.2.1
def pNm (k : pT) (p : Nat) : Int32 := (k p).2.2.2.2
/-- its kind as the reference counts them: 0 end, 1 number, 2 semicolon, 3 word, 4 none -/
def pTk (k : pT) (p : Nat) : Nat := if pCl k p = 1 then (if pWd k p = 99 then 4 else 3) else if pCl k p = 2 then 1 else if pCl k p = 3 then 2 else pCl k p
section TKS
variable {g : Nat → Int32} {n p w e : Nat}
theorem tk_wh (h : zRun tkB g n p w) : zWh g n p = w := (zRun_eq h).symm
theorem tk_0 (h : zRun tkB g n p w) (hw : n ≤ w) : tkT g n p = (w, w, 0, 0, 0) := by
  have a := tk_wh h
  have hc : tkC g n p = 0 := by unfold tkC; rw [a, if_pos hw]
  have he : tkE g n p = w := by unfold tkE; rw [a, if_pos hw]
  unfold tkT
  rw [a, hc, he]
  rfl
theorem tk_L (h : zRun tkB g n p w) (hw : w < n) (hl : tkL (g w) = true) (hr : zRun tkL g n w e) : tkT g n p = (w, e, 1, zWordAt g w e, 0) := by
  have a := tk_wh h
  have hc : tkC g n p = 1 := by unfold tkC; rw [a, if_neg (by omega), if_pos hl]
  have he : tkE g n p = e := by unfold tkE; rw [a, if_neg (by omega), if_pos hl]; exact (zRun_eq hr).symm
  unfold tkT
  rw [a, hc, he]
  rfl
theorem tk_D (h : zRun tkB g n p w) (hw : w < n) (hl : tkL (g w) = false) (hd : tkD (g w) = true) (hr : zRun tkD g n w e) : tkT g n p = (w, e, (if e - w ≤ 2 then 2 else 4), 0, (if e - w ≤ 2 then Int32.ofInt (tkV g w e) else 0)) := by
  have a := tk_wh h
  have he : tkE g n p = e := by unfold tkE; rw [a, if_neg (by omega), if_neg (by rw [hl]; decide), if_pos hd]; exact (zRun_eq hr).symm
  have hc : tkC g n p = if e - w ≤ 2 then 2 else 4 := by unfold tkC; rw [a, if_neg (by omega), if_neg (by rw [hl]; decide), if_pos hd, he]
  unfold tkT
  rw [a, hc, he]
  by_cases c : e - w ≤ 2
  · rw [if_pos c, if_pos c]; rfl
  · rw [if_neg c, if_neg c]; rfl
theorem tk_S (h : zRun tkB g n p w) (hw : w < n) (hl : tkL (g w) = false) (hd : tkD (g w) = false) : tkT g n p = (w, w + 1, (if (g w).toInt = 59 then 3 else 4), 0, 0) := by
  have a := tk_wh h
  have he : tkE g n p = w + 1 := by unfold tkE; rw [a, if_neg (by omega), if_neg (by rw [hl]; decide), if_neg (by rw [hd]; decide)]
  have hc : tkC g n p = if (g w).toInt = 59 then 3 else 4 := by unfold tkC; rw [a, if_neg (by omega), if_neg (by rw [hl]; decide), if_neg (by rw [hd]; decide)]
  unfold tkT
  rw [a, hc, he]
  by_cases c : (g w).toInt = 59
  · rw [if_pos c]; rfl
  · rw [if_neg c]; rfl
theorem tkL_iff {x : Int32} : tkL x = true ↔ 97 ≤ x.toInt ∧ x.toInt ≤ 122 := by unfold tkL; exact decide_eq_true_iff
theorem tkD_iff {x : Int32} : tkD x = true ↔ 48 ≤ x.toInt ∧ x.toInt ≤ 57 := by unfold tkD; exact decide_eq_true_iff
theorem tkB_iff {x : Int32} : tkB x = true ↔ x.toInt = 10 ∨ x.toInt = 32 := by unfold tkB; exact decide_eq_true_iff
theorem tkL_f {x : Int32} (h : x.toInt < 97 ∨ 122 < x.toInt) : tkL x = false := by unfold tkL; exact decide_eq_false (by omega)
theorem tkD_f {x : Int32} (h : x.toInt < 48 ∨ 57 < x.toInt) : tkD x = false := by unfold tkD; exact decide_eq_false (by omega)
theorem tkB_f {x : Int32} (h1 : ¬ x.toInt = 10) (h2 : ¬ x.toInt = 32) : tkB x = false := by unfold tkB; exact decide_eq_false (by omega)
theorem tkV_0 (h : e = w) : tkV g w e = 0 := by unfold tkV; rw [if_pos (by omega)]
theorem tkV_1 (h : e = w + 1) : tkV g w e = (g w).toInt - 48 := by unfold tkV; rw [if_neg (by omega), if_pos h]
theorem tkV_2 (h : e = w + 2) : tkV g w e = 10 * ((g w).toInt - 48) + ((g (w + 1)).toInt - 48) := by unfold tkV; rw [if_neg (by omega), if_neg (by omega)]
/-- one digit more -/
theorem tkV_s (hw : w ≤ e) (h2 : e < w + 2) : tkV g w (e + 1) = 10 * tkV g w e + ((g e).toInt - 48) := by
  rcases (show e = w ∨ e = w + 1 by omega) with c | c
  · subst c; rw [tkV_1 rfl, tkV_0 rfl]; omega
  · subst c; rw [tkV_2 rfl, tkV_1 rfl]
theorem tkV_bd (h : ∀ j, w ≤ j → j < e → tkD (g j) = true) (hw : w ≤ e) (h2 : e ≤ w + 2) : 0 ≤ tkV g w e ∧ tkV g w e ≤ 99 := by
  rcases (show e = w ∨ e = w + 1 ∨ e = w + 2 by omega) with c | c | c
  · rw [tkV_0 c]; decide
  · have a := tkD_iff.mp (h w (by omega) (by omega)); rw [tkV_1 c]; omega
  · have a := tkD_iff.mp (h w (by omega) (by omega)); have b := tkD_iff.mp (h (w + 1) (by omega) (by omega)); rw [tkV_2 c]; omega
end TKS
theorem tk_of {x : Int32} {v : Int} (h : x.toInt = v) : x = Int32.ofInt v := by rw [← h]; exact (Int32.ofInt_toInt x).symm
/-- what is known of a row of tokens -/
def pOk (k : pT) (n : Nat) : Prop := ∀ p, p ≤ n → (p ≤ pWh k p ∧ pWh k p ≤ pEn k p ∧ pEn k p ≤ n) ∧ pCl k p ≤ 4 ∧ (pCl k p = 0 → pWh k p = n) ∧ (¬ pCl k p = 0 → pWh k p < pEn k p) ∧ (pCl k p = 2 → 0 ≤ (pNm k p).toInt ∧ (pNm k p).toInt ≤ 99) ∧ (pCl k p = 1 → 1 ≤ pWd k p ∧ (pWd k p ≤ 12 ∨ pWd k p = 99))
theorem zIfQ {c : Prop} [Decidable c] {a b : Nat} (ha : 1 ≤ a ∧ (a ≤ 12 ∨ a = 99)) (hb : 1 ≤ b ∧ (b ≤ 12 ∨ b = 99)) : 1 ≤ (if c then a else b) ∧ ((if c then a else b) ≤ 12 ∨ (if c then a else b) = 99) := by
  by_cases h : c
  · rw [if_pos h]; exact ha
  · rw [if_neg h]; exact hb
theorem zWordAt_in (g : Nat → Int32) (w e : Nat) : 1 ≤ zWordAt g w e ∧ (zWordAt g w e ≤ 12 ∨ zWordAt g w e = 99) :=
  zIfQ (by decide) (zIfQ (by decide) (zIfQ (by decide) (zIfQ (by decide) (zIfQ (by decide) (zIfQ (by decide) (zIfQ (by decide) (zIfQ (by decide) (zIfQ (by decide) (zIfQ (by decide) (zIfQ (by decide) (zIfQ (by decide) (by decide))))))))))))
theorem tkT_ok (g : Nat → Int32) (n : Nat) : pOk (tkT g n) n := by
  intro p hp
  have hB := zEnd_run tkB g n p
  generalize zEnd tkB g n p = w at hB
  obtain ⟨b1, b2, b3, b4⟩ := id hB
  unfold pWh pEn pCl pWd pNm
  by_cases c : n ≤ w
  · rw [tk_0 hB c]
    exact ⟨⟨b1, Nat.le_refl _, by show w ≤ n; omega⟩, by simp, fun _ => (by show w = n; omega), by simp, by simp, by simp⟩
  · cases hl : tkL (g w) with
    | true =>
      have hL := zEnd_run tkL g n w
      generalize zEnd tkL g n w = e at hL
      obtain ⟨l1, l2, l3, l4⟩ := id hL
      have hs : w < e := by
        rcases Nat.lt_or_ge w e with q | q
        · exact q
        · have z := l4 (by omega)
          rw [show e = w by omega, hl] at z
          cases z
      rw [tk_L hB (by omega) hl hL]
      exact ⟨⟨b1, l1, by show e ≤ n; omega⟩, by simp, by simp, fun _ => hs, by simp, fun _ => zWordAt_in g w e⟩
    | false =>
      cases hd : tkD (g w) with
      | true =>
        have hL := zEnd_run tkD g n w
        generalize zEnd tkD g n w = e at hL
        obtain ⟨l1, l2, l3, l4⟩ := id hL
        have hs : w < e := by
          rcases Nat.lt_or_ge w e with q | q
          · exact q
          · have z := l4 (by omega)
            rw [show e = w by omega, hd] at z
            cases z
        rw [tk_D hB (by omega) hl hd hL]
        by_cases q : e - w ≤ 2
        · rw [if_pos q, if_pos q]
          have hv := tkV_bd l3 l1 (by omega)
          refine ⟨⟨b1, l1, by show e ≤ n; omega⟩, by simp, by simp, fun _ => hs, fun _ => ?_, by simp⟩
          show 0 ≤ (Int32.ofInt (tkV g w e)).toInt ∧ (Int32.ofInt (tkV g w e)).toInt ≤ 99
          rw [Int32.toInt_ofInt_of_le (by omega) (by omega)]
          exact hv
        · rw [if_neg q, if_neg q]
          exact ⟨⟨b1, l1, by show e ≤ n; omega⟩, by simp, by simp, fun _ => hs, by simp, by simp⟩
      | false =>
        rw [tk_S hB (by omega) hl hd]
        by_cases q : (g w).toInt = 59
        · rw [if_pos q]
          exact ⟨⟨b1, by show w ≤ w + 1; omega, by show w + 1 ≤ n; omega⟩, by simp, by simp, fun _ => (by show w < w + 1; omega), by simp, by simp⟩
        · rw [if_neg q]
          exact ⟨⟨b1, by show w ≤ w + 1; omega, by show w + 1 ≤ n; omega⟩, by simp, by simp, fun _ => (by show w < w + 1; omega), by simp, by simp⟩
/-- bytes with and without sign -/
def zBe (x y : Int32) : Prop := y = x ∧ 0 ≤ x.toInt ∨ x.toInt < 0 ∧ 128 ≤ y.toInt
theorem zBe_c {f g : Nat → Int32} {n : Nat} (h : ∀ j, j < n → zBe (f j) (g j)) (p : Nat) : tkT f n p = tkT g n p := by
  have eB : ∀ j, j < n → tkB (f j) = tkB (g j) := fun j hj => by
    rcases h j hj with ⟨e, -⟩ | ⟨a, b⟩
    · rw [e]
    · rw [tkB_f (by omega) (by omega), tkB_f (by omega) (by omega)]
  have eL : ∀ j, j < n → tkL (f j) = tkL (g j) := fun j hj => by
    rcases h j hj with ⟨e, -⟩ | ⟨a, b⟩
    · rw [e]
    · rw [tkL_f (by omega), tkL_f (by omega)]
  have eD : ∀ j, j < n → tkD (f j) = tkD (g j) := fun j hj => by
    rcases h j hj with ⟨e, -⟩ | ⟨a, b⟩
    · rw [e]
    · rw [tkD_f (by omega), tkD_f (by omega)]
  have up : ∀ j, j < n → (tkL (f j) = true ∨ tkD (f j) = true ∨ (f j).toInt = 59 ∨ (g j).toInt = 59) → g j = f j := fun j hj q => by
    rcases h j hj with ⟨e, -⟩ | ⟨a, b⟩
    · exact e
    · rcases q with q | q | q | q
      · have := tkL_iff.mp q; omega
      · have := tkD_iff.mp q; omega
      · omega
      · omega
  have hB := zEnd_run tkB g n p
  generalize zEnd tkB g n p = w at hB
  have hB' : zRun tkB f n p w := zRun_cg eB hB
  by_cases c : n ≤ w
  · rw [tk_0 hB c, tk_0 hB' c]
  · have hw : w < n := by omega
    cases hl : tkL (g w) with
    | true =>
      have hL := zEnd_run tkL g n w
      generalize zEnd tkL g n w = e at hL
      have hL' : zRun tkL f n w e := zRun_cg eL hL
      rw [tk_L hB hw hl hL, tk_L hB' hw ((eL w hw).trans hl) hL']
      have hen : e ≤ n := by have := hL.2.1; omega
      have ef : ∀ j, w ≤ j → j < e → g j = f j := fun j h1 h2 => up j (by omega) (Or.inl (by rw [eL j (by omega)]; exact hL.2.2.1 j h1 h2))
      have eW : ∀ i, zWI f w e i = zWI g w e i := fun i => by
        unfold zWI
        apply decide_eq_decide.mpr
        constructor
        · rintro ⟨h1, h2⟩
          exact ⟨h1, fun j hj => by rw [ef (w + j) (by omega) (by omega)]; exact h2 j hj⟩
        · rintro ⟨h1, h2⟩
          exact ⟨h1, fun j hj => by rw [← ef (w + j) (by omega) (by omega)]; exact h2 j hj⟩
      have : zWordAt f w e = zWordAt g w e := by unfold zWordAt; simp only [eW]
      rw [this]
    | false =>
      have hl' : tkL (f w) = false := (eL w hw).trans hl
      cases hd : tkD (g w) with
      | true =>
        have hL := zEnd_run tkD g n w
        generalize zEnd tkD g n w = e at hL
        have hL' : zRun tkD f n w e := zRun_cg eD hL
        rw [tk_D hB hw hl hd hL, tk_D hB' hw hl' ((eD w hw).trans hd) hL']
        have hen : e ≤ n := by have := hL.2.1; omega
        have ef : ∀ j, w ≤ j → j < e → g j = f j := fun j h1 h2 => up j (by omega) (Or.inr (Or.inl (by rw [eD j (by omega)]; exact hL.2.2.1 j h1 h2)))
        by_cases q : e - w ≤ 2
        · rw [if_pos q, if_pos q, if_pos q]
          have : tkV f w e = tkV g w e := by
            rcases (show e ≤ w ∨ e = w + 1 ∨ e = w + 2 by omega) with z | z | z
            · unfold tkV; rw [if_pos z, if_pos z]
            · rw [tkV_1 z, tkV_1 z, ef w (by omega) (by omega)]
            · rw [tkV_2 z, tkV_2 z, ef w (by omega) (by omega), ef (w + 1) (by omega) (by omega)]
          rw [this]
        · rw [if_neg q, if_neg q, if_neg q]
      | false =>
        rw [tk_S hB hw hl hd, tk_S hB' hw hl' ((eD w hw).trans hd)]
        by_cases q : (g w).toInt = 59
        · rw [if_pos q, if_pos (by rw [← up w hw (Or.inr (Or.inr (Or.inr q)))]; exact q)]
        · rw [if_neg q, if_neg (fun z => q (by rw [up w hw (Or.inr (Or.inr (Or.inl z)))]; exact z))]
theorem tkT_cg {f g : Nat → Int32} {n : Nat} (h : ∀ j, j < n → zBe (f j) (g j)) : tkT f n = tkT g n := funext (zBe_c h)
def zTokC (k : pT) (p : Nat) (at_ token place value : Int32) : Prop := at_ = nI (pEn k p) ∧ token = nI (pCl k p) ∧ place = nI (pWh k p) ∧ (pCl k p = 2 → value = pNm k p)
def zTokR (k : pT) (p : Nat) (next where_ token number word : Int32) : Prop := next = nI (pEn k p) ∧ where_ = nI (pWh k p) ∧ token = nI (pTk k p) ∧ (pTk k p = 1 → number = pNm k p) ∧ (pTk k p = 3 → word = nI (pWd k p))
theorem zTokC_of {k : pT} {p w e c wd : Nat} {nm v : Int32} (h : k p = (w, e, c, wd, nm)) (hv : c = 2 → v = nm) : zTokC k p (nI e) (nI c) (nI w) v := by
  unfold zTokC pEn pCl pWh pNm
  rw [h]
  exact ⟨rfl, rfl, rfl, hv⟩
theorem zTokR_of {k : pT} {p w e c wd : Nat} {nm v wo : Int32} (t : Nat) (h : k p = (w, e, c, wd, nm)) (ht : t = if c = 1 then (if wd = 99 then 4 else 3) else if c = 2 then 1 else if c = 3 then 2 else c) (hv : t = 1 → c = 2 → v = nm) (hw : t = 3 → wo = nI wd) (hc : c ≤ 4) : zTokR k p (nI e) (nI w) (nI t) v wo := by
  have e0 : pTk k p = t := by unfold pTk pCl pWd; rw [h]; exact ht.symm
  unfold zTokR
  rw [e0]
  unfold pEn pWh pNm pWd
  rw [h]
  refine ⟨rfl, rfl, rfl, fun q => hv q ?_, hw⟩
  rw [q] at ht
  rcases (show c = 0 ∨ c = 1 ∨ c = 2 ∨ c = 3 ∨ c = 4 by omega) with z | z | z | z | z
  · subst z; simp at ht
  · subst z
    rw [if_pos rfl] at ht
    split at ht <;> exact absurd ht (by decide)
  · exact z
  · subst z; simp at ht
  · subst z; simp at ht
theorem z_allS {P : Int32 → Bool} {f : Nat → Int32} {q x : Nat} (h : ∀ j, q ≤ j → j < x → P (f j) = true) (hx : P (f x) = true) : ∀ j, q ≤ j → j < x + 1 → P (f j) = true := by
  intro j h1 h2
  by_cases e : j = x
  · rw [e]; exact hx
  · exact h j h1 (by omega)
theorem z_digV {f : Nat → Int32} {q x : Nat} {y y1 : Int32} (hq : q ≤ x) (hall : ∀ j, q ≤ j → j < x → tkD (f j) = true) (hd : tkD (f x) = true) (hv : x ≤ q + 2 → y.toInt = tkV f q x) (e : y1.toInt = y.toInt * 10 + (f x).toInt - 48) : x + 1 ≤ q + 2 → (if (1000 : Int32) < y1 then (1000 : Int32) else y1).toInt = tkV f q (x + 1) := by
  intro h
  have a := tkV_s (g := f) hq (by omega)
  have b := tkV_bd (z_allS hall hd) (by omega) h
  have c := hv (by omega)
  have d : y1.toInt = tkV f q (x + 1) := by omega
  rw [if_neg (fun z => by have z2 : (1000 : Int) < y1.toInt := (fa_lt _ _).mp z; omega)]
  exact d
theorem zChar_b : ∀ i, i < 12 → ∀ k, k < zLen.getD i 0 → zChar i k = (zByt.getD i []).getD k 0 := by decide +kernel
theorem zWI_fl {g : Nat → Int32} {w e i : Nat} (h : ¬ e - w = zLen.getD i 0) : zWI g w e i = false := by unfold zWI; exact decide_eq_false (fun q => h q.1)
theorem zWI_fb {g : Nat → Int32} {w e i k : Nat} (hi : i < 12) (hk : k < zLen.getD i 0) (h : ¬ g (w + k) = zChar i k) : zWI g w e i = false := by unfold zWI; exact decide_eq_false (fun q => h ((q.2 k hk).trans (zChar_b i hi k hk).symm))
theorem zWI_t {g : Nat → Int32} {w e i : Nat} (h : e - w = zLen.getD i 0) (h2 : ∀ j, j < zLen.getD i 0 → g (w + j) = (zByt.getD i []).getD j 0) : zWI g w e i = true := by unfold zWI; exact decide_eq_true ⟨h, h2⟩
theorem z_allE {f : Nat → Int32} {w i k : Nat} (h : ∀ j, j < k → f (w + j) = (zByt.getD i []).getD j 0) (hx : f (w + k) = (zByt.getD i []).getD k 0) : ∀ j, j < k + 1 → f (w + j) = (zByt.getD i []).getD j 0 := by
  intro j h1
  by_cases e : j = k
  · rw [e]; exact hx
  · exact h j (by omega)
def zNo (i : Nat) : Nat := [1, 2, 3, 4, 11, 12, 5, 6, 7, 8, 9, 10].getD i 0
theorem zWI_u {g : Nat → Int32} {w e i j : Nat} (hi : i < 12) (hj : j < 12) (h1 : zWI g w e i = true) (h2 : zWI g w e j = true) : i = j := by
  unfold zWI at h1 h2
  have a := of_decide_eq_true h1
  have b := of_decide_eq_true h2
  have key : ∀ i, i < 12 → ∀ j, j < 12 → i = j ∨ ¬ zLen.getD i 0 = zLen.getD j 0 ∨ ∃ k, k < zLen.getD i 0 ∧ ¬ (zByt.getD i []).getD k 0 = (zByt.getD j []).getD k 0 := by decide +kernel
  rcases key i hi j hj with c | c | ⟨k, c1, c2⟩
  · exact c
  · exact absurd (a.1.symm.trans b.1) c
  · have e1 : zLen.getD i 0 = zLen.getD j 0 := a.1.symm.trans b.1
    exact absurd ((a.2 k c1).symm.trans (b.2 k (by omega))) c2
theorem zWd_k (g : Nat → Int32) (w e : Nat) : (∃ i, i < 12 ∧ zWI g w e i = true ∧ zWordAt g w e = zNo i) ∨ (zWordAt g w e = 99 ∧ ∀ i, i < 12 → ¬ zWI g w e i = true) := by
  unfold zWordAt
  by_cases h0 : zWI g w e 0 = true
  · exact Or.inl ⟨0, by decide, h0, if_pos h0⟩
  rw [if_neg h0]
  by_cases h1 : zWI g w e 1 = true
  · exact Or.inl ⟨1, by decide, h1, if_pos h1⟩
  rw [if_neg h1]
  by_cases h2 : zWI g w e 2 = true
  · exact Or.inl ⟨2, by decide, h2, if_pos h2⟩
  rw [if_neg h2]
  by_cases h3 : zWI g w e 3 = true
  · exact Or.inl ⟨3, by decide, h3, if_pos h3⟩
  rw [if_neg h3]
  by_cases h6 : zWI g w e 6 = true
  · exact Or.inl ⟨6, by decide, h6, if_pos h6⟩
  rw [if_neg h6]
  by_cases h7 : zWI g w e 7 = true
  · exact Or.inl ⟨7, by decide, h7, if_pos h7⟩
  rw [if_neg h7]
  by_cases h8 : zWI g w e 8 = true
  · exact Or.inl ⟨8, by decide, h8, if_pos h8⟩
  rw [if_neg h8]
  by_cases h9 : zWI g w e 9 = true
  · exact Or.inl ⟨9, by decide, h9, if_pos h9⟩
  rw [if_neg h9]
  by_cases h10 : zWI g w e 10 = true
  · exact Or.inl ⟨10, by decide, h10, if_pos h10⟩
  rw [if_neg h10]
  by_cases h11 : zWI g w e 11 = true
  · exact Or.inl ⟨11, by decide, h11, if_pos h11⟩
  rw [if_neg h11]
  by_cases h4 : zWI g w e 4 = true
  · exact Or.inl ⟨4, by decide, h4, if_pos h4⟩
  rw [if_neg h4]
  by_cases h5 : zWI g w e 5 = true
  · exact Or.inl ⟨5, by decide, h5, if_pos h5⟩
  exact Or.inr ⟨if_neg h5, fun i hi => match i, hi with | 0, _ => h0 | 1, _ => h1 | 2, _ => h2 | 3, _ => h3 | 4, _ => h4 | 5, _ => h5 | 6, _ => h6 | 7, _ => h7 | 8, _ => h8 | 9, _ => h9 | 10, _ => h10 | 11, _ => h11 | k + 12, h => absurd h (by omega)⟩
theorem zWd_c (g : Nat → Int32) (w e : Nat) : (∃ i, i < 12 ∧ zWI g w e i = true ∧ zWordAt g w e = zNo i) ∨ zWordAt g w e = 99 := (zWd_k g w e).elim Or.inl (fun h => Or.inr h.1)
theorem zNo_u : ∀ i, i < 12 → ∀ j, j < 12 → zNo i = zNo j → i = j := by decide +kernel
theorem zNo_99 : ∀ i, i < 12 → ¬ zNo i = 99 := by decide +kernel
theorem zWd_t {g : Nat → Int32} {w e i : Nat} (hi : i < 12) (h : zWI g w e i = true) : zWordAt g w e = zNo i := by
  rcases zWd_k g w e with ⟨j, hj, a, b⟩ | b
  · rw [b, zWI_u hi hj h a]
  · exact absurd h (b.2 i hi)
theorem zWd_f {g : Nat → Int32} {w e i : Nat} (hi : i < 12) (h : zWI g w e i = false) : ¬ zWordAt g w e = zNo i := by
  intro q
  rcases zWd_c g w e with ⟨j, hj, a, b⟩ | b
  · rw [zNo_u i hi j hj (q.symm.trans b), a] at h
    cases h
  · exact zNo_99 i hi (q.symm.trans b)
/-- a word's number among those of a sort, as the program counts them -/
def zWc (s wd : Nat) : Int32 := if s = 0 then (if 1 ≤ wd ∧ wd ≤ 4 then Int32.ofNat (wd - 1) else -1) else if s = 1 then (if 5 ≤ wd ∧ wd ≤ 10 then Int32.ofNat (wd - 5) else -1) else (if 11 ≤ wd ∧ wd ≤ 12 then Int32.ofNat (wd - 11) else -1)
theorem zWc_0 {wd : Nat} (h0 : ¬ wd = 1) (h1 : ¬ wd = 2) (h2 : ¬ wd = 3) (h3 : ¬ wd = 4) : (-1 : Int32) = zWc 0 wd := by unfold zWc; rw [if_pos rfl, if_neg (by omega)]
theorem zWc_1 {wd : Nat} (h0 : ¬ wd = 5) (h1 : ¬ wd = 6) (h2 : ¬ wd = 7) (h3 : ¬ wd = 8) (h4 : ¬ wd = 9) (h5 : ¬ wd = 10) : (-1 : Int32) = zWc 1 wd := by unfold zWc; rw [if_neg (by decide), if_pos rfl, if_neg (by omega)]
theorem zWc_2 {wd : Nat} (h0 : ¬ wd = 11) (h1 : ¬ wd = 12) : (-1 : Int32) = zWc 2 wd := by unfold zWc; rw [if_neg (by decide), if_neg (by decide), if_neg (by omega)]
set_option maxHeartbeats 4000000 in
set_option maxRecDepth 100000 in
/-- c_f_isBlank -/
theorem c_f_isBlank (l : Launch) (T : zTy) (x : Int32) : zMi l T yX7_isBlank cX7_isBlank 1 (some .boolean) 1 0 0 [.int x] [] (fun (r : Int32) bs => bs = [] ∧ ((r = 1 ∧ tkB x = true) ∨ (r = 0 ∧ tkB x = false))) := by
  refine zMi_of (own := RX7) (by decide) rfl (Nat.le_of_ble_eq_true rfl) ?_
  intro p e s m args below meth c A ls C hr hlocks hnm hAe G hl
  refine zHide (fun Q9 hQ9 => ?_)
  have hx := C.1
  have hb := C.2.1
  have hl : lv_has ls 1 [(0, .int x)] := hl
  refine lv_iload_n hx hb dX7_isBlank_0 rfl (lv_at hl 0 rfl) ?_
  refine lv_bipush (v := 10) hx hb dX7_isBlank_1 (by decide) ?_
  refine lv_icmp_eq (tgt := 12) hx hb dX7_isBlank_3 (by decide) (fun c_1 => ?_) (fun c_1 => ?_)
  · have c_1n : x.toInt = (10 : Int) := (fa_eq _ _).mp c_1
    refine lv_iconst (v := 1) hx hb dX7_isBlank_12 (by decide) ?_
    refine lv_goto (tgt := 17) hx hb dX7_isBlank_13 (by decide) ?_
    exact z_back hQ9 (z_zret C hr hlocks G (Nat.le_of_ble_eq_true rfl) (Nat.le_of_ble_eq_true rfl) dX7_isBlank_17 rfl ⟨rfl, (Or.inl (⟨rfl, (tkB_iff.mpr (by omega))⟩))⟩)
  · have c_1n : ¬ x.toInt = (10 : Int) := fun q => c_1 ((fa_eq _ _).mpr q)
    refine lv_iload_n hx hb dX7_isBlank_6 rfl (lv_at hl 0 rfl) ?_
    refine lv_bipush (v := 32) hx hb dX7_isBlank_7 (by decide) ?_
    refine lv_icmp_ne (tgt := 16) hx hb dX7_isBlank_9 (by decide) (fun c_2 => ?_) (fun c_2 => ?_)
    · have c_2n : ¬ x.toInt = (32 : Int) := fun q => c_2 ((fa_eq _ _).mpr q)
      refine lv_iconst (v := 0) hx hb dX7_isBlank_16 (by decide) ?_
      exact z_back hQ9 (z_zret C hr hlocks G (Nat.le_of_ble_eq_true rfl) (Nat.le_of_ble_eq_true rfl) dX7_isBlank_17 rfl ⟨rfl, (Or.inr (⟨rfl, (tkB_f (by omega) (by omega))⟩))⟩)
    · have c_2n : x.toInt = (32 : Int) := (fa_eq _ _).mp c_2
      refine lv_iconst (v := 1) hx hb dX7_isBlank_12 (by decide) ?_
      refine lv_goto (tgt := 17) hx hb dX7_isBlank_13 (by decide) ?_
      exact z_back hQ9 (z_zret C hr hlocks G (Nat.le_of_ble_eq_true rfl) (Nat.le_of_ble_eq_true rfl) dX7_isBlank_17 rfl ⟨rfl, (Or.inl (⟨rfl, (tkB_iff.mpr (by omega))⟩))⟩)
set_option maxHeartbeats 4000000 in
set_option maxRecDepth 100000 in
/-- c_f_isLetter -/
theorem c_f_isLetter (l : Launch) (T : zTy) (x : Int32) : zMi l T yX7_isLetter cX7_isLetter 1 (some .boolean) 1 0 0 [.int x] [] (fun (r : Int32) bs => bs = [] ∧ ((r = 1 ∧ tkL x = true) ∨ (r = 0 ∧ tkL x = false))) := by
  refine zMi_of (own := RX7) (by decide) rfl (Nat.le_of_ble_eq_true rfl) ?_
  intro p e s m args below meth c A ls C hr hlocks hnm hAe G hl
  refine zHide (fun Q9 hQ9 => ?_)
  have hx := C.1
  have hb := C.2.1
  have hl : lv_has ls 1 [(0, .int x)] := hl
  refine lv_iload_n hx hb dX7_isLetter_0 rfl (lv_at hl 0 rfl) ?_
  refine lv_bipush (v := 97) hx hb dX7_isLetter_1 (by decide) ?_
  refine lv_icmp_lt (tgt := 16) hx hb dX7_isLetter_3 (by decide) (fun c_1 => ?_) (fun c_1 => ?_)
  · have c_1n : x.toInt < (97 : Int) := (fa_lt _ _).mp c_1
    refine lv_iconst (v := 0) hx hb dX7_isLetter_16 (by decide) ?_
    exact z_back hQ9 (z_zret C hr hlocks G (Nat.le_of_ble_eq_true rfl) (Nat.le_of_ble_eq_true rfl) dX7_isLetter_17 rfl ⟨rfl, (Or.inr (⟨rfl, (tkL_f (by omega))⟩))⟩)
  · have c_1n : ¬ x.toInt < (97 : Int) := fun q => c_1 ((fa_lt _ _).mpr q)
    refine lv_iload_n hx hb dX7_isLetter_6 rfl (lv_at hl 0 rfl) ?_
    refine lv_bipush (v := 122) hx hb dX7_isLetter_7 (by decide) ?_
    refine lv_icmp_gt (tgt := 16) hx hb dX7_isLetter_9 (by decide) (fun c_2 => ?_) (fun c_2 => ?_)
    · have c_2n : (122 : Int) < x.toInt := (fa_lt _ _).mp c_2
      refine lv_iconst (v := 0) hx hb dX7_isLetter_16 (by decide) ?_
      exact z_back hQ9 (z_zret C hr hlocks G (Nat.le_of_ble_eq_true rfl) (Nat.le_of_ble_eq_true rfl) dX7_isLetter_17 rfl ⟨rfl, (Or.inr (⟨rfl, (tkL_f (by omega))⟩))⟩)
    · have c_2n : ¬ (122 : Int) < x.toInt := fun q => c_2 ((fa_lt _ _).mpr q)
      refine lv_iconst (v := 1) hx hb dX7_isLetter_12 (by decide) ?_
      refine lv_goto (tgt := 17) hx hb dX7_isLetter_13 (by decide) ?_
      exact z_back hQ9 (z_zret C hr hlocks G (Nat.le_of_ble_eq_true rfl) (Nat.le_of_ble_eq_true rfl) dX7_isLetter_17 rfl ⟨rfl, (Or.inl (⟨rfl, (tkL_iff.mpr (by omega))⟩))⟩)
set_option maxHeartbeats 4000000 in
set_option maxRecDepth 100000 in
/-- c_f_isDigit -/
theorem c_f_isDigit (l : Launch) (T : zTy) (x : Int32) : zMi l T yX7_isDigit cX7_isDigit 1 (some .boolean) 1 0 0 [.int x] [] (fun (r : Int32) bs => bs = [] ∧ ((r = 1 ∧ tkD x = true) ∨ (r = 0 ∧ tkD x = false))) := by
  refine zMi_of (own := RX7) (by decide) rfl (Nat.le_of_ble_eq_true rfl) ?_
  intro p e s m args below meth c A ls C hr hlocks hnm hAe G hl
  refine zHide (fun Q9 hQ9 => ?_)
  have hx := C.1
  have hb := C.2.1
  have hl : lv_has ls 1 [(0, .int x)] := hl
  refine lv_iload_n hx hb dX7_isDigit_0 rfl (lv_at hl 0 rfl) ?_
  refine lv_bipush (v := 48) hx hb dX7_isDigit_1 (by decide) ?_
  refine lv_icmp_lt (tgt := 16) hx hb dX7_isDigit_3 (by decide) (fun c_1 => ?_) (fun c_1 => ?_)
  · have c_1n : x.toInt < (48 : Int) := (fa_lt _ _).mp c_1
    refine lv_iconst (v := 0) hx hb dX7_isDigit_16 (by decide) ?_
    exact z_back hQ9 (z_zret C hr hlocks G (Nat.le_of_ble_eq_true rfl) (Nat.le_of_ble_eq_true rfl) dX7_isDigit_17 rfl ⟨rfl, (Or.inr (⟨rfl, (tkD_f (by omega))⟩))⟩)
  · have c_1n : ¬ x.toInt < (48 : Int) := fun q => c_1 ((fa_lt _ _).mpr q)
    refine lv_iload_n hx hb dX7_isDigit_6 rfl (lv_at hl 0 rfl) ?_
    refine lv_bipush (v := 57) hx hb dX7_isDigit_7 (by decide) ?_
    refine lv_icmp_gt (tgt := 16) hx hb dX7_isDigit_9 (by decide) (fun c_2 => ?_) (fun c_2 => ?_)
    · have c_2n : (57 : Int) < x.toInt := (fa_lt _ _).mp c_2
      refine lv_iconst (v := 0) hx hb dX7_isDigit_16 (by decide) ?_
      exact z_back hQ9 (z_zret C hr hlocks G (Nat.le_of_ble_eq_true rfl) (Nat.le_of_ble_eq_true rfl) dX7_isDigit_17 rfl ⟨rfl, (Or.inr (⟨rfl, (tkD_f (by omega))⟩))⟩)
    · have c_2n : ¬ (57 : Int) < x.toInt := fun q => c_2 ((fa_lt _ _).mpr q)
      refine lv_iconst (v := 1) hx hb dX7_isDigit_12 (by decide) ?_
      refine lv_goto (tgt := 17) hx hb dX7_isDigit_13 (by decide) ?_
      exact z_back hQ9 (z_zret C hr hlocks G (Nat.le_of_ble_eq_true rfl) (Nat.le_of_ble_eq_true rfl) dX7_isDigit_17 rfl ⟨rfl, (Or.inl (⟨rfl, (tkD_iff.mpr (by omega))⟩))⟩)
set_option maxHeartbeats 4000000 in
set_option maxRecDepth 100000 in
/-- c_f_takeLetters -/
theorem c_f_takeLetters (l : Launch) (T : zTy) (rd : Nat) (rl : Nat) (rdd : Nat) (rg : Nat) (tp : Nat) (r0 : Int32) (r1 : Int32) (r2 : Int32) (r3 : Int32) (r4 : Int32) (r5 : Int32) (r6 : Int32) (r7 : Int32) (r8 : Int32) (ft : Nat → Int32) (q : Nat) (n : Nat) (hp : r3 = nI q) (hqn : q ≤ n) (hn : r2 = nI n) (hn6 : n ≤ 600) : zMv l T yX7_takeLetters cX7_takeLetters 1 2 0 0 [.ref rd] [[zO7 rd rl rdd rg r0 r1 tp r2 r3 r4 r5 r6 r7 r8], [zAr T 1 tp 600 ft]] (fun bs => ∃ (u3 : Int32) (u4 : Int32), bs = [[zO7 rd rl rdd rg r0 r1 tp r2 u3 u4 r5 r6 r7 r8], [zAr T 1 tp 600 ft]] ∧ u3 = nI (zEnd tkL ft n q) ∧ u4 = 1) := by
  refine zMv_of (own := RX7) (by decide) rfl (Nat.le_of_ble_eq_true rfl) ?_
  intro p e s m args below meth c A ls C hr hlocks hnm hAe G hl
  refine zHide (fun Q9 hQ9 => ?_)
  have hx := C.1
  have hb := C.2.1
  have hl : lv_has ls 1 [(0, .ref rd)] := hl
  subst hp
  subst hn
  refine lv_aload_n hx hb dX7_takeLetters_0 rfl (lv_at hl 0 rfl) ?_
  refine lv_iconst (v := 1) hx hb dX7_takeLetters_1 (by decide) ?_
  refine z_put C G clX7 0 rfl 8 (by decide) m_fl_RX7_74 rfl rfl rfl (Nat.le_of_ble_eq_true rfl) dX7_takeLetters_2 (fun H locs G => ?_)
  have G : zS T A s.heap s [[zO7 rd rl rdd rg r0 r1 tp (nI n) (nI q) 1 r5 r6 r7 r8], [zAr T 1 tp 600 ft]] _ _ := G
  refine z_lp1 (T := T) 5 (fun (x : Nat) => [[zO7 rd rl rdd rg r0 r1 tp (nI n) (nI x) 1 r5 r6 r7 r8], [zAr T 1 tp 600 ft]]) (fun (x : Nat) => [(0, .ref rd)]) (fun (x : Nat) => (q ≤ x ∧ x ≤ n) ∧ (∀ j, q ≤ j → j < x → tkL (ft j) = true)) (fun (x : Nat) => n - x) ?_ q (show (q ≤ q ∧ q ≤ n) ∧ (∀ j, q ≤ j → j < q → tkL (ft j) = true) from ⟨(by omega), (fun j h1 h2 => by omega)⟩) G (lv_sub hl [0] rfl)
  intro x hI9 ih_5 H locs ls G hl
  replace hI9 : (q ≤ x ∧ x ≤ n) ∧ (∀ j, q ≤ j → j < x → tkL (ft j) = true) := hI9
  refine zAn2 hI9 ?_
  intro hxq hall
  clear hI9
  replace G : zS T A s.heap s [[zO7 rd rl rdd rg r0 r1 tp (nI n) (nI x) 1 r5 r6 r7 r8], [zAr T 1 tp 600 ft]] _ _ := G
  replace hl : lv_has ls 1 [(0, .ref rd)] := hl
  refine lv_aload_n hx hb dX7_takeLetters_5 rfl (lv_at hl 0 rfl) ?_
  refine z_get C G clX7 0 rfl 7 (by decide) m_fl_RX7_46 rfl dX7_takeLetters_6 ?_
  refine lv_aload_n hx hb dX7_takeLetters_9 rfl (lv_at hl 0 rfl) ?_
  refine z_get C G clX7 0 rfl 6 (by decide) m_fl_RX7_42 rfl dX7_takeLetters_10 ?_
  refine lv_icmp_ge (tgt := 44) hx hb dX7_takeLetters_13 (by decide) (fun c_1 => ?_) (fun c_1 => ?_)
  · have c_1n : n ≤ x := (nI_leI (a := n) (b := x) (by omega) (by omega)).mp c_1
    have hE : x = zEnd tkL ft n q := zRun_eq ⟨hxq.1, Or.inl hxq.2, hall, fun h9 => by first | omega | assumption⟩
    exact z_back hQ9 (z_vret C hr hlocks G (Nat.le_of_ble_eq_true rfl) (Nat.le_of_ble_eq_true rfl) dX7_takeLetters_44 ⟨(nI x), 1, rfl, (congrArg nI hE), rfl⟩)
  · have c_1n : ¬ n ≤ x := fun q => c_1 ((nI_leI (a := n) (b := x) (by omega) (by omega)).mpr q)
    refine lv_aload_n hx hb dX7_takeLetters_16 rfl (lv_at hl 0 rfl) ?_
    refine z_get C G clX7 0 rfl 5 (by decide) m_fl_RX7_32 rfl dX7_takeLetters_17 ?_
    refine lv_aload_n hx hb dX7_takeLetters_20 rfl (lv_at hl 0 rfl) ?_
    refine z_get C G clX7 0 rfl 7 (by decide) m_fl_RX7_46 rfl dX7_takeLetters_21 ?_
    refine z_bld C G 1 rfl (vp_in_nI (by omega) (by omega)) dX7_takeLetters_24 ?_
    refine lv_topi (fun v_2 ev_2 => ?_)
    rw [nI_clamp (by omega)] at ev_2
    subst ev_2
    refine z_Si (bc := []) (br := [[zO7 rd rl rdd rg r0 r1 tp (nI n) (nI x) 1 r5 r6 r7 r8], [zAr T 1 tp 600 ft]]) (As := [.int (ft x)]) (rest := []) C G (c_f_isLetter l T (ft x)) (kS_RX7_148 C.2.2.2.2 (Nat.le_of_ble_eq_true rfl) (Nat.le_of_ble_eq_true rfl)) [] [] rfl rfl rfl rfl hl.1 dX7_takeLetters_25 (Nat.le_of_ble_eq_true rfl) (Nat.le_of_ble_eq_true rfl) (fun r_4 b1 H locs hw G => ?_)
    refine zAn2 hw ?_
    intro hbs9 hc_3
    clear hw
    subst hbs9
    have G : zS T A s.heap s [[zO7 rd rl rdd rg r0 r1 tp (nI n) (nI x) 1 r5 r6 r7 r8], [zAr T 1 tp 600 ft]] _ _ := G
    rcases hc_3 with ⟨rfl, h_5⟩ | ⟨rfl, h_6⟩
    · have h_5 : tkL (ft x) = true := h_5
      refine lv_if_eq (tgt := 44) hx hb dX7_takeLetters_28 (by decide) (fun q => absurd q (by decide)) (fun _ => ?_)
      refine lv_aload_n hx hb dX7_takeLetters_31 rfl (lv_at hl 0 rfl) ?_
      refine lv_dup hx hb dX7_takeLetters_32 rfl ?_
      refine z_get C G clX7 0 rfl 7 (by decide) m_fl_RX7_46 rfl dX7_takeLetters_33 ?_
      refine lv_iconst (v := 1) hx hb dX7_takeLetters_36 (by decide) ?_
      refine lv_iadd hx hb dX7_takeLetters_37 ?_
      refine lv_topi (fun y_7 ey_7 => ?_)
      obtain rfl : y_7 = nI (x + 1) := ey_7.trans (z_iaddn x 1 rfl rfl)
      refine z_put C G clX7 0 rfl 7 (by decide) m_fl_RX7_46 rfl rfl rfl (Nat.le_of_ble_eq_true rfl) dX7_takeLetters_38 (fun H locs G => ?_)
      have G : zS T A s.heap s [[zO7 rd rl rdd rg r0 r1 tp (nI n) (nI (x + 1)) 1 r5 r6 r7 r8], [zAr T 1 tp 600 ft]] _ _ := G
      refine lv_goto (tgt := 5) hx hb dX7_takeLetters_41 (by decide) ?_
      exact ih_5 (x + 1) (show (q ≤ (x + 1) ∧ (x + 1) ≤ n) ∧ (∀ j, q ≤ j → j < (x + 1) → tkL (ft j) = true) from ⟨(by omega), (z_allS hall (by assumption))⟩) (show n - (x + 1) < n - x from by omega) _ _ ls G (lv_sub hl [0] rfl)
    · have h_6 : tkL (ft x) = false := h_6
      refine lv_if_eq (tgt := 44) hx hb dX7_takeLetters_28 (by decide) (fun _ => ?_) (fun q => absurd (by decide) q)
      have hE : x = zEnd tkL ft n q := zRun_eq ⟨hxq.1, Or.inl hxq.2, hall, fun h9 => by first | omega | assumption⟩
      exact z_back hQ9 (z_vret C hr hlocks G (Nat.le_of_ble_eq_true rfl) (Nat.le_of_ble_eq_true rfl) dX7_takeLetters_44 ⟨(nI x), 1, rfl, (congrArg nI hE), rfl⟩)
set_option maxHeartbeats 4000000 in
set_option maxRecDepth 100000 in
/-- c_f_takeDigits -/
theorem c_f_takeDigits (l : Launch) (T : zTy) (rd : Nat) (rl : Nat) (rdd : Nat) (rg : Nat) (tp : Nat) (r0 : Int32) (r1 : Int32) (r2 : Int32) (r3 : Int32) (r4 : Int32) (r5 : Int32) (r6 : Int32) (r7 : Int32) (r8 : Int32) (ft : Nat → Int32) (q : Nat) (n : Nat) (hp : r3 = nI q) (hpl : r5 = nI q) (hqn : q ≤ n) (hn : r2 = nI n) (hn6 : n ≤ 600) : zMv l T yX7_takeDigits cX7_takeDigits 1 2 0 0 [.ref rd] [[zO7 rd rl rdd rg r0 r1 tp r2 r3 r4 r5 r6 r7 r8], [zAr T 1 tp 600 ft]] (fun bs => ∃ (u3 : Int32) (u4 : Int32) (u6 : Int32), bs = [[zO7 rd rl rdd rg r0 r1 tp r2 u3 u4 r5 u6 r7 r8], [zAr T 1 tp 600 ft]] ∧ u3 = nI (zEnd tkD ft n q) ∧ u4 = nI (if zEnd tkD ft n q - q ≤ 2 then 2 else 4) ∧ (zEnd tkD ft n q - q ≤ 2 → u6 = Int32.ofInt (tkV ft q (zEnd tkD ft n q)))) := by
  refine zMv_of (own := RX7) (by decide) rfl (Nat.le_of_ble_eq_true rfl) ?_
  intro p e s m args below meth c A ls C hr hlocks hnm hAe G hl
  refine zHide (fun Q9 hQ9 => ?_)
  have hx := C.1
  have hb := C.2.1
  have hl : lv_has ls 1 [(0, .ref rd)] := hl
  subst hp
  subst hpl
  subst hn
  refine lv_aload_n hx hb dX7_takeDigits_0 rfl (lv_at hl 0 rfl) ?_
  refine lv_iconst (v := 0) hx hb dX7_takeDigits_1 (by decide) ?_
  refine z_put C G clX7 0 rfl 10 (by decide) m_fl_RX7_141 rfl rfl rfl (Nat.le_of_ble_eq_true rfl) dX7_takeDigits_2 (fun H locs G => ?_)
  have G : zS T A s.heap s [[zO7 rd rl rdd rg r0 r1 tp (nI n) (nI q) r4 (nI q) 0 r7 r8], [zAr T 1 tp 600 ft]] _ _ := G
  refine z_lp2 (T := T) 5 (fun (x : Nat) (y : Int32) => [[zO7 rd rl rdd rg r0 r1 tp (nI n) (nI x) r4 (nI q) y r7 r8], [zAr T 1 tp 600 ft]]) (fun (x : Nat) (y : Int32) => [(0, .ref rd)]) (fun (x : Nat) (y : Int32) => (q ≤ x ∧ x ≤ n) ∧ (∀ j, q ≤ j → j < x → tkD (ft j) = true) ∧ (x ≤ q + 2 → y.toInt = tkV ft q x) ∧ (0 ≤ y.toInt ∧ y.toInt ≤ 1000)) (fun (x : Nat) (y : Int32) => n - x) ?_ q 0 (show (q ≤ q ∧ q ≤ n) ∧ (∀ j, q ≤ j → j < q → tkD (ft j) = true) ∧ (q ≤ q + 2 → (0 : Int32).toInt = tkV ft q q) ∧ (0 ≤ (0 : Int32).toInt ∧ (0 : Int32).toInt ≤ 1000) from ⟨(by omega), (fun j h1 h2 => by omega), (fun _ => (tkV_0 rfl).symm), (by decide)⟩) G (lv_sub hl [0] rfl)
  intro x y hI9 ih_5 H locs ls G hl
  replace hI9 : (q ≤ x ∧ x ≤ n) ∧ (∀ j, q ≤ j → j < x → tkD (ft j) = true) ∧ (x ≤ q + 2 → y.toInt = tkV ft q x) ∧ (0 ≤ y.toInt ∧ y.toInt ≤ 1000) := hI9
  refine zAn4 hI9 ?_
  intro hxq hall hv hy
  clear hI9
  replace G : zS T A s.heap s [[zO7 rd rl rdd rg r0 r1 tp (nI n) (nI x) r4 (nI q) y r7 r8], [zAr T 1 tp 600 ft]] _ _ := G
  replace hl : lv_has ls 1 [(0, .ref rd)] := hl
  refine lv_aload_n hx hb dX7_takeDigits_5 rfl (lv_at hl 0 rfl) ?_
  refine z_get C G clX7 0 rfl 7 (by decide) m_fl_RX7_46 rfl dX7_takeDigits_6 ?_
  refine lv_aload_n hx hb dX7_takeDigits_9 rfl (lv_at hl 0 rfl) ?_
  refine z_get C G clX7 0 rfl 6 (by decide) m_fl_RX7_42 rfl dX7_takeDigits_10 ?_
  refine lv_icmp_ge (tgt := 74) hx hb dX7_takeDigits_13 (by decide) (fun c_1 => ?_) (fun c_1 => ?_)
  · have c_1n : n ≤ x := (nI_leI (a := n) (b := x) (by omega) (by omega)).mp c_1
    have hE : x = zEnd tkD ft n q := zRun_eq ⟨hxq.1, Or.inl hxq.2, hall, fun h9 => by first | omega | assumption⟩
    refine lv_aload_n hx hb dX7_takeDigits_74 rfl (lv_at hl 0 rfl) ?_
    refine lv_aload_n hx hb dX7_takeDigits_75 rfl (lv_at hl 0 rfl) ?_
    refine z_get C G clX7 0 rfl 7 (by decide) m_fl_RX7_46 rfl dX7_takeDigits_76 ?_
    refine lv_aload_n hx hb dX7_takeDigits_79 rfl (lv_at hl 0 rfl) ?_
    refine z_get C G clX7 0 rfl 9 (by decide) m_fl_RX7_84 rfl dX7_takeDigits_80 ?_
    refine lv_isub hx hb dX7_takeDigits_83 ?_
    refine lv_topi (fun y_2 ey_2 => ?_)
    have ey_2i : y_2.toInt = (x : Int) - (q : Int) := by rw [ey_2]; exact (z_isubI (x := (nI x)) (y := (nI q)) (by rw [nI_toInt (n := x) (by omega), nI_toInt (n := q) (by omega)]; show -2147483648 ≤ (x : Int) - (q : Int); omega) (by rw [nI_toInt (n := x) (by omega), nI_toInt (n := q) (by omega)]; show (x : Int) - (q : Int) < 2147483648; omega)).trans (by rw [nI_toInt (n := x) (by omega), nI_toInt (n := q) (by omega)] <;> rfl)
    refine lv_iconst (v := 2) hx hb dX7_takeDigits_84 (by decide) ?_
    refine lv_icmp_gt (tgt := 92) hx hb dX7_takeDigits_85 (by decide) (fun c_3 => ?_) (fun c_3 => ?_)
    · have c_3n : (2 : Int) < y_2.toInt := (fa_lt _ _).mp c_3
      refine lv_iconst (v := 4) hx hb dX7_takeDigits_92 (by decide) ?_
      refine z_put C G clX7 0 rfl 8 (by decide) m_fl_RX7_74 rfl rfl rfl (Nat.le_of_ble_eq_true rfl) dX7_takeDigits_93 (fun H locs G => ?_)
      have G : zS T A s.heap s [[zO7 rd rl rdd rg r0 r1 tp (nI n) (nI x) 4 (nI q) y r7 r8], [zAr T 1 tp 600 ft]] _ _ := G
      exact z_back hQ9 (z_vret C hr hlocks G (Nat.le_of_ble_eq_true rfl) (Nat.le_of_ble_eq_true rfl) dX7_takeDigits_96 ⟨(nI x), 4, y, rfl, (congrArg nI hE), (by rw [← hE, if_neg (by omega)]; rfl), (fun h9 => tk_of (by rw [← hE] at h9 ⊢; exact hv (by omega)))⟩)
    · have c_3n : ¬ (2 : Int) < y_2.toInt := fun q => c_3 ((fa_lt _ _).mpr q)
      refine lv_iconst (v := 2) hx hb dX7_takeDigits_88 (by decide) ?_
      refine lv_goto (tgt := 93) hx hb dX7_takeDigits_89 (by decide) ?_
      refine z_put C G clX7 0 rfl 8 (by decide) m_fl_RX7_74 rfl rfl rfl (Nat.le_of_ble_eq_true rfl) dX7_takeDigits_93 (fun H locs G => ?_)
      have G : zS T A s.heap s [[zO7 rd rl rdd rg r0 r1 tp (nI n) (nI x) 2 (nI q) y r7 r8], [zAr T 1 tp 600 ft]] _ _ := G
      exact z_back hQ9 (z_vret C hr hlocks G (Nat.le_of_ble_eq_true rfl) (Nat.le_of_ble_eq_true rfl) dX7_takeDigits_96 ⟨(nI x), 2, y, rfl, (congrArg nI hE), (by rw [← hE, if_pos (by omega)]; rfl), (fun h9 => tk_of (by rw [← hE] at h9 ⊢; exact hv (by omega)))⟩)
  · have c_1n : ¬ n ≤ x := fun q => c_1 ((nI_leI (a := n) (b := x) (by omega) (by omega)).mpr q)
    refine lv_aload_n hx hb dX7_takeDigits_16 rfl (lv_at hl 0 rfl) ?_
    refine z_get C G clX7 0 rfl 5 (by decide) m_fl_RX7_32 rfl dX7_takeDigits_17 ?_
    refine lv_aload_n hx hb dX7_takeDigits_20 rfl (lv_at hl 0 rfl) ?_
    refine z_get C G clX7 0 rfl 7 (by decide) m_fl_RX7_46 rfl dX7_takeDigits_21 ?_
    refine z_bld C G 1 rfl (vp_in_nI (by omega) (by omega)) dX7_takeDigits_24 ?_
    refine lv_topi (fun v_4 ev_4 => ?_)
    rw [nI_clamp (by omega)] at ev_4
    subst ev_4
    refine z_Si (bc := []) (br := [[zO7 rd rl rdd rg r0 r1 tp (nI n) (nI x) r4 (nI q) y r7 r8], [zAr T 1 tp 600 ft]]) (As := [.int (ft x)]) (rest := []) C G (c_f_isDigit l T (ft x)) (kS_RX7_154 C.2.2.2.2 (Nat.le_of_ble_eq_true rfl) (Nat.le_of_ble_eq_true rfl)) [] [] rfl rfl rfl rfl hl.1 dX7_takeDigits_25 (Nat.le_of_ble_eq_true rfl) (Nat.le_of_ble_eq_true rfl) (fun r_6 b1 H locs hw G => ?_)
    refine zAn2 hw ?_
    intro hbs9 hc_5
    clear hw
    subst hbs9
    have G : zS T A s.heap s [[zO7 rd rl rdd rg r0 r1 tp (nI n) (nI x) r4 (nI q) y r7 r8], [zAr T 1 tp 600 ft]] _ _ := G
    rcases hc_5 with ⟨rfl, h_7⟩ | ⟨rfl, h_8⟩
    · have h_7 : tkD (ft x) = true := h_7
      have hd9 := tkD_iff.mp h_7
      refine lv_if_eq (tgt := 74) hx hb dX7_takeDigits_28 (by decide) (fun q => absurd q (by decide)) (fun _ => ?_)
      refine lv_aload_n hx hb dX7_takeDigits_31 rfl (lv_at hl 0 rfl) ?_
      refine lv_aload_n hx hb dX7_takeDigits_32 rfl (lv_at hl 0 rfl) ?_
      refine z_get C G clX7 0 rfl 10 (by decide) m_fl_RX7_141 rfl dX7_takeDigits_33 ?_
      refine lv_bipush (v := 10) hx hb dX7_takeDigits_36 (by decide) ?_
      refine lv_imul hx hb dX7_takeDigits_38 ?_
      refine lv_topi (fun y_9 ey_9 => ?_)
      have ey_9i : y_9.toInt = y.toInt * (10 : Int) := by rw [ey_9]; exact z_imulI (x := y) (y := (10 : Int32)) (by show -2147483648 ≤ y.toInt * (10 : Int); omega) (by show y.toInt * (10 : Int) < 2147483648; omega)
      refine lv_aload_n hx hb dX7_takeDigits_39 rfl (lv_at hl 0 rfl) ?_
      refine z_get C G clX7 0 rfl 5 (by decide) m_fl_RX7_32 rfl dX7_takeDigits_40 ?_
      refine lv_aload_n hx hb dX7_takeDigits_43 rfl (lv_at hl 0 rfl) ?_
      refine z_get C G clX7 0 rfl 7 (by decide) m_fl_RX7_46 rfl dX7_takeDigits_44 ?_
      refine z_bld C G 1 rfl (vp_in_nI (by omega) (by omega)) dX7_takeDigits_47 ?_
      refine lv_topi (fun v_10 ev_10 => ?_)
      rw [nI_clamp (by omega)] at ev_10
      subst ev_10
      refine lv_iadd hx hb dX7_takeDigits_48 ?_
      refine lv_topi (fun y_11 ey_11 => ?_)
      have ey_11i : y_11.toInt = y_9.toInt + (ft x).toInt := by rw [ey_11]; exact z_iaddI (x := y_9) (y := (ft x)) (by show -2147483648 ≤ y_9.toInt + (ft x).toInt; omega) (by show y_9.toInt + (ft x).toInt < 2147483648; omega)
      refine lv_bipush (v := 48) hx hb dX7_takeDigits_49 (by decide) ?_
      refine lv_isub hx hb dX7_takeDigits_51 ?_
      refine lv_topi (fun y_12 ey_12 => ?_)
      have ey_12i : y_12.toInt = y_11.toInt - (48 : Int) := by rw [ey_12]; exact z_isubI (x := y_11) (y := (48 : Int32)) (by show -2147483648 ≤ y_11.toInt - (48 : Int); omega) (by show y_11.toInt - (48 : Int) < 2147483648; omega)
      refine lv_sipush (v := 1000) hx hb dX7_takeDigits_52 (by decide) ?_
      refine va_mmin hx hb (C.2.2.1.trans hl.1.symm) C.2.2.2.1 (C.2.2.2.2 _ m_ml_RX7_36) (C.2.2.2.2 _ m_st_math_min) (C.2.2.2.2 _ m_ii_math) (C.2.2.2.2 _ m_co_math_min) (Nat.le_of_ble_eq_true rfl) (Nat.le_of_ble_eq_true rfl) (Nat.le_of_ble_eq_true rfl) (Nat.le_of_ble_eq_true rfl) dX7_takeDigits_55 ?_
      refine lv_topi (fun v_13 ev_13 => ?_)
      subst ev_13
      refine z_put C G clX7 0 rfl 10 (by decide) m_fl_RX7_141 rfl rfl rfl (Nat.le_of_ble_eq_true rfl) dX7_takeDigits_58 (fun H locs G => ?_)
      have G : zS T A s.heap s [[zO7 rd rl rdd rg r0 r1 tp (nI n) (nI x) r4 (nI q) (if 1000 < y_12 then 1000 else y_12) r7 r8], [zAr T 1 tp 600 ft]] _ _ := G
      refine lv_aload_n hx hb dX7_takeDigits_61 rfl (lv_at hl 0 rfl) ?_
      refine lv_dup hx hb dX7_takeDigits_62 rfl ?_
      refine z_get C G clX7 0 rfl 7 (by decide) m_fl_RX7_46 rfl dX7_takeDigits_63 ?_
      refine lv_iconst (v := 1) hx hb dX7_takeDigits_66 (by decide) ?_
      refine lv_iadd hx hb dX7_takeDigits_67 ?_
      refine lv_topi (fun y_14 ey_14 => ?_)
      obtain rfl : y_14 = nI (x + 1) := ey_14.trans (z_iaddn x 1 rfl rfl)
      refine z_put C G clX7 0 rfl 7 (by decide) m_fl_RX7_46 rfl rfl rfl (Nat.le_of_ble_eq_true rfl) dX7_takeDigits_68 (fun H locs G => ?_)
      have G : zS T A s.heap s [[zO7 rd rl rdd rg r0 r1 tp (nI n) (nI (x + 1)) r4 (nI q) (if 1000 < y_12 then 1000 else y_12) r7 r8], [zAr T 1 tp 600 ft]] _ _ := G
      refine lv_goto (tgt := 5) hx hb dX7_takeDigits_71 (by decide) ?_
      exact ih_5 (x + 1) (if 1000 < y_12 then 1000 else y_12) (show (q ≤ (x + 1) ∧ (x + 1) ≤ n) ∧ (∀ j, q ≤ j → j < (x + 1) → tkD (ft j) = true) ∧ ((x + 1) ≤ q + 2 → (if 1000 < y_12 then 1000 else y_12).toInt = tkV ft q (x + 1)) ∧ (0 ≤ (if 1000 < y_12 then 1000 else y_12).toInt ∧ (if 1000 < y_12 then 1000 else y_12).toInt ≤ 1000) from ⟨(by omega), (z_allS hall (by assumption)), (z_digV (y1 := y_12) hxq.1 hall (by assumption) hv (by omega)), (z_min1k (by omega))⟩) (show n - (x + 1) < n - x from by omega) _ _ ls G (lv_sub hl [0] rfl)
    · have h_8 : tkD (ft x) = false := h_8
      refine lv_if_eq (tgt := 74) hx hb dX7_takeDigits_28 (by decide) (fun _ => ?_) (fun q => absurd (by decide) q)
      have hE : x = zEnd tkD ft n q := zRun_eq ⟨hxq.1, Or.inl hxq.2, hall, fun h9 => by first | omega | assumption⟩
      refine lv_aload_n hx hb dX7_takeDigits_74 rfl (lv_at hl 0 rfl) ?_
      refine lv_aload_n hx hb dX7_takeDigits_75 rfl (lv_at hl 0 rfl) ?_
      refine z_get C G clX7 0 rfl 7 (by decide) m_fl_RX7_46 rfl dX7_takeDigits_76 ?_
      refine lv_aload_n hx hb dX7_takeDigits_79 rfl (lv_at hl 0 rfl) ?_
      refine z_get C G clX7 0 rfl 9 (by decide) m_fl_RX7_84 rfl dX7_takeDigits_80 ?_
      refine lv_isub hx hb dX7_takeDigits_83 ?_
      refine lv_topi (fun y_15 ey_15 => ?_)
      have ey_15i : y_15.toInt = (x : Int) - (q : Int) := by rw [ey_15]; exact (z_isubI (x := (nI x)) (y := (nI q)) (by rw [nI_toInt (n := x) (by omega), nI_toInt (n := q) (by omega)]; show -2147483648 ≤ (x : Int) - (q : Int); omega) (by rw [nI_toInt (n := x) (by omega), nI_toInt (n := q) (by omega)]; show (x : Int) - (q : Int) < 2147483648; omega)).trans (by rw [nI_toInt (n := x) (by omega), nI_toInt (n := q) (by omega)] <;> rfl)
      refine lv_iconst (v := 2) hx hb dX7_takeDigits_84 (by decide) ?_
      refine lv_icmp_gt (tgt := 92) hx hb dX7_takeDigits_85 (by decide) (fun c_16 => ?_) (fun c_16 => ?_)
      · have c_16n : (2 : Int) < y_15.toInt := (fa_lt _ _).mp c_16
        refine lv_iconst (v := 4) hx hb dX7_takeDigits_92 (by decide) ?_
        refine z_put C G clX7 0 rfl 8 (by decide) m_fl_RX7_74 rfl rfl rfl (Nat.le_of_ble_eq_true rfl) dX7_takeDigits_93 (fun H locs G => ?_)
        have G : zS T A s.heap s [[zO7 rd rl rdd rg r0 r1 tp (nI n) (nI x) 4 (nI q) y r7 r8], [zAr T 1 tp 600 ft]] _ _ := G
        exact z_back hQ9 (z_vret C hr hlocks G (Nat.le_of_ble_eq_true rfl) (Nat.le_of_ble_eq_true rfl) dX7_takeDigits_96 ⟨(nI x), 4, y, rfl, (congrArg nI hE), (by rw [← hE, if_neg (by omega)]; rfl), (fun h9 => tk_of (by rw [← hE] at h9 ⊢; exact hv (by omega)))⟩)
      · have c_16n : ¬ (2 : Int) < y_15.toInt := fun q => c_16 ((fa_lt _ _).mpr q)
        refine lv_iconst (v := 2) hx hb dX7_takeDigits_88 (by decide) ?_
        refine lv_goto (tgt := 93) hx hb dX7_takeDigits_89 (by decide) ?_
        refine z_put C G clX7 0 rfl 8 (by decide) m_fl_RX7_74 rfl rfl rfl (Nat.le_of_ble_eq_true rfl) dX7_takeDigits_93 (fun H locs G => ?_)
        have G : zS T A s.heap s [[zO7 rd rl rdd rg r0 r1 tp (nI n) (nI x) 2 (nI q) y r7 r8], [zAr T 1 tp 600 ft]] _ _ := G
        exact z_back hQ9 (z_vret C hr hlocks G (Nat.le_of_ble_eq_true rfl) (Nat.le_of_ble_eq_true rfl) dX7_takeDigits_96 ⟨(nI x), 2, y, rfl, (congrArg nI hE), (by rw [← hE, if_pos (by omega)]; rfl), (fun h9 => tk_of (by rw [← hE] at h9 ⊢; exact hv (by omega)))⟩)
set_option maxHeartbeats 4000000 in
set_option maxRecDepth 100000 in
/-- c_f_nextToken -/
theorem c_f_nextToken (l : Launch) (T : zTy) (rd : Nat) (rl : Nat) (rdd : Nat) (rg : Nat) (tp : Nat) (r0 : Int32) (r1 : Int32) (r2 : Int32) (r3 : Int32) (r4 : Int32) (r5 : Int32) (r6 : Int32) (r7 : Int32) (r8 : Int32) (ft : Nat → Int32) (pp : Nat) (n : Nat) (k : pT) (hp : r3 = nI pp) (hpn : pp ≤ n) (hk : k = tkT ft n) (hn : r2 = nI n) (hn6 : n ≤ 600) : zMv l T yX7_nextToken cX7_nextToken 2 3 0 0 [.ref rd] [[zO7 rd rl rdd rg r0 r1 tp r2 r3 r4 r5 r6 r7 r8], [zAr T 1 tp 600 ft]] (fun bs => ∃ (u3 : Int32) (u4 : Int32) (u5 : Int32) (u6 : Int32), bs = [[zO7 rd rl rdd rg r0 r1 tp r2 u3 u4 u5 u6 r7 r8], [zAr T 1 tp 600 ft]] ∧ zTokC k pp u3 u4 u5 u6) := by
  refine zMv_of (own := RX7) (by decide) rfl (Nat.le_of_ble_eq_true rfl) ?_
  intro p e s m args below meth c A ls C hr hlocks hnm hAe G hl
  refine zHide (fun Q9 hQ9 => ?_)
  have hx := C.1
  have hb := C.2.1
  have hl : lv_has ls 2 [(0, .ref rd)] := hl
  subst hp
  subst hn
  subst hk
  refine lv_aload_n hx hb dX7_nextToken_0 rfl (lv_at hl 0 rfl) ?_
  refine z_get C G clX7 0 rfl 7 (by decide) m_fl_RX7_46 rfl dX7_nextToken_1 ?_
  refine lv_istore_n (lv' := [(1, .int (nI pp)), (0, .ref rd)]) hx hb dX7_nextToken_4 rfl hl (by decide) rfl (fun ls hl => ?_)
  refine z_lp1 (T := T) 5 (fun (x : Nat) => [[zO7 rd rl rdd rg r0 r1 tp (nI n) (nI x) r4 r5 r6 r7 r8], [zAr T 1 tp 600 ft]]) (fun (x : Nat) => [(1, .int (nI x)), (0, .ref rd)]) (fun (x : Nat) => (pp ≤ x ∧ x ≤ n) ∧ (∀ j, pp ≤ j → j < x → tkB (ft j) = true)) (fun (x : Nat) => n - x) ?_ pp (show (pp ≤ pp ∧ pp ≤ n) ∧ (∀ j, pp ≤ j → j < pp → tkB (ft j) = true) from ⟨(by omega), (fun j h1 h2 => by omega)⟩) G (lv_sub hl [0, 1] rfl)
  intro x hI9 ih_5 H locs ls G hl
  replace hI9 : (pp ≤ x ∧ x ≤ n) ∧ (∀ j, pp ≤ j → j < x → tkB (ft j) = true) := hI9
  refine zAn2 hI9 ?_
  intro hxq hall
  clear hI9
  replace G : zS T A s.heap s [[zO7 rd rl rdd rg r0 r1 tp (nI n) (nI x) r4 r5 r6 r7 r8], [zAr T 1 tp 600 ft]] _ _ := G
  replace hl : lv_has ls 2 [(1, .int (nI x)), (0, .ref rd)] := hl
  refine lv_iload_n hx hb dX7_nextToken_5 rfl (lv_at hl 0 rfl) ?_
  refine lv_aload_n hx hb dX7_nextToken_6 rfl (lv_at hl 1 rfl) ?_
  refine z_get C G clX7 0 rfl 6 (by decide) m_fl_RX7_42 rfl dX7_nextToken_7 ?_
  refine lv_icmp_ge (tgt := 38) hx hb dX7_nextToken_10 (by decide) (fun c_1 => ?_) (fun c_1 => ?_)
  · have c_1n : n ≤ x := (nI_leI (a := n) (b := x) (by omega) (by omega)).mp c_1
    have hB : zRun tkB ft n pp x := ⟨hxq.1, Or.inl hxq.2, hall, fun h9 => by first | omega | assumption⟩
    refine lv_aload_n hx hb dX7_nextToken_38 rfl (lv_at hl 1 rfl) ?_
    refine lv_aload_n hx hb dX7_nextToken_39 rfl (lv_at hl 1 rfl) ?_
    refine z_get C G clX7 0 rfl 7 (by decide) m_fl_RX7_46 rfl dX7_nextToken_40 ?_
    refine z_put C G clX7 0 rfl 9 (by decide) m_fl_RX7_84 rfl rfl rfl (Nat.le_of_ble_eq_true rfl) dX7_nextToken_43 (fun H locs G => ?_)
    have G : zS T A s.heap s [[zO7 rd rl rdd rg r0 r1 tp (nI n) (nI x) r4 (nI x) r6 r7 r8], [zAr T 1 tp 600 ft]] _ _ := G
    refine lv_aload_n hx hb dX7_nextToken_46 rfl (lv_at hl 1 rfl) ?_
    refine z_get C G clX7 0 rfl 7 (by decide) m_fl_RX7_46 rfl dX7_nextToken_47 ?_
    refine lv_aload_n hx hb dX7_nextToken_50 rfl (lv_at hl 1 rfl) ?_
    refine z_get C G clX7 0 rfl 6 (by decide) m_fl_RX7_42 rfl dX7_nextToken_51 ?_
    refine lv_icmp_lt (tgt := 65) hx hb dX7_nextToken_54 (by decide) (fun c_2 => ?_) (fun c_2 => ?_)
    · have c_2n : x < n := (nI_ltI (a := x) (b := n) (by omega) (by omega)).mp c_2
      refine lv_aload_n hx hb dX7_nextToken_65 rfl (lv_at hl 1 rfl) ?_
      refine z_get C G clX7 0 rfl 5 (by decide) m_fl_RX7_32 rfl dX7_nextToken_66 ?_
      refine lv_aload_n hx hb dX7_nextToken_69 rfl (lv_at hl 1 rfl) ?_
      refine z_get C G clX7 0 rfl 7 (by decide) m_fl_RX7_46 rfl dX7_nextToken_70 ?_
      refine z_bld C G 1 rfl (vp_in_nI (by omega) (by omega)) dX7_nextToken_73 ?_
      refine lv_topi (fun v_3 ev_3 => ?_)
      rw [nI_clamp (by omega)] at ev_3
      subst ev_3
      refine z_Si (bc := []) (br := [[zO7 rd rl rdd rg r0 r1 tp (nI n) (nI x) r4 (nI x) r6 r7 r8], [zAr T 1 tp 600 ft]]) (As := [.int (ft x)]) (rest := []) C G (c_f_isLetter l T (ft x)) (kS_RX7_148 C.2.2.2.2 (Nat.le_of_ble_eq_true rfl) (Nat.le_of_ble_eq_true rfl)) [] [] rfl rfl rfl rfl hl.1 dX7_nextToken_74 (Nat.le_of_ble_eq_true rfl) (Nat.le_of_ble_eq_true rfl) (fun r_5 b1 H locs hw G => ?_)
      refine zAn2 hw ?_
      intro hbs9 hc_4
      clear hw
      subst hbs9
      have G : zS T A s.heap s [[zO7 rd rl rdd rg r0 r1 tp (nI n) (nI x) r4 (nI x) r6 r7 r8], [zAr T 1 tp 600 ft]] _ _ := G
      rcases hc_4 with ⟨rfl, h_6⟩ | ⟨rfl, h_7⟩
      · have h_6 : tkL (ft x) = true := h_6
        refine lv_if_eq (tgt := 87) hx hb dX7_nextToken_77 (by decide) (fun q => absurd q (by decide)) (fun _ => ?_)
        refine lv_aload_n hx hb dX7_nextToken_80 rfl (lv_at hl 1 rfl) ?_
        refine z_Vv (bc := [[zO7 rd rl rdd rg r0 r1 tp (nI n) (nI x) r4 (nI x) r6 r7 r8], [zAr T 1 tp 600 ft]]) (br := []) (As := []) (rest := []) C G (c_f_takeLetters l T rd rl rdd rg tp r0 r1 (nI n) (nI x) r4 (nI x) r6 r7 r8 ft x n rfl (by omega) rfl (by first | with_reducible assumption | with_reducible rfl | omega | assumption | rfl)) (kV_RX7_151 C.2.2.2.2 (Nat.le_of_ble_eq_true rfl) (Nat.le_of_ble_eq_true rfl)) [0, 1] [0, 0] rfl rfl (ci := 7) (qc := (RX7, TX7, 13)) rfl rfl (List.mem_flatten.mpr ⟨_, List.mem_of_getElem? (i := 0) rfl, List.mem_cons_self⟩) rfl rfl hl.1 dX7_nextToken_81 (Nat.le_of_ble_eq_true rfl) (Nat.le_of_ble_eq_true rfl) (fun b1 H locs hw G => ?_)
        refine zEx2 hw ?_
        intro u3_8 u4_9
        refine zCu3 ?_
        intro hbs9 h_10 h_11
        clear hw
        subst hbs9
        have G : zS T A s.heap s [[zO7 rd rl rdd rg r0 r1 tp (nI n) u3_8 u4_9 (nI x) r6 r7 r8], [zAr T 1 tp 600 ft]] _ _ := G
        refine lv_goto (tgt := 142) hx hb dX7_nextToken_84 (by decide) ?_
        exact z_back hQ9 (z_vret C hr hlocks G (Nat.le_of_ble_eq_true rfl) (Nat.le_of_ble_eq_true rfl) dX7_nextToken_142 ⟨u3_8, u4_9, (nI x), r6, rfl, (by rw [h_10, h_11]; exact zTokC_of (c := 1) (tk_L hB (by omega) (by assumption) (zEnd_run _ _ _ _)) (fun h9 => absurd h9 (by decide)))⟩)
      · have h_7 : tkL (ft x) = false := h_7
        refine lv_if_eq (tgt := 87) hx hb dX7_nextToken_77 (by decide) (fun _ => ?_) (fun q => absurd (by decide) q)
        refine lv_aload_n hx hb dX7_nextToken_87 rfl (lv_at hl 1 rfl) ?_
        refine z_get C G clX7 0 rfl 5 (by decide) m_fl_RX7_32 rfl dX7_nextToken_88 ?_
        refine lv_aload_n hx hb dX7_nextToken_91 rfl (lv_at hl 1 rfl) ?_
        refine z_get C G clX7 0 rfl 7 (by decide) m_fl_RX7_46 rfl dX7_nextToken_92 ?_
        refine z_bld C G 1 rfl (vp_in_nI (by omega) (by omega)) dX7_nextToken_95 ?_
        refine lv_topi (fun v_13 ev_13 => ?_)
        rw [nI_clamp (by omega)] at ev_13
        subst ev_13
        refine z_Si (bc := []) (br := [[zO7 rd rl rdd rg r0 r1 tp (nI n) (nI x) r4 (nI x) r6 r7 r8], [zAr T 1 tp 600 ft]]) (As := [.int (ft x)]) (rest := []) C G (c_f_isDigit l T (ft x)) (kS_RX7_154 C.2.2.2.2 (Nat.le_of_ble_eq_true rfl) (Nat.le_of_ble_eq_true rfl)) [] [] rfl rfl rfl rfl hl.1 dX7_nextToken_96 (Nat.le_of_ble_eq_true rfl) (Nat.le_of_ble_eq_true rfl) (fun r_15 b1 H locs hw G => ?_)
        refine zAn2 hw ?_
        intro hbs9 hc_14
        clear hw
        subst hbs9
        have G : zS T A s.heap s [[zO7 rd rl rdd rg r0 r1 tp (nI n) (nI x) r4 (nI x) r6 r7 r8], [zAr T 1 tp 600 ft]] _ _ := G
        rcases hc_14 with ⟨rfl, h_16⟩ | ⟨rfl, h_17⟩
        · have h_16 : tkD (ft x) = true := h_16
          refine lv_if_eq (tgt := 109) hx hb dX7_nextToken_99 (by decide) (fun q => absurd q (by decide)) (fun _ => ?_)
          refine lv_aload_n hx hb dX7_nextToken_102 rfl (lv_at hl 1 rfl) ?_
          refine z_Vv (bc := [[zO7 rd rl rdd rg r0 r1 tp (nI n) (nI x) r4 (nI x) r6 r7 r8], [zAr T 1 tp 600 ft]]) (br := []) (As := []) (rest := []) C G (c_f_takeDigits l T rd rl rdd rg tp r0 r1 (nI n) (nI x) r4 (nI x) r6 r7 r8 ft x n rfl rfl (by omega) rfl (by first | with_reducible assumption | with_reducible rfl | omega | assumption | rfl)) (kV_RX7_157 C.2.2.2.2 (Nat.le_of_ble_eq_true rfl) (Nat.le_of_ble_eq_true rfl)) [0, 1] [0, 0] rfl rfl (ci := 7) (qc := (RX7, TX7, 13)) rfl rfl (List.mem_flatten.mpr ⟨_, List.mem_of_getElem? (i := 0) rfl, List.mem_cons_self⟩) rfl rfl hl.1 dX7_nextToken_103 (Nat.le_of_ble_eq_true rfl) (Nat.le_of_ble_eq_true rfl) (fun b1 H locs hw G => ?_)
          refine zEx3 hw ?_
          intro u3_18 u4_19 u6_20
          refine zCu4 ?_
          intro hbs9 h_21 h_22 h_23
          clear hw
          subst hbs9
          have G : zS T A s.heap s [[zO7 rd rl rdd rg r0 r1 tp (nI n) u3_18 u4_19 (nI x) u6_20 r7 r8], [zAr T 1 tp 600 ft]] _ _ := G
          refine lv_goto (tgt := 142) hx hb dX7_nextToken_106 (by decide) ?_
          exact z_back hQ9 (z_vret C hr hlocks G (Nat.le_of_ble_eq_true rfl) (Nat.le_of_ble_eq_true rfl) dX7_nextToken_142 ⟨u3_18, u4_19, (nI x), u6_20, rfl, (by
    rw [h_21, h_22]
    refine zTokC_of (tk_D hB (by omega) (by assumption) (by assumption) (zEnd_run _ _ _ _)) (fun h9 => ?_)
    by_cases q9 : zEnd tkD ft n x - x ≤ 2
    · rw [if_pos q9]; exact h_23 q9
    · rw [if_neg q9] at h9; exact absurd h9 (by decide))⟩)
        · have h_17 : tkD (ft x) = false := h_17
          refine lv_if_eq (tgt := 109) hx hb dX7_nextToken_99 (by decide) (fun _ => ?_) (fun q => absurd (by decide) q)
          refine lv_aload_n hx hb dX7_nextToken_109 rfl (lv_at hl 1 rfl) ?_
          refine lv_aload_n hx hb dX7_nextToken_110 rfl (lv_at hl 1 rfl) ?_
          refine z_get C G clX7 0 rfl 5 (by decide) m_fl_RX7_32 rfl dX7_nextToken_111 ?_
          refine lv_aload_n hx hb dX7_nextToken_114 rfl (lv_at hl 1 rfl) ?_
          refine z_get C G clX7 0 rfl 7 (by decide) m_fl_RX7_46 rfl dX7_nextToken_115 ?_
          refine z_bld C G 1 rfl (vp_in_nI (by omega) (by omega)) dX7_nextToken_118 ?_
          refine lv_topi (fun v_25 ev_25 => ?_)
          rw [nI_clamp (by omega)] at ev_25
          subst ev_25
          refine lv_bipush (v := 59) hx hb dX7_nextToken_119 (by decide) ?_
          refine lv_icmp_ne (tgt := 128) hx hb dX7_nextToken_121 (by decide) (fun c_26 => ?_) (fun c_26 => ?_)
          · have c_26n : ¬ (ft x).toInt = (59 : Int) := fun q => c_26 ((fa_eq _ _).mpr q)
            refine lv_iconst (v := 4) hx hb dX7_nextToken_128 (by decide) ?_
            refine z_put C G clX7 0 rfl 8 (by decide) m_fl_RX7_74 rfl rfl rfl (Nat.le_of_ble_eq_true rfl) dX7_nextToken_129 (fun H locs G => ?_)
            have G : zS T A s.heap s [[zO7 rd rl rdd rg r0 r1 tp (nI n) (nI x) 4 (nI x) r6 r7 r8], [zAr T 1 tp 600 ft]] _ _ := G
            refine lv_aload_n hx hb dX7_nextToken_132 rfl (lv_at hl 1 rfl) ?_
            refine lv_dup hx hb dX7_nextToken_133 rfl ?_
            refine z_get C G clX7 0 rfl 7 (by decide) m_fl_RX7_46 rfl dX7_nextToken_134 ?_
            refine lv_iconst (v := 1) hx hb dX7_nextToken_137 (by decide) ?_
            refine lv_iadd hx hb dX7_nextToken_138 ?_
            refine lv_topi (fun y_27 ey_27 => ?_)
            obtain rfl : y_27 = nI (x + 1) := ey_27.trans (z_iaddn x 1 rfl rfl)
            refine z_put C G clX7 0 rfl 7 (by decide) m_fl_RX7_46 rfl rfl rfl (Nat.le_of_ble_eq_true rfl) dX7_nextToken_139 (fun H locs G => ?_)
            have G : zS T A s.heap s [[zO7 rd rl rdd rg r0 r1 tp (nI n) (nI (x + 1)) 4 (nI x) r6 r7 r8], [zAr T 1 tp 600 ft]] _ _ := G
            exact z_back hQ9 (z_vret C hr hlocks G (Nat.le_of_ble_eq_true rfl) (Nat.le_of_ble_eq_true rfl) dX7_nextToken_142 ⟨(nI (x + 1)), 4, (nI x), r6, rfl, (zTokC_of (w := x) (e := x + 1) (c := 4) (wd := 0) (nm := 0) ((tk_S hB (by omega) (by assumption) (by assumption)).trans (by rw [if_neg (by omega)])) (fun h9 => absurd h9 (by decide)))⟩)
          · have c_26n : (ft x).toInt = (59 : Int) := (fa_eq _ _).mp c_26
            refine lv_iconst (v := 3) hx hb dX7_nextToken_124 (by decide) ?_
            refine lv_goto (tgt := 129) hx hb dX7_nextToken_125 (by decide) ?_
            refine z_put C G clX7 0 rfl 8 (by decide) m_fl_RX7_74 rfl rfl rfl (Nat.le_of_ble_eq_true rfl) dX7_nextToken_129 (fun H locs G => ?_)
            have G : zS T A s.heap s [[zO7 rd rl rdd rg r0 r1 tp (nI n) (nI x) 3 (nI x) r6 r7 r8], [zAr T 1 tp 600 ft]] _ _ := G
            refine lv_aload_n hx hb dX7_nextToken_132 rfl (lv_at hl 1 rfl) ?_
            refine lv_dup hx hb dX7_nextToken_133 rfl ?_
            refine z_get C G clX7 0 rfl 7 (by decide) m_fl_RX7_46 rfl dX7_nextToken_134 ?_
            refine lv_iconst (v := 1) hx hb dX7_nextToken_137 (by decide) ?_
            refine lv_iadd hx hb dX7_nextToken_138 ?_
            refine lv_topi (fun y_28 ey_28 => ?_)
            obtain rfl : y_28 = nI (x + 1) := ey_28.trans (z_iaddn x 1 rfl rfl)
            refine z_put C G clX7 0 rfl 7 (by decide) m_fl_RX7_46 rfl rfl rfl (Nat.le_of_ble_eq_true rfl) dX7_nextToken_139 (fun H locs G => ?_)
            have G : zS T A s.heap s [[zO7 rd rl rdd rg r0 r1 tp (nI n) (nI (x + 1)) 3 (nI x) r6 r7 r8], [zAr T 1 tp 600 ft]] _ _ := G
            exact z_back hQ9 (z_vret C hr hlocks G (Nat.le_of_ble_eq_true rfl) (Nat.le_of_ble_eq_true rfl) dX7_nextToken_142 ⟨(nI (x + 1)), 3, (nI x), r6, rfl, (zTokC_of (w := x) (e := x + 1) (c := 3) (wd := 0) (nm := 0) ((tk_S hB (by omega) (by assumption) (by assumption)).trans (by rw [if_pos (by omega)])) (fun h9 => absurd h9 (by decide)))⟩)
    · have c_2n : ¬ x < n := fun q => c_2 ((nI_ltI (a := x) (b := n) (by omega) (by omega)).mpr q)
      refine lv_aload_n hx hb dX7_nextToken_57 rfl (lv_at hl 1 rfl) ?_
      refine lv_iconst (v := 0) hx hb dX7_nextToken_58 (by decide) ?_
      refine z_put C G clX7 0 rfl 8 (by decide) m_fl_RX7_74 rfl rfl rfl (Nat.le_of_ble_eq_true rfl) dX7_nextToken_59 (fun H locs G => ?_)
      have G : zS T A s.heap s [[zO7 rd rl rdd rg r0 r1 tp (nI n) (nI x) 0 (nI x) r6 r7 r8], [zAr T 1 tp 600 ft]] _ _ := G
      refine lv_goto (tgt := 142) hx hb dX7_nextToken_62 (by decide) ?_
      exact z_back hQ9 (z_vret C hr hlocks G (Nat.le_of_ble_eq_true rfl) (Nat.le_of_ble_eq_true rfl) dX7_nextToken_142 ⟨(nI x), 0, (nI x), r6, rfl, (zTokC_of (c := 0) (tk_0 hB (by omega)) (fun h9 => absurd h9 (by decide)))⟩)
  · have c_1n : ¬ n ≤ x := fun q => c_1 ((nI_leI (a := n) (b := x) (by omega) (by omega)).mpr q)
    refine lv_aload_n hx hb dX7_nextToken_13 rfl (lv_at hl 1 rfl) ?_
    refine z_get C G clX7 0 rfl 5 (by decide) m_fl_RX7_32 rfl dX7_nextToken_14 ?_
    refine lv_iload_n hx hb dX7_nextToken_17 rfl (lv_at hl 0 rfl) ?_
    refine z_bld C G 1 rfl (vp_in_nI (by omega) (by omega)) dX7_nextToken_18 ?_
    refine lv_topi (fun v_29 ev_29 => ?_)
    rw [nI_clamp (by omega)] at ev_29
    subst ev_29
    refine z_Si (bc := []) (br := [[zO7 rd rl rdd rg r0 r1 tp (nI n) (nI x) r4 r5 r6 r7 r8], [zAr T 1 tp 600 ft]]) (As := [.int (ft x)]) (rest := []) C G (c_f_isBlank l T (ft x)) (kS_RX7_144 C.2.2.2.2 (Nat.le_of_ble_eq_true rfl) (Nat.le_of_ble_eq_true rfl)) [] [] rfl rfl rfl rfl hl.1 dX7_nextToken_19 (Nat.le_of_ble_eq_true rfl) (Nat.le_of_ble_eq_true rfl) (fun r_31 b1 H locs hw G => ?_)
    refine zAn2 hw ?_
    intro hbs9 hc_30
    clear hw
    subst hbs9
    have G : zS T A s.heap s [[zO7 rd rl rdd rg r0 r1 tp (nI n) (nI x) r4 r5 r6 r7 r8], [zAr T 1 tp 600 ft]] _ _ := G
    rcases hc_30 with ⟨rfl, h_32⟩ | ⟨rfl, h_33⟩
    · have h_32 : tkB (ft x) = true := h_32
      refine lv_if_eq (tgt := 38) hx hb dX7_nextToken_22 (by decide) (fun q => absurd q (by decide)) (fun _ => ?_)
      refine lv_aload_n hx hb dX7_nextToken_25 rfl (lv_at hl 1 rfl) ?_
      refine lv_iload_n hx hb dX7_nextToken_26 rfl (lv_at hl 0 rfl) ?_
      refine lv_iconst (v := 1) hx hb dX7_nextToken_27 (by decide) ?_
      refine lv_iadd hx hb dX7_nextToken_28 ?_
      refine lv_topi (fun y_34 ey_34 => ?_)
      obtain rfl : y_34 = nI (x + 1) := ey_34.trans (z_iaddn x 1 rfl rfl)
      refine z_put C G clX7 0 rfl 7 (by decide) m_fl_RX7_46 rfl rfl rfl (Nat.le_of_ble_eq_true rfl) dX7_nextToken_29 (fun H locs G => ?_)
      have G : zS T A s.heap s [[zO7 rd rl rdd rg r0 r1 tp (nI n) (nI (x + 1)) r4 r5 r6 r7 r8], [zAr T 1 tp 600 ft]] _ _ := G
      refine lv_iinc (v := nI (x + 1)) (lv' := [(1, .int (nI (x + 1))), (0, .ref rd)]) hx hb dX7_nextToken_32 hl (k := 0) rfl (z_inc x 1) (by decide) rfl (fun ls hl => ?_)
      refine lv_goto (tgt := 5) hx hb dX7_nextToken_35 (by decide) ?_
      exact ih_5 (x + 1) (show (pp ≤ (x + 1) ∧ (x + 1) ≤ n) ∧ (∀ j, pp ≤ j → j < (x + 1) → tkB (ft j) = true) from ⟨(by omega), (z_allS hall (by assumption))⟩) (show n - (x + 1) < n - x from by omega) _ _ ls G (lv_sub hl [0, 1] rfl)
    · have h_33 : tkB (ft x) = false := h_33
      refine lv_if_eq (tgt := 38) hx hb dX7_nextToken_22 (by decide) (fun _ => ?_) (fun q => absurd (by decide) q)
      have hB : zRun tkB ft n pp x := ⟨hxq.1, Or.inl hxq.2, hall, fun h9 => by first | omega | assumption⟩
      refine lv_aload_n hx hb dX7_nextToken_38 rfl (lv_at hl 1 rfl) ?_
      refine lv_aload_n hx hb dX7_nextToken_39 rfl (lv_at hl 1 rfl) ?_
      refine z_get C G clX7 0 rfl 7 (by decide) m_fl_RX7_46 rfl dX7_nextToken_40 ?_
      refine z_put C G clX7 0 rfl 9 (by decide) m_fl_RX7_84 rfl rfl rfl (Nat.le_of_ble_eq_true rfl) dX7_nextToken_43 (fun H locs G => ?_)
      have G : zS T A s.heap s [[zO7 rd rl rdd rg r0 r1 tp (nI n) (nI x) r4 (nI x) r6 r7 r8], [zAr T 1 tp 600 ft]] _ _ := G
      refine lv_aload_n hx hb dX7_nextToken_46 rfl (lv_at hl 1 rfl) ?_
      refine z_get C G clX7 0 rfl 7 (by decide) m_fl_RX7_46 rfl dX7_nextToken_47 ?_
      refine lv_aload_n hx hb dX7_nextToken_50 rfl (lv_at hl 1 rfl) ?_
      refine z_get C G clX7 0 rfl 6 (by decide) m_fl_RX7_42 rfl dX7_nextToken_51 ?_
      refine lv_icmp_lt (tgt := 65) hx hb dX7_nextToken_54 (by decide) (fun c_35 => ?_) (fun c_35 => ?_)
      · have c_35n : x < n := (nI_ltI (a := x) (b := n) (by omega) (by omega)).mp c_35
        refine lv_aload_n hx hb dX7_nextToken_65 rfl (lv_at hl 1 rfl) ?_
        refine z_get C G clX7 0 rfl 5 (by decide) m_fl_RX7_32 rfl dX7_nextToken_66 ?_
        refine lv_aload_n hx hb dX7_nextToken_69 rfl (lv_at hl 1 rfl) ?_
        refine z_get C G clX7 0 rfl 7 (by decide) m_fl_RX7_46 rfl dX7_nextToken_70 ?_
        refine z_bld C G 1 rfl (vp_in_nI (by omega) (by omega)) dX7_nextToken_73 ?_
        refine lv_topi (fun v_36 ev_36 => ?_)
        rw [nI_clamp (by omega)] at ev_36
        subst ev_36
        refine z_Si (bc := []) (br := [[zO7 rd rl rdd rg r0 r1 tp (nI n) (nI x) r4 (nI x) r6 r7 r8], [zAr T 1 tp 600 ft]]) (As := [.int (ft x)]) (rest := []) C G (c_f_isLetter l T (ft x)) (kS_RX7_148 C.2.2.2.2 (Nat.le_of_ble_eq_true rfl) (Nat.le_of_ble_eq_true rfl)) [] [] rfl rfl rfl rfl hl.1 dX7_nextToken_74 (Nat.le_of_ble_eq_true rfl) (Nat.le_of_ble_eq_true rfl) (fun r_38 b1 H locs hw G => ?_)
        refine zAn2 hw ?_
        intro hbs9 hc_37
        clear hw
        subst hbs9
        have G : zS T A s.heap s [[zO7 rd rl rdd rg r0 r1 tp (nI n) (nI x) r4 (nI x) r6 r7 r8], [zAr T 1 tp 600 ft]] _ _ := G
        rcases hc_37 with ⟨rfl, h_39⟩ | ⟨rfl, h_40⟩
        · have h_39 : tkL (ft x) = true := h_39
          refine lv_if_eq (tgt := 87) hx hb dX7_nextToken_77 (by decide) (fun q => absurd q (by decide)) (fun _ => ?_)
          refine lv_aload_n hx hb dX7_nextToken_80 rfl (lv_at hl 1 rfl) ?_
          refine z_Vv (bc := [[zO7 rd rl rdd rg r0 r1 tp (nI n) (nI x) r4 (nI x) r6 r7 r8], [zAr T 1 tp 600 ft]]) (br := []) (As := []) (rest := []) C G (c_f_takeLetters l T rd rl rdd rg tp r0 r1 (nI n) (nI x) r4 (nI x) r6 r7 r8 ft x n rfl (by omega) rfl (by first | with_reducible assumption | with_reducible rfl | omega | assumption | rfl)) (kV_RX7_151 C.2.2.2.2 (Nat.le_of_ble_eq_true rfl) (Nat.le_of_ble_eq_true rfl)) [0, 1] [0, 0] rfl rfl (ci := 7) (qc := (RX7, TX7, 13)) rfl rfl (List.mem_flatten.mpr ⟨_, List.mem_of_getElem? (i := 0) rfl, List.mem_cons_self⟩) rfl rfl hl.1 dX7_nextToken_81 (Nat.le_of_ble_eq_true rfl) (Nat.le_of_ble_eq_true rfl) (fun b1 H locs hw G => ?_)
          refine zEx2 hw ?_
          intro u3_41 u4_42
          refine zCu3 ?_
          intro hbs9 h_43 h_44
          clear hw
          subst hbs9
          have G : zS T A s.heap s [[zO7 rd rl rdd rg r0 r1 tp (nI n) u3_41 u4_42 (nI x) r6 r7 r8], [zAr T 1 tp 600 ft]] _ _ := G
          refine lv_goto (tgt := 142) hx hb dX7_nextToken_84 (by decide) ?_
          exact z_back hQ9 (z_vret C hr hlocks G (Nat.le_of_ble_eq_true rfl) (Nat.le_of_ble_eq_true rfl) dX7_nextToken_142 ⟨u3_41, u4_42, (nI x), r6, rfl, (by rw [h_43, h_44]; exact zTokC_of (c := 1) (tk_L hB (by omega) (by assumption) (zEnd_run _ _ _ _)) (fun h9 => absurd h9 (by decide)))⟩)
        · have h_40 : tkL (ft x) = false := h_40
          refine lv_if_eq (tgt := 87) hx hb dX7_nextToken_77 (by decide) (fun _ => ?_) (fun q => absurd (by decide) q)
          refine lv_aload_n hx hb dX7_nextToken_87 rfl (lv_at hl 1 rfl) ?_
          refine z_get C G clX7 0 rfl 5 (by decide) m_fl_RX7_32 rfl dX7_nextToken_88 ?_
          refine lv_aload_n hx hb dX7_nextToken_91 rfl (lv_at hl 1 rfl) ?_
          refine z_get C G clX7 0 rfl 7 (by decide) m_fl_RX7_46 rfl dX7_nextToken_92 ?_
          refine z_bld C G 1 rfl (vp_in_nI (by omega) (by omega)) dX7_nextToken_95 ?_
          refine lv_topi (fun v_46 ev_46 => ?_)
          rw [nI_clamp (by omega)] at ev_46
          subst ev_46
          refine z_Si (bc := []) (br := [[zO7 rd rl rdd rg r0 r1 tp (nI n) (nI x) r4 (nI x) r6 r7 r8], [zAr T 1 tp 600 ft]]) (As := [.int (ft x)]) (rest := []) C G (c_f_isDigit l T (ft x)) (kS_RX7_154 C.2.2.2.2 (Nat.le_of_ble_eq_true rfl) (Nat.le_of_ble_eq_true rfl)) [] [] rfl rfl rfl rfl hl.1 dX7_nextToken_96 (Nat.le_of_ble_eq_true rfl) (Nat.le_of_ble_eq_true rfl) (fun r_48 b1 H locs hw G => ?_)
          refine zAn2 hw ?_
          intro hbs9 hc_47
          clear hw
          subst hbs9
          have G : zS T A s.heap s [[zO7 rd rl rdd rg r0 r1 tp (nI n) (nI x) r4 (nI x) r6 r7 r8], [zAr T 1 tp 600 ft]] _ _ := G
          rcases hc_47 with ⟨rfl, h_49⟩ | ⟨rfl, h_50⟩
          · have h_49 : tkD (ft x) = true := h_49
            refine lv_if_eq (tgt := 109) hx hb dX7_nextToken_99 (by decide) (fun q => absurd q (by decide)) (fun _ => ?_)
            refine lv_aload_n hx hb dX7_nextToken_102 rfl (lv_at hl 1 rfl) ?_
            refine z_Vv (bc := [[zO7 rd rl rdd rg r0 r1 tp (nI n) (nI x) r4 (nI x) r6 r7 r8], [zAr T 1 tp 600 ft]]) (br := []) (As := []) (rest := []) C G (c_f_takeDigits l T rd rl rdd rg tp r0 r1 (nI n) (nI x) r4 (nI x) r6 r7 r8 ft x n rfl rfl (by omega) rfl (by first | with_reducible assumption | with_reducible rfl | omega | assumption | rfl)) (kV_RX7_157 C.2.2.2.2 (Nat.le_of_ble_eq_true rfl) (Nat.le_of_ble_eq_true rfl)) [0, 1] [0, 0] rfl rfl (ci := 7) (qc := (RX7, TX7, 13)) rfl rfl (List.mem_flatten.mpr ⟨_, List.mem_of_getElem? (i := 0) rfl, List.mem_cons_self⟩) rfl rfl hl.1 dX7_nextToken_103 (Nat.le_of_ble_eq_true rfl) (Nat.le_of_ble_eq_true rfl) (fun b1 H locs hw G => ?_)
            refine zEx3 hw ?_
            intro u3_51 u4_52 u6_53
            refine zCu4 ?_
            intro hbs9 h_54 h_55 h_56
            clear hw
            subst hbs9
            have G : zS T A s.heap s [[zO7 rd rl rdd rg r0 r1 tp (nI n) u3_51 u4_52 (nI x) u6_53 r7 r8], [zAr T 1 tp 600 ft]] _ _ := G
            refine lv_goto (tgt := 142) hx hb dX7_nextToken_106 (by decide) ?_
            exact z_back hQ9 (z_vret C hr hlocks G (Nat.le_of_ble_eq_true rfl) (Nat.le_of_ble_eq_true rfl) dX7_nextToken_142 ⟨u3_51, u4_52, (nI x), u6_53, rfl, (by
    rw [h_54, h_55]
    refine zTokC_of (tk_D hB (by omega) (by assumption) (by assumption) (zEnd_run _ _ _ _)) (fun h9 => ?_)
    by_cases q9 : zEnd tkD ft n x - x ≤ 2
    · rw [if_pos q9]; exact h_56 q9
    · rw [if_neg q9] at h9; exact absurd h9 (by decide))⟩)
          · have h_50 : tkD (ft x) = false := h_50
            refine lv_if_eq (tgt := 109) hx hb dX7_nextToken_99 (by decide) (fun _ => ?_) (fun q => absurd (by decide) q)
            refine lv_aload_n hx hb dX7_nextToken_109 rfl (lv_at hl 1 rfl) ?_
            refine lv_aload_n hx hb dX7_nextToken_110 rfl (lv_at hl 1 rfl) ?_
            refine z_get C G clX7 0 rfl 5 (by decide) m_fl_RX7_32 rfl dX7_nextToken_111 ?_
            refine lv_aload_n hx hb dX7_nextToken_114 rfl (lv_at hl 1 rfl) ?_
            refine z_get C G clX7 0 rfl 7 (by decide) m_fl_RX7_46 rfl dX7_nextToken_115 ?_
            refine z_bld C G 1 rfl (vp_in_nI (by omega) (by omega)) dX7_nextToken_118 ?_
            refine lv_topi (fun v_58 ev_58 => ?_)
            rw [nI_clamp (by omega)] at ev_58
            subst ev_58
            refine lv_bipush (v := 59) hx hb dX7_nextToken_119 (by decide) ?_
            refine lv_icmp_ne (tgt := 128) hx hb dX7_nextToken_121 (by decide) (fun c_59 => ?_) (fun c_59 => ?_)
            · have c_59n : ¬ (ft x).toInt = (59 : Int) := fun q => c_59 ((fa_eq _ _).mpr q)
              refine lv_iconst (v := 4) hx hb dX7_nextToken_128 (by decide) ?_
              refine z_put C G clX7 0 rfl 8 (by decide) m_fl_RX7_74 rfl rfl rfl (Nat.le_of_ble_eq_true rfl) dX7_nextToken_129 (fun H locs G => ?_)
              have G : zS T A s.heap s [[zO7 rd rl rdd rg r0 r1 tp (nI n) (nI x) 4 (nI x) r6 r7 r8], [zAr T 1 tp 600 ft]] _ _ := G
              refine lv_aload_n hx hb dX7_nextToken_132 rfl (lv_at hl 1 rfl) ?_
              refine lv_dup hx hb dX7_nextToken_133 rfl ?_
              refine z_get C G clX7 0 rfl 7 (by decide) m_fl_RX7_46 rfl dX7_nextToken_134 ?_
              refine lv_iconst (v := 1) hx hb dX7_nextToken_137 (by decide) ?_
              refine lv_iadd hx hb dX7_nextToken_138 ?_
              refine lv_topi (fun y_60 ey_60 => ?_)
              obtain rfl : y_60 = nI (x + 1) := ey_60.trans (z_iaddn x 1 rfl rfl)
              refine z_put C G clX7 0 rfl 7 (by decide) m_fl_RX7_46 rfl rfl rfl (Nat.le_of_ble_eq_true rfl) dX7_nextToken_139 (fun H locs G => ?_)
              have G : zS T A s.heap s [[zO7 rd rl rdd rg r0 r1 tp (nI n) (nI (x + 1)) 4 (nI x) r6 r7 r8], [zAr T 1 tp 600 ft]] _ _ := G
              exact z_back hQ9 (z_vret C hr hlocks G (Nat.le_of_ble_eq_true rfl) (Nat.le_of_ble_eq_true rfl) dX7_nextToken_142 ⟨(nI (x + 1)), 4, (nI x), r6, rfl, (zTokC_of (w := x) (e := x + 1) (c := 4) (wd := 0) (nm := 0) ((tk_S hB (by omega) (by assumption) (by assumption)).trans (by rw [if_neg (by omega)])) (fun h9 => absurd h9 (by decide)))⟩)
            · have c_59n : (ft x).toInt = (59 : Int) := (fa_eq _ _).mp c_59
              refine lv_iconst (v := 3) hx hb dX7_nextToken_124 (by decide) ?_
              refine lv_goto (tgt := 129) hx hb dX7_nextToken_125 (by decide) ?_
              refine z_put C G clX7 0 rfl 8 (by decide) m_fl_RX7_74 rfl rfl rfl (Nat.le_of_ble_eq_true rfl) dX7_nextToken_129 (fun H locs G => ?_)
              have G : zS T A s.heap s [[zO7 rd rl rdd rg r0 r1 tp (nI n) (nI x) 3 (nI x) r6 r7 r8], [zAr T 1 tp 600 ft]] _ _ := G
              refine lv_aload_n hx hb dX7_nextToken_132 rfl (lv_at hl 1 rfl) ?_
              refine lv_dup hx hb dX7_nextToken_133 rfl ?_
              refine z_get C G clX7 0 rfl 7 (by decide) m_fl_RX7_46 rfl dX7_nextToken_134 ?_
              refine lv_iconst (v := 1) hx hb dX7_nextToken_137 (by decide) ?_
              refine lv_iadd hx hb dX7_nextToken_138 ?_
              refine lv_topi (fun y_61 ey_61 => ?_)
              obtain rfl : y_61 = nI (x + 1) := ey_61.trans (z_iaddn x 1 rfl rfl)
              refine z_put C G clX7 0 rfl 7 (by decide) m_fl_RX7_46 rfl rfl rfl (Nat.le_of_ble_eq_true rfl) dX7_nextToken_139 (fun H locs G => ?_)
              have G : zS T A s.heap s [[zO7 rd rl rdd rg r0 r1 tp (nI n) (nI (x + 1)) 3 (nI x) r6 r7 r8], [zAr T 1 tp 600 ft]] _ _ := G
              exact z_back hQ9 (z_vret C hr hlocks G (Nat.le_of_ble_eq_true rfl) (Nat.le_of_ble_eq_true rfl) dX7_nextToken_142 ⟨(nI (x + 1)), 3, (nI x), r6, rfl, (zTokC_of (w := x) (e := x + 1) (c := 3) (wd := 0) (nm := 0) ((tk_S hB (by omega) (by assumption) (by assumption)).trans (by rw [if_pos (by omega)])) (fun h9 => absurd h9 (by decide)))⟩)
      · have c_35n : ¬ x < n := fun q => c_35 ((nI_ltI (a := x) (b := n) (by omega) (by omega)).mpr q)
        refine lv_aload_n hx hb dX7_nextToken_57 rfl (lv_at hl 1 rfl) ?_
        refine lv_iconst (v := 0) hx hb dX7_nextToken_58 (by decide) ?_
        refine z_put C G clX7 0 rfl 8 (by decide) m_fl_RX7_74 rfl rfl rfl (Nat.le_of_ble_eq_true rfl) dX7_nextToken_59 (fun H locs G => ?_)
        have G : zS T A s.heap s [[zO7 rd rl rdd rg r0 r1 tp (nI n) (nI x) 0 (nI x) r6 r7 r8], [zAr T 1 tp 600 ft]] _ _ := G
        refine lv_goto (tgt := 142) hx hb dX7_nextToken_62 (by decide) ?_
        exact z_back hQ9 (z_vret C hr hlocks G (Nat.le_of_ble_eq_true rfl) (Nat.le_of_ble_eq_true rfl) dX7_nextToken_142 ⟨(nI x), 0, (nI x), r6, rfl, (zTokC_of (c := 0) (tk_0 hB (by omega)) (fun h9 => absurd h9 (by decide)))⟩)
set_option maxHeartbeats 4000000 in
set_option maxRecDepth 100000 in
/-- reads -/
theorem c_f_reads (l : Launch) (T : zTy) (rd : Nat) (rl : Nat) (rdd : Nat) (rg : Nat) (tp : Nat) (r0 : Int32) (r1 : Int32) (r2 : Int32) (r3 : Int32) (r4 : Int32) (r5 : Int32) (r6 : Int32) (r7 : Int32) (r8 : Int32) (ft : Nat → Int32) (i : Nat) (w_ : Nat) (e_ : Nat) (n : Nat) (hp : r3 = nI e_) (hpl : r5 = nI w_) (hwe : w_ ≤ e_) (hen : e_ ≤ n) (hn : r2 = nI n) (hn6 : n ≤ 600) (hi : i < 12) : zMi l T yX7_reads cX7_reads 3 (some .boolean) 5 0 0 [.ref rd, .ref (T.2 (100 + i))] [[zO7 rd rl rdd rg r0 r1 tp r2 r3 r4 r5 r6 r7 r8], [zAr T 1 tp 600 ft]] (fun (r : Int32) bs => bs = [[zO7 rd rl rdd rg r0 r1 tp r2 r3 r4 r5 r6 r7 r8], [zAr T 1 tp 600 ft]] ∧ ((r = 1 ∧ zWI ft w_ e_ i = true) ∨ (r = 0 ∧ zWI ft w_ e_ i = false))) := by
  refine zMi_of (own := RX7) (by decide) rfl (Nat.le_of_ble_eq_true rfl) ?_
  intro p e s m args below meth c A ls C hr hlocks hnm hAe G hl
  refine zHide (fun Q9 hQ9 => ?_)
  have hx := C.1
  have hb := C.2.1
  have hl : lv_has ls 3 [(0, .ref rd), (1, .ref (T.2 (100 + i)))] := hl
  subst hp
  subst hpl
  subst hn
  have hL := zLen_le i hi
  refine lv_aload_n hx hb dX7_reads_0 rfl (lv_at hl 0 rfl) ?_
  refine z_get C G clX7 0 rfl 7 (by decide) m_fl_RX7_46 rfl dX7_reads_1 ?_
  refine lv_aload_n hx hb dX7_reads_4 rfl (lv_at hl 0 rfl) ?_
  refine z_get C G clX7 0 rfl 9 (by decide) m_fl_RX7_84 rfl dX7_reads_5 ?_
  refine lv_isub hx hb dX7_reads_8 ?_
  refine lv_topi (fun y_1 ey_1 => ?_)
  have ey_1i : y_1.toInt = (e_ : Int) - (w_ : Int) := by rw [ey_1]; exact (z_isubI (x := (nI e_)) (y := (nI w_)) (by rw [nI_toInt (n := e_) (by omega), nI_toInt (n := w_) (by omega)]; show -2147483648 ≤ (e_ : Int) - (w_ : Int); omega) (by rw [nI_toInt (n := e_) (by omega), nI_toInt (n := w_) (by omega)]; show (e_ : Int) - (w_ : Int) < 2147483648; omega)).trans (by rw [nI_toInt (n := e_) (by omega), nI_toInt (n := w_) (by omega)] <;> rfl)
  refine lv_aload_n hx hb dX7_reads_9 rfl (lv_at hl 1 rfl) ?_
  refine z_Wi (bc := []) (br := [[zO7 rd rl rdd rg r0 r1 tp (nI n) (nI e_) r4 (nI w_) r6 r7 r8], [zAr T 1 tp 600 ft]]) (As := []) (rest := [.int y_1]) C G (c_slen l T i (by first | with_reducible assumption | with_reducible rfl | omega | assumption | rfl)) (kV_RX7_185 C.2.2.2.2 (Nat.le_of_ble_eq_true rfl) (Nat.le_of_ble_eq_true rfl)) [] [] rfl rfl (z_srecv G (by first | with_reducible assumption | omega | assumption)) rfl rfl hl.1 dX7_reads_10 (Nat.le_of_ble_eq_true rfl) (Nat.le_of_ble_eq_true rfl) (fun r_3 b1 H locs hw G => ?_)
  refine zAn2 hw ?_
  intro hbs9 h_2
  clear hw
  subst hbs9
  have G : zS T A s.heap s [[zO7 rd rl rdd rg r0 r1 tp (nI n) (nI e_) r4 (nI w_) r6 r7 r8], [zAr T 1 tp 600 ft]] _ _ := G
  subst h_2
  refine lv_icmp_ne (tgt := 34) hx hb dX7_reads_13 (by decide) (fun c_4 => ?_) (fun c_4 => ?_)
  · have c_4n : ¬ y_1.toInt = ((zLen.getD i 0) : Int) := fun q => c_4 ((fa_eq _ _).mpr (by rw [nI_toInt (n := zLen.getD i 0) (by omega)]; exact q))
    refine lv_iconst (v := 0) hx hb dX7_reads_34 (by decide) ?_
    exact z_back hQ9 (z_zret C hr hlocks G (Nat.le_of_ble_eq_true rfl) (Nat.le_of_ble_eq_true rfl) dX7_reads_35 rfl ⟨rfl, (Or.inr (⟨rfl, (by first | (exfalso; omega) | exact zWI_fl (by omega))⟩))⟩)
  · have c_4n : y_1.toInt = ((zLen.getD i 0) : Int) := by have q := (fa_eq _ _).mp c_4; rw [nI_toInt (n := zLen.getD i 0) (by omega)] at q; exact q
    refine lv_aload_n hx hb dX7_reads_16 rfl (lv_at hl 0 rfl) ?_
    refine z_get C G clX7 0 rfl 9 (by decide) m_fl_RX7_84 rfl dX7_reads_17 ?_
    refine lv_if_lt (tgt := 34) hx hb dX7_reads_20 (by decide) (fun c_5 => ?_) (fun c_5 => ?_)
    · have c_5n : w_ < 0 := (nI_ltI (a := w_) (b := 0) (by omega) (by omega)).mp c_5
      refine lv_iconst (v := 0) hx hb dX7_reads_34 (by decide) ?_
      exact z_back hQ9 (z_zret C hr hlocks G (Nat.le_of_ble_eq_true rfl) (Nat.le_of_ble_eq_true rfl) dX7_reads_35 rfl ⟨rfl, (Or.inr (⟨rfl, (by first | (exfalso; omega) | exact zWI_fl (by omega))⟩))⟩)
    · have c_5n : ¬ w_ < 0 := fun q => c_5 ((nI_ltI (a := w_) (b := 0) (by omega) (by omega)).mpr q)
      refine lv_aload_n hx hb dX7_reads_23 rfl (lv_at hl 0 rfl) ?_
      refine z_get C G clX7 0 rfl 7 (by decide) m_fl_RX7_46 rfl dX7_reads_24 ?_
      refine lv_aload_n hx hb dX7_reads_27 rfl (lv_at hl 0 rfl) ?_
      refine z_get C G clX7 0 rfl 6 (by decide) m_fl_RX7_42 rfl dX7_reads_28 ?_
      refine lv_icmp_le (tgt := 36) hx hb dX7_reads_31 (by decide) (fun c_6 => ?_) (fun c_6 => ?_)
      · have c_6n : e_ ≤ n := (nI_leI (a := e_) (b := n) (by omega) (by omega)).mp c_6
        refine lv_iconst (v := 0) hx hb dX7_reads_36 (by decide) ?_
        refine lv_istore_n (lv' := [(2, .int 0), (0, .ref rd), (1, .ref (T.2 (100 + i)))]) hx hb dX7_reads_37 rfl hl (by decide) rfl (fun ls hl => ?_)
        refine z_lp1 (T := T) 38 (fun (k : Nat) => [[zO7 rd rl rdd rg r0 r1 tp (nI n) (nI e_) r4 (nI w_) r6 r7 r8], [zAr T 1 tp 600 ft]]) (fun (k : Nat) => [(2, .int (nI k)), (0, .ref rd), (1, .ref (T.2 (100 + i)))]) (fun (k : Nat) => k ≤ zLen.getD i 0 ∧ (∀ j, j < k → ft (w_ + j) = (zByt.getD i []).getD j 0)) (fun (k : Nat) => zLen.getD i 0 - k) ?_ 0 (show 0 ≤ zLen.getD i 0 ∧ (∀ j, j < 0 → ft (w_ + j) = (zByt.getD i []).getD j 0) from ⟨by omega, (fun j h1 => by omega)⟩) G (lv_sub hl [0, 1, 2] rfl)
        intro k hI9 ih_38 H locs ls G hl
        replace hI9 : k ≤ zLen.getD i 0 ∧ (∀ j, j < k → ft (w_ + j) = (zByt.getD i []).getD j 0) := hI9
        refine zAn2 hI9 ?_
        intro hk hall
        clear hI9
        replace G : zS T A s.heap s [[zO7 rd rl rdd rg r0 r1 tp (nI n) (nI e_) r4 (nI w_) r6 r7 r8], [zAr T 1 tp 600 ft]] _ _ := G
        replace hl : lv_has ls 3 [(2, .int (nI k)), (0, .ref rd), (1, .ref (T.2 (100 + i)))] := hl
        refine lv_iload_n hx hb dX7_reads_38 rfl (lv_at hl 0 rfl) ?_
        refine lv_aload_n hx hb dX7_reads_39 rfl (lv_at hl 2 rfl) ?_
        refine z_Wi (bc := []) (br := [[zO7 rd rl rdd rg r0 r1 tp (nI n) (nI e_) r4 (nI w_) r6 r7 r8], [zAr T 1 tp 600 ft]]) (As := []) (rest := [.int (nI k)]) C G (c_slen l T i (by first | with_reducible assumption | with_reducible rfl | omega | assumption | rfl)) (kV_RX7_185 C.2.2.2.2 (Nat.le_of_ble_eq_true rfl) (Nat.le_of_ble_eq_true rfl)) [] [] rfl rfl (z_srecv G (by first | with_reducible assumption | omega | assumption)) rfl rfl hl.1 dX7_reads_40 (Nat.le_of_ble_eq_true rfl) (Nat.le_of_ble_eq_true rfl) (fun r_8 b1 H locs hw G => ?_)
        refine zAn2 hw ?_
        intro hbs9 h_7
        clear hw
        subst hbs9
        have G : zS T A s.heap s [[zO7 rd rl rdd rg r0 r1 tp (nI n) (nI e_) r4 (nI w_) r6 r7 r8], [zAr T 1 tp 600 ft]] _ _ := G
        subst h_7
        refine lv_icmp_ge (tgt := 73) hx hb dX7_reads_43 (by decide) (fun c_9 => ?_) (fun c_9 => ?_)
        · have c_9n : zLen.getD i 0 ≤ k := (nI_leI (a := zLen.getD i 0) (b := k) (by omega) (by omega)).mp c_9
          refine lv_iconst (v := 1) hx hb dX7_reads_73 (by decide) ?_
          exact z_back hQ9 (z_zret C hr hlocks G (Nat.le_of_ble_eq_true rfl) (Nat.le_of_ble_eq_true rfl) dX7_reads_74 rfl ⟨rfl, (Or.inl (⟨rfl, (zWI_t (by omega) (fun j hj => hall j (by omega)))⟩))⟩)
        · have c_9n : ¬ zLen.getD i 0 ≤ k := fun q => c_9 ((nI_leI (a := zLen.getD i 0) (b := k) (by omega) (by omega)).mpr q)
          refine lv_aload_n hx hb dX7_reads_46 rfl (lv_at hl 1 rfl) ?_
          refine z_get C G clX7 0 rfl 5 (by decide) m_fl_RX7_32 rfl dX7_reads_47 ?_
          refine lv_aload_n hx hb dX7_reads_50 rfl (lv_at hl 1 rfl) ?_
          refine z_get C G clX7 0 rfl 9 (by decide) m_fl_RX7_84 rfl dX7_reads_51 ?_
          refine lv_iload_n hx hb dX7_reads_54 rfl (lv_at hl 0 rfl) ?_
          refine lv_iadd hx hb dX7_reads_55 ?_
          refine lv_topi (fun y_10 ey_10 => ?_)
          obtain rfl : y_10 = nI (w_ + k) := ey_10.trans (z_iaddn w_ k rfl rfl)
          refine z_bld C G 1 rfl (vp_in_nI (by omega) (by omega)) dX7_reads_56 ?_
          refine lv_topi (fun v_11 ev_11 => ?_)
          rw [nI_clamp (by omega)] at ev_11
          subst ev_11
          refine lv_aload_n hx hb dX7_reads_57 rfl (lv_at hl 2 rfl) ?_
          refine lv_iload_n hx hb dX7_reads_58 rfl (lv_at hl 0 rfl) ?_
          refine z_Wi (bc := []) (br := [[zO7 rd rl rdd rg r0 r1 tp (nI n) (nI e_) r4 (nI w_) r6 r7 r8], [zAr T 1 tp 600 ft]]) (As := [.int (nI k)]) (rest := [.int (ft (w_ + k))]) C G (c_schar l T i k (by first | with_reducible assumption | with_reducible rfl | omega | assumption | rfl) (by first | with_reducible assumption | with_reducible rfl | omega | assumption | rfl)) (kV_RX7_190 C.2.2.2.2 (Nat.le_of_ble_eq_true rfl) (Nat.le_of_ble_eq_true rfl)) [] [] rfl rfl (z_srecv G (by first | with_reducible assumption | omega | assumption)) rfl rfl hl.1 dX7_reads_59 (Nat.le_of_ble_eq_true rfl) (Nat.le_of_ble_eq_true rfl) (fun r_13 b1 H locs hw G => ?_)
          refine zAn2 hw ?_
          intro hbs9 h_12
          clear hw
          subst hbs9
          have G : zS T A s.heap s [[zO7 rd rl rdd rg r0 r1 tp (nI n) (nI e_) r4 (nI w_) r6 r7 r8], [zAr T 1 tp 600 ft]] _ _ := G
          subst h_12
          refine lv_icmp_eq (tgt := 67) hx hb dX7_reads_62 (by decide) (fun c_14 => ?_) (fun c_14 => ?_)
          · have c_14n : (ft (w_ + k)).toInt = (zChar i k).toInt := (fa_eq _ _).mp c_14
            refine lv_iinc (v := nI (k + 1)) (lv' := [(2, .int (nI (k + 1))), (0, .ref rd), (1, .ref (T.2 (100 + i)))]) hx hb dX7_reads_67 hl (k := 0) rfl (z_inc k 1) (by decide) rfl (fun ls hl => ?_)
            refine lv_goto (tgt := 38) hx hb dX7_reads_70 (by decide) ?_
            exact ih_38 (k + 1) (show (k + 1) ≤ zLen.getD i 0 ∧ (∀ j, j < (k + 1) → ft (w_ + j) = (zByt.getD i []).getD j 0) from ⟨by omega, (z_allE hall ((show ft (w_ + k) = zChar i k from c_14).trans (zChar_b i hi k (by omega))))⟩) (show zLen.getD i 0 - (k + 1) < zLen.getD i 0 - k from by omega) _ _ ls G (lv_sub hl [0, 1, 2] rfl)
          · have c_14n : ¬ (ft (w_ + k)).toInt = (zChar i k).toInt := fun q => c_14 ((fa_eq _ _).mpr q)
            refine lv_iconst (v := 0) hx hb dX7_reads_65 (by decide) ?_
            exact z_back hQ9 (z_zret C hr hlocks G (Nat.le_of_ble_eq_true rfl) (Nat.le_of_ble_eq_true rfl) dX7_reads_66 rfl ⟨rfl, (Or.inr (⟨rfl, (zWI_fb (k := k) hi (by omega) c_14)⟩))⟩)
      · have c_6n : ¬ e_ ≤ n := fun q => c_6 ((nI_leI (a := e_) (b := n) (by omega) (by omega)).mpr q)
        refine lv_iconst (v := 0) hx hb dX7_reads_34 (by decide) ?_
        exact z_back hQ9 (z_zret C hr hlocks G (Nat.le_of_ble_eq_true rfl) (Nat.le_of_ble_eq_true rfl) dX7_reads_35 rfl ⟨rfl, (Or.inr (⟨rfl, (by first | (exfalso; omega) | exact zWI_fl (by omega))⟩))⟩)
set_option maxHeartbeats 4000000 in
set_option maxRecDepth 100000 in
/-- wordOf 0 -/
theorem c_f_wordOf0 (l : Launch) (T : zTy) (rd : Nat) (rl : Nat) (rdd : Nat) (rg : Nat) (tp : Nat) (r0 : Int32) (r1 : Int32) (r2 : Int32) (r3 : Int32) (r4 : Int32) (r5 : Int32) (r6 : Int32) (r7 : Int32) (r8 : Int32) (ft : Nat → Int32) (w_ : Nat) (e_ : Nat) (n : Nat) (hp : r3 = nI e_) (hpl : r5 = nI w_) (hwe : w_ ≤ e_) (hen : e_ ≤ n) (hn : r2 = nI n) (hn6 : n ≤ 600) : zMi l T yX7_wordOf cX7_wordOf 2 (some .int) 6 0 0 [.ref rd, .int 0] [[zO7 rd rl rdd rg r0 r1 tp r2 r3 r4 r5 r6 r7 r8], [zAr T 1 tp 600 ft]] (fun (r : Int32) bs => bs = [[zO7 rd rl rdd rg r0 r1 tp r2 r3 r4 r5 r6 r7 r8], [zAr T 1 tp 600 ft]] ∧ r = zWc 0 (zWordAt ft w_ e_)) := by
  refine zMi_of (own := RX7) (by decide) rfl (Nat.le_of_ble_eq_true rfl) ?_
  intro p e s m args below meth c A ls C hr hlocks hnm hAe G hl
  refine zHide (fun Q9 hQ9 => ?_)
  have hx := C.1
  have hb := C.2.1
  have hl : lv_has ls 2 [(0, .ref rd), (1, .int 0)] := hl
  refine lv_iload_n hx hb dX7_wordOf_0 rfl (lv_at hl 1 rfl) ?_
  refine lv_if_ne (tgt := 58) hx hb dX7_wordOf_1 (by decide) (fun q => absurd (by decide) q) (fun _ => ?_)
  refine lv_aload_n hx hb dX7_wordOf_4 rfl (lv_at hl 0 rfl) ?_
  refine z_ldcS C G rfl 0 (by decide) rfl dX7_wordOf_5 ?_
  refine z_Vi (bc := [[zO7 rd rl rdd rg r0 r1 tp r2 r3 r4 r5 r6 r7 r8], [zAr T 1 tp 600 ft]]) (br := []) (As := [.ref (T.2 (100 + 0))]) (rest := []) C G (c_f_reads l T rd rl rdd rg tp r0 r1 r2 r3 r4 r5 r6 r7 r8 ft 0 w_ e_ n hp hpl hwe hen hn hn6 (by decide)) (kV_RX7_162 C.2.2.2.2 (Nat.le_of_ble_eq_true rfl) (Nat.le_of_ble_eq_true rfl)) [0, 1] [0, 0] rfl rfl (ci := 7) (qc := (RX7, TX7, 13)) rfl rfl (List.mem_flatten.mpr ⟨_, List.mem_of_getElem? (i := 0) rfl, List.mem_cons_self⟩) rfl rfl hl.1 dX7_wordOf_7 (Nat.le_of_ble_eq_true rfl) (Nat.le_of_ble_eq_true rfl) (fun r_2 b1 H locs hw G => ?_)
  refine zAn2 hw ?_
  intro hbs9 hc_1
  clear hw
  subst hbs9
  have G : zS T A s.heap s [[zO7 rd rl rdd rg r0 r1 tp r2 r3 r4 r5 r6 r7 r8], [zAr T 1 tp 600 ft]] _ _ := G
  rcases hc_1 with ⟨rfl, h_3⟩ | ⟨rfl, h_4⟩
  · have h_3 : zWI ft w_ e_ 0 = true := h_3
    refine lv_if_eq (tgt := 17) hx hb dX7_wordOf_10 (by decide) (fun q => absurd q (by decide)) (fun _ => ?_)
    refine lv_iconst (v := 0) hx hb dX7_wordOf_13 (by decide) ?_
    refine lv_goto (tgt := 57) hx hb dX7_wordOf_14 (by decide) ?_
    exact z_back hQ9 (z_iret C hr hlocks G (Nat.le_of_ble_eq_true rfl) (Nat.le_of_ble_eq_true rfl) dX7_wordOf_57 ⟨rfl, (by rw [zWd_t (i := 0) (by decide) (by assumption)]; rfl)⟩)
  · have h_4 : zWI ft w_ e_ 0 = false := h_4
    refine lv_if_eq (tgt := 17) hx hb dX7_wordOf_10 (by decide) (fun _ => ?_) (fun q => absurd (by decide) q)
    refine lv_aload_n hx hb dX7_wordOf_17 rfl (lv_at hl 0 rfl) ?_
    refine z_ldcS C G rfl 1 (by decide) rfl dX7_wordOf_18 ?_
    refine z_Vi (bc := [[zO7 rd rl rdd rg r0 r1 tp r2 r3 r4 r5 r6 r7 r8], [zAr T 1 tp 600 ft]]) (br := []) (As := [.ref (T.2 (100 + 1))]) (rest := []) C G (c_f_reads l T rd rl rdd rg tp r0 r1 r2 r3 r4 r5 r6 r7 r8 ft 1 w_ e_ n hp hpl hwe hen hn hn6 (by decide)) (kV_RX7_162 C.2.2.2.2 (Nat.le_of_ble_eq_true rfl) (Nat.le_of_ble_eq_true rfl)) [0, 1] [0, 0] rfl rfl (ci := 7) (qc := (RX7, TX7, 13)) rfl rfl (List.mem_flatten.mpr ⟨_, List.mem_of_getElem? (i := 0) rfl, List.mem_cons_self⟩) rfl rfl hl.1 dX7_wordOf_20 (Nat.le_of_ble_eq_true rfl) (Nat.le_of_ble_eq_true rfl) (fun r_6 b1 H locs hw G => ?_)
    refine zAn2 hw ?_
    intro hbs9 hc_5
    clear hw
    subst hbs9
    have G : zS T A s.heap s [[zO7 rd rl rdd rg r0 r1 tp r2 r3 r4 r5 r6 r7 r8], [zAr T 1 tp 600 ft]] _ _ := G
    rcases hc_5 with ⟨rfl, h_7⟩ | ⟨rfl, h_8⟩
    · have h_7 : zWI ft w_ e_ 1 = true := h_7
      refine lv_if_eq (tgt := 30) hx hb dX7_wordOf_23 (by decide) (fun q => absurd q (by decide)) (fun _ => ?_)
      refine lv_iconst (v := 1) hx hb dX7_wordOf_26 (by decide) ?_
      refine lv_goto (tgt := 57) hx hb dX7_wordOf_27 (by decide) ?_
      exact z_back hQ9 (z_iret C hr hlocks G (Nat.le_of_ble_eq_true rfl) (Nat.le_of_ble_eq_true rfl) dX7_wordOf_57 ⟨rfl, (by rw [zWd_t (i := 1) (by decide) (by assumption)]; rfl)⟩)
    · have h_8 : zWI ft w_ e_ 1 = false := h_8
      refine lv_if_eq (tgt := 30) hx hb dX7_wordOf_23 (by decide) (fun _ => ?_) (fun q => absurd (by decide) q)
      refine lv_aload_n hx hb dX7_wordOf_30 rfl (lv_at hl 0 rfl) ?_
      refine z_ldcS C G rfl 2 (by decide) rfl dX7_wordOf_31 ?_
      refine z_Vi (bc := [[zO7 rd rl rdd rg r0 r1 tp r2 r3 r4 r5 r6 r7 r8], [zAr T 1 tp 600 ft]]) (br := []) (As := [.ref (T.2 (100 + 2))]) (rest := []) C G (c_f_reads l T rd rl rdd rg tp r0 r1 r2 r3 r4 r5 r6 r7 r8 ft 2 w_ e_ n hp hpl hwe hen hn hn6 (by decide)) (kV_RX7_162 C.2.2.2.2 (Nat.le_of_ble_eq_true rfl) (Nat.le_of_ble_eq_true rfl)) [0, 1] [0, 0] rfl rfl (ci := 7) (qc := (RX7, TX7, 13)) rfl rfl (List.mem_flatten.mpr ⟨_, List.mem_of_getElem? (i := 0) rfl, List.mem_cons_self⟩) rfl rfl hl.1 dX7_wordOf_33 (Nat.le_of_ble_eq_true rfl) (Nat.le_of_ble_eq_true rfl) (fun r_10 b1 H locs hw G => ?_)
      refine zAn2 hw ?_
      intro hbs9 hc_9
      clear hw
      subst hbs9
      have G : zS T A s.heap s [[zO7 rd rl rdd rg r0 r1 tp r2 r3 r4 r5 r6 r7 r8], [zAr T 1 tp 600 ft]] _ _ := G
      rcases hc_9 with ⟨rfl, h_11⟩ | ⟨rfl, h_12⟩
      · have h_11 : zWI ft w_ e_ 2 = true := h_11
        refine lv_if_eq (tgt := 43) hx hb dX7_wordOf_36 (by decide) (fun q => absurd q (by decide)) (fun _ => ?_)
        refine lv_iconst (v := 2) hx hb dX7_wordOf_39 (by decide) ?_
        refine lv_goto (tgt := 57) hx hb dX7_wordOf_40 (by decide) ?_
        exact z_back hQ9 (z_iret C hr hlocks G (Nat.le_of_ble_eq_true rfl) (Nat.le_of_ble_eq_true rfl) dX7_wordOf_57 ⟨rfl, (by rw [zWd_t (i := 2) (by decide) (by assumption)]; rfl)⟩)
      · have h_12 : zWI ft w_ e_ 2 = false := h_12
        refine lv_if_eq (tgt := 43) hx hb dX7_wordOf_36 (by decide) (fun _ => ?_) (fun q => absurd (by decide) q)
        refine lv_aload_n hx hb dX7_wordOf_43 rfl (lv_at hl 0 rfl) ?_
        refine z_ldcS C G rfl 3 (by decide) rfl dX7_wordOf_44 ?_
        refine z_Vi (bc := [[zO7 rd rl rdd rg r0 r1 tp r2 r3 r4 r5 r6 r7 r8], [zAr T 1 tp 600 ft]]) (br := []) (As := [.ref (T.2 (100 + 3))]) (rest := []) C G (c_f_reads l T rd rl rdd rg tp r0 r1 r2 r3 r4 r5 r6 r7 r8 ft 3 w_ e_ n hp hpl hwe hen hn hn6 (by decide)) (kV_RX7_162 C.2.2.2.2 (Nat.le_of_ble_eq_true rfl) (Nat.le_of_ble_eq_true rfl)) [0, 1] [0, 0] rfl rfl (ci := 7) (qc := (RX7, TX7, 13)) rfl rfl (List.mem_flatten.mpr ⟨_, List.mem_of_getElem? (i := 0) rfl, List.mem_cons_self⟩) rfl rfl hl.1 dX7_wordOf_46 (Nat.le_of_ble_eq_true rfl) (Nat.le_of_ble_eq_true rfl) (fun r_14 b1 H locs hw G => ?_)
        refine zAn2 hw ?_
        intro hbs9 hc_13
        clear hw
        subst hbs9
        have G : zS T A s.heap s [[zO7 rd rl rdd rg r0 r1 tp r2 r3 r4 r5 r6 r7 r8], [zAr T 1 tp 600 ft]] _ _ := G
        rcases hc_13 with ⟨rfl, h_15⟩ | ⟨rfl, h_16⟩
        · have h_15 : zWI ft w_ e_ 3 = true := h_15
          refine lv_if_eq (tgt := 56) hx hb dX7_wordOf_49 (by decide) (fun q => absurd q (by decide)) (fun _ => ?_)
          refine lv_iconst (v := 3) hx hb dX7_wordOf_52 (by decide) ?_
          refine lv_goto (tgt := 57) hx hb dX7_wordOf_53 (by decide) ?_
          exact z_back hQ9 (z_iret C hr hlocks G (Nat.le_of_ble_eq_true rfl) (Nat.le_of_ble_eq_true rfl) dX7_wordOf_57 ⟨rfl, (by rw [zWd_t (i := 3) (by decide) (by assumption)]; rfl)⟩)
        · have h_16 : zWI ft w_ e_ 3 = false := h_16
          refine lv_if_eq (tgt := 56) hx hb dX7_wordOf_49 (by decide) (fun _ => ?_) (fun q => absurd (by decide) q)
          refine lv_iconst (v := (-1)) hx hb dX7_wordOf_56 (by decide) ?_
          exact z_back hQ9 (z_iret C hr hlocks G (Nat.le_of_ble_eq_true rfl) (Nat.le_of_ble_eq_true rfl) dX7_wordOf_57 ⟨rfl, (zWc_0 (zWd_f (i := 0) (by decide) (by assumption)) (zWd_f (i := 1) (by decide) (by assumption)) (zWd_f (i := 2) (by decide) (by assumption)) (zWd_f (i := 3) (by decide) (by assumption)))⟩)
set_option maxHeartbeats 4000000 in
set_option maxRecDepth 100000 in
/-- wordOf 1 -/
theorem c_f_wordOf1 (l : Launch) (T : zTy) (rd : Nat) (rl : Nat) (rdd : Nat) (rg : Nat) (tp : Nat) (r0 : Int32) (r1 : Int32) (r2 : Int32) (r3 : Int32) (r4 : Int32) (r5 : Int32) (r6 : Int32) (r7 : Int32) (r8 : Int32) (ft : Nat → Int32) (w_ : Nat) (e_ : Nat) (n : Nat) (hp : r3 = nI e_) (hpl : r5 = nI w_) (hwe : w_ ≤ e_) (hen : e_ ≤ n) (hn : r2 = nI n) (hn6 : n ≤ 600) : zMi l T yX7_wordOf cX7_wordOf 2 (some .int) 6 0 0 [.ref rd, .int 1] [[zO7 rd rl rdd rg r0 r1 tp r2 r3 r4 r5 r6 r7 r8], [zAr T 1 tp 600 ft]] (fun (r : Int32) bs => bs = [[zO7 rd rl rdd rg r0 r1 tp r2 r3 r4 r5 r6 r7 r8], [zAr T 1 tp 600 ft]] ∧ r = zWc 1 (zWordAt ft w_ e_)) := by
  refine zMi_of (own := RX7) (by decide) rfl (Nat.le_of_ble_eq_true rfl) ?_
  intro p e s m args below meth c A ls C hr hlocks hnm hAe G hl
  refine zHide (fun Q9 hQ9 => ?_)
  have hx := C.1
  have hb := C.2.1
  have hl : lv_has ls 2 [(0, .ref rd), (1, .int 1)] := hl
  refine lv_iload_n hx hb dX7_wordOf_0 rfl (lv_at hl 1 rfl) ?_
  refine lv_if_ne (tgt := 58) hx hb dX7_wordOf_1 (by decide) (fun _ => ?_) (fun q => absurd q (by decide))
  refine lv_iload_n hx hb dX7_wordOf_58 rfl (lv_at hl 1 rfl) ?_
  refine lv_iconst (v := 2) hx hb dX7_wordOf_59 (by decide) ?_
  refine lv_icmp_ne (tgt := 91) hx hb dX7_wordOf_60 (by decide) (fun _ => ?_) (fun q => absurd q (by decide))
  refine lv_aload_n hx hb dX7_wordOf_91 rfl (lv_at hl 0 rfl) ?_
  refine z_ldcS C G rfl 6 (by decide) rfl dX7_wordOf_92 ?_
  refine z_Vi (bc := [[zO7 rd rl rdd rg r0 r1 tp r2 r3 r4 r5 r6 r7 r8], [zAr T 1 tp 600 ft]]) (br := []) (As := [.ref (T.2 (100 + 6))]) (rest := []) C G (c_f_reads l T rd rl rdd rg tp r0 r1 r2 r3 r4 r5 r6 r7 r8 ft 6 w_ e_ n hp hpl hwe hen hn hn6 (by decide)) (kV_RX7_162 C.2.2.2.2 (Nat.le_of_ble_eq_true rfl) (Nat.le_of_ble_eq_true rfl)) [0, 1] [0, 0] rfl rfl (ci := 7) (qc := (RX7, TX7, 13)) rfl rfl (List.mem_flatten.mpr ⟨_, List.mem_of_getElem? (i := 0) rfl, List.mem_cons_self⟩) rfl rfl hl.1 dX7_wordOf_94 (Nat.le_of_ble_eq_true rfl) (Nat.le_of_ble_eq_true rfl) (fun r_2 b1 H locs hw G => ?_)
  refine zAn2 hw ?_
  intro hbs9 hc_1
  clear hw
  subst hbs9
  have G : zS T A s.heap s [[zO7 rd rl rdd rg r0 r1 tp r2 r3 r4 r5 r6 r7 r8], [zAr T 1 tp 600 ft]] _ _ := G
  rcases hc_1 with ⟨rfl, h_3⟩ | ⟨rfl, h_4⟩
  · have h_3 : zWI ft w_ e_ 6 = true := h_3
    refine lv_if_eq (tgt := 102) hx hb dX7_wordOf_97 (by decide) (fun q => absurd q (by decide)) (fun _ => ?_)
    refine lv_iconst (v := 0) hx hb dX7_wordOf_100 (by decide) ?_
    exact z_back hQ9 (z_iret C hr hlocks G (Nat.le_of_ble_eq_true rfl) (Nat.le_of_ble_eq_true rfl) dX7_wordOf_101 ⟨rfl, (by rw [zWd_t (i := 6) (by decide) (by assumption)]; rfl)⟩)
  · have h_4 : zWI ft w_ e_ 6 = false := h_4
    refine lv_if_eq (tgt := 102) hx hb dX7_wordOf_97 (by decide) (fun _ => ?_) (fun q => absurd (by decide) q)
    refine lv_aload_n hx hb dX7_wordOf_102 rfl (lv_at hl 0 rfl) ?_
    refine z_ldcS C G rfl 7 (by decide) rfl dX7_wordOf_103 ?_
    refine z_Vi (bc := [[zO7 rd rl rdd rg r0 r1 tp r2 r3 r4 r5 r6 r7 r8], [zAr T 1 tp 600 ft]]) (br := []) (As := [.ref (T.2 (100 + 7))]) (rest := []) C G (c_f_reads l T rd rl rdd rg tp r0 r1 r2 r3 r4 r5 r6 r7 r8 ft 7 w_ e_ n hp hpl hwe hen hn hn6 (by decide)) (kV_RX7_162 C.2.2.2.2 (Nat.le_of_ble_eq_true rfl) (Nat.le_of_ble_eq_true rfl)) [0, 1] [0, 0] rfl rfl (ci := 7) (qc := (RX7, TX7, 13)) rfl rfl (List.mem_flatten.mpr ⟨_, List.mem_of_getElem? (i := 0) rfl, List.mem_cons_self⟩) rfl rfl hl.1 dX7_wordOf_105 (Nat.le_of_ble_eq_true rfl) (Nat.le_of_ble_eq_true rfl) (fun r_6 b1 H locs hw G => ?_)
    refine zAn2 hw ?_
    intro hbs9 hc_5
    clear hw
    subst hbs9
    have G : zS T A s.heap s [[zO7 rd rl rdd rg r0 r1 tp r2 r3 r4 r5 r6 r7 r8], [zAr T 1 tp 600 ft]] _ _ := G
    rcases hc_5 with ⟨rfl, h_7⟩ | ⟨rfl, h_8⟩
    · have h_7 : zWI ft w_ e_ 7 = true := h_7
      refine lv_if_eq (tgt := 113) hx hb dX7_wordOf_108 (by decide) (fun q => absurd q (by decide)) (fun _ => ?_)
      refine lv_iconst (v := 1) hx hb dX7_wordOf_111 (by decide) ?_
      exact z_back hQ9 (z_iret C hr hlocks G (Nat.le_of_ble_eq_true rfl) (Nat.le_of_ble_eq_true rfl) dX7_wordOf_112 ⟨rfl, (by rw [zWd_t (i := 7) (by decide) (by assumption)]; rfl)⟩)
    · have h_8 : zWI ft w_ e_ 7 = false := h_8
      refine lv_if_eq (tgt := 113) hx hb dX7_wordOf_108 (by decide) (fun _ => ?_) (fun q => absurd (by decide) q)
      refine lv_aload_n hx hb dX7_wordOf_113 rfl (lv_at hl 0 rfl) ?_
      refine z_ldcS C G rfl 8 (by decide) rfl dX7_wordOf_114 ?_
      refine z_Vi (bc := [[zO7 rd rl rdd rg r0 r1 tp r2 r3 r4 r5 r6 r7 r8], [zAr T 1 tp 600 ft]]) (br := []) (As := [.ref (T.2 (100 + 8))]) (rest := []) C G (c_f_reads l T rd rl rdd rg tp r0 r1 r2 r3 r4 r5 r6 r7 r8 ft 8 w_ e_ n hp hpl hwe hen hn hn6 (by decide)) (kV_RX7_162 C.2.2.2.2 (Nat.le_of_ble_eq_true rfl) (Nat.le_of_ble_eq_true rfl)) [0, 1] [0, 0] rfl rfl (ci := 7) (qc := (RX7, TX7, 13)) rfl rfl (List.mem_flatten.mpr ⟨_, List.mem_of_getElem? (i := 0) rfl, List.mem_cons_self⟩) rfl rfl hl.1 dX7_wordOf_116 (Nat.le_of_ble_eq_true rfl) (Nat.le_of_ble_eq_true rfl) (fun r_10 b1 H locs hw G => ?_)
      refine zAn2 hw ?_
      intro hbs9 hc_9
      clear hw
      subst hbs9
      have G : zS T A s.heap s [[zO7 rd rl rdd rg r0 r1 tp r2 r3 r4 r5 r6 r7 r8], [zAr T 1 tp 600 ft]] _ _ := G
      rcases hc_9 with ⟨rfl, h_11⟩ | ⟨rfl, h_12⟩
      · have h_11 : zWI ft w_ e_ 8 = true := h_11
        refine lv_if_eq (tgt := 124) hx hb dX7_wordOf_119 (by decide) (fun q => absurd q (by decide)) (fun _ => ?_)
        refine lv_iconst (v := 2) hx hb dX7_wordOf_122 (by decide) ?_
        exact z_back hQ9 (z_iret C hr hlocks G (Nat.le_of_ble_eq_true rfl) (Nat.le_of_ble_eq_true rfl) dX7_wordOf_123 ⟨rfl, (by rw [zWd_t (i := 8) (by decide) (by assumption)]; rfl)⟩)
      · have h_12 : zWI ft w_ e_ 8 = false := h_12
        refine lv_if_eq (tgt := 124) hx hb dX7_wordOf_119 (by decide) (fun _ => ?_) (fun q => absurd (by decide) q)
        refine lv_aload_n hx hb dX7_wordOf_124 rfl (lv_at hl 0 rfl) ?_
        refine z_ldcS C G rfl 9 (by decide) rfl dX7_wordOf_125 ?_
        refine z_Vi (bc := [[zO7 rd rl rdd rg r0 r1 tp r2 r3 r4 r5 r6 r7 r8], [zAr T 1 tp 600 ft]]) (br := []) (As := [.ref (T.2 (100 + 9))]) (rest := []) C G (c_f_reads l T rd rl rdd rg tp r0 r1 r2 r3 r4 r5 r6 r7 r8 ft 9 w_ e_ n hp hpl hwe hen hn hn6 (by decide)) (kV_RX7_162 C.2.2.2.2 (Nat.le_of_ble_eq_true rfl) (Nat.le_of_ble_eq_true rfl)) [0, 1] [0, 0] rfl rfl (ci := 7) (qc := (RX7, TX7, 13)) rfl rfl (List.mem_flatten.mpr ⟨_, List.mem_of_getElem? (i := 0) rfl, List.mem_cons_self⟩) rfl rfl hl.1 dX7_wordOf_127 (Nat.le_of_ble_eq_true rfl) (Nat.le_of_ble_eq_true rfl) (fun r_14 b1 H locs hw G => ?_)
        refine zAn2 hw ?_
        intro hbs9 hc_13
        clear hw
        subst hbs9
        have G : zS T A s.heap s [[zO7 rd rl rdd rg r0 r1 tp r2 r3 r4 r5 r6 r7 r8], [zAr T 1 tp 600 ft]] _ _ := G
        rcases hc_13 with ⟨rfl, h_15⟩ | ⟨rfl, h_16⟩
        · have h_15 : zWI ft w_ e_ 9 = true := h_15
          refine lv_if_eq (tgt := 135) hx hb dX7_wordOf_130 (by decide) (fun q => absurd q (by decide)) (fun _ => ?_)
          refine lv_iconst (v := 3) hx hb dX7_wordOf_133 (by decide) ?_
          exact z_back hQ9 (z_iret C hr hlocks G (Nat.le_of_ble_eq_true rfl) (Nat.le_of_ble_eq_true rfl) dX7_wordOf_134 ⟨rfl, (by rw [zWd_t (i := 9) (by decide) (by assumption)]; rfl)⟩)
        · have h_16 : zWI ft w_ e_ 9 = false := h_16
          refine lv_if_eq (tgt := 135) hx hb dX7_wordOf_130 (by decide) (fun _ => ?_) (fun q => absurd (by decide) q)
          refine lv_aload_n hx hb dX7_wordOf_135 rfl (lv_at hl 0 rfl) ?_
          refine z_ldcS C G rfl 10 (by decide) rfl dX7_wordOf_136 ?_
          refine z_Vi (bc := [[zO7 rd rl rdd rg r0 r1 tp r2 r3 r4 r5 r6 r7 r8], [zAr T 1 tp 600 ft]]) (br := []) (As := [.ref (T.2 (100 + 10))]) (rest := []) C G (c_f_reads l T rd rl rdd rg tp r0 r1 r2 r3 r4 r5 r6 r7 r8 ft 10 w_ e_ n hp hpl hwe hen hn hn6 (by decide)) (kV_RX7_162 C.2.2.2.2 (Nat.le_of_ble_eq_true rfl) (Nat.le_of_ble_eq_true rfl)) [0, 1] [0, 0] rfl rfl (ci := 7) (qc := (RX7, TX7, 13)) rfl rfl (List.mem_flatten.mpr ⟨_, List.mem_of_getElem? (i := 0) rfl, List.mem_cons_self⟩) rfl rfl hl.1 dX7_wordOf_138 (Nat.le_of_ble_eq_true rfl) (Nat.le_of_ble_eq_true rfl) (fun r_18 b1 H locs hw G => ?_)
          refine zAn2 hw ?_
          intro hbs9 hc_17
          clear hw
          subst hbs9
          have G : zS T A s.heap s [[zO7 rd rl rdd rg r0 r1 tp r2 r3 r4 r5 r6 r7 r8], [zAr T 1 tp 600 ft]] _ _ := G
          rcases hc_17 with ⟨rfl, h_19⟩ | ⟨rfl, h_20⟩
          · have h_19 : zWI ft w_ e_ 10 = true := h_19
            refine lv_if_eq (tgt := 148) hx hb dX7_wordOf_141 (by decide) (fun q => absurd q (by decide)) (fun _ => ?_)
            refine lv_iconst (v := 4) hx hb dX7_wordOf_144 (by decide) ?_
            refine lv_goto (tgt := 162) hx hb dX7_wordOf_145 (by decide) ?_
            exact z_back hQ9 (z_iret C hr hlocks G (Nat.le_of_ble_eq_true rfl) (Nat.le_of_ble_eq_true rfl) dX7_wordOf_162 ⟨rfl, (by rw [zWd_t (i := 10) (by decide) (by assumption)]; rfl)⟩)
          · have h_20 : zWI ft w_ e_ 10 = false := h_20
            refine lv_if_eq (tgt := 148) hx hb dX7_wordOf_141 (by decide) (fun _ => ?_) (fun q => absurd (by decide) q)
            refine lv_aload_n hx hb dX7_wordOf_148 rfl (lv_at hl 0 rfl) ?_
            refine z_ldcS C G rfl 11 (by decide) rfl dX7_wordOf_149 ?_
            refine z_Vi (bc := [[zO7 rd rl rdd rg r0 r1 tp r2 r3 r4 r5 r6 r7 r8], [zAr T 1 tp 600 ft]]) (br := []) (As := [.ref (T.2 (100 + 11))]) (rest := []) C G (c_f_reads l T rd rl rdd rg tp r0 r1 r2 r3 r4 r5 r6 r7 r8 ft 11 w_ e_ n hp hpl hwe hen hn hn6 (by decide)) (kV_RX7_162 C.2.2.2.2 (Nat.le_of_ble_eq_true rfl) (Nat.le_of_ble_eq_true rfl)) [0, 1] [0, 0] rfl rfl (ci := 7) (qc := (RX7, TX7, 13)) rfl rfl (List.mem_flatten.mpr ⟨_, List.mem_of_getElem? (i := 0) rfl, List.mem_cons_self⟩) rfl rfl hl.1 dX7_wordOf_151 (Nat.le_of_ble_eq_true rfl) (Nat.le_of_ble_eq_true rfl) (fun r_22 b1 H locs hw G => ?_)
            refine zAn2 hw ?_
            intro hbs9 hc_21
            clear hw
            subst hbs9
            have G : zS T A s.heap s [[zO7 rd rl rdd rg r0 r1 tp r2 r3 r4 r5 r6 r7 r8], [zAr T 1 tp 600 ft]] _ _ := G
            rcases hc_21 with ⟨rfl, h_23⟩ | ⟨rfl, h_24⟩
            · have h_23 : zWI ft w_ e_ 11 = true := h_23
              refine lv_if_eq (tgt := 161) hx hb dX7_wordOf_154 (by decide) (fun q => absurd q (by decide)) (fun _ => ?_)
              refine lv_iconst (v := 5) hx hb dX7_wordOf_157 (by decide) ?_
              refine lv_goto (tgt := 162) hx hb dX7_wordOf_158 (by decide) ?_
              exact z_back hQ9 (z_iret C hr hlocks G (Nat.le_of_ble_eq_true rfl) (Nat.le_of_ble_eq_true rfl) dX7_wordOf_162 ⟨rfl, (by rw [zWd_t (i := 11) (by decide) (by assumption)]; rfl)⟩)
            · have h_24 : zWI ft w_ e_ 11 = false := h_24
              refine lv_if_eq (tgt := 161) hx hb dX7_wordOf_154 (by decide) (fun _ => ?_) (fun q => absurd (by decide) q)
              refine lv_iconst (v := (-1)) hx hb dX7_wordOf_161 (by decide) ?_
              exact z_back hQ9 (z_iret C hr hlocks G (Nat.le_of_ble_eq_true rfl) (Nat.le_of_ble_eq_true rfl) dX7_wordOf_162 ⟨rfl, (zWc_1 (zWd_f (i := 6) (by decide) (by assumption)) (zWd_f (i := 7) (by decide) (by assumption)) (zWd_f (i := 8) (by decide) (by assumption)) (zWd_f (i := 9) (by decide) (by assumption)) (zWd_f (i := 10) (by decide) (by assumption)) (zWd_f (i := 11) (by decide) (by assumption)))⟩)
set_option maxHeartbeats 4000000 in
set_option maxRecDepth 100000 in
/-- wordOf 2 -/
theorem c_f_wordOf2 (l : Launch) (T : zTy) (rd : Nat) (rl : Nat) (rdd : Nat) (rg : Nat) (tp : Nat) (r0 : Int32) (r1 : Int32) (r2 : Int32) (r3 : Int32) (r4 : Int32) (r5 : Int32) (r6 : Int32) (r7 : Int32) (r8 : Int32) (ft : Nat → Int32) (w_ : Nat) (e_ : Nat) (n : Nat) (hp : r3 = nI e_) (hpl : r5 = nI w_) (hwe : w_ ≤ e_) (hen : e_ ≤ n) (hn : r2 = nI n) (hn6 : n ≤ 600) : zMi l T yX7_wordOf cX7_wordOf 2 (some .int) 6 0 0 [.ref rd, .int 2] [[zO7 rd rl rdd rg r0 r1 tp r2 r3 r4 r5 r6 r7 r8], [zAr T 1 tp 600 ft]] (fun (r : Int32) bs => bs = [[zO7 rd rl rdd rg r0 r1 tp r2 r3 r4 r5 r6 r7 r8], [zAr T 1 tp 600 ft]] ∧ r = zWc 2 (zWordAt ft w_ e_)) := by
  refine zMi_of (own := RX7) (by decide) rfl (Nat.le_of_ble_eq_true rfl) ?_
  intro p e s m args below meth c A ls C hr hlocks hnm hAe G hl
  refine zHide (fun Q9 hQ9 => ?_)
  have hx := C.1
  have hb := C.2.1
  have hl : lv_has ls 2 [(0, .ref rd), (1, .int 2)] := hl
  refine lv_iload_n hx hb dX7_wordOf_0 rfl (lv_at hl 1 rfl) ?_
  refine lv_if_ne (tgt := 58) hx hb dX7_wordOf_1 (by decide) (fun _ => ?_) (fun q => absurd q (by decide))
  refine lv_iload_n hx hb dX7_wordOf_58 rfl (lv_at hl 1 rfl) ?_
  refine lv_iconst (v := 2) hx hb dX7_wordOf_59 (by decide) ?_
  refine lv_icmp_ne (tgt := 91) hx hb dX7_wordOf_60 (by decide) (fun q => absurd (by decide) q) (fun _ => ?_)
  refine lv_aload_n hx hb dX7_wordOf_63 rfl (lv_at hl 0 rfl) ?_
  refine z_ldcS C G rfl 4 (by decide) rfl dX7_wordOf_64 ?_
  refine z_Vi (bc := [[zO7 rd rl rdd rg r0 r1 tp r2 r3 r4 r5 r6 r7 r8], [zAr T 1 tp 600 ft]]) (br := []) (As := [.ref (T.2 (100 + 4))]) (rest := []) C G (c_f_reads l T rd rl rdd rg tp r0 r1 r2 r3 r4 r5 r6 r7 r8 ft 4 w_ e_ n hp hpl hwe hen hn hn6 (by decide)) (kV_RX7_162 C.2.2.2.2 (Nat.le_of_ble_eq_true rfl) (Nat.le_of_ble_eq_true rfl)) [0, 1] [0, 0] rfl rfl (ci := 7) (qc := (RX7, TX7, 13)) rfl rfl (List.mem_flatten.mpr ⟨_, List.mem_of_getElem? (i := 0) rfl, List.mem_cons_self⟩) rfl rfl hl.1 dX7_wordOf_66 (Nat.le_of_ble_eq_true rfl) (Nat.le_of_ble_eq_true rfl) (fun r_2 b1 H locs hw G => ?_)
  refine zAn2 hw ?_
  intro hbs9 hc_1
  clear hw
  subst hbs9
  have G : zS T A s.heap s [[zO7 rd rl rdd rg r0 r1 tp r2 r3 r4 r5 r6 r7 r8], [zAr T 1 tp 600 ft]] _ _ := G
  rcases hc_1 with ⟨rfl, h_3⟩ | ⟨rfl, h_4⟩
  · have h_3 : zWI ft w_ e_ 4 = true := h_3
    refine lv_if_eq (tgt := 76) hx hb dX7_wordOf_69 (by decide) (fun q => absurd q (by decide)) (fun _ => ?_)
    refine lv_iconst (v := 0) hx hb dX7_wordOf_72 (by decide) ?_
    refine lv_goto (tgt := 90) hx hb dX7_wordOf_73 (by decide) ?_
    exact z_back hQ9 (z_iret C hr hlocks G (Nat.le_of_ble_eq_true rfl) (Nat.le_of_ble_eq_true rfl) dX7_wordOf_90 ⟨rfl, (by rw [zWd_t (i := 4) (by decide) (by assumption)]; rfl)⟩)
  · have h_4 : zWI ft w_ e_ 4 = false := h_4
    refine lv_if_eq (tgt := 76) hx hb dX7_wordOf_69 (by decide) (fun _ => ?_) (fun q => absurd (by decide) q)
    refine lv_aload_n hx hb dX7_wordOf_76 rfl (lv_at hl 0 rfl) ?_
    refine z_ldcS C G rfl 5 (by decide) rfl dX7_wordOf_77 ?_
    refine z_Vi (bc := [[zO7 rd rl rdd rg r0 r1 tp r2 r3 r4 r5 r6 r7 r8], [zAr T 1 tp 600 ft]]) (br := []) (As := [.ref (T.2 (100 + 5))]) (rest := []) C G (c_f_reads l T rd rl rdd rg tp r0 r1 r2 r3 r4 r5 r6 r7 r8 ft 5 w_ e_ n hp hpl hwe hen hn hn6 (by decide)) (kV_RX7_162 C.2.2.2.2 (Nat.le_of_ble_eq_true rfl) (Nat.le_of_ble_eq_true rfl)) [0, 1] [0, 0] rfl rfl (ci := 7) (qc := (RX7, TX7, 13)) rfl rfl (List.mem_flatten.mpr ⟨_, List.mem_of_getElem? (i := 0) rfl, List.mem_cons_self⟩) rfl rfl hl.1 dX7_wordOf_79 (Nat.le_of_ble_eq_true rfl) (Nat.le_of_ble_eq_true rfl) (fun r_6 b1 H locs hw G => ?_)
    refine zAn2 hw ?_
    intro hbs9 hc_5
    clear hw
    subst hbs9
    have G : zS T A s.heap s [[zO7 rd rl rdd rg r0 r1 tp r2 r3 r4 r5 r6 r7 r8], [zAr T 1 tp 600 ft]] _ _ := G
    rcases hc_5 with ⟨rfl, h_7⟩ | ⟨rfl, h_8⟩
    · have h_7 : zWI ft w_ e_ 5 = true := h_7
      refine lv_if_eq (tgt := 89) hx hb dX7_wordOf_82 (by decide) (fun q => absurd q (by decide)) (fun _ => ?_)
      refine lv_iconst (v := 1) hx hb dX7_wordOf_85 (by decide) ?_
      refine lv_goto (tgt := 90) hx hb dX7_wordOf_86 (by decide) ?_
      exact z_back hQ9 (z_iret C hr hlocks G (Nat.le_of_ble_eq_true rfl) (Nat.le_of_ble_eq_true rfl) dX7_wordOf_90 ⟨rfl, (by rw [zWd_t (i := 5) (by decide) (by assumption)]; rfl)⟩)
    · have h_8 : zWI ft w_ e_ 5 = false := h_8
      refine lv_if_eq (tgt := 89) hx hb dX7_wordOf_82 (by decide) (fun _ => ?_) (fun q => absurd (by decide) q)
      refine lv_iconst (v := (-1)) hx hb dX7_wordOf_89 (by decide) ?_
      exact z_back hQ9 (z_iret C hr hlocks G (Nat.le_of_ble_eq_true rfl) (Nat.le_of_ble_eq_true rfl) dX7_wordOf_90 ⟨rfl, (zWc_2 (zWd_f (i := 4) (by decide) (by assumption)) (zWd_f (i := 5) (by decide) (by assumption)))⟩)
/-! LINES: one who reads: the place behind which the token at hand is found, whether it broke off, the fault, its place, the greatest crossing told -/
abbrev pS : Type := Nat × Int32 × Int32 × Int32 × Int32
def pEnds (k : pT) (a : pS) : pS := if a.2.1.toInt = 0 then (a.1, 1, 1, nI (pWh k a.1), a.2.2.2.2) else a
def pAlso (kd w : Int32) (a : pS) : pS := if ¬ a.2.1.toInt = 0 ∨ (¬ a.2.2.1.toInt = 0 ∧ (a.2.2.2.1.toInt < w.toInt ∨ (a.2.2.2.1.toInt = w.toInt ∧ a.2.2.1.toInt ≤ kd.toInt))) then a else (a.1, a.2.1, kd, w, a.2.2.2.2)
def pAdv (k : pT) (a : pS) : pS := (pEn k a.1, a.2)
def pNum (k : pT) (lo hi : Int32) (a : pS) : Int32 × pS := if ¬ a.2.1.toInt = 0 ∨ ¬ pTk k a.1 = 1 then (lo, pEnds k a) else if lo.toInt ≤ (pNm k a.1).toInt ∧ (pNm k a.1).toInt ≤ hi.toInt then (pNm k a.1, pAdv k a) else (lo, pAdv k (pAlso 2 (nI (pWh k a.1)) a))
def pWord (k : pT) (lo hi : Nat) (a : pS) : Nat × pS := if ¬ a.2.1.toInt = 0 ∨ ¬ pTk k a.1 = 3 ∨ ¬ (lo ≤ pWd k a.1 ∧ pWd k a.1 ≤ hi) then (0, pEnds k a) else (pWd k a.1, pAdv k a)
def pEndL (k : pT) (a : pS) : pS := if a.2.1.toInt = 0 ∧ pTk k a.1 = 2 then pAdv k a else pEnds k a
def pFar (c : Int32) (a : pS) : pS := (a.1, a.2.1, a.2.2.1, a.2.2.2.1, if a.2.2.2.2.toInt < c.toInt then c else a.2.2.2.2)
def pCr (k : pT) (a : pS) : Int32 × pS := ((pNum k 0 6 a).1, pFar (pNum k 0 6 a).1 (pNum k 0 6 a).2)
/-- roads told of a crossing: m are there already -/
def pRoads (k : pT) : Nat → Nat → pS → (Nat → Int32) → Nat × pS × (Nat → Int32)
  | 0, m, a, f => (m, a, f)
  | i + 1, m, a, f =>
    if a.2.1.toInt = 0 ∧ pTk k a.1 = 1 then
      let r := pCr k (if m = 4 then pAlso 3 (nI (pWh k a.1)) a else a)
      pRoads k i (if m < 4 then m + 1 else 4) r.2 (if (f 0).toInt < 7 ∧ m < 4 then upd f (23 + 4 * (f 0).toInt.toNat + m) r.1 else f)
    else (m, a, f)
def pDB (m : Int) (w : Int32) (f : Nat → Int32) (a : pS) : pS := if m ≤ (f 0).toInt then pAlso 3 w a else a
def pInn (k : pT) (a : pS) (f : Nat → Int32) : pS × (Nat → Int32) := ((pCr k a).2, upd f 1 (f 1 ||| ((1 : Int32) <<< ((pCr k a).1 &&& 31))))
def pPW (k : pT) (d : Nat) (a : pS) (f : Nat → Int32) : pS × (Nat → Int32) := ((pNum k 0 (if d = 2 then 3 else 9) (pCr k a).2).2, upd f ((if d = 2 then 9 else 16) + (pCr k a).1.toInt.toNat) (pNum k 0 (if d = 2 then 3 else 9) (pCr k a).2).1)
def pCross (k : pT) (w : Int32) (a : pS) (f : Nat → Int32) : pS × (Nat → Int32) :=
  ((pRoads k 601 0 (pDB 7 w f a) f).2.1, if 7 ≤ (f 0).toInt then (pRoads k 601 0 (pDB 7 w f a) f).2.2 else upd (upd (pRoads k 601 0 (pDB 7 w f a) f).2.2 (2 + ((pRoads k 601 0 (pDB 7 w f a) f).2.2 0).toInt.toNat) (nI (pRoads k 601 0 (pDB 7 w f a) f).1)) 0 ((pRoads k 601 0 (pDB 7 w f a) f).2.2 0 + 1))
def pOther (k : pT) (d : Nat) (w : Int32) (a : pS) (f : Nat → Int32) : pS × (Nat → Int32) := if ¬ a.2.1.toInt = 0 then (a, f) else if d = 1 then pCross k w a f else if d = 4 then pInn k a f else pPW k d a f
def pLand (k : pT) (a : pS) (f : Nat → Int32) : pS × (Nat → Int32) := (pEndL k (pOther k (pWord k 1 4 a).1 (nI (pWh k a.1)) (pWord k 1 4 a).2 f).1, (pOther k (pWord k 1 4 a).1 (nI (pWh k a.1)) (pWord k 1 4 a).2 f).2)
def pDY (k : pT) (d : Nat) (a : pS) : Int32 × pS := if 8 < d then pNum k 0 3 a else (-1, a)
def pDeed (k : pT) (d : Nat) (w : Int32) (a : pS) (f : Nat → Int32) : pS × (Nat → Int32) :=
  ((pDY k d (pNum k 0 6 (pDB 40 w f a)).2).2, if (f 0).toInt < 40 then upd (upd (upd (upd f (1 + 3 * (f 0).toInt.toNat) (nI d - 5)) (2 + 3 * (f 0).toInt.toNat) (pNum k 0 6 (pDB 40 w f a)).1) (3 + 3 * (f 0).toInt.toNat) (pDY k d (pNum k 0 6 (pDB 40 w f a)).2).1) 0 (f 0 + 1) else f)
def pDay (k : pT) (a : pS) (f : Nat → Int32) : pS × (Nat → Int32) := (pEndL k (pDeed k (pWord k 5 10 a).1 (nI (pWh k a.1)) (pWord k 5 10 a).2 f).1, (pDeed k (pWord k 5 10 a).1 (nI (pWh k a.1)) (pWord k 5 10 a).2 f).2)
def pGY (k : pT) (d : Nat) (a : pS) : Int32 × pS := if d = 11 then pNum k 0 6 a else (-1, a)
def pFact (k : pT) (d : Nat) (w : Int32) (a : pS) (f : Nat → Int32) : pS × (Nat → Int32) :=
  ((pGY k d (pNum k 0 6 (pDB 8 w f a)).2).2, if (f 0).toInt < 8 then upd (upd (upd f (1 + 2 * (f 0).toInt.toNat) (pNum k 0 6 (pDB 8 w f a)).1) (2 + 2 * (f 0).toInt.toNat) (pGY k d (pNum k 0 6 (pDB 8 w f a)).2).1) 0 (f 0 + 1) else f)
def pLog (k : pT) (a : pS) (f : Nat → Int32) : pS × (Nat → Int32) := (pEndL k (pFact k (pWord k 11 12 a).1 (nI (pWh k a.1)) (pWord k 11 12 a).2 f).1, (pFact k (pWord k 11 12 a).1 (nI (pWh k a.1)) (pWord k 11 12 a).2 f).2)
def pLine (k : pT) (s : Nat) (a : pS) (f : Nat → Int32) : pS × (Nat → Int32) := if s = 0 then pLand k a f else if s = 1 then pDay k a f else pLog k a f
def pLines (k : pT) (s : Nat) : Nat → pS → (Nat → Int32) → pS × (Nat → Int32)
  | 0, a, f => (a, f)
  | i + 1, a, f => if a.2.1.toInt = 0 ∧ ¬ pTk k a.1 = 0 then pLines k s i (pLine k s a f).1 (pLine k s a f).2 else (a, f)
def pPosts (f : Nat → Int32) : Bool := (List.range 7).all (fun c => decide ((f (9 + c)).toInt = 0 ∨ (f (9 + c)).toInt < (f (2 + c)).toInt))
theorem pPosts_t {f : Nat → Int32} : pPosts f = true ↔ ∀ c, c < 7 → ((f (9 + c)).toInt = 0 ∨ (f (9 + c)).toInt < (f (2 + c)).toInt) := by
  unfold pPosts
  rw [List.all_eq_true]
  exact ⟨fun h c hc => of_decide_eq_true (h c (List.mem_range.mpr hc)), fun h c hc => decide_eq_true (h c (List.mem_range.mp hc))⟩
def pF4 (n s : Nat) (a : pS) (f : Nat → Int32) : pS := if s = 0 ∧ a.2.2.1.toInt = 0 ∧ (f 0).toInt ≤ a.2.2.2.2.toInt then pAlso 4 (nI n) a else a
def pF5 (n s : Nat) (b : pS) (f : Nat → Int32) : pS := if s = 0 ∧ b.2.2.1.toInt = 0 ∧ pPosts f = false then pAlso 5 (nI n) b else b
def pFin (n : Nat) (s : Nat) (q : pS × (Nat → Int32)) : pS × (Nat → Int32) := (pF5 n s (pF4 n s q.1 q.2) q.2, q.2)
def pRead (k : pT) (n s : Nat) : pS × (Nat → Int32) := pFin n s (pLines k s 601 (0, 0, 0, -1, -1) (fun _ => 0))
theorem pTk_le {k : pT} {n p : Nat} (h : pOk k n) (hp : p ≤ n) : pTk k p ≤ 4 := by
  have h1 := (h p hp).2.1
  unfold pTk
  repeat' split
  all_goals omega
theorem pTk_0 {k : pT} {p : Nat} : pTk k p = 0 ↔ pCl k p = 0 := by
  unfold pTk
  repeat' split
  all_goals omega
theorem pTk_1 {k : pT} {n p : Nat} (h : pOk k n) (hp : p ≤ n) : pTk k p = 1 ↔ pCl k p = 2 := by
  have h1 := (h p hp).2.1
  unfold pTk
  repeat' split
  all_goals omega
theorem pTk_2 {k : pT} {n p : Nat} (h : pOk k n) (hp : p ≤ n) : pTk k p = 2 ↔ pCl k p = 3 := by
  have h1 := (h p hp).2.1
  unfold pTk
  repeat' split
  all_goals omega
theorem pTk_3 {k : pT} {p : Nat} : pTk k p = 3 → pCl k p = 1 := by
  unfold pTk
  repeat' split
  all_goals omega
theorem pTk_3w {k : pT} {p : Nat} (h1 : pCl k p = 1) (h2 : ¬ pWd k p = 99) : pTk k p = 3 := by unfold pTk; rw [if_pos h1, if_neg h2]
theorem pNum_e {k : pT} {lo hi : Int32} {a : pS} (h : ¬ a.2.1.toInt = 0 ∨ ¬ pTk k a.1 = 1) : pNum k lo hi a = (lo, pEnds k a) := if_pos h
theorem pNum_i {k : pT} {lo hi : Int32} {a : pS} (h0 : a.2.1.toInt = 0) (h1 : pTk k a.1 = 1) (h2 : lo.toInt ≤ (pNm k a.1).toInt ∧ (pNm k a.1).toInt ≤ hi.toInt) : pNum k lo hi a = (pNm k a.1, pAdv k a) := by unfold pNum; rw [if_neg (fun q => q.elim (fun z => z h0) (fun z => z h1)), if_pos h2]
theorem pNum_o {k : pT} {lo hi : Int32} {a : pS} (h0 : a.2.1.toInt = 0) (h1 : pTk k a.1 = 1) (h2 : ¬ (lo.toInt ≤ (pNm k a.1).toInt ∧ (pNm k a.1).toInt ≤ hi.toInt)) : pNum k lo hi a = (lo, pAdv k (pAlso 2 (nI (pWh k a.1)) a)) := by unfold pNum; rw [if_neg (fun q => q.elim (fun z => z h0) (fun z => z h1)), if_neg h2]
theorem pWord_e {k : pT} {lo hi : Nat} {a : pS} (h : ¬ a.2.1.toInt = 0 ∨ ¬ pTk k a.1 = 3 ∨ ¬ (lo ≤ pWd k a.1 ∧ pWd k a.1 ≤ hi)) : pWord k lo hi a = (0, pEnds k a) := if_pos h
theorem pWord_i {k : pT} {lo hi : Nat} {a : pS} (h0 : a.2.1.toInt = 0) (h1 : pTk k a.1 = 3) (h2 : lo ≤ pWd k a.1 ∧ pWd k a.1 ≤ hi) : pWord k lo hi a = (pWd k a.1, pAdv k a) := if_neg (fun q => q.elim (fun z => z h0) (fun q => q.elim (fun z => z h1) (fun z => z h2)))
theorem pEndL_a {k : pT} {a : pS} (h : a.2.1.toInt = 0 ∧ pTk k a.1 = 2) : pEndL k a = pAdv k a := if_pos h
theorem pEndL_e {k : pT} {a : pS} (h : ¬ (a.2.1.toInt = 0 ∧ pTk k a.1 = 2)) : pEndL k a = pEnds k a := if_neg h
theorem pAlso_y {kd w : Int32} {a : pS} (h0 : a.2.1.toInt = 0) (h1 : a.2.2.1.toInt = 0) : pAlso kd w a = (a.1, a.2.1, kd, w, a.2.2.2.2) := if_neg (fun q => q.elim (fun z => z h0) (fun z => z.1 h1))
theorem pAlso_n {kd w : Int32} {a : pS} (h : ¬ a.2.1.toInt = 0 ∨ (¬ a.2.2.1.toInt = 0 ∧ (a.2.2.2.1.toInt < w.toInt ∨ (a.2.2.2.1.toInt = w.toInt ∧ a.2.2.1.toInt ≤ kd.toInt)))) : pAlso kd w a = a := if_pos h
theorem pAlso_fa {kd w : Int32} {a : pS} : (pAlso kd w a).1 = a.1 ∧ (pAlso kd w a).2.1 = a.2.1 ∧ (pAlso kd w a).2.2.2.2 = a.2.2.2.2 := by unfold pAlso; split <;> exact ⟨rfl, rfl, rfl⟩
theorem pAdv_also {k : pT} {kd w : Int32} {a : pS} : pAdv k (pAlso kd w a) = pAlso kd w (pAdv k a) := by
  unfold pAlso pAdv
  split <;> rfl
theorem pEnds_y {k : pT} {a : pS} (h : a.2.1.toInt = 0) : pEnds k a = (a.1, 1, 1, nI (pWh k a.1), a.2.2.2.2) := if_pos h
theorem pEnds_n {k : pT} {a : pS} (h : ¬ a.2.1.toInt = 0) : pEnds k a = a := if_neg h
/-! the reference's state is that of one who reads -/
def zRr (k : pT) (n : Nat) (sz nx wh tk nu wo wr fa : Int32) (g : Nat → Int32) (a : pS) : Prop :=
  (k = tkT (fun j => g (10 + j)) n ∧ (∀ j, j < n → 0 ≤ (g (10 + j)).toInt) ∧ n ≤ 600 ∧ sz = nI n ∧ a.1 ≤ n) ∧ wr = a.2.1 ∧ (a.2.1.toInt = 0 → zTokR k a.1 nx wh tk nu wo) ∧ g 5 = a.2.2.1 ∧ g 6 = a.2.2.2.1 ∧ fa = a.2.2.2.2
section ZRR
variable {k : pT} {n : Nat} {sz nx wh tk nu wo wr fa : Int32} {g : Nat → Int32} {a : pS}
theorem zRr_ok (h : zRr k n sz nx wh tk nu wo wr fa g a) : pOk k n := by rw [h.1.1]; exact tkT_ok _ _
theorem zu_10 {g : Nat → Int32} {x y : Int32} (j : Nat) : upd (upd g 5 x) 6 y (10 + j) = g (10 + j) := by unfold upd; rw [if_neg (by omega), if_neg (by omega)]
theorem zRr_g {g' : Nat → Int32} (h : k = tkT (fun j => g (10 + j)) n ∧ (∀ j, j < n → 0 ≤ (g (10 + j)).toInt) ∧ n ≤ 600 ∧ sz = nI n ∧ a.1 ≤ n) (e : ∀ j, g' (10 + j) = g (10 + j)) : k = tkT (fun j => g' (10 + j)) n ∧ (∀ j, j < n → 0 ≤ (g' (10 + j)).toInt) ∧ n ≤ 600 ∧ sz = nI n ∧ a.1 ≤ n :=
  ⟨h.1.trans (congrArg (fun q => tkT q n) (funext fun j => (e j).symm)), fun j hj => by rw [e j]; exact h.2.1 j hj, h.2.2⟩
theorem zRr_ends (h : zRr k n sz nx wh tk nu wo wr fa g a) {wr' : Int32} {g' : Nat → Int32} (hj : wr' = if wr.toInt = 0 then 1 else wr) (hg : g' = if wr.toInt = 0 then upd (upd g 5 1) 6 wh else g) : zRr k n sz nx wh tk nu wo wr' fa g' (pEnds k a) := by
  obtain ⟨h1, h6, h7, h8, h9, h10⟩ := id h
  subst h6
  by_cases c : a.2.1.toInt = 0
  · rw [pEnds_y c]
    rw [if_pos c] at hj hg
    subst hj
    subst hg
    exact ⟨zRr_g (a := a) h1 (fun j => zu_10 j), rfl, fun q => absurd (show (1 : Int32).toInt = 0 from q) (by decide), rfl, (h7 c).2.1, h10⟩
  · rw [pEnds_n c]
    rw [if_neg c] at hj hg
    subst hj
    subst hg
    exact h
theorem zRr_also (h : zRr k n sz nx wh tk nu wo wr fa g a) {kd w : Int32} {g' : Nat → Int32} (hg : g' = if ¬ wr.toInt = 0 ∨ (¬ (g 5).toInt = 0 ∧ ((g 6).toInt < w.toInt ∨ ((g 6).toInt = w.toInt ∧ (g 5).toInt ≤ kd.toInt))) then g else upd (upd g 5 kd) 6 w) : zRr k n sz nx wh tk nu wo wr fa g' (pAlso kd w a) := by
  obtain ⟨h1, h6, h7, h8, h9, h10⟩ := id h
  subst h6
  rw [h8, h9] at hg
  unfold pAlso
  split
  · rename_i c
    rw [if_pos c] at hg
    subst hg
    exact h
  · rename_i c
    rw [if_neg c] at hg
    subst hg
    exact ⟨zRr_g (a := a) h1 (fun j => zu_10 j), rfl, h7, rfl, rfl, h10⟩
theorem zRr_adv (h : zRr k n sz nx wh tk nu wo wr fa g a) {nx' wh' tk' nu' wo' : Int32} (hT : zTokR k (pEn k a.1) nx' wh' tk' nu' wo') : zRr k n sz nx' wh' tk' nu' wo' wr fa g (pAdv k a) := by
  have hk := zRr_ok h
  obtain ⟨h1, h6, h7, h8, h9, h10⟩ := id h
  exact ⟨⟨h1.1, h1.2.1, h1.2.2.1, h1.2.2.2.1, (hk a.1 h1.2.2.2.2).1.2.2⟩, h6, fun _ => hT, h8, h9, h10⟩
theorem zRr_far (h : zRr k n sz nx wh tk nu wo wr fa g a) {c fa' : Int32} (hf : fa' = if fa.toInt < c.toInt then c else fa) : zRr k n sz nx wh tk nu wo wr fa' g (pFar c a) := by
  obtain ⟨h1, h6, h7, h8, h9, h10⟩ := id h
  subst h10
  exact ⟨h1, h6, h7, h8, h9, hf⟩
end ZRR
/-! the class's state is that of one who reads -/
def pInv (k : pT) (a : pS) : Prop := a.2.1.toInt = 0 ∧ (¬ a.2.2.1.toInt = 0 → a.2.2.2.1.toInt < (pWh k a.1 : Int)) ∨ ¬ a.2.1.toInt = 0 ∧ ¬ a.2.2.1.toInt = 0
def zRc (k : pT) (n : Nat) (ft : Nat → Int32) (r0 r1 r2 r3 r4 r5 r6 r7 : Int32) (a : pS) : Prop :=
  (k = tkT ft n ∧ n ≤ 600 ∧ r2 = nI n ∧ a.1 ≤ n) ∧ r7 = a.2.1 ∧ (a.2.1.toInt = 0 → zTokC k a.1 r3 r4 r5 r6) ∧ r0 = a.2.2.1 ∧ r1 = a.2.2.2.1 ∧ pInv k a ∧ ∃ p, p ≤ n ∧ r3 = nI p
section ZRC
variable {k : pT} {n : Nat} {ft : Nat → Int32} {r0 r1 r2 r3 r4 r5 r6 r7 : Int32} {a : pS}
theorem zRc_ok (h : zRc k n ft r0 r1 r2 r3 r4 r5 r6 r7 a) : pOk k n := by rw [h.1.1]; exact tkT_ok _ _
theorem zRc_brk (h : zRc k n ft r0 r1 r2 r3 r4 r5 r6 r7 a) {u0 u1 u7 : Int32} (e0 : u0 = if r7.toInt = 0 then 1 else r0) (e1 : u1 = if r7.toInt = 0 then r5 else r1) (e7 : u7 = if r7.toInt = 0 then 1 else r7) : zRc k n ft u0 u1 r2 r3 r4 r5 r6 u7 (pEnds k a) := by
  obtain ⟨h1, h6, h7, h8, h9, h10, h11⟩ := id h
  subst h6
  by_cases c : a.2.1.toInt = 0
  · rw [pEnds_y c]
    rw [if_pos c] at e0 e1 e7
    subst e0
    subst e7
    exact ⟨h1, rfl, fun q => absurd (show (1 : Int32).toInt = 0 from q) (by decide), rfl, e1.trans (h7 c).2.2.1, Or.inr ⟨by show ¬ (1 : Int32).toInt = 0; decide, by show ¬ (1 : Int32).toInt = 0; decide⟩, h11⟩
  · rw [pEnds_n c]
    rw [if_neg c] at e0 e1 e7
    subst e0
    subst e1
    subst e7
    exact h
theorem zRc_adv (h : zRc k n ft r0 r1 r2 r3 r4 r5 r6 r7 a) (hw : a.2.1.toInt = 0) {r3' r4' r5' r6' : Int32} (hT : zTokC k (pEn k a.1) r3' r4' r5' r6') : zRc k n ft r0 r1 r2 r3' r4' r5' r6' r7 (pAdv k a) := by
  have hk := zRc_ok h
  obtain ⟨h1, h6, h7, h8, h9, h10, h11⟩ := id h
  have q1 := (hk a.1 h1.2.2.2).1
  have q2 := (hk (pEn k a.1) q1.2.2).1
  refine ⟨⟨h1.1, h1.2.1, h1.2.2.1, q1.2.2⟩, h6, fun _ => hT, h8, h9, Or.inl ⟨hw, fun q => ?_⟩, _, q2.2.2, hT.1⟩
  rcases h10 with ⟨-, z⟩ | ⟨z, -⟩
  · have z1 := z q
    show a.2.2.2.1.toInt < (pWh k (pEn k a.1) : Int)
    omega
  · exact absurd hw z
/-- a fault told of the token at hand, which then is passed -/
theorem zRc_na (h : zRc k n ft r0 r1 r2 r3 r4 r5 r6 r7 a) (hw : a.2.1.toInt = 0) (hc : ¬ pCl k a.1 = 0) {kd u0 u1 : Int32} (e0 : u0 = if r0.toInt = 0 then kd else r0) (e1 : u1 = if r0.toInt = 0 then r5 else r1) {r3' r4' r5' r6' : Int32} (hT : zTokC k (pEn k a.1) r3' r4' r5' r6') : zRc k n ft u0 u1 r2 r3' r4' r5' r6' r7 (pAdv k (pAlso kd (nI (pWh k a.1)) a)) := by
  have hk := zRc_ok h
  obtain ⟨h1, h6, h7, h8, h9, h10, h11⟩ := id h
  have q1 := hk a.1 h1.2.2.2
  have q2 := (hk (pEn k a.1) q1.1.2.2).1
  have q3 := q1.2.2.2.1 hc
  have q4 : (nI (pWh k a.1)).toInt = (pWh k a.1 : Int) := nI_toInt (by omega)
  subst h8
  subst h9
  rcases h10 with ⟨-, z⟩ | ⟨z, -⟩
  · by_cases c : a.2.2.1.toInt = 0
    · rw [pAlso_y hw c]
      rw [if_pos c] at e0 e1
      subst e0
      refine ⟨⟨h1.1, h1.2.1, h1.2.2.1, q1.1.2.2⟩, h6, fun _ => hT, rfl, e1.trans (h7 hw).2.2.1, Or.inl ⟨hw, fun q => ?_⟩, _, q2.2.2, hT.1⟩
      show (nI (pWh k a.1)).toInt < (pWh k (pEn k a.1) : Int)
      omega
    · rw [pAlso_n (Or.inr ⟨c, Or.inl (by rw [q4]; exact z c)⟩)]
      rw [if_neg c] at e0 e1
      subst e0
      subst e1
      exact zRc_adv h hw hT
  · exact absurd hw z
/-- a fault told of a place that was passed -/
theorem zRc_note (h : zRc k n ft r0 r1 r2 r3 r4 r5 r6 r7 a) (hw : a.2.1.toInt = 0) {kd w u0 u1 : Int32} (hlt : w.toInt < (pWh k a.1 : Int)) (hle : ¬ a.2.2.1.toInt = 0 → a.2.2.2.1.toInt < w.toInt ∨ (a.2.2.2.1.toInt = w.toInt ∧ a.2.2.1.toInt ≤ kd.toInt)) (e0 : u0 = if r0.toInt = 0 then kd else r0) (e1 : u1 = if r0.toInt = 0 then w else r1) : zRc k n ft u0 u1 r2 r3 r4 r5 r6 r7 (pAlso kd w a) := by
  obtain ⟨h1, h6, h7, h8, h9, h10, h11⟩ := id h
  subst h8
  subst h9
  by_cases c : a.2.2.1.toInt = 0
  · rw [pAlso_y hw c]
    rw [if_pos c] at e0 e1
    subst e0
    subst e1
    exact ⟨h1, h6, h7, rfl, rfl, Or.inl ⟨hw, fun _ => hlt⟩, h11⟩
  · rw [pAlso_n (Or.inr ⟨c, hle c⟩)]
    rw [if_neg c] at e0 e1
    subst e0
    subst e1
    exact h
theorem zRc_far (h : zRc k n ft r0 r1 r2 r3 r4 r5 r6 r7 a) (c : Int32) : zRc k n ft r0 r1 r2 r3 r4 r5 r6 r7 (pFar c a) := h
theorem zRc_any (h : zRc k n ft r0 r1 r2 r3 r4 r5 r6 r7 a) (hw : ¬ a.2.1.toInt = 0) {r3' r4' r5' r6' : Int32} (h3 : ∃ p, p ≤ n ∧ r3' = nI p) : zRc k n ft r0 r1 r2 r3' r4' r5' r6' r7 a := by
  obtain ⟨h1, h6, h7, h8, h9, h10, h11⟩ := id h
  exact ⟨h1, h6, fun q => absurd q hw, h8, h9, h10, h3⟩
end ZRC

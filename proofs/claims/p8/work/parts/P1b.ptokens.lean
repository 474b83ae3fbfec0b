/-- the end of the run from p of bytes of a kind, below n (k: how many may follow) -/
def zEndF (P : Int32 → Bool) (g : Nat → Int32) (n : Nat) : Nat → Nat → Nat
  | 0, p => p
  | k + 1, p => if p < n ∧ P (g p) = true then zEndF P g n k (p + 1) else p
def zEnd (P : Int32 → Bool) (g : Nat → Int32) (n p : Nat) : Nat := zEndF P g n (n - p) p
def zRun (P : Int32 → Bool) (g : Nat → Int32) (n p q : Nat) : Prop := p ≤ q ∧ (q ≤ n ∨ q = p) ∧ (∀ j, p ≤ j → j < q → P (g j) = true) ∧ (q < n → P (g q) = false)
theorem zEndF_run {P : Int32 → Bool} {g : Nat → Int32} {n : Nat} : ∀ (k p : Nat), n - p ≤ k → zRun P g n p (zEndF P g n k p)
  | 0, p, h => ⟨Nat.le_refl _, Or.inr rfl, fun j h1 h2 => by unfold zEndF at h2; omega, fun h2 => by unfold zEndF at h2; omega⟩
  | k + 1, p, h => by
    unfold zEndF
    by_cases c : p < n ∧ P (g p) = true
    · rw [if_pos c]
      obtain ⟨h1, h2, h3, h4⟩ := zEndF_run (P := P) (g := g) (n := n) k (p + 1) (by omega)
      refine ⟨by omega, Or.inl (by omega), fun j h5 h6 => ?_, h4⟩
      by_cases e : j = p
      · rw [e]; exact c.2
      · exact h3 j (by omega) h6
    · rw [if_neg c]
      refine ⟨Nat.le_refl _, Or.inr rfl, fun j h1 h2 => by omega, fun h2 => ?_⟩
      cases e : P (g p) with
      | false => rfl
      | true => exact absurd ⟨h2, e⟩ c
theorem zRun_uniq {P : Int32 → Bool} {g : Nat → Int32} {n p q r : Nat} (h : zRun P g n p q) (h' : zRun P g n p r) : q = r := by
  obtain ⟨a1, a2, a3, a4⟩ := h
  obtain ⟨b1, b2, b3, b4⟩ := h'
  rcases Nat.lt_trichotomy q r with c | c | c
  · have x := b3 q a1 c
    rw [a4 (by omega)] at x
    cases x
  · exact c
  · have x := a3 r b1 c
    rw [b4 (by omega)] at x
    cases x
theorem zEnd_run (P : Int32 → Bool) (g : Nat → Int32) (n p : Nat) : zRun P g n p (zEnd P g n p) := zEndF_run _ _ (Nat.le_refl _)
theorem zRun_eq {P : Int32 → Bool} {g : Nat → Int32} {n p q : Nat} (h : zRun P g n p q) : q = zEnd P g n p := zRun_uniq h (zEnd_run P g n p)
theorem zRun_cg {P : Int32 → Bool} {g g' : Nat → Int32} {n p q : Nat} (e : ∀ j, j < n → P (g' j) = P (g j)) (h : zRun P g n p q) : zRun P g' n p q := by
  obtain ⟨a1, a2, a3, a4⟩ := h
  exact ⟨a1, a2, fun j h1 h2 => by rw [e j (by omega)]; exact a3 j h1 h2, fun h => by rw [e q h]; exact a4 h⟩
def tkB (x : Int32) : Bool := decide (x.toInt = 10 ∨ x.toInt = 32)
def tkL (x : Int32) : Bool := decide (97 ≤ x.toInt ∧ x.toInt ≤ 122)
def tkD (x : Int32) : Bool := decide (48 ≤ x.toInt ∧ x.toInt ≤ 57)
/-- where the token behind p begins; where it ends -/
def zWh (g : Nat → Int32) (n p : Nat) : Nat := zEnd tkB g n p
def zWI (g : Nat → Int32) (w e i : Nat) : Bool := decide (e - w = zLen.getD i 0 ∧ ∀ j, j < zLen.getD i 0 → g (w + j) = (zByt.getD i []).getD j 0)
/-- which of the twelve words stands from w to e: 1 .. 12 as the reference counts them, 99 none -/
def zWordAt (g : Nat → Int32) (w e : Nat) : Nat := if zWI g w e 0 = true then 1 else if zWI g w e 1 = true then 2 else if zWI g w e 2 = true then 3 else if zWI g w e 3 = true then 4 else if zWI g w e 6 = true then 5 else if zWI g w e 7 = true then 6 else if zWI g w e 8 = true then 7 else if zWI g w e 9 = true then 8 else if zWI g w e 10 = true then 9 else if zWI g w e 11 = true then 10 else if zWI g w e 4 = true then 11 else if zWI g w e 5 = true then 12 else 99

def tkE (g : Nat → Int32) (n p : Nat) : Nat :=
  if n ≤ zWh g n p then zWh g n p
  else if tkL (g (zWh g n p)) = true then zEnd tkL g n (zWh g n p)
  else if tkD (g (zWh g n p)) = true then zEnd tkD g n (zWh g n p)
  else zWh g n p + 1
/-- its kind as the program counts them: 0 end, 1 letters, 2 number, 3 semicolon, 4 none -/
def tkC (g : Nat → Int32) (n p : Nat) : Nat :=
  if n ≤ zWh g n p then 0
  else if tkL (g (zWh g n p)) = true then 1
  else if tkD (g (zWh g n p)) = true then (if tkE g n p - zWh g n p ≤ 2 then 2 else 4)
  else if (g (zWh g n p)).toInt = 59 then 3 else 4
def tkV (g : Nat → Int32) (w e : Nat) : Int := if e ≤ w then 0 else if e = w + 1 then (g w).toInt - 48 else 10 * ((g w).toInt - 48) + ((g (w + 1)).toInt - 48)
abbrev pT : Type := Nat → Nat × Nat × Nat × Nat × Int32
def tkT (g : Nat → Int32) (n : Nat) : pT := fun p => (zWh g n p, tkE g n p, tkC g n p, (if tkC g n p = 1 then zWordAt g (zWh g n p) (tkE g n p) else 0), (if tkC g n p = 2 then Int32.ofInt (tkV g (zWh g n p) (tkE g n p)) else 0))
def pWh (k : pT) (p : Nat) : Nat := (k p).1
def pEn (k : pT) (p : Nat) : Nat := (k p).2.1
def pCl (k : pT) (p : Nat) : Nat := (k p).2.2.1
def pWd (k : pT) (p : Nat) : Nat := (k p).2.2.2.1
def pNm (k : pT) (p : Nat) : Int32 := (k p).2.2.2.2
/-- its kind as the reference counts them: 0 end, 1 number, 2 semicolon, 3 word, 4 none -/
def pTk (k : pT) (p : Nat) : Nat := if pCl k p = 1 then (if pWd k p = 99 then 4 else 3) else if pCl k p = 2 then 1 else if pCl k p = 3 then 2 else pCl k p
section TKS
variable {g : Nat → Int32} {n p w e : Nat}
theorem tk_wh (h : zRun tkB g n p w) : zWh g n p = w := (zRun_eq h).symm
theorem tk_0 (h : zRun tkB g n p w) (hw : n ≤ w) : tkT g n p = (w, w, 0, 0, 0) := by
  have a := tk_wh h
  have hc : tkC g n p = 0 := by unfold tkC; rw [a, if_pos hw]
  have he : tkE g n p = w := by unfold tkE; rw [a, if_pos hw]
  unfold tkT
  rw [a, hc, he]
  rfl
theorem tk_L (h : zRun tkB g n p w) (hw : w < n) (hl : tkL (g w) = true) (hr : zRun tkL g n w e) : tkT g n p = (w, e, 1, zWordAt g w e, 0) := by
  have a := tk_wh h
  have hc : tkC g n p = 1 := by unfold tkC; rw [a, if_neg (by omega), if_pos hl]
  have he : tkE g n p = e := by unfold tkE; rw [a, if_neg (by omega), if_pos hl]; exact (zRun_eq hr).symm
  unfold tkT
  rw [a, hc, he]
  rfl
theorem tk_D (h : zRun tkB g n p w) (hw : w < n) (hl : tkL (g w) = false) (hd : tkD (g w) = true) (hr : zRun tkD g n w e) : tkT g n p = (w, e, (if e - w ≤ 2 then 2 else 4), 0, (if e - w ≤ 2 then Int32.ofInt (tkV g w e) else 0)) := by
  have a := tk_wh h
  have he : tkE g n p = e := by unfold tkE; rw [a, if_neg (by omega), if_neg (by rw [hl]; decide), if_pos hd]; exact (zRun_eq hr).symm
  have hc : tkC g n p = if e - w ≤ 2 then 2 else 4 := by unfold tkC; rw [a, if_neg (by omega), if_neg (by rw [hl]; decide), if_pos hd, he]
  unfold tkT
  rw [a, hc, he]
  by_cases c : e - w ≤ 2
  · rw [if_pos c, if_pos c]; rfl
  · rw [if_neg c, if_neg c]; rfl
theorem tk_S (h : zRun tkB g n p w) (hw : w < n) (hl : tkL (g w) = false) (hd : tkD (g w) = false) : tkT g n p = (w, w + 1, (if (g w).toInt = 59 then 3 else 4), 0, 0) := by
  have a := tk_wh h
  have he : tkE g n p = w + 1 := by unfold tkE; rw [a, if_neg (by omega), if_neg (by rw [hl]; decide), if_neg (by rw [hd]; decide)]
  have hc : tkC g n p = if (g w).toInt = 59 then 3 else 4 := by unfold tkC; rw [a, if_neg (by omega), if_neg (by rw [hl]; decide), if_neg (by rw [hd]; decide)]
  unfold tkT
  rw [a, hc, he]
  by_cases c : (g w).toInt = 59
  · rw [if_pos c]; rfl
  · rw [if_neg c]; rfl
theorem tkL_iff {x : Int32} : tkL x = true ↔ 97 ≤ x.toInt ∧ x.toInt ≤ 122 := by unfold tkL; exact decide_eq_true_iff
theorem tkD_iff {x : Int32} : tkD x = true ↔ 48 ≤ x.toInt ∧ x.toInt ≤ 57 := by unfold tkD; exact decide_eq_true_iff
theorem tkB_iff {x : Int32} : tkB x = true ↔ x.toInt = 10 ∨ x.toInt = 32 := by unfold tkB; exact decide_eq_true_iff
theorem tkL_f {x : Int32} (h : x.toInt < 97 ∨ 122 < x.toInt) : tkL x = false := by unfold tkL; exact decide_eq_false (by omega)
theorem tkD_f {x : Int32} (h : x.toInt < 48 ∨ 57 < x.toInt) : tkD x = false := by unfold tkD; exact decide_eq_false (by omega)
theorem tkB_f {x : Int32} (h1 : ¬ x.toInt = 10) (h2 : ¬ x.toInt = 32) : tkB x = false := by unfold tkB; exact decide_eq_false (by omega)
theorem tkV_0 (h : e = w) : tkV g w e = 0 := by unfold tkV; rw [if_pos (by omega)]
theorem tkV_1 (h : e = w + 1) : tkV g w e = (g w).toInt - 48 := by unfold tkV; rw [if_neg (by omega), if_pos h]
theorem tkV_2 (h : e = w + 2) : tkV g w e = 10 * ((g w).toInt - 48) + ((g (w + 1)).toInt - 48) := by unfold tkV; rw [if_neg (by omega), if_neg (by omega)]
/-- one digit more -/
theorem tkV_s (hw : w ≤ e) (h2 : e < w + 2) : tkV g w (e + 1) = 10 * tkV g w e + ((g e).toInt - 48) := by
  rcases (show e = w ∨ e = w + 1 by omega) with c | c
  · subst c; rw [tkV_1 rfl, tkV_0 rfl]; omega
  · subst c; rw [tkV_2 rfl, tkV_1 rfl]
theorem tkV_bd (h : ∀ j, w ≤ j → j < e → tkD (g j) = true) (hw : w ≤ e) (h2 : e ≤ w + 2) : 0 ≤ tkV g w e ∧ tkV g w e ≤ 99 := by
  rcases (show e = w ∨ e = w + 1 ∨ e = w + 2 by omega) with c | c | c
  · rw [tkV_0 c]; decide
  · have a := tkD_iff.mp (h w (by omega) (by omega)); rw [tkV_1 c]; omega
  · have a := tkD_iff.mp (h w (by omega) (by omega)); have b := tkD_iff.mp (h (w + 1) (by omega) (by omega)); rw [tkV_2 c]; omega
end TKS
theorem tk_of {x : Int32} {v : Int} (h : x.toInt = v) : x = Int32.ofInt v := by rw [← h]; exact (Int32.ofInt_toInt x).symm
/-- what is known of a row of tokens -/
def pOk (k : pT) (n : Nat) : Prop := ∀ p, p ≤ n → (p ≤ pWh k p ∧ pWh k p ≤ pEn k p ∧ pEn k p ≤ n) ∧ pCl k p ≤ 4 ∧ (pCl k p = 0 → pWh k p = n) ∧ (¬ pCl k p = 0 → pWh k p < pEn k p) ∧ (pCl k p = 2 → 0 ≤ (pNm k p).toInt ∧ (pNm k p).toInt ≤ 99) ∧ (pCl k p = 1 → 1 ≤ pWd k p ∧ (pWd k p ≤ 12 ∨ pWd k p = 99))
theorem zWordAt_in (g : Nat → Int32) (w e : Nat) : 1 ≤ zWordAt g w e ∧ (zWordAt g w e ≤ 12 ∨ zWordAt g w e = 99) := by
  unfold zWordAt
  repeat' split
  all_goals omega
theorem tkT_ok (g : Nat → Int32) (n : Nat) : pOk (tkT g n) n := by
  intro p hp
  have hB := zEnd_run tkB g n p
  generalize zEnd tkB g n p = w at hB
  obtain ⟨b1, b2, b3, b4⟩ := id hB
  unfold pWh pEn pCl pWd pNm
  by_cases c : n ≤ w
  · rw [tk_0 hB c]
    exact ⟨⟨b1, Nat.le_refl _, by show w ≤ n; omega⟩, by simp, fun _ => (by show w = n; omega), by simp, by simp, by simp⟩
  · cases hl : tkL (g w) with
    | true =>
      have hL := zEnd_run tkL g n w
      generalize zEnd tkL g n w = e at hL
      obtain ⟨l1, l2, l3, l4⟩ := id hL
      have hs : w < e := by
        rcases Nat.lt_or_ge w e with q | q
        · exact q
        · have z := l4 (by omega)
          rw [show e = w by omega, hl] at z
          cases z
      rw [tk_L hB (by omega) hl hL]
      exact ⟨⟨b1, l1, by show e ≤ n; omega⟩, by simp, by simp, fun _ => hs, by simp, fun _ => zWordAt_in g w e⟩
    | false =>
      cases hd : tkD (g w) with
      | true =>
        have hL := zEnd_run tkD g n w
        generalize zEnd tkD g n w = e at hL
        obtain ⟨l1, l2, l3, l4⟩ := id hL
        have hs : w < e := by
          rcases Nat.lt_or_ge w e with q | q
          · exact q
          · have z := l4 (by omega)
            rw [show e = w by omega, hd] at z
            cases z
        rw [tk_D hB (by omega) hl hd hL]
        by_cases q : e - w ≤ 2
        · rw [if_pos q, if_pos q]
          have hv := tkV_bd l3 l1 (by omega)
          refine ⟨⟨b1, l1, by show e ≤ n; omega⟩, by simp, by simp, fun _ => hs, fun _ => ?_, by simp⟩
          show 0 ≤ (Int32.ofInt (tkV g w e)).toInt ∧ (Int32.ofInt (tkV g w e)).toInt ≤ 99
          rw [Int32.toInt_ofInt_of_le (by omega) (by omega)]
          exact hv
        · rw [if_neg q, if_neg q]
          exact ⟨⟨b1, l1, by show e ≤ n; omega⟩, by simp, by simp, fun _ => hs, by simp, by simp⟩
      | false =>
        rw [tk_S hB (by omega) hl hd]
        by_cases q : (g w).toInt = 59
        · rw [if_pos q]
          exact ⟨⟨b1, by show w ≤ w + 1; omega, by show w + 1 ≤ n; omega⟩, by simp, by simp, fun _ => (by show w < w + 1; omega), by simp, by simp⟩
        · rw [if_neg q]
          exact ⟨⟨b1, by show w ≤ w + 1; omega, by show w + 1 ≤ n; omega⟩, by simp, by simp, fun _ => (by show w < w + 1; omega), by simp, by simp⟩
/-- bytes with and without sign -/
def zBe (x y : Int32) : Prop := y = x ∧ 0 ≤ x.toInt ∨ x.toInt < 0 ∧ 128 ≤ y.toInt
theorem zBe_c {f g : Nat → Int32} {n : Nat} (h : ∀ j, j < n → zBe (f j) (g j)) (p : Nat) : tkT f n p = tkT g n p := by
  have eB : ∀ j, j < n → tkB (f j) = tkB (g j) := fun j hj => by
    rcases h j hj with ⟨e, -⟩ | ⟨a, b⟩
    · rw [e]
    · rw [tkB_f (by omega) (by omega), tkB_f (by omega) (by omega)]
  have eL : ∀ j, j < n → tkL (f j) = tkL (g j) := fun j hj => by
    rcases h j hj with ⟨e, -⟩ | ⟨a, b⟩
    · rw [e]
    · rw [tkL_f (by omega), tkL_f (by omega)]
  have eD : ∀ j, j < n → tkD (f j) = tkD (g j) := fun j hj => by
    rcases h j hj with ⟨e, -⟩ | ⟨a, b⟩
    · rw [e]
    · rw [tkD_f (by omega), tkD_f (by omega)]
  have up : ∀ j, j < n → (tkL (f j) = true ∨ tkD (f j) = true ∨ (f j).toInt = 59 ∨ (g j).toInt = 59) → g j = f j := fun j hj q => by
    rcases h j hj with ⟨e, -⟩ | ⟨a, b⟩
    · exact e
    · rcases q with q | q | q | q
      · have := tkL_iff.mp q; omega
      · have := tkD_iff.mp q; omega
      · omega
      · omega
  have hB := zEnd_run tkB g n p
  generalize zEnd tkB g n p = w at hB
  have hB' : zRun tkB f n p w := zRun_cg eB hB
  by_cases c : n ≤ w
  · rw [tk_0 hB c, tk_0 hB' c]
  · have hw : w < n := by omega
    cases hl : tkL (g w) with
    | true =>
      have hL := zEnd_run tkL g n w
      generalize zEnd tkL g n w = e at hL
      have hL' : zRun tkL f n w e := zRun_cg eL hL
      rw [tk_L hB hw hl hL, tk_L hB' hw ((eL w hw).trans hl) hL']
      have hen : e ≤ n := by have := hL.2.1; omega
      have ef : ∀ j, w ≤ j → j < e → g j = f j := fun j h1 h2 => up j (by omega) (Or.inl (by rw [eL j (by omega)]; exact hL.2.2.1 j h1 h2))
      have eW : ∀ i, zWI f w e i = zWI g w e i := fun i => by
        unfold zWI
        apply decide_eq_decide.mpr
        constructor
        · rintro ⟨h1, h2⟩
          exact ⟨h1, fun j hj => by rw [ef (w + j) (by omega) (by omega)]; exact h2 j hj⟩
        · rintro ⟨h1, h2⟩
          exact ⟨h1, fun j hj => by rw [← ef (w + j) (by omega) (by omega)]; exact h2 j hj⟩
      have : zWordAt f w e = zWordAt g w e := by unfold zWordAt; simp only [eW]
      rw [this]
    | false =>
      have hl' : tkL (f w) = false := (eL w hw).trans hl
      cases hd : tkD (g w) with
      | true =>
        have hL := zEnd_run tkD g n w
        generalize zEnd tkD g n w = e at hL
        have hL' : zRun tkD f n w e := zRun_cg eD hL
        rw [tk_D hB hw hl hd hL, tk_D hB' hw hl' ((eD w hw).trans hd) hL']
        have hen : e ≤ n := by have := hL.2.1; omega
        have ef : ∀ j, w ≤ j → j < e → g j = f j := fun j h1 h2 => up j (by omega) (Or.inr (Or.inl (by rw [eD j (by omega)]; exact hL.2.2.1 j h1 h2)))
        by_cases q : e - w ≤ 2
        · rw [if_pos q, if_pos q, if_pos q]
          have : tkV f w e = tkV g w e := by
            rcases (show e ≤ w ∨ e = w + 1 ∨ e = w + 2 by omega) with z | z | z
            · unfold tkV; rw [if_pos z, if_pos z]
            · rw [tkV_1 z, tkV_1 z, ef w (by omega) (by omega)]
            · rw [tkV_2 z, tkV_2 z, ef w (by omega) (by omega), ef (w + 1) (by omega) (by omega)]
          rw [this]
        · rw [if_neg q, if_neg q, if_neg q]
      | false =>
        rw [tk_S hB hw hl hd, tk_S hB' hw hl' ((eD w hw).trans hd)]
        by_cases q : (g w).toInt = 59
        · rw [if_pos q, if_pos (by rw [← up w hw (Or.inr (Or.inr (Or.inr q)))]; exact q)]
        · rw [if_neg q, if_neg (fun z => q (by rw [up w hw (Or.inr (Or.inr (Or.inl z)))]; exact z))]
theorem tkT_cg {f g : Nat → Int32} {n : Nat} (h : ∀ j, j < n → zBe (f j) (g j)) : tkT f n = tkT g n := funext (zBe_c h)
def zTokC (k : pT) (p : Nat) (at_ token place value : Int32) : Prop := at_ = nI (pEn k p) ∧ token = nI (pCl k p) ∧ place = nI (pWh k p) ∧ (pCl k p = 2 → value = pNm k p)
def zTokR (k : pT) (p : Nat) (next where_ token number word : Int32) : Prop := next = nI (pEn k p) ∧ where_ = nI (pWh k p) ∧ token = nI (pTk k p) ∧ (pTk k p = 1 → number = pNm k p) ∧ (pTk k p = 3 → word = nI (pWd k p))
theorem zTokC_of {k : pT} {p w e c wd : Nat} {nm v : Int32} (h : k p = (w, e, c, wd, nm)) (hv : c = 2 → v = nm) : zTokC k p (nI e) (nI c) (nI w) v := by
  unfold zTokC pEn pCl pWh pNm
  rw [h]
  exact ⟨rfl, rfl, rfl, hv⟩
theorem zTokR_of {k : pT} {p w e c wd : Nat} {nm v wo : Int32} (t : Nat) (h : k p = (w, e, c, wd, nm)) (ht : t = if c = 1 then (if wd = 99 then 4 else 3) else if c = 2 then 1 else if c = 3 then 2 else c) (hv : t = 1 → c = 2 → v = nm) (hw : t = 3 → wo = nI wd) (hc : c ≤ 4) : zTokR k p (nI e) (nI w) (nI t) v wo := by
  have e0 : pTk k p = t := by unfold pTk pCl pWd; rw [h]; exact ht.symm
  unfold zTokR
  rw [e0]
  unfold pEn pWh pNm pWd
  rw [h]
  refine ⟨rfl, rfl, rfl, fun q => hv q ?_, hw⟩
  rw [q] at ht
  rcases (show c = 0 ∨ c = 1 ∨ c = 2 ∨ c = 3 ∨ c = 4 by omega) with z | z | z | z | z
  · subst z; simp at ht
  · subst z
    rw [if_pos rfl] at ht
    split at ht <;> exact absurd ht (by decide)
  · exact z
  · subst z; simp at ht
  · subst z; simp at ht


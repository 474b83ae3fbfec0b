/-! LINES: one who reads: the place behind which the token at hand is found, whether it broke off, the fault, its place, the greatest crossing told -/
abbrev pS : Type := Nat × Int32 × Int32 × Int32 × Int32
def pEnds (k : pT) (a : pS) : pS := if a.2.1.toInt = 0 then (a.1, 1, 1, nI (pWh k a.1), a.2.2.2.2) else a
def pAlso (kd w : Int32) (a : pS) : pS := if ¬ a.2.1.toInt = 0 ∨ (¬ a.2.2.1.toInt = 0 ∧ (a.2.2.2.1.toInt < w.toInt ∨ (a.2.2.2.1.toInt = w.toInt ∧ a.2.2.1.toInt ≤ kd.toInt))) then a else (a.1, a.2.1, kd, w, a.2.2.2.2)
def pAdv (k : pT) (a : pS) : pS := (pEn k a.1, a.2)
def pNum (k : pT) (lo hi : Int32) (a : pS) : Int32 × pS := if ¬ a.2.1.toInt = 0 ∨ ¬ pTk k a.1 = 1 then (lo, pEnds k a) else if lo.toInt ≤ (pNm k a.1).toInt ∧ (pNm k a.1).toInt ≤ hi.toInt then (pNm k a.1, pAdv k a) else (lo, pAdv k (pAlso 2 (nI (pWh k a.1)) a))
def pWord (k : pT) (lo hi : Nat) (a : pS) : Nat × pS := if ¬ a.2.1.toInt = 0 ∨ ¬ pTk k a.1 = 3 ∨ ¬ (lo ≤ pWd k a.1 ∧ pWd k a.1 ≤ hi) then (0, pEnds k a) else (pWd k a.1, pAdv k a)
def pEndL (k : pT) (a : pS) : pS := if a.2.1.toInt = 0 ∧ pTk k a.1 = 2 then pAdv k a else pEnds k a
def pFar (c : Int32) (a : pS) : pS := (a.1, a.2.1, a.2.2.1, a.2.2.2.1, if a.2.2.2.2.toInt < c.toInt then c else a.2.2.2.2)
def pCr (k : pT) (a : pS) : Int32 × pS := ((pNum k 0 6 a).1, pFar (pNum k 0 6 a).1 (pNum k 0 6 a).2)
/-- roads told of a crossing: m are there already -/
def pRoads (k : pT) : Nat → Nat → pS → (Nat → Int32) → Nat × pS × (Nat → Int32)
  | 0, m, a, f => (m, a, f)
  | i + 1, m, a, f =>
    if a.2.1.toInt = 0 ∧ pTk k a.1 = 1 then
      let r := pCr k (if m = 4 then pAlso 3 (nI (pWh k a.1)) a else a)
      pRoads k i (if m < 4 then m + 1 else 4) r.2 (if (f 0).toInt < 7 ∧ m < 4 then upd f (23 + 4 * (f 0).toInt.toNat + m) r.1 else f)
    else (m, a, f)
def pDB (m : Int) (w : Int32) (f : Nat → Int32) (a : pS) : pS := if m ≤ (f 0).toInt then pAlso 3 w a else a
def pInn (k : pT) (a : pS) (f : Nat → Int32) : pS × (Nat → Int32) := ((pCr k a).2, upd f 1 (f 1 ||| ((1 : Int32) <<< ((pCr k a).1 &&& 31))))
def pPW (k : pT) (d : Nat) (a : pS) (f : Nat → Int32) : pS × (Nat → Int32) := ((pNum k 0 (if d = 2 then 3 else 9) (pCr k a).2).2, upd f ((if d = 2 then 9 else 16) + (pCr k a).1.toInt.toNat) (pNum k 0 (if d = 2 then 3 else 9) (pCr k a).2).1)
def pCross (k : pT) (w : Int32) (a : pS) (f : Nat → Int32) : pS × (Nat → Int32) :=
  ((pRoads k 601 0 (pDB 7 w f a) f).2.1, if 7 ≤ (f 0).toInt then (pRoads k 601 0 (pDB 7 w f a) f).2.2 else upd (upd (pRoads k 601 0 (pDB 7 w f a) f).2.2 (2 + ((pRoads k 601 0 (pDB 7 w f a) f).2.2 0).toInt.toNat) (nI (pRoads k 601 0 (pDB 7 w f a) f).1)) 0 ((pRoads k 601 0 (pDB 7 w f a) f).2.2 0 + 1))
def pOther (k : pT) (d : Nat) (w : Int32) (a : pS) (f : Nat → Int32) : pS × (Nat → Int32) := if ¬ a.2.1.toInt = 0 then (a, f) else if d = 1 then pCross k w a f else if d = 4 then pInn k a f else pPW k d a f
def pLand (k : pT) (a : pS) (f : Nat → Int32) : pS × (Nat → Int32) := (pEndL k (pOther k (pWord k 1 4 a).1 (nI (pWh k a.1)) (pWord k 1 4 a).2 f).1, (pOther k (pWord k 1 4 a).1 (nI (pWh k a.1)) (pWord k 1 4 a).2 f).2)
def pDY (k : pT) (d : Nat) (a : pS) : Int32 × pS := if 8 < d then pNum k 0 3 a else (-1, a)
def pDeed (k : pT) (d : Nat) (w : Int32) (a : pS) (f : Nat → Int32) : pS × (Nat → Int32) :=
  ((pDY k d (pNum k 0 6 (pDB 40 w f a)).2).2, if (f 0).toInt < 40 then upd (upd (upd (upd f (1 + 3 * (f 0).toInt.toNat) (nI d - 5)) (2 + 3 * (f 0).toInt.toNat) (pNum k 0 6 (pDB 40 w f a)).1) (3 + 3 * (f 0).toInt.toNat) (pDY k d (pNum k 0 6 (pDB 40 w f a)).2).1) 0 (f 0 + 1) else f)
def pDay (k : pT) (a : pS) (f : Nat → Int32) : pS × (Nat → Int32) := (pEndL k (pDeed k (pWord k 5 10 a).1 (nI (pWh k a.1)) (pWord k 5 10 a).2 f).1, (pDeed k (pWord k 5 10 a).1 (nI (pWh k a.1)) (pWord k 5 10 a).2 f).2)
def pGY (k : pT) (d : Nat) (a : pS) : Int32 × pS := if d = 11 then pNum k 0 6 a else (-1, a)
def pFact (k : pT) (d : Nat) (w : Int32) (a : pS) (f : Nat → Int32) : pS × (Nat → Int32) :=
  ((pGY k d (pNum k 0 6 (pDB 8 w f a)).2).2, if (f 0).toInt < 8 then upd (upd (upd f (1 + 2 * (f 0).toInt.toNat) (pNum k 0 6 (pDB 8 w f a)).1) (2 + 2 * (f 0).toInt.toNat) (pGY k d (pNum k 0 6 (pDB 8 w f a)).2).1) 0 (f 0 + 1) else f)
def pLog (k : pT) (a : pS) (f : Nat → Int32) : pS × (Nat → Int32) := (pEndL k (pFact k (pWord k 11 12 a).1 (nI (pWh k a.1)) (pWord k 11 12 a).2 f).1, (pFact k (pWord k 11 12 a).1 (nI (pWh k a.1)) (pWord k 11 12 a).2 f).2)
def pLine (k : pT) (s : Nat) (a : pS) (f : Nat → Int32) : pS × (Nat → Int32) := if s = 0 then pLand k a f else if s = 1 then pDay k a f else pLog k a f
def pLines (k : pT) (s : Nat) : Nat → pS → (Nat → Int32) → pS × (Nat → Int32)
  | 0, a, f => (a, f)
  | i + 1, a, f => if a.2.1.toInt = 0 ∧ ¬ pTk k a.1 = 0 then pLines k s i (pLine k s a f).1 (pLine k s a f).2 else (a, f)
def pPosts (f : Nat → Int32) : Bool := (List.range 7).all (fun c => decide ((f (9 + c)).toInt = 0 ∨ (f (9 + c)).toInt < (f (2 + c)).toInt))
theorem pPosts_t {f : Nat → Int32} : pPosts f = true ↔ ∀ c, c < 7 → ((f (9 + c)).toInt = 0 ∨ (f (9 + c)).toInt < (f (2 + c)).toInt) := by
  unfold pPosts
  rw [List.all_eq_true]
  exact ⟨fun h c hc => of_decide_eq_true (h c (List.mem_range.mpr hc)), fun h c hc => decide_eq_true (h c (List.mem_range.mp hc))⟩
def pF4 (n s : Nat) (a : pS) (f : Nat → Int32) : pS := if s = 0 ∧ a.2.2.1.toInt = 0 ∧ (f 0).toInt ≤ a.2.2.2.2.toInt then pAlso 4 (nI n) a else a
def pF5 (n s : Nat) (b : pS) (f : Nat → Int32) : pS := if s = 0 ∧ b.2.2.1.toInt = 0 ∧ pPosts f = false then pAlso 5 (nI n) b else b
def pFin (n : Nat) (s : Nat) (q : pS × (Nat → Int32)) : pS × (Nat → Int32) := (pF5 n s (pF4 n s q.1 q.2) q.2, q.2)
def pRead (k : pT) (n s : Nat) : pS × (Nat → Int32) := pFin n s (pLines k s 601 (0, 0, 0, -1, -1) (fun _ => 0))
theorem pTk_le {k : pT} {n p : Nat} (h : pOk k n) (hp : p ≤ n) : pTk k p ≤ 4 := by
  have h1 := (h p hp).2.1
  unfold pTk
  repeat' split
  all_goals omega
theorem pTk_0 {k : pT} {p : Nat} : pTk k p = 0 ↔ pCl k p = 0 := by
  unfold pTk
  repeat' split
  all_goals omega
theorem pTk_1 {k : pT} {n p : Nat} (h : pOk k n) (hp : p ≤ n) : pTk k p = 1 ↔ pCl k p = 2 := by
  have h1 := (h p hp).2.1
  unfold pTk
  repeat' split
  all_goals omega
theorem pTk_2 {k : pT} {n p : Nat} (h : pOk k n) (hp : p ≤ n) : pTk k p = 2 ↔ pCl k p = 3 := by
  have h1 := (h p hp).2.1
  unfold pTk
  repeat' split
  all_goals omega
theorem pTk_3 {k : pT} {p : Nat} : pTk k p = 3 → pCl k p = 1 := by
  unfold pTk
  repeat' split
  all_goals omega
theorem pTk_3w {k : pT} {p : Nat} (h1 : pCl k p = 1) (h2 : ¬ pWd k p = 99) : pTk k p = 3 := by unfold pTk; rw [if_pos h1, if_neg h2]
theorem pNum_e {k : pT} {lo hi : Int32} {a : pS} (h : ¬ a.2.1.toInt = 0 ∨ ¬ pTk k a.1 = 1) : pNum k lo hi a = (lo, pEnds k a) := if_pos h
theorem pNum_i {k : pT} {lo hi : Int32} {a : pS} (h0 : a.2.1.toInt = 0) (h1 : pTk k a.1 = 1) (h2 : lo.toInt ≤ (pNm k a.1).toInt ∧ (pNm k a.1).toInt ≤ hi.toInt) : pNum k lo hi a = (pNm k a.1, pAdv k a) := by unfold pNum; rw [if_neg (fun q => q.elim (fun z => z h0) (fun z => z h1)), if_pos h2]
theorem pNum_o {k : pT} {lo hi : Int32} {a : pS} (h0 : a.2.1.toInt = 0) (h1 : pTk k a.1 = 1) (h2 : ¬ (lo.toInt ≤ (pNm k a.1).toInt ∧ (pNm k a.1).toInt ≤ hi.toInt)) : pNum k lo hi a = (lo, pAdv k (pAlso 2 (nI (pWh k a.1)) a)) := by unfold pNum; rw [if_neg (fun q => q.elim (fun z => z h0) (fun z => z h1)), if_neg h2]
theorem pWord_e {k : pT} {lo hi : Nat} {a : pS} (h : ¬ a.2.1.toInt = 0 ∨ ¬ pTk k a.1 = 3 ∨ ¬ (lo ≤ pWd k a.1 ∧ pWd k a.1 ≤ hi)) : pWord k lo hi a = (0, pEnds k a) := if_pos h
theorem pWord_i {k : pT} {lo hi : Nat} {a : pS} (h0 : a.2.1.toInt = 0) (h1 : pTk k a.1 = 3) (h2 : lo ≤ pWd k a.1 ∧ pWd k a.1 ≤ hi) : pWord k lo hi a = (pWd k a.1, pAdv k a) := if_neg (fun q => q.elim (fun z => z h0) (fun q => q.elim (fun z => z h1) (fun z => z h2)))
theorem pEndL_a {k : pT} {a : pS} (h : a.2.1.toInt = 0 ∧ pTk k a.1 = 2) : pEndL k a = pAdv k a := if_pos h
theorem pEndL_e {k : pT} {a : pS} (h : ¬ (a.2.1.toInt = 0 ∧ pTk k a.1 = 2)) : pEndL k a = pEnds k a := if_neg h
theorem pAlso_y {kd w : Int32} {a : pS} (h0 : a.2.1.toInt = 0) (h1 : a.2.2.1.toInt = 0) : pAlso kd w a = (a.1, a.2.1, kd, w, a.2.2.2.2) := if_neg (fun q => q.elim (fun z => z h0) (fun z => z.1 h1))
theorem pAlso_n {kd w : Int32} {a : pS} (h : ¬ a.2.1.toInt = 0 ∨ (¬ a.2.2.1.toInt = 0 ∧ (a.2.2.2.1.toInt < w.toInt ∨ (a.2.2.2.1.toInt = w.toInt ∧ a.2.2.1.toInt ≤ kd.toInt)))) : pAlso kd w a = a := if_pos h
theorem pAlso_fa {kd w : Int32} {a : pS} : (pAlso kd w a).1 = a.1 ∧ (pAlso kd w a).2.1 = a.2.1 ∧ (pAlso kd w a).2.2.2.2 = a.2.2.2.2 := by unfold pAlso; split <;> exact ⟨rfl, rfl, rfl⟩
theorem pAdv_also {k : pT} {kd w : Int32} {a : pS} : pAdv k (pAlso kd w a) = pAlso kd w (pAdv k a) := by
  unfold pAlso pAdv
  split <;> rfl
theorem pEnds_y {k : pT} {a : pS} (h : a.2.1.toInt = 0) : pEnds k a = (a.1, 1, 1, nI (pWh k a.1), a.2.2.2.2) := if_pos h
theorem pEnds_n {k : pT} {a : pS} (h : ¬ a.2.1.toInt = 0) : pEnds k a = a := if_neg h
/-! the reference's state is that of one who reads -/
def zRr (k : pT) (n : Nat) (sz nx wh tk nu wo wr fa : Int32) (g : Nat → Int32) (a : pS) : Prop :=
  (k = tkT (fun j => g (10 + j)) n ∧ (∀ j, j < n → 0 ≤ (g (10 + j)).toInt) ∧ n ≤ 600 ∧ sz = nI n ∧ a.1 ≤ n) ∧ wr = a.2.1 ∧ (a.2.1.toInt = 0 → zTokR k a.1 nx wh tk nu wo) ∧ g 5 = a.2.2.1 ∧ g 6 = a.2.2.2.1 ∧ fa = a.2.2.2.2
section ZRR
variable {k : pT} {n : Nat} {sz nx wh tk nu wo wr fa : Int32} {g : Nat → Int32} {a : pS}
theorem zRr_ok (h : zRr k n sz nx wh tk nu wo wr fa g a) : pOk k n := by rw [h.1.1]; exact tkT_ok _ _
theorem zu_10 {g : Nat → Int32} {x y : Int32} (j : Nat) : upd (upd g 5 x) 6 y (10 + j) = g (10 + j) := by unfold upd; rw [if_neg (by omega), if_neg (by omega)]
theorem zRr_g {g' : Nat → Int32} (h : k = tkT (fun j => g (10 + j)) n ∧ (∀ j, j < n → 0 ≤ (g (10 + j)).toInt) ∧ n ≤ 600 ∧ sz = nI n ∧ a.1 ≤ n) (e : ∀ j, g' (10 + j) = g (10 + j)) : k = tkT (fun j => g' (10 + j)) n ∧ (∀ j, j < n → 0 ≤ (g' (10 + j)).toInt) ∧ n ≤ 600 ∧ sz = nI n ∧ a.1 ≤ n :=
  ⟨h.1.trans (congrArg (fun q => tkT q n) (funext fun j => (e j).symm)), fun j hj => by rw [e j]; exact h.2.1 j hj, h.2.2⟩
theorem zRr_ends (h : zRr k n sz nx wh tk nu wo wr fa g a) {wr' : Int32} {g' : Nat → Int32} (hj : wr' = if wr.toInt = 0 then 1 else wr) (hg : g' = if wr.toInt = 0 then upd (upd g 5 1) 6 wh else g) : zRr k n sz nx wh tk nu wo wr' fa g' (pEnds k a) := by
  obtain ⟨h1, h6, h7, h8, h9, h10⟩ := id h
  subst h6
  by_cases c : a.2.1.toInt = 0
  · rw [pEnds_y c]
    rw [if_pos c] at hj hg
    subst hj
    subst hg
    exact ⟨zRr_g (a := a) h1 (fun j => zu_10 j), rfl, fun q => absurd (show (1 : Int32).toInt = 0 from q) (by decide), rfl, (h7 c).2.1, h10⟩
  · rw [pEnds_n c]
    rw [if_neg c] at hj hg
    subst hj
    subst hg
    exact h
theorem zRr_also (h : zRr k n sz nx wh tk nu wo wr fa g a) {kd w : Int32} {g' : Nat → Int32} (hg : g' = if ¬ wr.toInt = 0 ∨ (¬ (g 5).toInt = 0 ∧ ((g 6).toInt < w.toInt ∨ ((g 6).toInt = w.toInt ∧ (g 5).toInt ≤ kd.toInt))) then g else upd (upd g 5 kd) 6 w) : zRr k n sz nx wh tk nu wo wr fa g' (pAlso kd w a) := by
  obtain ⟨h1, h6, h7, h8, h9, h10⟩ := id h
  subst h6
  rw [h8, h9] at hg
  unfold pAlso
  split
  · rename_i c
    rw [if_pos c] at hg
    subst hg
    exact h
  · rename_i c
    rw [if_neg c] at hg
    subst hg
    exact ⟨zRr_g (a := a) h1 (fun j => zu_10 j), rfl, h7, rfl, rfl, h10⟩
theorem zRr_adv (h : zRr k n sz nx wh tk nu wo wr fa g a) {nx' wh' tk' nu' wo' : Int32} (hT : zTokR k (pEn k a.1) nx' wh' tk' nu' wo') : zRr k n sz nx' wh' tk' nu' wo' wr fa g (pAdv k a) := by
  have hk := zRr_ok h
  obtain ⟨h1, h6, h7, h8, h9, h10⟩ := id h
  exact ⟨⟨h1.1, h1.2.1, h1.2.2.1, h1.2.2.2.1, (hk a.1 h1.2.2.2.2).1.2.2⟩, h6, fun _ => hT, h8, h9, h10⟩
theorem zRr_far (h : zRr k n sz nx wh tk nu wo wr fa g a) {c fa' : Int32} (hf : fa' = if fa.toInt < c.toInt then c else fa) : zRr k n sz nx wh tk nu wo wr fa' g (pFar c a) := by
  obtain ⟨h1, h6, h7, h8, h9, h10⟩ := id h
  subst h10
  exact ⟨h1, h6, h7, h8, h9, hf⟩
end ZRR
/-! the class's state is that of one who reads -/
def pInv (k : pT) (a : pS) : Prop := a.2.1.toInt = 0 ∧ (¬ a.2.2.1.toInt = 0 → a.2.2.2.1.toInt < (pWh k a.1 : Int)) ∨ ¬ a.2.1.toInt = 0 ∧ ¬ a.2.2.1.toInt = 0
def zRc (k : pT) (n : Nat) (ft : Nat → Int32) (r0 r1 r2 r3 r4 r5 r6 r7 : Int32) (a : pS) : Prop :=
  (k = tkT ft n ∧ n ≤ 600 ∧ r2 = nI n ∧ a.1 ≤ n) ∧ r7 = a.2.1 ∧ (a.2.1.toInt = 0 → zTokC k a.1 r3 r4 r5 r6) ∧ r0 = a.2.2.1 ∧ r1 = a.2.2.2.1 ∧ pInv k a ∧ ∃ p, p ≤ n ∧ r3 = nI p
section ZRC
variable {k : pT} {n : Nat} {ft : Nat → Int32} {r0 r1 r2 r3 r4 r5 r6 r7 : Int32} {a : pS}
theorem zRc_ok (h : zRc k n ft r0 r1 r2 r3 r4 r5 r6 r7 a) : pOk k n := by rw [h.1.1]; exact tkT_ok _ _
theorem zRc_brk (h : zRc k n ft r0 r1 r2 r3 r4 r5 r6 r7 a) {u0 u1 u7 : Int32} (e0 : u0 = if r7.toInt = 0 then 1 else r0) (e1 : u1 = if r7.toInt = 0 then r5 else r1) (e7 : u7 = if r7.toInt = 0 then 1 else r7) : zRc k n ft u0 u1 r2 r3 r4 r5 r6 u7 (pEnds k a) := by
  obtain ⟨h1, h6, h7, h8, h9, h10, h11⟩ := id h
  subst h6
  by_cases c : a.2.1.toInt = 0
  · rw [pEnds_y c]
    rw [if_pos c] at e0 e1 e7
    subst e0
    subst e7
    exact ⟨h1, rfl, fun q => absurd (show (1 : Int32).toInt = 0 from q) (by decide), rfl, e1.trans (h7 c).2.2.1, Or.inr ⟨by show ¬ (1 : Int32).toInt = 0; decide, by show ¬ (1 : Int32).toInt = 0; decide⟩, h11⟩
  · rw [pEnds_n c]
    rw [if_neg c] at e0 e1 e7
    subst e0
    subst e1
    subst e7
    exact h
theorem zRc_adv (h : zRc k n ft r0 r1 r2 r3 r4 r5 r6 r7 a) (hw : a.2.1.toInt = 0) {r3' r4' r5' r6' : Int32} (hT : zTokC k (pEn k a.1) r3' r4' r5' r6') : zRc k n ft r0 r1 r2 r3' r4' r5' r6' r7 (pAdv k a) := by
  have hk := zRc_ok h
  obtain ⟨h1, h6, h7, h8, h9, h10, h11⟩ := id h
  have q1 := (hk a.1 h1.2.2.2).1
  have q2 := (hk (pEn k a.1) q1.2.2).1
  refine ⟨⟨h1.1, h1.2.1, h1.2.2.1, q1.2.2⟩, h6, fun _ => hT, h8, h9, Or.inl ⟨hw, fun q => ?_⟩, _, q2.2.2, hT.1⟩
  rcases h10 with ⟨-, z⟩ | ⟨z, -⟩
  · have z1 := z q
    show a.2.2.2.1.toInt < (pWh k (pEn k a.1) : Int)
    omega
  · exact absurd hw z
/-- a fault told of the token at hand, which then is passed -/
theorem zRc_na (h : zRc k n ft r0 r1 r2 r3 r4 r5 r6 r7 a) (hw : a.2.1.toInt = 0) (hc : ¬ pCl k a.1 = 0) {kd u0 u1 : Int32} (e0 : u0 = if r0.toInt = 0 then kd else r0) (e1 : u1 = if r0.toInt = 0 then r5 else r1) {r3' r4' r5' r6' : Int32} (hT : zTokC k (pEn k a.1) r3' r4' r5' r6') : zRc k n ft u0 u1 r2 r3' r4' r5' r6' r7 (pAdv k (pAlso kd (nI (pWh k a.1)) a)) := by
  have hk := zRc_ok h
  obtain ⟨h1, h6, h7, h8, h9, h10, h11⟩ := id h
  have q1 := hk a.1 h1.2.2.2
  have q2 := (hk (pEn k a.1) q1.1.2.2).1
  have q3 := q1.2.2.2.1 hc
  have q4 : (nI (pWh k a.1)).toInt = (pWh k a.1 : Int) := nI_toInt (by omega)
  subst h8
  subst h9
  rcases h10 with ⟨-, z⟩ | ⟨z, -⟩
  · by_cases c : a.2.2.1.toInt = 0
    · rw [pAlso_y hw c]
      rw [if_pos c] at e0 e1
      subst e0
      refine ⟨⟨h1.1, h1.2.1, h1.2.2.1, q1.1.2.2⟩, h6, fun _ => hT, rfl, e1.trans (h7 hw).2.2.1, Or.inl ⟨hw, fun q => ?_⟩, _, q2.2.2, hT.1⟩
      show (nI (pWh k a.1)).toInt < (pWh k (pEn k a.1) : Int)
      omega
    · rw [pAlso_n (Or.inr ⟨c, Or.inl (by rw [q4]; exact z c)⟩)]
      rw [if_neg c] at e0 e1
      subst e0
      subst e1
      exact zRc_adv h hw hT
  · exact absurd hw z
/-- a fault told of a place that was passed -/
theorem zRc_note (h : zRc k n ft r0 r1 r2 r3 r4 r5 r6 r7 a) (hw : a.2.1.toInt = 0) {kd w u0 u1 : Int32} (hlt : w.toInt < (pWh k a.1 : Int)) (hle : ¬ a.2.2.1.toInt = 0 → a.2.2.2.1.toInt < w.toInt ∨ (a.2.2.2.1.toInt = w.toInt ∧ a.2.2.1.toInt ≤ kd.toInt)) (e0 : u0 = if r0.toInt = 0 then kd else r0) (e1 : u1 = if r0.toInt = 0 then w else r1) : zRc k n ft u0 u1 r2 r3 r4 r5 r6 r7 (pAlso kd w a) := by
  obtain ⟨h1, h6, h7, h8, h9, h10, h11⟩ := id h
  subst h8
  subst h9
  by_cases c : a.2.2.1.toInt = 0
  · rw [pAlso_y hw c]
    rw [if_pos c] at e0 e1
    subst e0
    subst e1
    exact ⟨h1, h6, h7, rfl, rfl, Or.inl ⟨hw, fun _ => hlt⟩, h11⟩
  · rw [pAlso_n (Or.inr ⟨c, hle c⟩)]
    rw [if_neg c] at e0 e1
    subst e0
    subst e1
    exact h
theorem zRc_far (h : zRc k n ft r0 r1 r2 r3 r4 r5 r6 r7 a) (c : Int32) : zRc k n ft r0 r1 r2 r3 r4 r5 r6 r7 (pFar c a) := h
theorem zRc_any (h : zRc k n ft r0 r1 r2 r3 r4 r5 r6 r7 a) (hw : ¬ a.2.1.toInt = 0) {r3' r4' r5' r6' : Int32} (h3 : ∃ p, p ≤ n ∧ r3' = nI p) : zRc k n ft r0 r1 r2 r3' r4' r5' r6' r7 a := by
  obtain ⟨h1, h6, h7, h8, h9, h10, h11⟩ := id h
  exact ⟨h1, h6, fun q => absurd q hw, h8, h9, h10, h3⟩
end ZRC


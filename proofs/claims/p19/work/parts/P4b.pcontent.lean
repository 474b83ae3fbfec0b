section PG
variable {k : pT} {n : Nat} {lo hi : Int32} {a : pS}
theorem pEnds_f (h : pInv k a) : ¬ (pEnds k a).2.2.1.toInt = 0 := by
  by_cases c : a.2.1.toInt = 0
  · rw [pEnds_y c]; show ¬ (1 : Int32).toInt = 0; decide
  · rw [pEnds_n c]
    rcases h with z | z
    · exact absurd z.1 c
    · exact z.2
theorem pAlso_f {kd w : Int32} (hk : ¬ kd.toInt = 0) (h0 : a.2.1.toInt = 0) : ¬ (pAlso kd w a).2.2.1.toInt = 0 := by
  unfold pAlso
  split
  · rename_i c
    rcases c with c | c
    · exact absurd h0 c
    · exact c.1
  · exact hk
/-- a number that makes no fault: what it was -/
theorem pNum_g (hI : pInv k a) (h : (pNum k lo hi a).2.2.2.1.toInt = 0) : a.2.1.toInt = 0 ∧ pTk k a.1 = 1 ∧ a.2.2.1.toInt = 0 ∧ (lo.toInt ≤ (pNm k a.1).toInt ∧ (pNm k a.1).toInt ≤ hi.toInt) ∧ pNum k lo hi a = (pNm k a.1, pAdv k a) := by
  by_cases c0 : a.2.1.toInt = 0
  · by_cases c1 : pTk k a.1 = 1
    · by_cases c2 : lo.toInt ≤ (pNm k a.1).toInt ∧ (pNm k a.1).toInt ≤ hi.toInt
      · rw [pNum_i c0 c1 c2] at h
        exact ⟨c0, c1, h, c2, pNum_i c0 c1 c2⟩
      · rw [pNum_o c0 c1 c2] at h
        exact absurd h (pAlso_f (by decide) c0)
    · rw [pNum_e (Or.inr c1)] at h
      exact absurd h (pEnds_f hI)
  · rw [pNum_e (Or.inl c0)] at h
    exact absurd h (pEnds_f hI)
/-- the fault of a road too many is told before its number, or behind it -/
theorem pNum_also (hk : pOk k n) (hp : a.1 ≤ n) (hn : n ≤ 600) (hI : pInv k a) (hw : a.2.1.toInt = 0) (ht : pTk k a.1 = 1) : pNum k 0 6 (pAlso 3 (nI (pWh k a.1)) a) = ((pNum k 0 6 a).1, pAlso 3 (nI (pWh k a.1)) (pNum k 0 6 a).2) := by
  have q4 : (nI (pWh k a.1)).toInt = (pWh k a.1 : Int) := nI_toInt (by have := (hk a.1 hp).1; omega)
  by_cases c : a.2.2.1.toInt = 0
  · rw [pAlso_y hw c]
    by_cases c2 : (0 : Int32).toInt ≤ (pNm k a.1).toInt ∧ (pNm k a.1).toInt ≤ (6 : Int32).toInt
    · rw [pNum_i (a := (a.1, a.2.1, 3, nI (pWh k a.1), a.2.2.2.2)) hw ht c2, pNum_i hw ht c2]
      show _ = (_, pAlso 3 _ (pAdv k a))
      rw [pAlso_y (a := pAdv k a) hw c]
      rfl
    · rw [pNum_o (a := (a.1, a.2.1, 3, nI (pWh k a.1), a.2.2.2.2)) hw ht c2, pNum_o hw ht c2]
      have e1 : pAlso 2 (nI (pWh k a.1)) (a.1, a.2.1, 3, nI (pWh k a.1), a.2.2.2.2) = (a.1, a.2.1, 2, nI (pWh k a.1), a.2.2.2.2) := by
        unfold pAlso
        rw [if_neg]
        rintro (z | ⟨-, z | ⟨-, z⟩⟩)
        · exact z hw
        · exact absurd z (Int.lt_irrefl _)
        · exact absurd z (by show ¬ (3 : Int32).toInt ≤ (2 : Int32).toInt; decide)
      show (_, pAdv k (pAlso 2 _ _)) = (_, pAlso 3 _ (pAdv k (pAlso 2 _ a)))
      have e2 : pAlso 3 (nI (pWh k a.1)) (pAdv k (a.1, a.2.1, 2, nI (pWh k a.1), a.2.2.2.2)) = pAdv k (a.1, a.2.1, 2, nI (pWh k a.1), a.2.2.2.2) := pAlso_n (Or.inr ⟨(by show ¬ (2 : Int32).toInt = 0; decide), Or.inr ⟨rfl, (by show (2 : Int32).toInt ≤ (3 : Int32).toInt; decide)⟩⟩)
      rw [e1, pAlso_y (kd := 2) hw c, e2]
  · have hf : a.2.2.2.1.toInt < (nI (pWh k a.1)).toInt := by
      rcases hI with ⟨-, z⟩ | ⟨z, -⟩
      · rw [q4]; exact z c
      · exact absurd hw z
    rw [pAlso_n (kd := 3) (a := a) (Or.inr ⟨c, Or.inl hf⟩)]
    by_cases c2 : (0 : Int32).toInt ≤ (pNm k a.1).toInt ∧ (pNm k a.1).toInt ≤ (6 : Int32).toInt
    · rw [pNum_i hw ht c2]
      show _ = (_, pAlso 3 _ (pAdv k a))
      rw [pAlso_n (a := pAdv k a) (Or.inr ⟨c, Or.inl hf⟩)]
    · rw [pNum_o hw ht c2]
      show _ = (_, pAlso 3 _ (pAdv k (pAlso 2 _ a)))
      rw [pAlso_n (kd := 2) (a := a) (Or.inr ⟨c, Or.inl hf⟩), pAlso_n (a := pAdv k a) (Or.inr ⟨c, Or.inl hf⟩)]
theorem pRoads_x {i m : Nat} {f : Nat → Int32} (h : ¬ (a.2.1.toInt = 0 ∧ pTk k a.1 = 1)) : pRoads k i m a f = (m, a, f) := by
  cases i with
  | zero => rfl
  | succ i => unfold pRoads; rw [if_neg h]
theorem pRoads_s {i m : Nat} {f : Nat → Int32} (h : a.2.1.toInt = 0 ∧ pTk k a.1 = 1) : pRoads k (i + 1) m a f = pRoads k i (if m < 4 then m + 1 else 4) (pCr k (if m = 4 then pAlso 3 (nI (pWh k a.1)) a else a)).2 (if (f 0).toInt < 7 ∧ m < 4 then upd f (23 + 4 * (f 0).toInt.toNat + m) (pCr k (if m = 4 then pAlso 3 (nI (pWh k a.1)) a else a)).1 else f) := by
  conv => lhs; unfold pRoads
  rw [if_pos h]
theorem pLines_x {s i : Nat} {f : Nat → Int32} (h : ¬ (a.2.1.toInt = 0 ∧ ¬ pTk k a.1 = 0)) : pLines k s i a f = (a, f) := by
  cases i with
  | zero => rfl
  | succ i => unfold pLines; rw [if_neg h]
theorem pLines_s {s i : Nat} {f : Nat → Int32} (h : a.2.1.toInt = 0 ∧ ¬ pTk k a.1 = 0) : pLines k s (i + 1) a f = pLines k s i (pLine k s a f).1 (pLine k s a f).2 := by
  conv => lhs; unfold pLines
  rw [if_pos h]
end PG
/-! what the class keeps of a text, while there is no fault -/
def zTof (tof fa : Int32) : Prop := ∃ t : Nat, t < 128 ∧ tof = nI t ∧ (-1 ≤ fa.toInt ∧ fa.toInt ≤ 6) ∧ ∀ d : Nat, d ≤ 7 → (t / 2 ^ d = 0 ↔ fa.toInt < (d : Int))
theorem zTof_k1 : ∀ t, t < 128 → ∀ c, c < 7 → (nI t ||| ((1 : Int32) <<< (nI c &&& 31))) = nI (t ||| 2 ^ c) ∧ (t ||| 2 ^ c) < 128 := by decide +kernel
theorem zTof_k2 : ∀ t, t < 128 → ∀ c, c < 7 → ∀ d, d < 8 → ((t ||| 2 ^ c) / 2 ^ d = 0 ↔ t / 2 ^ d = 0 ∧ c < d) := by decide +kernel
theorem z_nI {x : Int32} {m : Nat} (h : x.toInt = (m : Int)) (hm : m < 2147483648) : x = nI m := Int32.toInt_inj.mp (by rw [h, nI_toInt hm])
theorem zTof_tell {tof fa c : Int32} (h : zTof tof fa) (hc : 0 ≤ c.toInt ∧ c.toInt ≤ 6) : zTof (tof ||| ((1 : Int32) <<< (c &&& 31))) (if fa.toInt < c.toInt then c else fa) := by
  obtain ⟨t, ht, rfl, hf, hd⟩ := h
  have ec : c = nI c.toInt.toNat := z_nI (by omega) (by omega)
  have k1 := zTof_k1 t ht c.toInt.toNat (by omega)
  rw [← ec] at k1
  refine ⟨t ||| 2 ^ c.toInt.toNat, k1.2, k1.1, ?_, fun d hd8 => ?_⟩
  · split <;> omega
  · rw [zTof_k2 t ht c.toInt.toNat (by omega) d (by omega), hd d hd8]
    split <;> omega
theorem zTof_0 : zTof 0 (-1) := ⟨0, by decide, rfl, by decide, fun d hd => ⟨fun _ => by show (-1 : Int32).toInt < (d : Int); have : (-1 : Int32).toInt = -1 := rfl; omega, fun _ => Nat.zero_div _⟩⟩
def zLc (cr inn : Int32) (k1 k2 k3 k4 : Nat → Int32) (tof : Int32) (a : pS) (f : Nat → Int32) : Prop := a.2.2.1.toInt = 0 → cr = f 0 ∧ (0 ≤ (f 0).toInt ∧ (f 0).toInt ≤ 7) ∧ inn = f 1 ∧ (∀ j : Nat, j < 7 → k1 j = f (2 + j) ∧ k3 j = f (9 + j) ∧ k4 j = f (16 + j)) ∧ (∀ j : Nat, j < 7 → (f 0).toInt ≤ (j : Int) → k1 j = 0) ∧ (∀ j r : Nat, j < 7 → r < 4 → (r : Int) < (k1 j).toInt → k2 (4 * j + r) = f (23 + 4 * j + r)) ∧ zTof tof a.2.2.2.2
/-- between the roads of a crossing c: m are told -/
def zLr (c cr inn : Int32) (k1 k2 k3 k4 : Nat → Int32) (tof : Int32) (m : Nat) (a : pS) (f : Nat → Int32) : Prop := a.2.2.1.toInt = 0 → c = f 0 ∧ (0 ≤ c.toInt ∧ c.toInt < 7) ∧ cr.toInt = c.toInt + 1 ∧ inn = f 1 ∧ (k1 c.toInt.toNat = nI m ∧ m ≤ 4) ∧ (∀ j : Nat, j < 7 → ¬ j = c.toInt.toNat → k1 j = f (2 + j)) ∧ (∀ j : Nat, j < 7 → c.toInt < (j : Int) → k1 j = 0) ∧ (∀ j : Nat, j < 7 → k3 j = f (9 + j) ∧ k4 j = f (16 + j)) ∧ (∀ j r : Nat, j < 7 → r < 4 → (r : Int) < (k1 j).toInt → k2 (4 * j + r) = f (23 + 4 * j + r)) ∧ zTof tof a.2.2.2.2
def zDc (dd : Int32) (d1 d2 d3 : Nat → Int32) (a : pS) (f : Nat → Int32) : Prop := a.2.2.1.toInt = 0 → dd = f 0 ∧ (0 ≤ (f 0).toInt ∧ (f 0).toInt ≤ 40) ∧ ∀ j : Nat, (j : Int) < (f 0).toInt → d1 j = f (1 + 3 * j) ∧ d2 j = f (2 + 3 * j) ∧ d3 j = f (3 + 3 * j)
def zGc (gg : Int32) (e1 e2 : Nat → Int32) (a : pS) (f : Nat → Int32) : Prop := a.2.2.1.toInt = 0 → gg = f 0 ∧ (0 ≤ (f 0).toInt ∧ (f 0).toInt ≤ 8) ∧ ∀ j : Nat, (j : Int) < (f 0).toInt → e1 j = f (1 + 2 * j) ∧ e2 j = f (2 + 2 * j)
theorem z_ne {g : Nat → Int32} {i j : Nat} {v : Int32} (h : ¬ i = j) : upd g j v i = g i := if_neg h
theorem z_eq {g : Nat → Int32} {i j : Nat} {v : Int32} (h : i = j) : upd g j v i = v := if_pos h
/-- many told already: with the fault or without, it is the same -/
theorem pDB_n {k : pT} {n : Nat} {a : pS} {m : Int} {f : Nat → Int32} (hk : pOk k n) (hp : a.1 ≤ n) (hn : n ≤ 600) (hI : pInv k a) (hw : a.2.1.toInt = 0) (hf : ¬ a.2.2.1.toInt = 0) : pDB m (nI (pWh k a.1)) f (pAdv k a) = pAdv k a ∧ pAlso 3 (nI (pWh k a.1)) a = a := by
  have q4 : (nI (pWh k a.1)).toInt = (pWh k a.1 : Int) := nI_toInt (by have := (hk a.1 hp).1; omega)
  have hl : a.2.2.2.1.toInt < (nI (pWh k a.1)).toInt := by
    rcases hI with ⟨-, z⟩ | ⟨z, -⟩
    · rw [q4]; exact z hf
    · exact absurd hw z
  refine ⟨?_, pAlso_n (Or.inr ⟨hf, Or.inl hl⟩)⟩
  unfold pDB
  split
  · exact pAlso_n (a := pAdv k a) (Or.inr ⟨hf, Or.inl hl⟩)
  · rfl
section ZD
variable {k : pT} {n : Nat} {ft : Nat → Int32} {r0 r1 r2 r3 r4 r5 r6 r7 : Int32} {a : pS}
theorem zRc_d1 (h : zRc k n ft r0 r1 r2 r3 r4 r5 r6 r7 a) (hw : a.2.1.toInt = 0) (hc : ¬ pCl k a.1 = 0) {dd : Int32} {f : Nat → Int32} {m : Int} (hd : a.2.2.1.toInt = 0 → dd = f 0) (hm : m ≤ dd.toInt) {u0 u1 : Int32} (e0 : u0 = if r0.toInt = 0 then 3 else r0) (e1 : u1 = if r0.toInt = 0 then r5 else r1) {r3' r4' r5' r6' : Int32} (hT : zTokC k (pEn k a.1) r3' r4' r5' r6') : zRc k n ft u0 u1 r2 r3' r4' r5' r6' r7 (pDB m (nI (pWh k a.1)) f (pAdv k a)) := by
  have hk := zRc_ok h
  have h2 := zRc_na h hw hc e0 e1 hT
  by_cases c : a.2.2.1.toInt = 0
  · unfold pDB
    rw [if_pos (by rw [← hd c]; exact hm), ← pAdv_also]
    exact h2
  · have q := pDB_n (m := m) (f := f) hk h.1.2.2.2 h.1.2.1 h.2.2.2.2.2.1 hw c
    rw [q.2] at h2
    rw [q.1]
    exact h2
theorem zRc_d0 (h : zRc k n ft r0 r1 r2 r3 r4 r5 r6 r7 a) (hw : a.2.1.toInt = 0) {dd : Int32} {f : Nat → Int32} {m : Int} (hd : a.2.2.1.toInt = 0 → dd = f 0) (hm : dd.toInt < m) {r3' r4' r5' r6' : Int32} (hT : zTokC k (pEn k a.1) r3' r4' r5' r6') : zRc k n ft r0 r1 r2 r3' r4' r5' r6' r7 (pDB m (nI (pWh k a.1)) f (pAdv k a)) := by
  have hk := zRc_ok h
  have h2 := zRc_adv h hw hT
  by_cases c : a.2.2.1.toInt = 0
  · unfold pDB
    rw [if_neg (by rw [← hd c]; omega)]
    exact h2
  · rw [(pDB_n (m := m) (f := f) hk h.1.2.2.2 h.1.2.1 h.2.2.2.2.2.1 hw c).1]
    exact h2
end ZD
theorem pDB_g {k : pT} {m : Int} {w : Int32} {f : Nat → Int32} {a : pS} (hw : a.2.1.toInt = 0) (h : (pDB m w f a).2.2.1.toInt = 0) : (f 0).toInt < m ∧ pDB m w f a = a := by
  unfold pDB at h ⊢
  split at h
  · exact absurd h (pAlso_f (by decide) hw)
  · rename_i c
    exact ⟨by omega, if_neg c⟩
theorem z_d5 : ∀ d, d < 11 → 5 ≤ d → nI d - 5 = Int32.ofNat (d - 5) := by decide +kernel
theorem pDY_g {k : pT} {d : Nat} {a : pS} (hI : pInv k a) (h : (pDY k d a).2.2.2.1.toInt = 0) : a.2.2.1.toInt = 0 := by
  unfold pDY at h
  split at h
  · exact (pNum_g hI h).2.2.1
  · exact h
theorem pGY_g {k : pT} {d : Nat} {a : pS} (hI : pInv k a) (h : (pGY k d a).2.2.2.1.toInt = 0) : a.2.2.1.toInt = 0 := by
  unfold pGY at h
  split at h
  · exact (pNum_g hI h).2.2.1
  · exact h
theorem pDeed_1 {k : pT} {d : Nat} {w : Int32} {a b : pS} {f : Nat → Int32} (hb : b = pDB 40 w f a) : (pDeed k d w a f).1 = (pDY k d (pNum k 0 6 b).2).2 := by subst hb; rfl
theorem pFact_1 {k : pT} {d : Nat} {w : Int32} {a b : pS} {f : Nat → Int32} (hb : b = pDB 8 w f a) : (pFact k d w a f).1 = (pGY k d (pNum k 0 6 b).2).2 := by subst hb; rfl
theorem pDY_hi {k : pT} {d : Nat} {a : pS} (h : 8 < d) : pDY k d a = pNum k 0 3 a := if_pos h
theorem pDY_lo {k : pT} {d : Nat} {a : pS} (h : ¬ 8 < d) : pDY k d a = (-1, a) := if_neg h
theorem pGY_hi {k : pT} {d : Nat} {a : pS} (h : d = 11) : pGY k d a = pNum k 0 6 a := if_pos h
theorem pGY_lo {k : pT} {d : Nat} {a : pS} (h : ¬ d = 11) : pGY k d a = (-1, a) := if_neg h
theorem zDc_step {k : pT} {d : Nat} {w dd x c r : Int32} {d1 d2 d3 f : Nat → Int32} {a : pS} (h : zDc dd d1 d2 d3 a f) (hw : a.2.1.toInt = 0) (hd : 5 ≤ d ∧ d ≤ 10) (hx : x = nI d - 5) (hB : pInv k (pDB 40 w f a)) (hX : pInv k (pNum k 0 6 (pDB 40 w f a)).2) (hc : (pNum k 0 6 (pDB 40 w f a)).2.2.2.1.toInt = 0 → c = (pNum k 0 6 (pDB 40 w f a)).1) (hr : (pDY k d (pNum k 0 6 (pDB 40 w f a)).2).2.2.2.1.toInt = 0 → r = (pDY k d (pNum k 0 6 (pDB 40 w f a)).2).1) : zDc (zDN dd) (zDA dd d1 x) (zDA dd d2 c) (zDA dd d3 r) (pDeed k d w a f).1 (pDeed k d w a f).2 := by
  intro q
  have q : (pDY k d (pNum k 0 6 (pDB 40 w f a)).2).2.2.2.1.toInt = 0 := q
  have q1 := pDY_g hX q
  have q2 := (pNum_g hB q1).2.2.1
  obtain ⟨q3, q4⟩ := pDB_g (k := k) hw q2
  rw [q4] at q2
  obtain ⟨e, hb, hj⟩ := h q2
  have ec := hc q1
  have er := hr q
  have em : (dd.toNatClampNeg : Nat) = (f 0).toInt.toNat := by rw [e]; rfl
  have ei : (f 0 + 1).toInt = (f 0).toInt + 1 := z_p1 (by omega) (by omega)
  have hin : 0 ≤ dd.toInt ∧ dd.toInt < 40 := by rw [e]; omega
  have e2 : (pDeed k d w a f).2 = upd (upd (upd (upd f (1 + 3 * (f 0).toInt.toNat) (nI d - 5)) (2 + 3 * (f 0).toInt.toNat) (pNum k 0 6 (pDB 40 w f a)).1) (3 + 3 * (f 0).toInt.toNat) (pDY k d (pNum k 0 6 (pDB 40 w f a)).2).1) 0 (f 0 + 1) := if_pos q3
  have e0 : (pDeed k d w a f).2 0 = f 0 + 1 := by rw [e2]; exact z_eq rfl
  rw [e0, ei]
  unfold zDN zDA
  rw [if_pos hin, if_pos hin, if_pos hin, if_pos hin, em, e2]
  refine ⟨by rw [e], by omega, fun j hj2 => ?_⟩
  by_cases c1 : j = (f 0).toInt.toNat
  · subst c1
    refine ⟨?_, ?_, ?_⟩
    · rw [z_eq rfl, z_ne (by omega), z_ne (by omega), z_ne (by omega), z_eq rfl]; exact hx
    · rw [z_eq rfl, z_ne (by omega), z_ne (by omega), z_eq rfl]; exact ec
    · rw [z_eq rfl, z_ne (by omega), z_eq rfl]; exact er
  · obtain ⟨j1, j2, j3⟩ := hj j (by omega)
    refine ⟨?_, ?_, ?_⟩
    · rw [z_ne c1, z_ne (by omega), z_ne (by omega), z_ne (by omega), z_ne (by omega)]; exact j1
    · rw [z_ne c1, z_ne (by omega), z_ne (by omega), z_ne (by omega), z_ne (by omega)]; exact j2
    · rw [z_ne c1, z_ne (by omega), z_ne (by omega), z_ne (by omega), z_ne (by omega)]; exact j3
theorem zGc_step {k : pT} {d : Nat} {w gg c r : Int32} {d1 d2 f : Nat → Int32} {a : pS} (h : zGc gg d1 d2 a f) (hw : a.2.1.toInt = 0) (hB : pInv k (pDB 8 w f a)) (hX : pInv k (pNum k 0 6 (pDB 8 w f a)).2) (hc : (pNum k 0 6 (pDB 8 w f a)).2.2.2.1.toInt = 0 → c = (pNum k 0 6 (pDB 8 w f a)).1) (hr : (pGY k d (pNum k 0 6 (pDB 8 w f a)).2).2.2.2.1.toInt = 0 → r = (pGY k d (pNum k 0 6 (pDB 8 w f a)).2).1) : zGc (zGN gg) (zGA gg d1 c) (zGA gg d2 r) (pFact k d w a f).1 (pFact k d w a f).2 := by
  intro q
  have q : (pGY k d (pNum k 0 6 (pDB 8 w f a)).2).2.2.2.1.toInt = 0 := q
  have q1 := pGY_g hX q
  have q2 := (pNum_g hB q1).2.2.1
  obtain ⟨q3, q4⟩ := pDB_g (k := k) hw q2
  rw [q4] at q2
  obtain ⟨e, hb, hj⟩ := h q2
  have ec := hc q1
  have er := hr q
  have em : (gg.toNatClampNeg : Nat) = (f 0).toInt.toNat := by rw [e]; rfl
  have ei : (f 0 + 1).toInt = (f 0).toInt + 1 := z_p1 (by omega) (by omega)
  have hin : 0 ≤ gg.toInt ∧ gg.toInt < 8 := by rw [e]; omega
  have e2 : (pFact k d w a f).2 = upd (upd (upd f (1 + 2 * (f 0).toInt.toNat) (pNum k 0 6 (pDB 8 w f a)).1) (2 + 2 * (f 0).toInt.toNat) (pGY k d (pNum k 0 6 (pDB 8 w f a)).2).1) 0 (f 0 + 1) := if_pos q3
  have e0 : (pFact k d w a f).2 0 = f 0 + 1 := by rw [e2]; exact z_eq rfl
  rw [e0, ei]
  unfold zGN zGA
  rw [if_pos hin, if_pos hin, if_pos hin, em, e2]
  refine ⟨by rw [e], by omega, fun j hj2 => ?_⟩
  by_cases c1 : j = (f 0).toInt.toNat
  · subst c1
    refine ⟨?_, ?_⟩
    · rw [z_eq rfl, z_ne (by omega), z_ne (by omega), z_eq rfl]; exact ec
    · rw [z_eq rfl, z_ne (by omega), z_eq rfl]; exact er
  · obtain ⟨j1, j2⟩ := hj j (by omega)
    refine ⟨?_, ?_⟩
    · rw [z_ne c1, z_ne (by omega), z_ne (by omega), z_ne (by omega)]; exact j1
    · rw [z_ne c1, z_ne (by omega), z_ne (by omega), z_ne (by omega)]; exact j2
theorem pCr_f {k : pT} {a : pS} : (pCr k a).2.2.2.1 = (pNum k 0 6 a).2.2.2.1 := rfl
/-- a crossing's roads begin -/
theorem zLr_in {k : pT} {cr inn tof : Int32} {k1 k2 k3 k4 f : Nat → Int32} {w : Int32} {a : pS} (h : zLc cr inn k1 k2 k3 k4 tof a f) (hw : a.2.1.toInt = 0) {cr' : Int32} (hcr : cr.toInt < 7 → cr' = cr + 1) : zLr cr cr' inn k1 k2 k3 k4 tof 0 (pDB 7 w f a) f := by
  intro q
  obtain ⟨q1, q2⟩ := pDB_g (k := k) hw q
  rw [q2] at q ⊢
  obtain ⟨e, hb, hi, hj, hz, hl, ht⟩ := h q
  have e1 : cr.toInt = (f 0).toInt := by rw [e]
  refine ⟨e, by omega, ?_, hi, ⟨hz _ (by omega) (by omega), by omega⟩, fun j hj1 _ => (hj j hj1).1, fun j hj1 hj2 => hz j hj1 (by omega), fun j hj1 => (hj j hj1).2, hl, ht⟩
  rw [hcr (by omega)]
  exact z_p1 (by omega) (by omega)
/-- one road more -/
theorem zLr_step {k : pT} {n : Nat} {c cr inn tof to : Int32} {k1 k2 k3 k4 f : Nat → Int32} {m : Nat} {a : pS} (h : zLr c cr inn k1 k2 k3 k4 tof m a f) (hk : pOk k n) (hp : a.1 ≤ n) (hn : n ≤ 600) (hI : pInv k a) (hw : a.2.1.toInt = 0) (ht : pTk k a.1 = 1) (hm : m ≤ 4)
    (hto : (pNum k 0 6 a).2.2.2.1.toInt = 0 → to = (pNum k 0 6 a).1) : zLr c cr inn (zAddA cr k1 c) (zAddB cr k1 k2 c to) k3 k4 (if 0 ≤ to.toInt ∧ to.toInt < 7 then tof ||| ((1 : Int32) <<< (to &&& 31)) else tof) (if m < 4 then m + 1 else 4) (pCr k (if m = 4 then pAlso 3 (nI (pWh k a.1)) a else a)).2 (if (f 0).toInt < 7 ∧ m < 4 then upd f (23 + 4 * (f 0).toInt.toNat + m) (pCr k (if m = 4 then pAlso 3 (nI (pWh k a.1)) a else a)).1 else f) := by
  intro q
  rw [pCr_f] at q
  by_cases cm : m = 4
  · rw [if_pos cm, pNum_also hk hp hn hI hw ht] at q
    have q : (pAlso 3 (nI (pWh k a.1)) (pNum k 0 6 a).2).2.2.1.toInt = 0 := q
    have hb : (pNum k 0 6 a).2.2.1.toInt = 0 := by
      by_cases c2 : (0 : Int32).toInt ≤ (pNm k a.1).toInt ∧ (pNm k a.1).toInt ≤ (6 : Int32).toInt
      · rw [pNum_i hw ht c2]; exact hw
      · rw [pNum_o hw ht c2]; show (pAlso 2 _ a).2.1.toInt = 0; rw [pAlso_fa.2.1]; exact hw
    exact absurd q (pAlso_f (by decide) hb)
  · rw [if_neg cm] at q ⊢
    obtain ⟨q0, q1, q2, q3, q4⟩ := pNum_g hI q
    have et := hto q
    obtain ⟨e, hb, hcr, hi, ⟨hk1, hm4⟩, hj, hz, hx, hl, hT⟩ := h q2
    have ec : c.toInt.toNat = (f 0).toInt.toNat := by rw [e]
    have hf7 : (f 0).toInt < 7 := by rw [← e]; omega
    have z6 : (6 : Int32).toInt = 6 := rfl
    have z0 : (0 : Int32).toInt = 0 := rfl
    have e1 : (pCr k a).1 = pNm k a.1 := by show (pNum k 0 6 a).1 = _; rw [q4]
    have e2 : to = pNm k a.1 := by rw [et, q4]
    have e3 : (pCr k a).2.2.2.2.2 = if a.2.2.2.2.toInt < (pNm k a.1).toInt then pNm k a.1 else a.2.2.2.2 := by show (pFar (pNum k 0 6 a).1 (pNum k 0 6 a).2).2.2.2.2 = _; rw [q4]; rfl
    rw [if_pos (show m < 4 by omega), if_pos ⟨hf7, by omega⟩, e1, e3, e2]
    rw [if_pos (show 0 ≤ (pNm k a.1).toInt ∧ (pNm k a.1).toInt < 7 by omega)]
    have hkm : (k1 c.toInt.toNat).toInt = (m : Int) := by rw [hk1]; exact nI_toInt (by omega)
    have hin : 0 ≤ c.toInt ∧ c.toInt < cr.toInt ∧ c.toInt < 7 ∧ (k1 c.toNatClampNeg).toInt < 4 := ⟨hb.1, by omega, hb.2, by show (k1 c.toInt.toNat).toInt < 4; omega⟩
    have eA : zAddA cr k1 c = upd k1 c.toInt.toNat (k1 c.toInt.toNat + 1) := by unfold zAddA; exact if_pos hin
    have eB : zAddB cr k1 k2 c (pNm k a.1) = upd k2 (4 * c.toInt.toNat + m) (pNm k a.1) := by
      unfold zAddB
      rw [if_pos hin]
      exact congrArg (fun z => upd k2 z (pNm k a.1)) (by show 4 * c.toInt.toNat + (k1 c.toInt.toNat).toInt.toNat = _; omega)
    rw [eA, eB, ← ec]
    have hs : k1 c.toInt.toNat + 1 = nI (m + 1) := by rw [hk1]; exact z_inc m 1
    have up : ∀ i, i < 23 → upd f (23 + 4 * c.toInt.toNat + m) (pNm k a.1) i = f i := fun i hi => z_ne (by omega)
    refine ⟨by rw [up 0 (by omega)]; exact e, hb, hcr, by rw [up 1 (by omega)]; exact hi, ⟨by rw [z_eq rfl]; exact hs, by omega⟩, fun j h1 h2 => by rw [z_ne h2, up _ (by omega)]; exact hj j h1 h2, fun j h1 h2 => by rw [z_ne (by omega)]; exact hz j h1 h2, fun j h1 => by rw [up _ (by omega), up _ (by omega)]; exact hx j h1, fun j r h1 h2 h3 => ?_, zTof_tell hT (by omega)⟩
    by_cases cj : j = c.toInt.toNat
    · subst cj
      rw [z_eq rfl, hs, nI_toInt (by omega)] at h3
      by_cases cr2 : r = m
      · subst cr2
        rw [z_eq rfl, z_eq (by omega)]
      · rw [z_ne (by omega), z_ne (by omega)]
        exact hl _ r h1 h2 (by omega)
    · rw [z_ne cj] at h3
      rw [z_ne (by omega), z_ne (by omega)]
      exact hl j r h1 h2 h3
/-- the crossing's roads are told -/
theorem zLr_out {c cr inn tof : Int32} {k1 k2 k3 k4 f : Nat → Int32} {m : Nat} {a : pS} (h : zLr c cr inn k1 k2 k3 k4 tof m a f) : zLc cr inn k1 k2 k3 k4 tof a (upd (upd f (2 + (f 0).toInt.toNat) (nI m)) 0 (f 0 + 1)) := by
  intro q
  obtain ⟨e, hb, hcr, hi, ⟨hk1, hm4⟩, hj, hz, hx, hl, hT⟩ := h q
  have ec : c.toInt.toNat = (f 0).toInt.toNat := by rw [e]
  have e0 : upd (upd f (2 + (f 0).toInt.toNat) (nI m)) 0 (f 0 + 1) 0 = f 0 + 1 := z_eq rfl
  have ei : (f 0 + 1).toInt = (f 0).toInt + 1 := z_p1 (by rw [← e]; omega) (by rw [← e]; omega)
  have e1 : (f 0).toInt = c.toInt := by rw [e]
  rw [e0]
  refine ⟨Int32.toInt_inj.mp (by omega), by omega, by rw [z_ne (by omega), z_ne (by omega)]; exact hi, fun j h1 => ⟨?_, ?_⟩, fun j h1 h2 => hz j h1 (by omega), fun j r h1 h2 h3 => by rw [z_ne (by omega), z_ne (by omega)]; exact hl j r h1 h2 h3, hT⟩
  · by_cases cj : j = c.toInt.toNat
    · subst cj
      rw [z_ne (by omega), z_eq (by omega)]
      exact hk1
    · rw [z_ne (by omega), z_ne (by omega)]
      exact hj j h1 cj
  · rw [z_ne (by omega), z_ne (by omega), z_ne (by omega), z_ne (by omega)]
    exact hx j h1
/-- a post, walkers, an inn told -/
theorem zLc_inn {k : pT} {cr inn tof to : Int32} {k1 k2 k3 k4 f : Nat → Int32} {a : pS} (h : zLc cr inn k1 k2 k3 k4 tof a f) (hI : pInv k a) (hto : (pNum k 0 6 a).2.2.2.1.toInt = 0 → to = (pNum k 0 6 a).1) : zLc cr (inn ||| (if 0 ≤ to.toInt ∧ to.toInt < 7 then (1 : Int32) <<< (to &&& 31) else 0)) k1 k2 k3 k4 (if 0 ≤ to.toInt ∧ to.toInt < 7 then tof ||| ((1 : Int32) <<< (to &&& 31)) else tof) (pInn k a f).1 (pInn k a f).2 := by
  intro q
  have q : (pNum k 0 6 a).2.2.2.1.toInt = 0 := q
  obtain ⟨q0, q1, q2, q3, q4⟩ := pNum_g hI q
  have et := hto q
  obtain ⟨e, hb, hi, hj, hz, hl, ht⟩ := h q2
  have z6 : (6 : Int32).toInt = 6 := rfl
  have z0 : (0 : Int32).toInt = 0 := rfl
  have e1 : (pCr k a).1 = pNm k a.1 := by show (pNum k 0 6 a).1 = _; rw [q4]
  have e2 : to = pNm k a.1 := by rw [et, q4]
  have e3 : (pInn k a f).1.2.2.2.2 = if a.2.2.2.2.toInt < (pNm k a.1).toInt then pNm k a.1 else a.2.2.2.2 := by show (pFar (pNum k 0 6 a).1 (pNum k 0 6 a).2).2.2.2.2 = _; rw [q4]; rfl
  have e4 : (pInn k a f).2 = upd f 1 (f 1 ||| ((1 : Int32) <<< (pNm k a.1 &&& 31))) := by unfold pInn; rw [e1]
  rw [e3, e4, e2, if_pos (show 0 ≤ (pNm k a.1).toInt ∧ (pNm k a.1).toInt < 7 by omega), if_pos (show 0 ≤ (pNm k a.1).toInt ∧ (pNm k a.1).toInt < 7 by omega)]
  have up : ∀ i, ¬ i = 1 → upd f 1 (f 1 ||| ((1 : Int32) <<< (pNm k a.1 &&& 31))) i = f i := fun i hi => z_ne hi
  rw [up 0 (by omega), z_eq rfl, hi]
  exact ⟨e, hb, rfl, fun j h1 => by rw [up _ (by omega), up _ (by omega), up _ (by omega)]; exact hj j h1, hz, fun j r h1 h2 h3 => by rw [up _ (by omega)]; exact hl j r h1 h2 h3, zTof_tell ht (by omega)⟩
theorem zLc_pw {k : pT} {cr inn tof to c : Int32} {k1 k2 k3 k4 f : Nat → Int32} {a : pS} {d : Nat} (hd : d = 2 ∨ d = 3) (h : zLc cr inn k1 k2 k3 k4 tof a f) (hI : pInv k a) (hX : pInv k (pCr k a).2) (hto : (pNum k 0 6 a).2.2.2.1.toInt = 0 → to = (pNum k 0 6 a).1) (hc : (pPW k d a f).1.2.2.1.toInt = 0 → c = (pNum k 0 (if d = 2 then 3 else 9) (pCr k a).2).1) : zLc cr inn k1 k2 (if d = 2 ∧ 0 ≤ to.toInt ∧ to.toInt < 7 then upd k3 to.toInt.toNat c else k3) (if d = 3 ∧ 0 ≤ to.toInt ∧ to.toInt < 7 then upd k4 to.toInt.toNat c else k4) (if 0 ≤ to.toInt ∧ to.toInt < 7 then tof ||| ((1 : Int32) <<< (to &&& 31)) else tof) (pPW k d a f).1 (pPW k d a f).2 := by
  intro q
  have ec := hc q
  have q : (pNum k 0 (if d = 2 then 3 else 9) (pCr k a).2).2.2.2.1.toInt = 0 := q
  obtain ⟨p0, p1, p2, p3, p4⟩ := pNum_g hX q
  have p2 : (pNum k 0 6 a).2.2.2.1.toInt = 0 := p2
  obtain ⟨q0, q1, q2, q3, q4⟩ := pNum_g hI p2
  have et := hto p2
  obtain ⟨e, hb, hi, hj, hz, hl, ht⟩ := h q2
  have z6 : (6 : Int32).toInt = 6 := rfl
  have z0 : (0 : Int32).toInt = 0 := rfl
  have e1 : (pCr k a).1 = pNm k a.1 := by show (pNum k 0 6 a).1 = _; rw [q4]
  have e2 : to = pNm k a.1 := by rw [et, q4]
  have e3 : (pPW k d a f).1.2.2.2.2 = if a.2.2.2.2.toInt < (pNm k a.1).toInt then pNm k a.1 else a.2.2.2.2 := by
    show (pNum k 0 (if d = 2 then 3 else 9) (pCr k a).2).2.2.2.2.2 = _
    rw [p4]
    show (pFar (pNum k 0 6 a).1 (pNum k 0 6 a).2).2.2.2.2 = _
    rw [q4]
    rfl
  have e4 : (pPW k d a f).2 = upd f ((if d = 2 then 9 else 16) + (pNm k a.1).toInt.toNat) c := by unfold pPW; rw [e1, ← ec]
  rw [e3, e4, e2, if_pos (show 0 ≤ (pNm k a.1).toInt ∧ (pNm k a.1).toInt < 7 by omega)]
  generalize pNm k a.1 = x at *
  have hx : x.toInt.toNat < 7 := by omega
  rcases hd with rfl | rfl
  · rw [if_pos rfl, if_pos (show 2 = 2 ∧ 0 ≤ x.toInt ∧ x.toInt < 7 by omega), if_neg (by omega)]
    rw [z_ne (by omega), z_ne (by omega)]
    refine ⟨e, hb, hi, fun j h1 => ⟨by rw [z_ne (by omega)]; exact (hj j h1).1, ?_, by rw [z_ne (by omega)]; exact (hj j h1).2.2⟩, hz, fun j r h1 h2 h3 => by rw [z_ne (by omega)]; exact hl j r h1 h2 h3, zTof_tell ht (by omega)⟩
    by_cases cj : j = x.toInt.toNat
    · rw [z_eq cj, z_eq (by omega)]
    · rw [z_ne cj, z_ne (by omega)]; exact (hj j h1).2.1
  · rw [if_neg (show ¬ (3 : Nat) = 2 by omega), if_neg (show ¬ ((3 : Nat) = 2 ∧ 0 ≤ x.toInt ∧ x.toInt < 7) by omega), if_pos (by omega)]
    rw [z_ne (by omega), z_ne (by omega)]
    refine ⟨e, hb, hi, fun j h1 => ⟨by rw [z_ne (by omega)]; exact (hj j h1).1, by rw [z_ne (by omega)]; exact (hj j h1).2.1, ?_⟩, hz, fun j r h1 h2 h3 => by rw [z_ne (by omega)]; exact hl j r h1 h2 h3, zTof_tell ht (by omega)⟩
    by_cases cj : j = x.toInt.toNat
    · rw [z_eq cj, z_eq (by omega)]
    · rw [z_ne cj, z_ne (by omega)]; exact (hj j h1).2.2
/-! roads in the class's loop: j times -/
def pAt (k : pT) (j : Nat) (a : pS) : pS := if min j 4 = 4 then pAlso 3 (nI (pWh k a.1)) a else a
def pRow (k : pT) (j : Nat) (a : pS) (f : Nat → Int32) : Nat → Int32 := if (f 0).toInt < 7 ∧ min j 4 < 4 then upd f (23 + 4 * (f 0).toInt.toNat + min j 4) (pCr k (pAt k j a)).1 else f
theorem pRoads_n {k : pT} {j : Nat} {a : pS} {f : Nat → Int32} {X : Nat × pS × (Nat → Int32)} (hj : j ≤ 600) (hw : a.2.1.toInt = 0) (ht : pTk k a.1 = 1) (h : pRoads k (601 - j) (min j 4) a f = X) : pRoads k (601 - (j + 1)) (min (j + 1) 4) (pCr k (pAt k j a)).2 (pRow k j a f) = X := by
  rw [show 601 - j = (601 - (j + 1)) + 1 by omega, pRoads_s ⟨hw, ht⟩] at h
  rw [show min (j + 1) 4 = (if min j 4 < 4 then min j 4 + 1 else 4) by split <;> omega]
  exact h
theorem pNum_fa {k : pT} {lo hi : Int32} {a : pS} (hw : a.2.1.toInt = 0) (ht : pTk k a.1 = 1) : (pNum k lo hi a).2.1 = pEn k a.1 ∧ (pNum k lo hi a).2.2.1 = a.2.1 := by
  by_cases c2 : lo.toInt ≤ (pNm k a.1).toInt ∧ (pNm k a.1).toInt ≤ hi.toInt
  · rw [pNum_i hw ht c2]; exact ⟨rfl, rfl⟩
  · rw [pNum_o hw ht c2]
    exact ⟨congrArg (pEn k) pAlso_fa.1, pAlso_fa.2.1⟩
theorem pAt_fa {k : pT} {j : Nat} {a : pS} : (pAt k j a).1 = a.1 ∧ (pAt k j a).2.1 = a.2.1 := by
  unfold pAt
  split
  · exact ⟨pAlso_fa.1, pAlso_fa.2.1⟩
  · exact ⟨rfl, rfl⟩
theorem pStep {k : pT} {n j : Nat} {a : pS} {f g : Nat → Int32} (hk : pOk k n) (hp : a.1 ≤ n) (hw : a.2.1.toInt = 0) (ht : pTk k a.1 = 1) (hj : j ≤ a.1) (hf : f 0 = g 0) : (pCr k (pAt k j a)).2.2.1.toInt = 0 ∧ j + 1 ≤ (pCr k (pAt k j a)).2.1 ∧ pRow k j a f 0 = g 0 := by
  have e := pAt_fa (k := k) (j := j) (a := a)
  have q := pNum_fa (lo := 0) (hi := 6) (a := pAt k j a) (by rw [e.2]; exact hw) (by rw [e.1]; exact ht)
  have r := hk a.1 hp
  have c : pCl k a.1 = 2 := (pTk_1 hk hp).mp ht
  have r2 := r.2.2.2.1 (by omega)
  refine ⟨by show (pNum k 0 6 (pAt k j a)).2.2.1.toInt = 0; rw [q.2, e.2]; exact hw, by show j + 1 ≤ (pNum k 0 6 (pAt k j a)).2.1; rw [q.1, e.1]; omega, ?_⟩
  unfold pRow
  split
  · rw [z_ne (by omega)]; exact hf
  · exact hf
section ZCR
variable {k : pT} {n j : Nat} {ft : Nat → Int32} {r0 r1 r2 r3 r4 r5 r6 r7 : Int32} {a : pS}
theorem zRc_cr0 (hj : j < 4) (h : zRc k n ft r0 r1 r2 r3 r4 r5 r6 r7 (pNum k 0 6 a).2) : zRc k n ft r0 r1 r2 r3 r4 r5 r6 r7 (pCr k (pAt k j a)).2 := by
  have e : pAt k j a = a := by unfold pAt; exact if_neg (by omega)
  rw [e]
  exact zRc_far h _
theorem zRc_cr4 (hj : 4 ≤ j) (hk : pOk k n) (hp : a.1 ≤ n) (hn : n ≤ 600) (hI : pInv k a) (hw : a.2.1.toInt = 0) (ht : pTk k a.1 = 1) (h : zRc k n ft r0 r1 r2 r3 r4 r5 r6 r7 (pNum k 0 6 a).2) {w u0 u1 : Int32} (hww : w = nI (pWh k a.1)) (e0 : u0 = if r0.toInt = 0 then 3 else r0) (e1 : u1 = if r0.toInt = 0 then w else r1) : zRc k n ft u0 u1 r2 r3 r4 r5 r6 r7 (pCr k (pAt k j a)).2 := by
  subst hww
  have e : pAt k j a = pAlso 3 (nI (pWh k a.1)) a := by unfold pAt; exact if_pos (by omega)
  have q4 : (nI (pWh k a.1)).toInt = (pWh k a.1 : Int) := nI_toInt (by have := (hk a.1 hp).1; omega)
  rw [e]
  show zRc k n ft u0 u1 r2 r3 r4 r5 r6 r7 (pFar (pNum k 0 6 (pAlso 3 (nI (pWh k a.1)) a)).1 (pNum k 0 6 (pAlso 3 (nI (pWh k a.1)) a)).2)
  rw [pNum_also hk hp hn hI hw ht]
  have q := pNum_fa (lo := 0) (hi := 6) hw ht
  have c : pCl k a.1 = 2 := (pTk_1 hk hp).mp ht
  have r := hk a.1 hp
  have r' := (hk (pEn k a.1) r.1.2.2).1
  have r2 := r.2.2.2.1 (by omega)
  refine zRc_far (zRc_note h (by rw [q.2]; exact hw) (by rw [q.1, q4]; omega) (fun hf => ?_) e0 e1) _
  have hl : ¬ a.2.2.1.toInt = 0 → a.2.2.2.1.toInt < (nI (pWh k a.1)).toInt := fun z => by
    rcases hI with ⟨-, y⟩ | ⟨y, -⟩
    · rw [q4]; exact y z
    · exact absurd hw y
  by_cases c2 : (0 : Int32).toInt ≤ (pNm k a.1).toInt ∧ (pNm k a.1).toInt ≤ (6 : Int32).toInt
  · rw [pNum_i hw ht c2] at hf ⊢
    exact Or.inl (hl hf)
  · rw [pNum_o hw ht c2] at hf ⊢
    by_cases z : a.2.2.1.toInt = 0
    · rw [pAlso_y hw z]
      exact Or.inr ⟨rfl, (by show (2 : Int32).toInt ≤ (3 : Int32).toInt; decide)⟩
    · rw [pAlso_n (Or.inr ⟨z, Or.inl (hl z)⟩)]
      exact Or.inl (hl z)
end ZCR
theorem zLr_next {k : pT} {n j : Nat} {c cr inn tof to : Int32} {k1 k2 k3 k4 f : Nat → Int32} {a : pS} (h : zLr c cr inn k1 k2 k3 k4 tof (min j 4) a f) (hk : pOk k n) (hp : a.1 ≤ n) (hn : n ≤ 600) (hI : pInv k a) (hw : a.2.1.toInt = 0) (ht : pTk k a.1 = 1)
    (hto : (pNum k 0 6 a).2.2.2.1.toInt = 0 → to = (pNum k 0 6 a).1) : zLr c cr inn (zAddA cr k1 c) (zAddB cr k1 k2 c to) k3 k4 (if 0 ≤ to.toInt ∧ to.toInt < 7 then tof ||| ((1 : Int32) <<< (to &&& 31)) else tof) (min (j + 1) 4) (pCr k (pAt k j a)).2 (pRow k j a f) := by
  rw [show min (j + 1) 4 = (if min j 4 < 4 then min j 4 + 1 else 4) by split <;> omega]
  exact zLr_step h hk hp hn hI hw ht (by omega) hto
theorem pCross_e {k : pT} {w : Int32} {a b A : pS} {f g : Nat → Int32} {m : Nat} (hb : b = pDB 7 w f a) (h : pRoads k 601 0 b f = (m, A, g)) : pCross k w a f = (A, if 7 ≤ (f 0).toInt then g else upd (upd g (2 + (g 0).toInt.toNat) (nI m)) 0 (g 0 + 1)) := by
  subst hb
  unfold pCross
  rw [h]
theorem zLr_end {c cr inn tof : Int32} {k1 k2 k3 k4 f g : Nat → Int32} {m : Nat} {a : pS} (h : zLr c cr inn k1 k2 k3 k4 tof m a g) (e : g 0 = f 0) : zLc cr inn k1 k2 k3 k4 tof a (if 7 ≤ (f 0).toInt then g else upd (upd g (2 + (g 0).toInt.toNat) (nI m)) 0 (g 0 + 1)) := by
  intro q
  have h2 := h q
  have e9 : (f 0).toInt = c.toInt := by rw [← e, ← h2.1]
  rw [if_neg (show ¬ 7 ≤ (f 0).toInt by have := h2.2.1; omega)]
  exact zLr_out h q
theorem pDB_fa {m : Int} {w : Int32} {f : Nat → Int32} {a : pS} : (pDB m w f a).1 = a.1 ∧ (pDB m w f a).2.1 = a.2.1 := by
  unfold pDB
  split
  · exact ⟨pAlso_fa.1, pAlso_fa.2.1⟩
  · exact ⟨rfl, rfl⟩
theorem pOther_b {k : pT} {d : Nat} {w : Int32} {a : pS} {f : Nat → Int32} (h : ¬ a.2.1.toInt = 0) : pOther k d w a f = (a, f) := if_pos h
theorem pDB_b {m : Int} {w : Int32} {f : Nat → Int32} {a : pS} (h : ¬ a.2.1.toInt = 0) : pDB m w f a = a := by
  unfold pDB
  split
  · exact pAlso_n (Or.inl h)
  · rfl
theorem pLine_0 {k : pT} {a : pS} {f : Nat → Int32} : pLine k 0 a f = pLand k a f := if_pos rfl
theorem pLine_1 {k : pT} {a : pS} {f : Nat → Int32} : pLine k 1 a f = pDay k a f := (if_neg (by decide)).trans (if_pos rfl)
theorem pLine_2 {k : pT} {a : pS} {f : Nat → Int32} : pLine k 2 a f = pLog k a f := (if_neg (by decide)).trans (if_neg (by decide))
theorem pLine_e {k : pT} {a : pS} {f : Nat → Int32} (hw : a.2.1.toInt = 0) {s lo hi : Nat} (hs : s = 0 ∧ lo = 1 ∧ hi = 4 ∨ s = 1 ∧ lo = 5 ∧ hi = 10 ∨ s = 2 ∧ lo = 11 ∧ hi = 12) (h : ¬ pTk k a.1 = 3 ∨ ¬ (lo ≤ pWd k a.1 ∧ pWd k a.1 ≤ hi)) : (pLine k s a f).1 = pEnds k a := by
  have e : pWord k lo hi a = (0, pEnds k a) := pWord_e (Or.inr h)
  have w1 : ¬ (pEnds k a).2.1.toInt = 0 := by rw [pEnds_y hw]; show ¬ (1 : Int32).toInt = 0; decide
  have l1 : pEndL k (pEnds k a) = pEnds k a := (pEndL_e (fun q => w1 q.1)).trans (pEnds_n w1)
  have n1 : (pNum k 0 6 (pEnds k a)).2 = pEnds k a := by rw [pNum_e (Or.inl w1), pEnds_n w1]
  generalize pEnds k a = b at *
  rcases hs with ⟨rfl, rfl, rfl⟩ | ⟨rfl, rfl, rfl⟩ | ⟨rfl, rfl, rfl⟩
  · rw [pLine_0]
    unfold pLand
    rw [e]
    show pEndL k (pOther k 0 (nI (pWh k a.1)) b f).1 = b
    rw [pOther_b w1]
    exact l1
  · rw [pLine_1]
    unfold pDay
    rw [e]
    show pEndL k (pDeed k 0 (nI (pWh k a.1)) b f).1 = b
    rw [pDeed_1 rfl, pDB_b w1, n1, pDY_lo (by omega)]
    exact l1
  · rw [pLine_2]
    unfold pLog
    rw [e]
    show pEndL k (pFact k 0 (nI (pWh k a.1)) b f).1 = b
    rw [pFact_1 rfl, pDB_b w1, n1, pGY_lo (by omega)]
    exact l1


/-! LINES of the class -/
theorem pWd_eq {k : pT} {ft : Nat → Int32} {n p : Nat} (hk : k = tkT ft n) (hc : pCl k p = 1) : pWd k p = zWordAt ft (pWh k p) (pEn k p) := by
  subst hk
  have hc : tkC ft n p = 1 := hc
  show (if tkC ft n p = 1 then zWordAt ft (zWh ft n p) (tkE ft n p) else 0) = _
  rw [if_pos hc]
  rfl
theorem zWc_n0 {wd : Nat} (h : (zWc 0 wd).toInt = -1) : ¬ (1 ≤ wd ∧ wd ≤ 4) := by
  intro q
  unfold zWc at h
  rw [if_pos rfl, if_pos q, show Int32.ofNat (wd - 1) = nI (wd - 1) from rfl, nI_toInt (by omega)] at h
  omega
theorem zWc_y0 {wd : Nat} (h : ¬ (zWc 0 wd).toInt = -1) : (1 ≤ wd ∧ wd ≤ 4) ∧ (zWc 0 wd).toInt = (wd : Int) - 1 := by
  by_cases q : 1 ≤ wd ∧ wd ≤ 4
  · refine ⟨q, ?_⟩
    unfold zWc
    rw [if_pos rfl, if_pos q, show Int32.ofNat (wd - 1) = nI (wd - 1) from rfl, nI_toInt (by omega)]
    omega
  · unfold zWc at h
    rw [if_pos rfl, if_neg q] at h
    exact absurd rfl h
theorem zWc_n1 {wd : Nat} (h : (zWc 1 wd).toInt = -1) : ¬ (5 ≤ wd ∧ wd ≤ 10) := by
  intro q
  unfold zWc at h
  rw [if_neg (by decide), if_pos rfl, if_pos q, show Int32.ofNat (wd - 5) = nI (wd - 5) from rfl, nI_toInt (by omega)] at h
  omega
theorem zWc_y1 {wd : Nat} (h : ¬ (zWc 1 wd).toInt = -1) : (5 ≤ wd ∧ wd ≤ 10) ∧ (zWc 1 wd).toInt = (wd : Int) - 5 ∧ zWc 1 wd = nI wd - 5 := by
  by_cases q : 5 ≤ wd ∧ wd ≤ 10
  · have e : zWc 1 wd = nI (wd - 5) := by
      unfold zWc
      rw [if_neg (by decide), if_pos rfl, if_pos q]
      rfl
    refine ⟨q, ?_, e.trans (z_d5 wd (by omega) q.1).symm⟩
    rw [e, nI_toInt (by omega)]
    omega
  · unfold zWc at h
    rw [if_neg (by decide), if_pos rfl, if_neg q] at h
    exact absurd rfl h
theorem zWc_n2 {wd : Nat} (h : (zWc 2 wd).toInt = -1) : ¬ (11 ≤ wd ∧ wd ≤ 12) := by
  intro q
  unfold zWc at h
  rw [if_neg (by decide), if_neg (by decide), if_pos q, show Int32.ofNat (wd - 11) = nI (wd - 11) from rfl, nI_toInt (by omega)] at h
  omega
theorem zWc_y2 {wd : Nat} (h : ¬ (zWc 2 wd).toInt = -1) : (11 ≤ wd ∧ wd ≤ 12) ∧ (zWc 2 wd).toInt = (wd : Int) - 11 := by
  by_cases q : 11 ≤ wd ∧ wd ≤ 12
  · refine ⟨q, ?_⟩
    unfold zWc
    rw [if_neg (by decide), if_neg (by decide), if_pos q, show Int32.ofNat (wd - 11) = nI (wd - 11) from rfl, nI_toInt (by omega)]
    omega
  · unfold zWc at h
    rw [if_neg (by decide), if_neg (by decide), if_neg q] at h
    exact absurd rfl h
section PL
variable {k : pT} {a : pS} {f : Nat → Int32} {q : pS × (Nat → Int32)}
theorem pLine_d (hw : a.2.1.toInt = 0) (h3 : pTk k a.1 = 3) (h : 5 ≤ pWd k a.1 ∧ pWd k a.1 ≤ 10) (hq : q = pDeed k (pWd k a.1) (nI (pWh k a.1)) (pAdv k a) f) : pLine k 1 a f = (pEndL k q.1, q.2) := by
  have e : pWord k 5 10 a = (pWd k a.1, pAdv k a) := pWord_i hw h3 h
  rw [pLine_1]
  unfold pDay
  rw [e, hq]
theorem pLine_f (hw : a.2.1.toInt = 0) (h3 : pTk k a.1 = 3) (h : 11 ≤ pWd k a.1 ∧ pWd k a.1 ≤ 12) (hq : q = pFact k (pWd k a.1) (nI (pWh k a.1)) (pAdv k a) f) : pLine k 2 a f = (pEndL k q.1, q.2) := by
  have e : pWord k 11 12 a = (pWd k a.1, pAdv k a) := pWord_i hw h3 h
  rw [pLine_2]
  unfold pLog
  rw [e, hq]
theorem pLine_l (hw : a.2.1.toInt = 0) (h3 : pTk k a.1 = 3) (h : 1 ≤ pWd k a.1 ∧ pWd k a.1 ≤ 4) (hq : q = (if pWd k a.1 = 1 then pCross k (nI (pWh k a.1)) (pAdv k a) f else if pWd k a.1 = 4 then pInn k (pAdv k a) f else pPW k (pWd k a.1) (pAdv k a) f)) : pLine k 0 a f = (pEndL k q.1, q.2) := by
  have e : pWord k 1 4 a = (pWd k a.1, pAdv k a) := pWord_i hw h3 h
  rw [pLine_0]
  unfold pLand
  rw [e]
  have e2 : pOther k (pWd k a.1) (nI (pWh k a.1)) (pAdv k a) f = q := by
    rw [hq]
    exact if_neg (fun z => z hw)
  show (pEndL k (pOther k (pWd k a.1) (nI (pWh k a.1)) (pAdv k a) f).1, (pOther k (pWd k a.1) (nI (pWh k a.1)) (pAdv k a) f).2) = _
  rw [e2]
end PL
theorem zLc_e {k : pT} {cr inn tof : Int32} {k1 k2 k3 k4 f : Nat → Int32} {a : pS} (hI : pInv k a) : zLc cr inn k1 k2 k3 k4 tof (pEnds k a) f := fun q => absurd q (pEnds_f hI)
theorem zDc_e {k : pT} {dd : Int32} {d1 d2 d3 f : Nat → Int32} {a : pS} (hI : pInv k a) : zDc dd d1 d2 d3 (pEnds k a) f := fun q => absurd q (pEnds_f hI)
theorem zGc_e {k : pT} {dd : Int32} {d1 d2 f : Nat → Int32} {a : pS} (hI : pInv k a) : zGc dd d1 d2 (pEnds k a) f := fun q => absurd q (pEnds_f hI)
theorem zLc_l {k : pT} {cr inn tof : Int32} {k1 k2 k3 k4 f : Nat → Int32} {a : pS} (hI : pInv k a) (h : zLc cr inn k1 k2 k3 k4 tof a f) : zLc cr inn k1 k2 k3 k4 tof (pEndL k a) f := by
  unfold pEndL
  split
  · exact h
  · exact fun q => absurd q (pEnds_f hI)
theorem zDc_l {k : pT} {dd : Int32} {d1 d2 d3 f : Nat → Int32} {a : pS} (hI : pInv k a) (h : zDc dd d1 d2 d3 a f) : zDc dd d1 d2 d3 (pEndL k a) f := by
  unfold pEndL
  split
  · exact h
  · exact fun q => absurd q (pEnds_f hI)
theorem zGc_l {k : pT} {dd : Int32} {d1 d2 f : Nat → Int32} {a : pS} (hI : pInv k a) (h : zGc dd d1 d2 a f) : zGc dd d1 d2 (pEndL k a) f := by
  unfold pEndL
  split
  · exact h
  · exact fun q => absurd q (pEnds_f hI)
/-! the whole of a text -/
theorem zTof_k3 : ∀ t, t < 128 → ∀ m, m < 8 → ((nI t >>> (nI m &&& 31)).toInt = 0 ↔ t / 2 ^ m = 0) := by decide +kernel
/-- whether a crossing was told of that is not there -/
theorem zTof_sh {tof fa cr : Int32} (h : zTof tof fa) (hc : 0 ≤ cr.toInt ∧ cr.toInt ≤ 7) : ¬ (tof >>> (cr &&& 31)).toInt = 0 ↔ cr.toInt ≤ fa.toInt := by
  obtain ⟨t, ht, rfl, hf, hd⟩ := h
  have ec : cr = nI cr.toInt.toNat := z_nI (by omega) (by omega)
  have k1 := zTof_k3 t ht cr.toInt.toNat (by omega)
  rw [← ec] at k1
  rw [k1, hd _ (by omega)]
  omega
def zBad (k1 k3 : Nat → Int32) (c : Nat) : Prop := ¬ (k3 c).toInt = 0 ∧ (k1 c).toInt ≤ (k3 c).toInt
/-- behind the look at the first i crossings -/
def zLook (k1 k3 : Nat → Int32) (i : Nat) (n v0 v1 y0 y1 : Int32) : Prop := (¬ v0.toInt = 0 → y0 = v0 ∧ y1 = v1) ∧ (v0.toInt = 0 → (y0 = v0 ∧ y1 = v1 ∧ ∀ c, c < i → ¬ zBad k1 k3 c) ∨ (y0 = 5 ∧ y1 = n ∧ ∃ c, c < i ∧ zBad k1 k3 c))
theorem zLook_0 {k1 k3 : Nat → Int32} {n v0 v1 : Int32} : zLook k1 k3 0 n v0 v1 v0 v1 := ⟨fun _ => ⟨rfl, rfl⟩, fun _ => Or.inl ⟨rfl, rfl, fun c hc => absurd hc (Nat.not_lt_zero _)⟩⟩
theorem zLook_g {k1 k3 : Nat → Int32} {i : Nat} {n v0 v1 y0 y1 : Int32} (h : zLook k1 k3 i n v0 v1 y0 y1) (hg : ¬ zBad k1 k3 i) : zLook k1 k3 (i + 1) n v0 v1 y0 y1 := by
  refine ⟨h.1, fun q => ?_⟩
  rcases h.2 q with ⟨a, b, c⟩ | ⟨a, b, c, d, e⟩
  · refine Or.inl ⟨a, b, fun c1 hc1 => ?_⟩
    by_cases z : c1 = i
    · rw [z]; exact hg
    · exact c c1 (by omega)
  · exact Or.inr ⟨a, b, c, by omega, e⟩
theorem zLook_b {k1 k3 : Nat → Int32} {i : Nat} {n v0 v1 y0 y1 u0 u1 : Int32} (h : zLook k1 k3 i n v0 v1 y0 y1) (hb : zBad k1 k3 i) (e0 : u0 = if y0.toInt = 0 then 5 else y0) (e1 : u1 = if y0.toInt = 0 then n else y1) : zLook k1 k3 (i + 1) n v0 v1 u0 u1 := by
  refine ⟨fun q => ?_, fun q => ?_⟩
  · obtain ⟨a, b⟩ := h.1 q
    rw [if_neg (by rw [a]; exact q)] at e0 e1
    exact ⟨e0.trans a, e1.trans b⟩
  · rcases h.2 q with ⟨a, b, c⟩ | ⟨a, b, c, d, e⟩
    · rw [if_pos (by rw [a]; exact q)] at e0 e1
      exact Or.inr ⟨e0, e1, i, by omega, hb⟩
    · rw [if_neg (by rw [a]; decide)] at e0 e1
      exact Or.inr ⟨e0.trans a, e1.trans b, c, by omega, e⟩
theorem zLook_end {k : pT} {cr inn tof n5 r0 r1 v0 v1 u0 u1 : Int32} {k1 k2 k3 k4 f : Nat → Int32} {a : pS} {n : Nat} (hI : pInv k a) (h : zLc cr inn k1 k2 k3 k4 tof a f) (hn : n5 = nI n) (h0 : r0 = a.2.2.1) (h1 : r1 = a.2.2.2.1) (e : (tof >>> (cr &&& 31)).toInt = 0 ∧ v0 = r0 ∧ v1 = r1 ∨ ¬ (tof >>> (cr &&& 31)).toInt = 0 ∧ (v0 = if r0.toInt = 0 then 4 else r0) ∧ (v1 = if r0.toInt = 0 then n5 else r1)) (hl : zLook k1 k3 7 n5 v0 v1 u0 u1) : u0 = (pFin n 0 (a, f)).1.2.2.1 ∧ u1 = (pFin n 0 (a, f)).1.2.2.2.1 := by
  subst h0
  subst h1
  subst hn
  have z4 : ¬ (4 : Int32).toInt = 0 := by decide
  by_cases c : a.2.2.1.toInt = 0
  · have hw : a.2.1.toInt = 0 := by
      rcases hI with z | z
      · exact z.1
      · exact absurd c z.2
    obtain ⟨hc, hb, hi, hj, hz, hx, ht⟩ := h c
    have hs := zTof_sh (cr := cr) ht (by rw [hc]; exact hb)
    rw [hc] at hs
    by_cases c2 : (f 0).toInt ≤ a.2.2.2.2.toInt
    · have e1 : pFin n 0 (a, f) = ((a.1, a.2.1, 4, nI n, a.2.2.2.2), f) := by
        have e0 : pF4 n 0 a f = (a.1, a.2.1, 4, nI n, a.2.2.2.2) := (if_pos ⟨rfl, c, c2⟩).trans (pAlso_y hw c)
        have e5 : pF5 n 0 (a.1, a.2.1, 4, nI n, a.2.2.2.2) f = (a.1, a.2.1, 4, nI n, a.2.2.2.2) := if_neg (fun q => z4 q.2.1)
        show (pF5 n 0 (pF4 n 0 a f) f, f) = _
        rw [e0, e5]
      rw [e1]
      rcases e with ⟨q, -, -⟩ | ⟨-, q1, q2⟩
      · rw [hc] at q; exact absurd q (hs.mpr c2)
      · rw [if_pos c] at q1 q2
        obtain ⟨a1, a2⟩ := hl.1 (by rw [q1]; exact z4)
        exact ⟨a1.trans q1, a2.trans q2⟩
    · have hv : v0 = a.2.2.1 ∧ v1 = a.2.2.2.1 := by
        rcases e with ⟨-, q1, q2⟩ | ⟨q, -, -⟩
        · exact ⟨q1, q2⟩
        · rw [hc] at q; exact absurd (hs.mp q) c2
      have e0 : pF4 n 0 a f = a := if_neg (fun q => c2 q.2.2)
      have e1 : pFin n 0 (a, f) = (pF5 n 0 a f, f) := by
        show (pF5 n 0 (pF4 n 0 a f) f, f) = _
        rw [e0]
      have hbad : ∀ j, j < 7 → (zBad k1 k3 j ↔ ¬ ((f (9 + j)).toInt = 0 ∨ (f (9 + j)).toInt < (f (2 + j)).toInt)) := fun j hj7 => by
        unfold zBad
        rw [(hj j hj7).1, (hj j hj7).2.1]
        omega
      rw [e1]
      rcases hl.2 (by rw [hv.1]; exact c) with ⟨a1, a2, a3⟩ | ⟨a1, a2, c3, a4, a5⟩
      · have hp : pPosts f = true := by
          exact pPosts_t.mpr (fun j hj7 => Decidable.byContradiction (fun z => a3 j hj7 ((hbad j hj7).mpr z)))
        have e5 : pF5 n 0 a f = a := if_neg (fun q => by rw [hp] at q; exact absurd q.2.2 (by decide))
        rw [e5]
        exact ⟨a1.trans hv.1, a2.trans hv.2⟩
      · have hp : pPosts f = false := by
          cases z : pPosts f with
          | false => rfl
          | true => exact absurd (pPosts_t.mp z c3 a4) ((hbad c3 a4).mp a5)
        have e5 : pF5 n 0 a f = (a.1, a.2.1, 5, nI n, a.2.2.2.2) := (if_pos ⟨rfl, c, hp⟩).trans (pAlso_y hw c)
        rw [e5]
        exact ⟨a1, a2⟩
  · have hv : v0 = a.2.2.1 ∧ v1 = a.2.2.2.1 := by
      rcases e with ⟨-, q1, q2⟩ | ⟨-, q1, q2⟩
      · exact ⟨q1, q2⟩
      · rw [if_neg c] at q1 q2; exact ⟨q1, q2⟩
    have e0 : pF4 n 0 a f = a := if_neg (fun q => c q.2.1)
    have e5 : pF5 n 0 a f = a := if_neg (fun q => c q.2.1)
    have e1 : pFin n 0 (a, f) = (a, f) := by
      show (pF5 n 0 (pF4 n 0 a f) f, f) = _
      rw [e0, e5]
    rw [e1]
    obtain ⟨a1, a2⟩ := hl.1 (by rw [hv.1]; exact c)
    exact ⟨a1.trans hv.1, a2.trans hv.2⟩
theorem pFin_s {n s : Nat} {q : pS × (Nat → Int32)} (h : ¬ s = 0) : pFin n s q = q := by
  have e4 : pF4 n s q.1 q.2 = q.1 := if_neg (fun z => h z.1)
  have e5 : pF5 n s q.1 q.2 = q.1 := if_neg (fun z => h z.1)
  show (pF5 n s (pF4 n s q.1 q.2) q.2, q.2) = q
  rw [e4, e5]
theorem pAlso_z {n : Nat} {kd : Int32} {b : pS} (hk : ¬ kd.toInt = 0) (z : (pAlso kd (nI n) b).2.2.1.toInt = 0) : pAlso kd (nI n) b = b := by
  by_cases c : b.2.1.toInt = 0
  · exact absurd z (pAlso_f hk c)
  · exact pAlso_n (Or.inl c)
theorem pFin_f {n : Nat} {q : pS × (Nat → Int32)} (h : (pFin n 0 q).1.2.2.1.toInt = 0) : pFin n 0 q = q := by
  have h : (pF5 n 0 (pF4 n 0 q.1 q.2) q.2).2.2.1.toInt = 0 := h
  have e5 : pF5 n 0 (pF4 n 0 q.1 q.2) q.2 = pF4 n 0 q.1 q.2 := by
    unfold pF5 at h ⊢
    split at h
    · rename_i y; rw [if_pos y]; exact pAlso_z (by decide) h
    · rename_i y; exact if_neg y
  rw [e5] at h
  have e4 : pF4 n 0 q.1 q.2 = q.1 := by
    unfold pF4 at h ⊢
    split at h
    · rename_i y; rw [if_pos y]; exact pAlso_z (by decide) h
    · rename_i y; exact if_neg y
  show (pF5 n 0 (pF4 n 0 q.1 q.2) q.2, q.2) = q
  rw [e5, e4]


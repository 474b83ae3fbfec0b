/-! LINES of the reference -/
theorem pWord_r {k : pT} {lo hi : Nat} {a : pS} (h : (pWord k lo hi a).2.2.1.toInt = 0) : a.2.1.toInt = 0 ∧ pTk k a.1 = 3 ∧ (lo ≤ pWd k a.1 ∧ pWd k a.1 ≤ hi) ∧ pWord k lo hi a = (pWd k a.1, pAdv k a) := by
  by_cases c : ¬ a.2.1.toInt = 0 ∨ ¬ pTk k a.1 = 3 ∨ ¬ (lo ≤ pWd k a.1 ∧ pWd k a.1 ≤ hi)
  · rw [pWord_e c] at h
    by_cases c2 : a.2.1.toInt = 0
    · rw [pEnds_y c2] at h
      exact absurd (show (1 : Int32).toInt = 0 from h) (by decide)
    · rw [pEnds_n c2] at h
      exact absurd h c2
  · have c0 : a.2.1.toInt = 0 := Decidable.byContradiction (fun z => c (Or.inl z))
    have c1 : pTk k a.1 = 3 := Decidable.byContradiction (fun z => c (Or.inr (Or.inl z)))
    have c2 : lo ≤ pWd k a.1 ∧ pWd k a.1 ≤ hi := Decidable.byContradiction (fun z => c (Or.inr (Or.inr z)))
    exact ⟨c0, c1, c2, pWord_i c0 c1 c2⟩
theorem pWord_1 (k : pT) (lo hi : Nat) (a : pS) : (pWord k lo hi a).1 ≤ hi := by
  unfold pWord
  split
  · exact Nat.zero_le _
  · rename_i c
    exact (Decidable.byContradiction (fun z => c (Or.inr (Or.inr z))) : lo ≤ pWd k a.1 ∧ pWd k a.1 ≤ hi).2
theorem pRow_y {k : pT} {j i : Nat} {a : pS} {f : Nat → Int32} {v : Int32} (h1 : (f 0).toInt < 7) (h2 : min j 4 < 4) (hi : i = 23 + 4 * (f 0).toInt.toNat + min j 4) (hv : v = (pCr k (pAt k j a)).1) : upd f i v = pRow k j a f := by
  unfold pRow
  rw [if_pos ⟨h1, h2⟩, hi, hv]
theorem pRow_n {k : pT} {j : Nat} {a : pS} {f : Nat → Int32} (h : ¬ ((f 0).toInt < 7 ∧ min j 4 < 4)) : f = pRow k j a f := (if_neg h).symm
theorem pAt_y {k : pT} {j : Nat} {a : pS} (h : min j 4 = 4) : pAt k j a = pAlso 3 (nI (pWh k a.1)) a := if_pos h
theorem pAt_n {k : pT} {j : Nat} {a : pS} (h : ¬ min j 4 = 4) : pAt k j a = a := if_neg h
section PLL
variable {k : pT} {a d : pS} {w : Nat} {f : Nat → Int32}
theorem pLand_w (h : pWord k 1 4 a = (w, d)) (hb : ¬ d.2.1.toInt = 0) : pLand k a f = (pEndL k d, f) := by
  unfold pLand
  rw [h]
  show (pEndL k (pOther k w (nI (pWh k a.1)) d f).1, (pOther k w (nI (pWh k a.1)) d f).2) = _
  rw [pOther_b hb]
theorem pLand_c (h : pWord k 1 4 a = (w, d)) (hb : d.2.1.toInt = 0) (hw : w = 1) : pLand k a f = (pEndL k (pCross k (nI (pWh k a.1)) d f).1, (pCross k (nI (pWh k a.1)) d f).2) := by
  have e : pOther k w (nI (pWh k a.1)) d f = pCross k (nI (pWh k a.1)) d f := (if_neg (fun z => z hb)).trans (if_pos hw)
  unfold pLand
  rw [h]
  show (pEndL k (pOther k w (nI (pWh k a.1)) d f).1, (pOther k w (nI (pWh k a.1)) d f).2) = _
  rw [e]
theorem pLand_i (h : pWord k 1 4 a = (w, d)) (hb : d.2.1.toInt = 0) (hw : w = 4) : pLand k a f = (pEndL k (pInn k d f).1, (pInn k d f).2) := by
  have e : pOther k w (nI (pWh k a.1)) d f = pInn k d f := (if_neg (fun z => z hb)).trans ((if_neg (by omega)).trans (if_pos hw))
  unfold pLand
  rw [h]
  show (pEndL k (pOther k w (nI (pWh k a.1)) d f).1, (pOther k w (nI (pWh k a.1)) d f).2) = _
  rw [e]
theorem pLand_p (h : pWord k 1 4 a = (w, d)) (hb : d.2.1.toInt = 0) (hw : w = 2 ∨ w = 3) : pLand k a f = (pEndL k (pPW k w d f).1, (pPW k w d f).2) := by
  have e : pOther k w (nI (pWh k a.1)) d f = pPW k w d f := (if_neg (fun z => z hb)).trans ((if_neg (by omega)).trans (if_neg (by omega)))
  unfold pLand
  rw [h]
  show (pEndL k (pOther k w (nI (pWh k a.1)) d f).1, (pOther k w (nI (pWh k a.1)) d f).2) = _
  rw [e]
end PLL

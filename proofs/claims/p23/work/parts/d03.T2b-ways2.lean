/-- as many steps as may be, by ways: the way, the crossing, how many steps -/
def aN (W L : Nat → Int32) : Nat → Nat → Nat → Nat → Nat × Nat × Nat
  | 0, w, c, k => (w, c, k)
  | n + 1, w, c, k => if c < 7 ∧ 0 < (W c).toInt then aN W L n (aTn W w c) (L (4 * c + aRd W (aTn W w c) c)).toInt.toNat (k + 1) else (w, c, k)
def aPo (W : Nat → Int32) (w j : Nat) : Int32 := nI (aRd W w j)
theorem aN_k {W L : Nat → Int32} : ∀ (n w c k : Nat), aN W L n w c k = ((aN W L n w c 0).1, (aN W L n w c 0).2.1, (aN W L n w c 0).2.2 + k)
  | 0, w, c, k => by
    show (w, c, k) = (w, c, 0 + k)
    rw [Nat.zero_add]
  | n + 1, w, c, k => by
    unfold aN
    by_cases q : c < 7 ∧ 0 < (W c).toInt
    · rw [if_pos q, if_pos q, aN_k n _ _ (k + 1), aN_k n _ _ (0 + 1)]
      show (_, _, _) = (_, _, _)
      rw [show (aN W L n (aTn W w c) (L (4 * c + aRd W (aTn W w c) c)).toInt.toNat 0).2.2 + (k + 1) = (aN W L n (aTn W w c) (L (4 * c + aRd W (aTn W w c) c)).toInt.toNat 0).2.2 + (0 + 1) + k by omega]
    · rw [if_neg q, if_neg q]
      show (w, c, k) = (w, c, 0 + k)
      rw [Nat.zero_add]
theorem aN_s {W L : Nat → Int32} {c : Nat} (h : ¬ (c < 7 ∧ 0 < (W c).toInt)) : ∀ n w k, aN W L n w c k = (w, c, k)
  | 0, w, k => rfl
  | n + 1, w, k => if_neg h
/-- steps behind steps -/
theorem aN_a {W L : Nat → Int32} : ∀ (m n w c k : Nat), aN W L (m + n) w c k = aN W L n (aN W L m w c k).1 (aN W L m w c k).2.1 (aN W L m w c k).2.2
  | 0, n, w, c, k => by rw [Nat.zero_add]; rfl
  | m + 1, n, w, c, k => by
    rw [show m + 1 + n = (m + n) + 1 by omega]
    by_cases q : c < 7 ∧ 0 < (W c).toInt
    · have e1 : aN W L (m + n + 1) w c k = aN W L (m + n) (aTn W w c) (L (4 * c + aRd W (aTn W w c) c)).toInt.toNat (k + 1) := if_pos q
      have e2 : aN W L (m + 1) w c k = aN W L m (aTn W w c) (L (4 * c + aRd W (aTn W w c) c)).toInt.toNat (k + 1) := if_pos q
      rw [e1, e2]
      exact aN_a m n _ _ _
    · rw [aN_s q, aN_s q]
      show (w, c, k) = aN W L n w c k
      rw [aN_s q]
theorem aN_b {W L : Nat → Int32} (hL : ∀ j r : Nat, j < 7 → r < 4 → (r : Int) < (W j).toInt → 0 ≤ (L (4 * j + r)).toInt ∧ (L (4 * j + r)).toInt ≤ 6) (hW : ∀ j, j < 7 → (W j).toInt ≤ 4) : ∀ (n w c k : Nat), w < aPr W 7 → c ≤ 6 → (aN W L n w c k).1 < aPr W 7 ∧ (aN W L n w c k).2.1 ≤ 6 ∧ (aN W L n w c k).2.2 ≤ n + k
  | 0, w, c, k, hw, hc => ⟨hw, hc, by show k ≤ 0 + k; omega⟩
  | n + 1, w, c, k, hw, hc => by
    unfold aN
    by_cases q : c < 7 ∧ 0 < (W c).toInt
    · rw [if_pos q]
      have lt := aRd_lt (W := W) (w := aTn W w c) (c := c)
      have ch : aCh W c = (W c).toInt.toNat := if_neg (by omega)
      have w4 := hW c q.1
      have b := hL c (aRd W (aTn W w c) c) q.1 (by omega) (by omega)
      have t := aN_b hL hW n (aTn W w c) (L (4 * c + aRd W (aTn W w c) c)).toInt.toNat (k + 1) (aTn_lt hc hw) (by omega)
      exact ⟨t.1, t.2.1, by omega⟩
    · rw [if_neg q]
      exact ⟨hw, hc, by show k ≤ n + 1 + k; omega⟩
/-- a walk, nothing shut, is one of ways -/
theorem aN_run {W L : Nat → Int32} (hL : ∀ j r : Nat, j < 7 → r < 4 → (r : Int) < (W j).toInt → 0 ≤ (L (4 * j + r)).toInt ∧ (L (4 * j + r)).toInt ≤ 6) (hW : ∀ j, j < 7 → 0 ≤ (W j).toInt ∧ (W j).toInt ≤ 4) : ∀ (n w c k : Nat) (P : Nat → Int32), c ≤ 6 → (∀ j, j < 7 → 0 < (W j).toInt → P j = aPo W w j) → (∀ j, j < 7 → 0 < (W j).toInt → (zRunN zS0 W L n P (nI c) k).1 j = aPo W (aN W L n w c k).1 j) ∧ (zRunN zS0 W L n P (nI c) k).2.1 = nI (aN W L n w c k).2.1 ∧ (zRunN zS0 W L n P (nI c) k).2.2 = (aN W L n w c k).2.2
  | 0, w, c, k, P, hc, hP => ⟨hP, rfl, rfl⟩
  | n + 1, w, c, k, P, hc, hP => by
    have ec := nI_toInt (n := c) (by omega)
    have ek := nI_clamp (n := c) (by omega)
    have hT : zTurn P zS0 W (nI c) = zTurnR (W c) 0 (W c).toNatClampNeg (P c) := by
      unfold zTurn
      rw [if_pos ⟨by omega, by omega⟩, ek]
    have w4 := hW c (by omega)
    have ewc := z_clI w4.1
    by_cases q : c < 7 ∧ 0 < (W c).toInt
    · have ch : aCh W c = (W c).toInt.toNat := if_neg (by omega)
      have lt := aRd_lt (W := W) (w := w) (c := c)
      have eP : P c = nI (aRd W w c) := hP c (by omega) q.2
      have ep := nI_toInt (n := aRd W w c) (by omega)
      have tn := aTn_rd (W := W) (w := w) (c := c) hc
      have tc := tn c hc
      rw [if_pos rfl] at tc
      -- the post goes on by one
      have hN : zNext (W c) (P c) = nI (aRd W (aTn W w c) c) := by
        have e1 : (nI (aRd W w c) + 1).toInt = (aRd W w c : Int) + 1 := by
          rw [zInc1, nI_toInt (by omega)]
          omega
        rw [eP, tc]
        unfold zNext
        by_cases v : nI (aRd W w c) + 1 < W c
        · have v2 := (fa_lt _ _).mp v
          rw [if_pos v, zInc1, Nat.mod_eq_of_lt (by omega)]
        · have v2 : ¬ (nI (aRd W w c) + 1).toInt < (W c).toInt := fun z => v ((fa_lt _ _).mpr z)
          rw [if_neg v, show aRd W w c + 1 = aCh W c by omega, Nat.mod_self]
          rfl
      have hT2 : zTurn P zS0 W (nI c) = nI (aRd W (aTn W w c) c) := by
        rw [hT, show (W c).toNatClampNeg = ((W c).toNatClampNeg - 1) + 1 by omega, zTurnR, if_pos (zBit_z _), hN]
      have lt2 := aRd_lt (W := W) (w := aTn W w c) (c := c)
      have er := nI_toInt (n := aRd W (aTn W w c) c) (by omega)
      have er2 := nI_clamp (n := aRd W (aTn W w c) c) (by omega)
      have nn : ¬ zTurn P zS0 W (nI c) = -1 := fun z => by
        rw [hT2] at z
        have z := congrArg Int32.toInt z
        rw [er] at z
        have m1 : (-1 : Int32).toInt = -1 := rfl
        omega
      have b := hL c (aRd W (aTn W w c) c) q.1 (by omega) (by omega)
      have hS : zStep P zS0 W L (nI c) = L (4 * c + aRd W (aTn W w c) c) := by
        unfold zStep
        rw [if_neg nn, hT2, ek, er2]
      have eL : L (4 * c + aRd W (aTn W w c) c) = nI (L (4 * c + aRd W (aTn W w c) c)).toInt.toNat := z_nI (by omega) (by omega)
      have ns : ¬ zStep P zS0 W L (nI c) = -1 := fun z => by
        rw [hS] at z
        rw [z] at b
        exact absurd b.1 (by decide)
      have hP2 : ∀ j, j < 7 → 0 < (W j).toInt → zPost P zS0 W (nI c) j = aPo W (aTn W w c) j := fun j hj hw => by
        unfold zPost
        rw [if_neg nn, ek, hT2]
        unfold aPo
        by_cases v : j = c
        · rw [z_eq v, v]
        · rw [z_ne v, hP j hj hw]
          unfold aPo
          rw [tn j (by omega), if_neg v]
      have e1 : zRunN zS0 W L (n + 1) P (nI c) k = zRunN zS0 W L n (zPost P zS0 W (nI c)) (zStep P zS0 W L (nI c)) (k + 1) := by
        rw [zRunN, if_neg ns]
      have e2 : aN W L (n + 1) w c k = aN W L n (aTn W w c) (L (4 * c + aRd W (aTn W w c) c)).toInt.toNat (k + 1) := if_pos q
      rw [e1, e2, hS, eL]
      have ib := aN_run hL hW n (aTn W w c) (L (4 * c + aRd W (aTn W w c) c)).toInt.toNat (k + 1) _ (by omega) hP2
      rw [← eL] at ib ⊢
      exact ib
    · have z0 : (W c).toInt = 0 := by omega
      have hT2 : zTurn P zS0 W (nI c) = -1 := by
        rw [hT, show (W c).toNatClampNeg = 0 by omega]
        rfl
      have hS : zStep P zS0 W L (nI c) = -1 := by
        unfold zStep
        rw [if_pos hT2]
      have hP2 : zPost P zS0 W (nI c) = P := by
        unfold zPost
        rw [if_pos hT2]
      have e1 : zRunN zS0 W L (n + 1) P (nI c) k = (P, nI c, k) := by
        rw [zRunN, if_pos hS, hP2]
      rw [e1, aN_s q]
      exact ⟨hP, rfl, rfl⟩

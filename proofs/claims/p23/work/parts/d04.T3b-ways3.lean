/-- what n steps lead to from a place of the table -/
def aT (W L : Nat → Int32) (n i : Nat) : Nat := 8 * (aN W L n (i / 8) (i % 8) 0).1 + (aN W L n (i / 8) (i % 8) 0).2.1 + 131072 * (aN W L n (i / 8) (i % 8) 0).2.2
def aOk (W L : Nat → Int32) : Prop := (∀ j r : Nat, j < 7 → r < 4 → (r : Int) < (W j).toInt → 0 ≤ (L (4 * j + r)).toInt ∧ (L (4 * j + r)).toInt ≤ 6) ∧ (∀ j, j < 7 → 0 ≤ (W j).toInt ∧ (W j).toInt ≤ 4) ∧ aPr W 7 ≤ 16384
theorem aN_b7 {W L : Nat → Int32} (h : aOk W L) {n w c k : Nat} (hw : w < aPr W 7) (hc : c ≤ 7) : (aN W L n w c k).1 < aPr W 7 ∧ (aN W L n w c k).2.1 ≤ 7 ∧ (aN W L n w c k).2.2 ≤ n + k := by
  by_cases q : c ≤ 6
  · have t := aN_b h.1 (fun j hj => (h.2.1 j hj).2) n w c k hw q
    exact ⟨t.1, by omega, t.2.2⟩
  · rw [aN_s (by omega)]
    exact ⟨hw, hc, by show k ≤ n + k; omega⟩
theorem aT_b {W L : Nat → Int32} (h : aOk W L) {n i : Nat} (hi : i < 8 * aPr W 7) : aT W L n i % 131072 = 8 * (aN W L n (i / 8) (i % 8) 0).1 + (aN W L n (i / 8) (i % 8) 0).2.1 ∧ aT W L n i % 131072 < 8 * aPr W 7 ∧ aT W L n i ≤ 131071 + 131072 * n ∧ aT W L n i - aT W L n i % 131072 = 131072 * (aN W L n (i / 8) (i % 8) 0).2.2 ∧ (aN W L n (i / 8) (i % 8) 0).1 < aPr W 7 ∧ (aN W L n (i / 8) (i % 8) 0).2.1 ≤ 7 := by
  have t := aN_b7 h (n := n) (w := i / 8) (c := i % 8) (k := 0) (by omega) (by omega)
  have p := h.2.2
  unfold aT
  omega
/-- twice as many -/
theorem aT_a {W L : Nat → Int32} (h : aOk W L) {m n i : Nat} (hi : i < 8 * aPr W 7) : aT W L (m + n) i = aT W L n (aT W L m i % 131072) + (aT W L m i - aT W L m i % 131072) := by
  obtain ⟨e1, _, _, e4, e5, e6⟩ := aT_b h (n := m) hi
  rw [e4, e1]
  have d1 : (8 * (aN W L m (i / 8) (i % 8) 0).1 + (aN W L m (i / 8) (i % 8) 0).2.1) / 8 = (aN W L m (i / 8) (i % 8) 0).1 ∨ (aN W L m (i / 8) (i % 8) 0).2.1 = 8 := by omega
  have d2 : (8 * (aN W L m (i / 8) (i % 8) 0).1 + (aN W L m (i / 8) (i % 8) 0).2.1) % 8 = (aN W L m (i / 8) (i % 8) 0).2.1 := by omega
  have e := aN_a (W := W) (L := L) m n (i / 8) (i % 8) 0
  rw [aN_k n] at e
  unfold aT
  rw [d1.resolve_right (by omega), d2, e]
  show 8 * (aN W L n _ _ 0).1 + (aN W L n _ _ 0).2.1 + 131072 * ((aN W L n _ _ 0).2.2 + _) = _
  omega
/-- one step: what the table of one step holds -/
theorem aT_1 {W L : Nat → Int32} {i : Nat} : aT W L 1 i = if i % 8 < 7 ∧ 0 < (W (i % 8)).toInt then 8 * aTn W (i / 8) (i % 8) + (L (4 * (i % 8) + aRd W (aTn W (i / 8) (i % 8)) (i % 8))).toInt.toNat + 131072 else i := by
  unfold aT
  by_cases q : i % 8 < 7 ∧ 0 < (W (i % 8)).toInt
  · have e : aN W L 1 (i / 8) (i % 8) 0 = (aTn W (i / 8) (i % 8), (L (4 * (i % 8) + aRd W (aTn W (i / 8) (i % 8)) (i % 8))).toInt.toNat, 0 + 1) := if_pos q
    rw [e, if_pos q]
    rfl
  · rw [aN_s q, if_neg q]
    show 8 * (i / 8) + i % 8 + 131072 * 0 = i
    omega
/-- the land's ways out -/
def aW (cr inn : Int32) (k1 : Nat → Int32) : Nat → Int32 := fun j => zWays cr inn k1 (nI j)
theorem aW_7 {cr inn : Int32} {k1 : Nat → Int32} {c : Nat} (h : 7 ≤ c) (hc : c < 1000) : zWays cr inn k1 (nI c) = 0 := by
  unfold zWays
  rw [if_neg]
  rw [nI_toInt (by omega)]
  omega
theorem aCh_z {cr inn : Int32} {k1 k3 : Nat → Int32} (hI : zLI cr k1 k3) (c : Nat) : zCh cr inn k1 (nI c) = nI (aCh (aW cr inn k1) c) := by
  have h := zWays_le (inn := inn) hI (nI c)
  unfold zCh aCh aW
  by_cases q : zWays cr inn k1 (nI c) < 1
  · have q2 : (zWays cr inn k1 (nI c)).toInt < 1 := (fa_lt _ _).mp q
    rw [if_pos q, if_pos (by omega)]
    rfl
  · have q2 : ¬ (zWays cr inn k1 (nI c)).toInt < 1 := fun z => q ((fa_lt _ _).mpr z)
    rw [if_neg q, if_neg (by omega)]
    exact z_nI (by omega) (by omega)
theorem aCh_4 {cr inn : Int32} {k1 k3 : Nat → Int32} (hI : zLI cr k1 k3) (c : Nat) : aCh (aW cr inn k1) c ≤ 4 := by
  have h := zWays_le (inn := inn) hI (nI c)
  unfold aCh aW
  split <;> omega
theorem aPr_4 {cr inn : Int32} {k1 k3 : Nat → Int32} (hI : zLI cr k1 k3) : ∀ n, aPr (aW cr inn k1) n ≤ 4 ^ n
  | 0 => Nat.le_refl _
  | n + 1 => by
    rw [Nat.pow_succ]
    exact Nat.mul_le_mul (aPr_4 hI n) (aCh_4 hI _)
theorem aWyN_z {cr inn : Int32} {k1 k3 : Nat → Int32} (hI : zLI cr k1 k3) : ∀ n, n ≤ 7 → zWyN cr inn k1 n = nI (aPr (aW cr inn k1) n) := by
  have st : ∀ n, n ≤ 6 → zWyN cr inn k1 n = nI (aPr (aW cr inn k1) n) → zWyN cr inn k1 n * zCh cr inn k1 (nI (6 - n)) = nI (aPr (aW cr inn k1) (n + 1)) := fun n hn e => by
    rw [e, aCh_z hI, pk_mul]
    rfl
  have e0 : zWyN cr inn k1 0 = nI (aPr (aW cr inn k1) 0) := rfl
  have e1 : zWyN cr inn k1 1 = nI (aPr (aW cr inn k1) 1) := st 0 (by decide) e0
  have e2 : zWyN cr inn k1 2 = nI (aPr (aW cr inn k1) 2) := st 1 (by decide) e1
  have e3 : zWyN cr inn k1 3 = nI (aPr (aW cr inn k1) 3) := st 2 (by decide) e2
  have e4 : zWyN cr inn k1 4 = nI (aPr (aW cr inn k1) 4) := st 3 (by decide) e3
  have e5 : zWyN cr inn k1 5 = nI (aPr (aW cr inn k1) 5) := st 4 (by decide) e4
  have e6 : zWyN cr inn k1 6 = nI (aPr (aW cr inn k1) 6) := st 5 (by decide) e5
  have e7 : zWyN cr inn k1 7 = nI (aPr (aW cr inn k1) 7) := st 6 (by decide) e6
  intro n hn
  rcases (show n = 0 ∨ n = 1 ∨ n = 2 ∨ n = 3 ∨ n = 4 ∨ n = 5 ∨ n = 6 ∨ n = 7 by omega) with q | q | q | q | q | q | q | q <;> rw [q] <;> assumption
theorem aPr_7 {cr inn : Int32} {k1 k3 : Nat → Int32} (hI : zLI cr k1 k3) : aPr (aW cr inn k1) 7 ≤ 16384 := aPr_4 hI 7
theorem zWy_z {cr inn : Int32} {k1 k3 : Nat → Int32} (hI : zLI cr k1 k3) : zWy cr inn k1 = nI (aPr (aW cr inn k1) 7) := aWyN_z hI 7 (by decide)
theorem zPl_z {cr inn : Int32} {k1 k3 : Nat → Int32} (hI : zLI cr k1 k3) : zPl cr inn k1 = nI (8 * aPr (aW cr inn k1) 7) := by
  have h := aPr_7 (inn := inn) hI
  have e : zWy cr inn k1 <<< (3 &&& 31) = nI (8 * aPr (aW cr inn k1) 7) := by
    rw [zWy_z hI, pk_shlN (3 &&& 31) 3 (by decide) (by omega), Nat.mul_comm]
  unfold zPl
  rw [e, if_neg]
  intro z
  have z2 := (fa_lt _ _).mp z
  rw [nI_toInt (by omega)] at z2
  have : (131072 : Int32).toInt = 131072 := rfl
  omega
theorem aPr_le {W : Nat → Int32} {m n : Nat} (h : m ≤ n) : aPr W m ≤ aPr W n := by
  obtain ⟨s, e⟩ := aPr_d (W := W) h
  have p := aPr_p (W := W) n
  have s1 : 1 ≤ s := by
    rcases Nat.eq_zero_or_pos s with q | q
    · rw [q, Nat.mul_zero] at e
      omega
    · exact q
  rw [e]
  exact Nat.le_mul_of_pos_right _ s1
/-- what choices and weights hold -/
def aF (cr inn : Int32) (k1 f1 f2 : Nat → Int32) : Prop := (∀ c, c < 7 → f1 c = zCh cr inn k1 (nI c)) ∧ ∀ c, c < 7 → f2 c = zWyN cr inn k1 (6 - c)
theorem zRoad_z {cr inn : Int32} {k1 k3 f1 f2 : Nat → Int32} (hI : zLI cr k1 k3) (hF : aF cr inn k1 f1 f2) {w c : Nat} (hw : w < 2147483648) (hc : c < 7) : zRoad f1 f2 (nI w) (nI c) = nI (aRd (aW cr inn k1) w c) := by
  have ec := nI_toInt (n := c) (by omega)
  have ek : (nI c).toNatClampNeg = c := pk_cl c
  have e1 : f1 c = nI (aCh (aW cr inn k1) c) := (hF.1 c hc).trans (aCh_z hI c)
  have e2 : f2 c = nI (aPr (aW cr inn k1) (6 - c)) := (hF.2 c hc).trans (aWyN_z hI _ (by omega))
  have p1 := aCh_p (W := aW cr inn k1) (c := c)
  have p2 := aPr_p (W := aW cr inn k1) (6 - c)
  have p3 := aCh_4 (inn := inn) hI c
  have p4 := aPr_le (W := aW cr inn k1) (m := 6 - c) (n := 7) (by omega)
  have p5 := aPr_7 (inn := inn) hI
  have q1 := nI_toInt (n := aCh (aW cr inn k1) c) (by omega)
  have q2 := nI_toInt (n := aPr (aW cr inn k1) (6 - c)) (by omega)
  have d := Nat.div_le_self w (aPr (aW cr inn k1) (6 - c))
  unfold zRoad
  rw [ek, e1, e2, if_neg (by omega), pk_div hw (by omega) (by omega), pk_rem (by omega) (by omega) (by omega)]
  rfl
/-- the way when a post turns, as it is reckoned -/
theorem aTn_z {W : Nat → Int32} {w c : Nat} (hc : c ≤ 6) : (aRd W w c + 1 < aCh W c → aTn W w c = w + aPr W (6 - c)) ∧ (¬ aRd W w c + 1 < aCh W c → w = aTn W w c + (aCh W c - 1) * aPr W (6 - c)) := by
  have hp := aPr_p (W := W) (6 - c)
  have hm := aCh_p (W := W) (c := c)
  have lt := aRd_lt (W := W) (w := w) (c := c)
  have E := aDc (w := w) (p := aPr W (6 - c)) (m := aCh W c) hp
  have T : aTn W w c = w / (aPr W (6 - c) * aCh W c) * (aPr W (6 - c) * aCh W c) + ((aRd W w c + 1) % aCh W c) * aPr W (6 - c) + w % aPr W (6 - c) := by
    unfold aTn
    rw [aPr_s hc]
  have R : w / aPr W (6 - c) % aCh W c = aRd W w c := rfl
  rw [R] at E
  constructor
  · intro q
    rw [Nat.mod_eq_of_lt q, Nat.add_mul, Nat.one_mul] at T
    omega
  · intro q
    have e : aRd W w c = aCh W c - 1 := by omega
    rw [show aRd W w c + 1 = aCh W c by omega, Nat.mod_self, Nat.zero_mul] at T
    rw [e] at E
    omega

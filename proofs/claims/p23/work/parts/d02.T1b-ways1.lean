/-! WAYS: rows of roads, as numbers -/
def aCh (W : Nat → Int32) (c : Nat) : Nat := if (W c).toInt ≤ 0 then 1 else (W c).toInt.toNat
/-- as many as the last n digits have -/
def aPr (W : Nat → Int32) : Nat → Nat
  | 0 => 1
  | n + 1 => aPr W n * aCh W (6 - n)
def aRd (W : Nat → Int32) (w c : Nat) : Nat := w / aPr W (6 - c) % aCh W c
theorem aCh_p {W : Nat → Int32} {c : Nat} : 1 ≤ aCh W c := by
  unfold aCh
  split <;> omega
theorem aPr_p {W : Nat → Int32} : ∀ n, 1 ≤ aPr W n
  | 0 => Nat.le_refl _
  | n + 1 => Nat.mul_pos (aPr_p n) aCh_p
/-- more digits: a multiple -/
theorem aPr_m {W : Nat → Int32} (m : Nat) : ∀ n, ∃ s, aPr W (m + n) = aPr W m * s
  | 0 => ⟨1, (Nat.mul_one _).symm⟩
  | n + 1 => by
    obtain ⟨s, e⟩ := aPr_m (W := W) m n
    refine ⟨s * aCh W (6 - (m + n)), ?_⟩
    show aPr W (m + n) * aCh W (6 - (m + n)) = aPr W m * (s * aCh W (6 - (m + n)))
    rw [e, Nat.mul_assoc]
theorem aPr_d {W : Nat → Int32} {m n : Nat} (h : m ≤ n) : ∃ s, aPr W n = aPr W m * s := by
  obtain ⟨s, e⟩ := aPr_m (W := W) m (n - m)
  rw [show m + (n - m) = n by omega] at e
  exact ⟨s, e⟩
theorem aPr_s {W : Nat → Int32} {c : Nat} (h : c ≤ 6) : aPr W (6 - c + 1) = aPr W (6 - c) * aCh W c := by
  show aPr W (6 - c) * aCh W (6 - (6 - c)) = aPr W (6 - c) * aCh W c
  rw [show 6 - (6 - c) = c by omega]
theorem aRd_lt {W : Nat → Int32} {w c : Nat} : aRd W w c < aCh W c := Nat.mod_lt _ aCh_p
/-- a number, seen at one of its digits -/
theorem aDc {w p m : Nat} (hp : 1 ≤ p) : w = w / (p * m) * (p * m) + (w / p % m) * p + w % p := by
  have e1 : p * (w / p) + w % p = w := Nat.div_add_mod w p
  have e2 : m * (w / p / m) + w / p % m = w / p := Nat.div_add_mod (w / p) m
  have e3 : w / p / m = w / (p * m) := Nat.div_div_eq_div_mul w p m
  rw [e3] at e2
  have e4 : w / (p * m) * (p * m) + (w / p % m) * p = p * (m * (w / (p * m)) + w / p % m) := by
    rw [Nat.mul_add, Nat.mul_comm (w / (p * m)) (p * m), Nat.mul_assoc p m, Nat.mul_comm (w / p % m) p]
  rw [e4, e2]
  exact e1.symm
/-- another digit there: the same above and below -/
theorem aDq {q d r p m : Nat} (hp : 1 ≤ p) (hd : d < m) (hr : r < p) : (q * (p * m) + d * p + r) / (p * m) = q ∧ (q * (p * m) + d * p + r) / p % m = d ∧ (q * (p * m) + d * p + r) % p = r := by
  have hl : d * p + r < p * m := by
    have : (d + 1) * p ≤ m * p := Nat.mul_le_mul_right p hd
    rw [Nat.add_mul, Nat.one_mul] at this
    rw [Nat.mul_comm p m]
    omega
  have hpm : 0 < p * m := Nat.mul_pos hp (by omega)
  have a1 : (q * (p * m) + d * p + r) / (p * m) = q := by
    rw [Nat.add_assoc, Nat.add_comm, Nat.add_mul_div_right _ _ hpm, Nat.div_eq_of_lt hl, Nat.zero_add]
  have e : q * (p * m) + d * p + r = r + (q * m + d) * p := by
    rw [Nat.add_mul, Nat.mul_assoc q m p, Nat.mul_comm m p]
    omega
  have a2 : (q * (p * m) + d * p + r) / p = q * m + d := by
    rw [e, Nat.add_mul_div_right _ _ hp, Nat.div_eq_of_lt hr, Nat.zero_add]
  refine ⟨a1, ?_, ?_⟩
  · rw [a2, Nat.add_comm, Nat.add_mul_mod_self_right, Nat.mod_eq_of_lt hd]
  · rw [e, Nat.add_mul_mod_self_right, Nat.mod_eq_of_lt hr]
/-- the way when a post has turned -/
def aTn (W : Nat → Int32) (w c : Nat) : Nat := w / aPr W (6 - c + 1) * aPr W (6 - c + 1) + ((aRd W w c + 1) % aCh W c) * aPr W (6 - c) + w % aPr W (6 - c)
theorem aTn_rd {W : Nat → Int32} {w c : Nat} (hc : c ≤ 6) : ∀ j, j ≤ 6 → aRd W (aTn W w c) j = if j = c then (aRd W w c + 1) % aCh W c else aRd W w j := by
  have hp := aPr_p (W := W) (6 - c)
  have hm := aCh_p (W := W) (c := c)
  have D := aDq (q := w / (aPr W (6 - c) * aCh W c)) (d := (aRd W w c + 1) % aCh W c) (r := w % aPr W (6 - c)) hp (Nat.mod_lt _ hm) (Nat.mod_lt _ hp)
  have E := aDc (w := w) (p := aPr W (6 - c)) (m := aCh W c) hp
  have T : aTn W w c = w / (aPr W (6 - c) * aCh W c) * (aPr W (6 - c) * aCh W c) + ((aRd W w c + 1) % aCh W c) * aPr W (6 - c) + w % aPr W (6 - c) := by
    unfold aTn
    rw [aPr_s hc]
  intro j hj
  by_cases e : j = c
  · subst e
    rw [if_pos rfl]
    show aTn W w j / aPr W (6 - j) % aCh W j = _
    rw [T]
    exact D.2.1
  · rw [if_neg e]
    show aTn W w c / aPr W (6 - j) % aCh W j = w / aPr W (6 - j) % aCh W j
    by_cases q : j < c
    · obtain ⟨s, hs⟩ := aPr_d (W := W) (m := 6 - c + 1) (n := 6 - j) (by omega)
      rw [hs, aPr_s hc, ← Nat.div_div_eq_div_mul, ← Nat.div_div_eq_div_mul w, T, D.1]
    · obtain ⟨s, hs⟩ := aPr_d (W := W) (m := 6 - j + 1) (n := 6 - c) (by omega)
      rw [aPr_s hj] at hs
      have key : ∀ v, v / aPr W (6 - j) % aCh W j = v % aPr W (6 - c) / aPr W (6 - j) % aCh W j := fun v => by
        have hv : aPr W (6 - c) * (v / aPr W (6 - c)) + v % aPr W (6 - c) = v := Nat.div_add_mod v _
        have h1 : v = v % aPr W (6 - c) + (aCh W j * (s * (v / aPr W (6 - c)))) * aPr W (6 - j) := by
          rw [hs] at hv ⊢
          rw [Nat.mul_comm (aCh W j * _) (aPr W (6 - j)), ← Nat.mul_assoc (aPr W (6 - j)), ← Nat.mul_assoc (aPr W (6 - j) * aCh W j)]
          omega
        have h2 : v / aPr W (6 - j) = v % aPr W (6 - c) / aPr W (6 - j) + aCh W j * (s * (v / aPr W (6 - c))) := by
          conv => lhs; rw [h1]
          rw [Nat.add_mul_div_right _ _ (aPr_p _)]
        rw [h2, Nat.add_mul_mod_self_left]
      rw [key (aTn W w c), key w, T, D.2.2]
theorem aTn_lt {W : Nat → Int32} {w c : Nat} (hc : c ≤ 6) (hw : w < aPr W 7) : aTn W w c < aPr W 7 := by
  obtain ⟨s, hs⟩ := aPr_d (W := W) (m := 6 - c + 1) (n := 7) (by omega)
  have hq : 0 < aPr W (6 - c + 1) := aPr_p _
  have a : w / aPr W (6 - c + 1) < s := by
    rw [hs] at hw
    exact Nat.div_lt_of_lt_mul hw
  have hp := aPr_p (W := W) (6 - c)
  have hm := aCh_p (W := W) (c := c)
  have d := Nat.mod_lt (aRd W w c + 1) hm
  have r := Nat.mod_lt w hp
  have l : (aRd W w c + 1) % aCh W c * aPr W (6 - c) + w % aPr W (6 - c) < aPr W (6 - c + 1) := by
    rw [aPr_s hc]
    have : ((aRd W w c + 1) % aCh W c + 1) * aPr W (6 - c) ≤ aCh W c * aPr W (6 - c) := Nat.mul_le_mul_right _ d
    rw [Nat.add_mul, Nat.one_mul, Nat.mul_comm (aCh W c)] at this
    omega
  have u : (w / aPr W (6 - c + 1) + 1) * aPr W (6 - c + 1) ≤ s * aPr W (6 - c + 1) := Nat.mul_le_mul_right _ a
  rw [Nat.add_mul, Nat.one_mul, Nat.mul_comm s, ← hs] at u
  unfold aTn
  omega

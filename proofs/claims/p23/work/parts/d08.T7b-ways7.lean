/-! what is counted over all ways -/
def rWh (W L : Nat → Int32) (w : Nat) (c : Int32) : Int32 := nI (aE W L w c.toInt.toNat).2.1
def rStp (W L : Nat → Int32) (w : Nat) (c : Int32) : Nat := (aE W L w c.toInt.toNat).2.2
def rAf (W L : Nat → Int32) (w : Nat) (c : Int32) : Nat := (aE W L w c.toInt.toNat).1
def rCn (p : Nat → Bool) : Nat → Nat
  | 0 => 0
  | n + 1 => rCn p n + if p n = true then 1 else 0
theorem rCn_le {p : Nat → Bool} : ∀ n, rCn p n ≤ n
  | 0 => Nat.le_refl _
  | n + 1 => by
    have ih := rCn_le (p := p) n
    unfold rCn
    split <;> omega
theorem rCn_cg {p q : Nat → Bool} : ∀ n, (∀ w, w < n → p w = q w) → rCn p n = rCn q n
  | 0, _ => rfl
  | n + 1, h => by
    unfold rCn
    rw [rCn_cg n (fun w hw => h w (by omega)), h n (by omega)]
def rSu (g : Nat → Nat) : Nat → Nat
  | 0 => 0
  | n + 1 => rSu g n + g n
theorem rSu_le {g : Nat → Nat} {m : Nat} : ∀ n, (∀ w, w < n → g w ≤ m) → rSu g n ≤ m * n
  | 0, _ => Nat.le_refl _
  | n + 1, h => by
    have ih := rSu_le n (fun w hw => h w (by omega))
    have l := h n (by omega)
    show rSu g n + g n ≤ m * (n + 1)
    rw [Nat.mul_add, Nat.mul_one]
    omega
theorem rSu_cg {g k : Nat → Nat} : ∀ n, (∀ w, w < n → g w = k w) → rSu g n = rSu k n
  | 0, _ => rfl
  | n + 1, h => by
    unfold rSu
    rw [rSu_cg n (fun w hw => h w (by omega)), h n (by omega)]
def rAll (p : Nat → Bool) : Nat → Bool
  | 0 => true
  | n + 1 => rAll p n && p n
theorem rAll_y {p : Nat → Bool} : ∀ n, rAll p n = true ↔ ∀ w, w < n → p w = true
  | 0 => ⟨fun _ w h => absurd h (by omega), fun _ => rfl⟩
  | n + 1 => by
    show (rAll p n && p n) = true ↔ _
    rw [Bool.and_eq_true, rAll_y n]
    constructor
    · rintro ⟨a, b⟩ w hw
      by_cases e : w = n
      · rw [e]; exact b
      · exact a w (by omega)
    · intro a
      exact ⟨fun w hw => a w (by omega), a n (by omega)⟩
theorem rAll_cg {p q : Nat → Bool} : ∀ n, (∀ w, w < n → p w = q w) → rAll p n = rAll q n
  | 0, _ => rfl
  | n + 1, h => by
    unfold rAll
    rw [rAll_cg n (fun w hw => h w (by omega)), h n (by omega)]
/-- the best way of all that come, and how many steps -/
def rBg (c : Nat → Bool) (g : Nat → Nat) (s : Int32) : Nat → Int32 × Int32
  | 0 => (-1, -1)
  | n + 1 => if c n = true ∧ ((rBg c g s n).1 = -1 ∨ (if s = 0 then (rBg c g s n).2 < nI (g n) else nI (g n) < (rBg c g s n).2)) then (nI n, nI (g n)) else rBg c g s n
theorem zIte {α : Type} {p : Prop} [Decidable p] {a b : α} (P : α → Prop) (ha : P a) (hb : P b) : P (if p then a else b) := by
  split
  · exact ha
  · exact hb
theorem rBg_i {c : Nat → Bool} {g : Nat → Nat} {s : Int32} (hg : ∀ w, g w < 1000) : ∀ n, n ≤ 16384 → (rBg c g s n = (-1, -1)) ∨ ∃ w, w < n ∧ rBg c g s n = (nI w, nI (g w))
  | 0, _ => Or.inl rfl
  | n + 1, hn => by
    have ih := rBg_i (c := c) (s := s) hg n (by omega)
    unfold rBg
    refine zIte (fun z => z = (-1, -1) ∨ ∃ w, w < n + 1 ∧ z = (nI w, nI (g w))) (Or.inr ⟨n, by omega, rfl⟩) ?_
    rcases ih with q | ⟨w, a, b⟩
    · exact Or.inl q
    · exact Or.inr ⟨w, by omega, b⟩
theorem rBg_cg {c d : Nat → Bool} {g k : Nat → Nat} {s : Int32} : ∀ n, (∀ w, w < n → c w = d w ∧ g w = k w) → rBg c g s n = rBg d k s n
  | 0, _ => rfl
  | n + 1, h => by
    unfold rBg
    rw [rBg_cg n (fun w hw => h w (by omega)), (h n (by omega)).1, (h n (by omega)).2]
/-! walks by ways, told twice -/
theorem aE_c {W L : Nat → Int32} {m : Nat} (hL : ∀ j r : Nat, j < 7 → r < 4 → (r : Int) < (W j).toInt → 0 ≤ (L (4 * j + r)).toInt ∧ (L (4 * j + r)).toInt < m) (hW : ∀ j, j < 7 → (W j).toInt ≤ 4) : ∀ (n w c k : Nat), c < m → (aN W L n w c k).2.1 < m
  | 0, w, c, k, hc => hc
  | n + 1, w, c, k, hc => by
    unfold aN
    by_cases q : c < 7 ∧ 0 < (W c).toInt
    · rw [if_pos q]
      have lt := aRd_lt (W := W) (w := aTn W w c) (c := c)
      have ch : aCh W c = (W c).toInt.toNat := if_neg (by omega)
      have w4 := hW c q.1
      have b := hL c (aRd W (aTn W w c) c) q.1 (by omega) (by omega)
      exact aE_c hL hW n _ _ _ (by omega)
    · rw [if_neg q]
      exact hc
theorem kaOk {cr inn : Int32} {k1 k2 k3 : Nat → Int32} (hI : zLI cr k1 k3) (hq : zLq cr k1 k2) : aOk (aW cr inn k1) k2 ∧ ∀ j r : Nat, j < 7 → r < 4 → (r : Int) < (aW cr inn k1 j).toInt → 0 ≤ (k2 (4 * j + r)).toInt ∧ (k2 (4 * j + r)).toInt < ((cr.toInt.toNat : Nat) : Int) := by
  have h7 := hI.1
  have z0 : (0 : Int32).toInt = 0 := rfl
  have key : ∀ j r : Nat, j < 7 → r < 4 → (r : Int) < (aW cr inn k1 j).toInt → 0 ≤ (k2 (4 * j + r)).toInt ∧ (k2 (4 * j + r)).toInt < ((cr.toInt.toNat : Nat) : Int) := by
    intro j r hj hr h
    have h : (r : Int) < (zWays cr inn k1 (nI j)).toInt := h
    have n0 : ¬ zWays cr inn k1 (nI j) = 0 := fun q => by rw [q, z0] at h; omega
    obtain ⟨_, _, _, _, c4⟩ := zWays_in n0
    have kc := nI_clamp (n := j) (by omega)
    rw [c4, kc] at h
    have t := hq j r hj hr h
    omega
  exact ⟨⟨fun j r hj hr h => by have q := key j r hj hr h; omega, fun j hj => zWays_le (inn := inn) hI (nI j), aPr_7 hI⟩, key⟩
/-- what is read off the table -/
theorem zEnt_w {cr inn wy pc x : Int32} {k1 k2 k3 f1 f2 f5 : Nat → Int32} {n : Nat} (hI : zLI cr k1 k3) (hO : aOk (aW cr inn k1) k2) (hT : zTab cr inn k1 k2 wy pc f1 f2 f5 n) {w : Nat} (hw : w < aPr (aW cr inn k1) 7) (hx : zHas cr x) : zEntry f5 n (nI w) x &&& 7 = rWh (aW cr inn k1) k2 w x ∧ zEntry f5 n (nI w) x >>> (17 &&& 31) = nI (rStp (aW cr inn k1) k2 w x) ∧ (zEntry f5 n (nI w) x &&& 131071) >>> (3 &&& 31) = nI (rAf (aW cr inn k1) k2 w x) := by
  obtain ⟨x0, x1, x2⟩ := hx
  have ex : x = nI x.toInt.toNat := z_nI (by omega) (by omega)
  have e := zEnt hI hO hT hw (c := x.toInt.toNat) (by omega)
  rw [← ex] at e
  exact e.2
theorem zEnt_b {cr inn x : Int32} {k1 k2 k3 : Nat → Int32} (hI : zLI cr k1 k3) (hq : zLq cr k1 k2) {w : Nat} (hw : w < aPr (aW cr inn k1) 7) (hx : zHas cr x) : 0 ≤ (rWh (aW cr inn k1) k2 w x).toInt ∧ (rWh (aW cr inn k1) k2 w x).toInt < cr.toInt ∧ rStp (aW cr inn k1) k2 w x ≤ 499 ∧ rAf (aW cr inn k1) k2 w x < aPr (aW cr inn k1) 7 := by
  obtain ⟨x0, x1, x2⟩ := hx
  have k := kaOk (inn := inn) hI hq
  have b := aE_b k.1 hw (c := x.toInt.toNat) (by omega)
  have c := aE_c k.2 (fun j hj => (k.1.2.1 j hj).2) 499 w x.toInt.toNat 0 (by omega)
  have c : (aE (aW cr inn k1) k2 w x.toInt.toNat).2.1 < cr.toInt.toNat := c
  have h7 := hI.1
  have t := nI_toInt (n := (aE (aW cr inn k1) k2 w x.toInt.toNat).2.1) (by omega)
  have e : (rWh (aW cr inn k1) k2 w x).toInt = ((aE (aW cr inn k1) k2 w x.toInt.toNat).2.1 : Nat) := t
  exact ⟨by omega, by omega, b.2.2, b.1⟩
theorem aE_cg {W V L L' : Nat → Int32} (hW : ∀ j, j < 7 → W j = V j) (hL : zLs W L L') (h4 : ∀ j, j < 7 → (W j).toInt ≤ 4) (w c : Nat) : aE W L w c = aE V L' w c := aN_cg hW hL h4 499 w c 0
/-! answers -/
def rLot (W L : Nat → Int32) (a b u : Int32) : Int32 := zLt_ (rCn (fun w => decide (rWh W L w a = b)) (aPr W 7)) (aPr W 7) u
def rMean (W L : Nat → Int32) (inn a u : Int32) : Int32 := if rAll (fun w => decide (zBit inn (rWh W L w a) = 1)) (aPr W 7) = true then zLt_ (rSu (fun w => rStp W L w a) (aPr W 7)) (aPr W 7) u else -1
def rBack (W L P : Nat → Int32) (a : Int32) : Int32 := nI (rCn (fun w => decide (nI (rAf W L w a) = nI (aRs W P 7))) (aPr W 7))
def rLong (W L : Nat → Int32) (m : Nat) (inn a s q : Int32) : Int32 := if (rBg (fun w => decide (zBit inn (rWh W L w a) = 1)) (fun w => rStp W L w a) s (aPr W 7)).1 = -1 then -1 else if q = 0 then (rBg (fun w => decide (zBit inn (rWh W L w a) = 1)) (fun w => rStp W L w a) s (aPr W 7)).2 else aNu W (rBg (fun w => decide (zBit inn (rWh W L w a) = 1)) (fun w => rStp W L w a) s (aPr W 7)).1.toInt.toNat m
theorem aNu_cg {W V : Nat → Int32} (hW : ∀ j, j < 7 → W j = V j) (w : Nat) : ∀ n, n ≤ 7 → aNu W w n = aNu V w n
  | 0, _ => rfl
  | n + 1, hn => by
    unfold aNu
    rw [aNu_cg hW w n (by omega), aRd_cg hW (by omega)]
section WCG
variable {W V L L' P Q : Nat → Int32}
theorem rWh_cg (hW : ∀ j, j < 7 → W j = V j) (hL : zLs W L L') (h4 : ∀ j, j < 7 → (W j).toInt ≤ 4) (w : Nat) (c : Int32) : rWh W L w c = rWh V L' w c ∧ rStp W L w c = rStp V L' w c ∧ rAf W L w c = rAf V L' w c := by
  unfold rWh rStp rAf
  rw [aE_cg hW hL h4]
  exact ⟨rfl, rfl, rfl⟩
theorem rLot_cg (hW : ∀ j, j < 7 → W j = V j) (hL : zLs W L L') (h4 : ∀ j, j < 7 → (W j).toInt ≤ 4) (a b u : Int32) : rLot W L a b u = rLot V L' a b u := by
  unfold rLot
  rw [aPr_cg hW 7, rCn_cg _ (fun w _ => congrArg (fun q => decide (q = b)) (rWh_cg hW hL h4 w a).1)]
theorem rMean_cg (hW : ∀ j, j < 7 → W j = V j) (hL : zLs W L L') (h4 : ∀ j, j < 7 → (W j).toInt ≤ 4) (inn a u : Int32) : rMean W L inn a u = rMean V L' inn a u := by
  unfold rMean
  rw [aPr_cg hW 7, rAll_cg _ (fun w _ => congrArg (fun q => decide (zBit inn q = 1)) (rWh_cg hW hL h4 w a).1), rSu_cg _ (fun w _ => (rWh_cg hW hL h4 w a).2.1)]
theorem rBack_cg (hW : ∀ j, j < 7 → W j = V j) (hL : zLs W L L') (h4 : ∀ j, j < 7 → (W j).toInt ≤ 4) (hP : ∀ j, j < 7 → P j = Q j) (a : Int32) : rBack W L P a = rBack V L' Q a := by
  unfold rBack
  rw [aPr_cg hW 7, aRs_cg hW hP 7, rCn_cg _ (fun w _ => congrArg (fun q => decide (nI q = nI (aRs V Q 7))) (rWh_cg hW hL h4 w a).2.2)]
theorem rLong_cg (hW : ∀ j, j < 7 → W j = V j) (hL : zLs W L L') (h4 : ∀ j, j < 7 → (W j).toInt ≤ 4) {m : Nat} (hm : m ≤ 7) (inn a s q : Int32) : rLong W L m inn a s q = rLong V L' m inn a s q := by
  unfold rLong
  rw [aPr_cg hW 7, rBg_cg _ (fun w _ => ⟨congrArg (fun q => decide (zBit inn q = 1)) (rWh_cg hW hL h4 w a).1, (rWh_cg hW hL h4 w a).2.1⟩), aNu_cg hW _ m hm]
end WCG
def kLot (cr inn : Int32) (k1 k2 k3 : Nat → Int32) (a b u : Int32) : Int32 := if (0 ≤ a.toInt ∧ a.toInt < cr.toInt) ∧ (0 ≤ b.toInt ∧ b.toInt < cr.toInt) ∧ zBit inn b = 1 then rLot (kW cr inn k1) k2 a b u else -1
def pLot (f : Nat → Int32) (z a b u : Int32) : Int32 := if (0 ≤ a.toInt ∧ a.toInt < (f z.toInt.toNat).toInt) ∧ (0 ≤ b.toInt ∧ b.toInt < (f z.toInt.toNat).toInt) ∧ zBit (f (z.toInt.toNat + 1)) b = 1 then rLot (pW f z) (zLo f z) a b u else -1
theorem kLot_e {cr inn z a b u : Int32} {k1 k2 k3 k4 f : Nat → Int32} {B : Nat} (h : zLnd cr inn k1 k2 k3 k4 (fun j => f (B + j))) (hF : zLF (fun j => f (B + j))) (hz : z.toInt.toNat = B) : kLot cr inn k1 k2 k3 a b u = pLot f z a b u := by
  obtain ⟨a1, a2, a3, a4, a5, a6⟩ := zLnd_w h hF hz
  have c7 : 0 ≤ cr.toInt ∧ cr.toInt ≤ 7 := by
    have b : 0 ≤ (f (B + 0)).toInt ∧ (f (B + 0)).toInt ≤ 7 := hF.1
    have e : cr = f (B + 0) := by
      rw [a5, hz]
      rfl
    rw [e]
    exact b
  have h4 : ∀ j, j < 7 → (kW cr inn k1 j).toInt ≤ 4 := fun j hj => (a4 j hj).1.2
  unfold kLot pLot
  (try rw [← a5])
  (try rw [← a6])
  by_cases q : (0 ≤ a.toInt ∧ a.toInt < cr.toInt) ∧ (0 ≤ b.toInt ∧ b.toInt < cr.toInt) ∧ zBit inn b = 1
  · rw [if_pos q, if_pos q]
    exact rLot_cg a1 a2 h4 a b u
  · rw [if_neg q, if_neg q]
def kMean (cr inn : Int32) (k1 k2 k3 : Nat → Int32) (a u : Int32) : Int32 := if (0 ≤ a.toInt ∧ a.toInt < cr.toInt) then rMean (kW cr inn k1) k2 inn a u else -1
def pMean (f : Nat → Int32) (z a u : Int32) : Int32 := if (0 ≤ a.toInt ∧ a.toInt < (f z.toInt.toNat).toInt) then rMean (pW f z) (zLo f z) (f (z.toInt.toNat + 1)) a u else -1
theorem kMean_e {cr inn z a u : Int32} {k1 k2 k3 k4 f : Nat → Int32} {B : Nat} (h : zLnd cr inn k1 k2 k3 k4 (fun j => f (B + j))) (hF : zLF (fun j => f (B + j))) (hz : z.toInt.toNat = B) : kMean cr inn k1 k2 k3 a u = pMean f z a u := by
  obtain ⟨a1, a2, a3, a4, a5, a6⟩ := zLnd_w h hF hz
  have c7 : 0 ≤ cr.toInt ∧ cr.toInt ≤ 7 := by
    have b : 0 ≤ (f (B + 0)).toInt ∧ (f (B + 0)).toInt ≤ 7 := hF.1
    have e : cr = f (B + 0) := by
      rw [a5, hz]
      rfl
    rw [e]
    exact b
  have h4 : ∀ j, j < 7 → (kW cr inn k1 j).toInt ≤ 4 := fun j hj => (a4 j hj).1.2
  unfold kMean pMean
  (try rw [← a5])
  (try rw [← a6])
  by_cases q : (0 ≤ a.toInt ∧ a.toInt < cr.toInt)
  · rw [if_pos q, if_pos q]
    exact rMean_cg a1 a2 h4 inn a u
  · rw [if_neg q, if_neg q]
def kBack (cr inn : Int32) (k1 k2 k3 : Nat → Int32) (a : Int32) : Int32 := if (0 ≤ a.toInt ∧ a.toInt < cr.toInt) then rBack (kW cr inn k1) k2 k3 a else -1
def pBack (f : Nat → Int32) (z a : Int32) : Int32 := if (0 ≤ a.toInt ∧ a.toInt < (f z.toInt.toNat).toInt) then rBack (pW f z) (zLo f z) (zPo f z) a else -1
theorem kBack_e {cr inn z a : Int32} {k1 k2 k3 k4 f : Nat → Int32} {B : Nat} (h : zLnd cr inn k1 k2 k3 k4 (fun j => f (B + j))) (hF : zLF (fun j => f (B + j))) (hz : z.toInt.toNat = B) : kBack cr inn k1 k2 k3 a = pBack f z a := by
  obtain ⟨a1, a2, a3, a4, a5, a6⟩ := zLnd_w h hF hz
  have c7 : 0 ≤ cr.toInt ∧ cr.toInt ≤ 7 := by
    have b : 0 ≤ (f (B + 0)).toInt ∧ (f (B + 0)).toInt ≤ 7 := hF.1
    have e : cr = f (B + 0) := by
      rw [a5, hz]
      rfl
    rw [e]
    exact b
  have h4 : ∀ j, j < 7 → (kW cr inn k1 j).toInt ≤ 4 := fun j hj => (a4 j hj).1.2
  unfold kBack pBack
  (try rw [← a5])
  (try rw [← a6])
  by_cases q : (0 ≤ a.toInt ∧ a.toInt < cr.toInt)
  · rw [if_pos q, if_pos q]
    exact rBack_cg a1 a2 h4 a3 a
  · rw [if_neg q, if_neg q]
def kLong (cr inn : Int32) (k1 k2 k3 : Nat → Int32) (a s q9 : Int32) : Int32 := if (0 ≤ a.toInt ∧ a.toInt < cr.toInt) then rLong (kW cr inn k1) k2 cr.toInt.toNat inn a s q9 else -1
def pLong (f : Nat → Int32) (z a s q9 : Int32) : Int32 := if (0 ≤ a.toInt ∧ a.toInt < (f z.toInt.toNat).toInt) then rLong (pW f z) (zLo f z) (f z.toInt.toNat).toInt.toNat (f (z.toInt.toNat + 1)) a s q9 else -1
theorem kLong_e {cr inn z a s q9 : Int32} {k1 k2 k3 k4 f : Nat → Int32} {B : Nat} (h : zLnd cr inn k1 k2 k3 k4 (fun j => f (B + j))) (hF : zLF (fun j => f (B + j))) (hz : z.toInt.toNat = B) : kLong cr inn k1 k2 k3 a s q9 = pLong f z a s q9 := by
  obtain ⟨a1, a2, a3, a4, a5, a6⟩ := zLnd_w h hF hz
  have c7 : 0 ≤ cr.toInt ∧ cr.toInt ≤ 7 := by
    have b : 0 ≤ (f (B + 0)).toInt ∧ (f (B + 0)).toInt ≤ 7 := hF.1
    have e : cr = f (B + 0) := by
      rw [a5, hz]
      rfl
    rw [e]
    exact b
  have h4 : ∀ j, j < 7 → (kW cr inn k1 j).toInt ≤ 4 := fun j hj => (a4 j hj).1.2
  unfold kLong pLong
  (try rw [← a5])
  (try rw [← a6])
  by_cases q : (0 ≤ a.toInt ∧ a.toInt < cr.toInt)
  · rw [if_pos q, if_pos q]
    exact rLong_cg a1 a2 h4 (by omega) inn a s q9
  · rw [if_neg q, if_neg q]
theorem zEu_s {n a b : Nat} (hb : ¬ b = 0) : zEu (n + 1) a b = zEu n b (a % b) := if_neg hb
theorem zEu_0 {n a : Nat} : zEu n a 0 = a := by
  cases n with
  | zero => rfl
  | succ n => exact if_pos rfl
set_option maxHeartbeats 4000000 in
set_option maxRecDepth 100000 in
/-- inLeastTerms -/
theorem c_f_inLeastTerms (l : Launch) (T : zTy) (A_ : Nat) (B_ : Nat) (un : Int32) (hA : A_ < 2147483648) (hB1 : 1 ≤ B_) (hB2 : B_ ≤ 16384) : zMi l T yX11_inLeastTerms cX11_inLeastTerms 7 (some .int) 1 0 0 [.int (nI A_), .int (nI B_), .int un] [] (fun (r : Int32) bs => bs = [] ∧ r = zLt_ A_ B_ un) := by
  refine zMi_of (own := RX11) (by decide) rfl (Nat.le_of_ble_eq_true rfl) ?_
  intro p e s m args below meth c A ls C hr hlocks hnm hAe G hl
  refine zHide (fun Qz_ hQz_ => ?_)
  have hx := C.1
  have hb := C.2.1
  have hl : lv_has ls 7 [(0, .int (nI A_)), (1, .int (nI B_)), (2, .int un)] := hl
  refine lv_iload_n hx hb dX11_inLeastTerms_0 rfl (lv_at hl 0 rfl) ?_
  refine lv_istore_n (lv' := [(3, .int (nI A_)), (0, .int (nI A_)), (1, .int (nI B_)), (2, .int un)]) hx hb dX11_inLeastTerms_1 rfl hl (by decide) (zLvf_h rfl) (fun ls hl => ?_)
  refine lv_iload_n hx hb dX11_inLeastTerms_2 rfl (lv_at hl 2 rfl) ?_
  refine lv_istore (lv' := [(4, .int (nI B_)), (3, .int (nI A_)), (0, .int (nI A_)), (1, .int (nI B_)), (2, .int un)]) hx hb dX11_inLeastTerms_3 hl (by decide) (zLvf_h rfl) (fun ls hl => ?_)
  refine lv_iconst (v := 0) hx hb dX11_inLeastTerms_5 (by decide) ?_
  refine lv_istore (lv' := [(5, .int 0), (4, .int (nI B_)), (3, .int (nI A_)), (0, .int (nI A_)), (1, .int (nI B_)), (2, .int un)]) hx hb dX11_inLeastTerms_6 hl (by decide) (zLvf_h rfl) (fun ls hl => ?_)
  refine z_lp3 (T := T) 8 (fun (i : Nat) (xx : Nat) (yy : Nat) => []) (fun (i : Nat) (xx : Nat) (yy : Nat) => [(5, .int (nI i)), (4, .int (nI yy)), (3, .int (nI xx)), (0, .int (nI A_)), (1, .int (nI B_)), (2, .int un)]) (fun (i : Nat) (xx : Nat) (yy : Nat) => i ≤ 100 ∧ xx < 2147483648 ∧ yy ≤ 16384 ∧ zEu 100 A_ B_ = zEu (100 - i) xx yy) (fun (i : Nat) (xx : Nat) (yy : Nat) => 100 - i) ?_ 0 A_ B_ (show 0 ≤ 100 ∧ A_ < 2147483648 ∧ B_ ≤ 16384 ∧ zEu 100 A_ B_ = zEu (100 - 0) A_ B_ from ⟨by omega, by omega, (by omega), rfl⟩) G (lv_sub hl [0, 1, 2, 3, 4, 5] rfl)
  intro i xx yy hI9 ih_8 H locs ls G hl
  replace hI9 : i ≤ 100 ∧ xx < 2147483648 ∧ yy ≤ 16384 ∧ zEu 100 A_ B_ = zEu (100 - i) xx yy := hI9
  refine zAn4 hI9 ?_
  intro hi hxx hyy hzz
  clear hI9
  replace G : zS T A s.heap s [] _ _ := G
  replace hl : lv_has ls 7 [(5, .int (nI i)), (4, .int (nI yy)), (3, .int (nI xx)), (0, .int (nI A_)), (1, .int (nI B_)), (2, .int un)] := hl
  refine lv_iload hx hb dX11_inLeastTerms_8 (lv_at hl 0 rfl) ?_
  refine lv_bipush (v := 100) hx hb dX11_inLeastTerms_10 (by decide) ?_
  refine lv_icmp_ge (tgt := 39) hx hb dX11_inLeastTerms_12 (by decide) (fun c_1 => ?_) (fun c_1 => ?_)
  · have c_1n : 100 ≤ i := (nI_leI (a := 100) (b := i) (by omega) (by omega)).mp c_1
    have hz9 : zEu 100 A_ B_ = xx := by first | (rw [hzz, show yy = 0 by omega]; exact zEu_0) | (rw [hzz, show 100 - i = 0 by omega]; rfl)
    have hp9 : 0 < xx := by rw [← hz9, zEu_g 15 100 A_ B_ (by omega) (by decide)]; exact Nat.gcd_pos_of_pos_right _ (by omega)
    refine lv_iload_n hx hb dX11_inLeastTerms_39 rfl (lv_at hl 5 rfl) ?_
    refine lv_if_eq (tgt := 47) hx hb dX11_inLeastTerms_40 (by decide) (fun c_2 => ?_) (fun c_2 => ?_)
    · have c_2n : un.toInt = (0 : Int) := (fa_eq _ _).mp c_2
      refine lv_iload_n hx hb dX11_inLeastTerms_47 rfl (lv_at hl 3 rfl) ?_
      refine lv_istore (lv' := [(5, .int (nI A_)), (4, .int (nI yy)), (3, .int (nI xx)), (0, .int (nI A_)), (1, .int (nI B_)), (2, .int un)]) hx hb dX11_inLeastTerms_48 hl (by decide) (zLvf_h rfl) (fun ls hl => ?_)
      refine lv_iload_n hx hb dX11_inLeastTerms_50 rfl (lv_at hl 2 rfl) ?_
      refine lv_if_ne (tgt := 59) hx hb dX11_inLeastTerms_51 (by decide) (fun c_3 => ?_) (fun c_3 => ?_)
      · have c_3n : ¬ xx = 0 := fun q => c_3 ((nI_eq (a := xx) (b := 0) (by omega) (by omega)).mpr q)
        refine lv_iload hx hb dX11_inLeastTerms_59 (lv_at hl 0 rfl) ?_
        refine lv_iload_n hx hb dX11_inLeastTerms_61 rfl (lv_at hl 2 rfl) ?_
        refine lv_idiv hx hb dX11_inLeastTerms_62 (fun q => absurd (congrArg Int32.toInt q) (by show ¬ (nI xx).toInt = (0 : Int); rw [nI_toInt (by omega)]; omega)) ?_
        exact z_back hQz_ (z_iret C hr hlocks G (Nat.le_of_ble_eq_true rfl) (Nat.le_of_ble_eq_true rfl) dX11_inLeastTerms_63 ⟨rfl, (by
                                                                have g9 : xx = Nat.gcd A_ B_ := by rw [← zEu_g 15 100 A_ B_ (by omega) (by decide), hz9]
                                                                unfold zLt_
                                                                rw [← g9]
                                                                first | (exfalso; omega) | (rw [if_pos (by first | with_reducible assumption | assumption)]; exact pk_div (by omega) (by omega) (by omega)) | (rw [if_neg (by first | with_reducible assumption | assumption)]; exact pk_div (by omega) (by omega) (by omega)))⟩)
      · have c_3n : xx = 0 := (nI_eq (a := xx) (b := 0) (by omega) (by omega)).mp c_3
        refine lv_iload hx hb dX11_inLeastTerms_54 (lv_at hl 0 rfl) ?_
        refine lv_goto (tgt := 63) hx hb dX11_inLeastTerms_56 (by decide) ?_
        exact z_back hQz_ (z_iret C hr hlocks G (Nat.le_of_ble_eq_true rfl) (Nat.le_of_ble_eq_true rfl) dX11_inLeastTerms_63 ⟨rfl, (by
                                                                have g9 : xx = Nat.gcd A_ B_ := by rw [← zEu_g 15 100 A_ B_ (by omega) (by decide), hz9]
                                                                unfold zLt_
                                                                rw [← g9]
                                                                first | (exfalso; omega) | (rw [if_pos (by first | with_reducible assumption | assumption)]; exact pk_div (by omega) (by omega) (by omega)) | (rw [if_neg (by first | with_reducible assumption | assumption)]; exact pk_div (by omega) (by omega) (by omega)))⟩)
    · have c_2n : ¬ un.toInt = (0 : Int) := fun q => c_2 ((fa_eq _ _).mpr q)
      refine lv_iload_n hx hb dX11_inLeastTerms_43 rfl (lv_at hl 4 rfl) ?_
      refine lv_goto (tgt := 48) hx hb dX11_inLeastTerms_44 (by decide) ?_
      refine lv_istore (lv' := [(5, .int (nI B_)), (4, .int (nI yy)), (3, .int (nI xx)), (0, .int (nI A_)), (1, .int (nI B_)), (2, .int un)]) hx hb dX11_inLeastTerms_48 hl (by decide) (zLvf_h rfl) (fun ls hl => ?_)
      refine lv_iload_n hx hb dX11_inLeastTerms_50 rfl (lv_at hl 2 rfl) ?_
      refine lv_if_ne (tgt := 59) hx hb dX11_inLeastTerms_51 (by decide) (fun c_4 => ?_) (fun c_4 => ?_)
      · have c_4n : ¬ xx = 0 := fun q => c_4 ((nI_eq (a := xx) (b := 0) (by omega) (by omega)).mpr q)
        refine lv_iload hx hb dX11_inLeastTerms_59 (lv_at hl 0 rfl) ?_
        refine lv_iload_n hx hb dX11_inLeastTerms_61 rfl (lv_at hl 2 rfl) ?_
        refine lv_idiv hx hb dX11_inLeastTerms_62 (fun q => absurd (congrArg Int32.toInt q) (by show ¬ (nI xx).toInt = (0 : Int); rw [nI_toInt (by omega)]; omega)) ?_
        exact z_back hQz_ (z_iret C hr hlocks G (Nat.le_of_ble_eq_true rfl) (Nat.le_of_ble_eq_true rfl) dX11_inLeastTerms_63 ⟨rfl, (by
                                                                have g9 : xx = Nat.gcd A_ B_ := by rw [← zEu_g 15 100 A_ B_ (by omega) (by decide), hz9]
                                                                unfold zLt_
                                                                rw [← g9]
                                                                first | (exfalso; omega) | (rw [if_pos (by first | with_reducible assumption | assumption)]; exact pk_div (by omega) (by omega) (by omega)) | (rw [if_neg (by first | with_reducible assumption | assumption)]; exact pk_div (by omega) (by omega) (by omega)))⟩)
      · have c_4n : xx = 0 := (nI_eq (a := xx) (b := 0) (by omega) (by omega)).mp c_4
        refine lv_iload hx hb dX11_inLeastTerms_54 (lv_at hl 0 rfl) ?_
        refine lv_goto (tgt := 63) hx hb dX11_inLeastTerms_56 (by decide) ?_
        exact z_back hQz_ (z_iret C hr hlocks G (Nat.le_of_ble_eq_true rfl) (Nat.le_of_ble_eq_true rfl) dX11_inLeastTerms_63 ⟨rfl, (by
                                                                have g9 : xx = Nat.gcd A_ B_ := by rw [← zEu_g 15 100 A_ B_ (by omega) (by decide), hz9]
                                                                unfold zLt_
                                                                rw [← g9]
                                                                first | (exfalso; omega) | (rw [if_pos (by first | with_reducible assumption | assumption)]; exact pk_div (by omega) (by omega) (by omega)) | (rw [if_neg (by first | with_reducible assumption | assumption)]; exact pk_div (by omega) (by omega) (by omega)))⟩)
  · have c_1n : ¬ 100 ≤ i := fun q => c_1 ((nI_leI (a := 100) (b := i) (by omega) (by omega)).mpr q)
    refine lv_iload hx hb dX11_inLeastTerms_15 (lv_at hl 1 rfl) ?_
    refine lv_if_eq (tgt := 39) hx hb dX11_inLeastTerms_17 (by decide) (fun c_5 => ?_) (fun c_5 => ?_)
    · have c_5n : yy = 0 := (nI_eq (a := yy) (b := 0) (by omega) (by omega)).mp c_5
      have hz9 : zEu 100 A_ B_ = xx := by first | (rw [hzz, show yy = 0 by omega]; exact zEu_0) | (rw [hzz, show 100 - i = 0 by omega]; rfl)
      have hp9 : 0 < xx := by rw [← hz9, zEu_g 15 100 A_ B_ (by omega) (by decide)]; exact Nat.gcd_pos_of_pos_right _ (by omega)
      refine lv_iload_n hx hb dX11_inLeastTerms_39 rfl (lv_at hl 5 rfl) ?_
      refine lv_if_eq (tgt := 47) hx hb dX11_inLeastTerms_40 (by decide) (fun c_6 => ?_) (fun c_6 => ?_)
      · have c_6n : un.toInt = (0 : Int) := (fa_eq _ _).mp c_6
        refine lv_iload_n hx hb dX11_inLeastTerms_47 rfl (lv_at hl 3 rfl) ?_
        refine lv_istore (lv' := [(5, .int (nI A_)), (4, .int (nI yy)), (3, .int (nI xx)), (0, .int (nI A_)), (1, .int (nI B_)), (2, .int un)]) hx hb dX11_inLeastTerms_48 hl (by decide) (zLvf_h rfl) (fun ls hl => ?_)
        refine lv_iload_n hx hb dX11_inLeastTerms_50 rfl (lv_at hl 2 rfl) ?_
        refine lv_if_ne (tgt := 59) hx hb dX11_inLeastTerms_51 (by decide) (fun c_7 => ?_) (fun c_7 => ?_)
        · have c_7n : ¬ xx = 0 := fun q => c_7 ((nI_eq (a := xx) (b := 0) (by omega) (by omega)).mpr q)
          refine lv_iload hx hb dX11_inLeastTerms_59 (lv_at hl 0 rfl) ?_
          refine lv_iload_n hx hb dX11_inLeastTerms_61 rfl (lv_at hl 2 rfl) ?_
          refine lv_idiv hx hb dX11_inLeastTerms_62 (fun q => absurd (congrArg Int32.toInt q) (by show ¬ (nI xx).toInt = (0 : Int); rw [nI_toInt (by omega)]; omega)) ?_
          exact z_back hQz_ (z_iret C hr hlocks G (Nat.le_of_ble_eq_true rfl) (Nat.le_of_ble_eq_true rfl) dX11_inLeastTerms_63 ⟨rfl, (by
                                                                have g9 : xx = Nat.gcd A_ B_ := by rw [← zEu_g 15 100 A_ B_ (by omega) (by decide), hz9]
                                                                unfold zLt_
                                                                rw [← g9]
                                                                first | (exfalso; omega) | (rw [if_pos (by first | with_reducible assumption | assumption)]; exact pk_div (by omega) (by omega) (by omega)) | (rw [if_neg (by first | with_reducible assumption | assumption)]; exact pk_div (by omega) (by omega) (by omega)))⟩)
        · have c_7n : xx = 0 := (nI_eq (a := xx) (b := 0) (by omega) (by omega)).mp c_7
          refine lv_iload hx hb dX11_inLeastTerms_54 (lv_at hl 0 rfl) ?_
          refine lv_goto (tgt := 63) hx hb dX11_inLeastTerms_56 (by decide) ?_
          exact z_back hQz_ (z_iret C hr hlocks G (Nat.le_of_ble_eq_true rfl) (Nat.le_of_ble_eq_true rfl) dX11_inLeastTerms_63 ⟨rfl, (by
                                                                have g9 : xx = Nat.gcd A_ B_ := by rw [← zEu_g 15 100 A_ B_ (by omega) (by decide), hz9]
                                                                unfold zLt_
                                                                rw [← g9]
                                                                first | (exfalso; omega) | (rw [if_pos (by first | with_reducible assumption | assumption)]; exact pk_div (by omega) (by omega) (by omega)) | (rw [if_neg (by first | with_reducible assumption | assumption)]; exact pk_div (by omega) (by omega) (by omega)))⟩)
      · have c_6n : ¬ un.toInt = (0 : Int) := fun q => c_6 ((fa_eq _ _).mpr q)
        refine lv_iload_n hx hb dX11_inLeastTerms_43 rfl (lv_at hl 4 rfl) ?_
        refine lv_goto (tgt := 48) hx hb dX11_inLeastTerms_44 (by decide) ?_
        refine lv_istore (lv' := [(5, .int (nI B_)), (4, .int (nI yy)), (3, .int (nI xx)), (0, .int (nI A_)), (1, .int (nI B_)), (2, .int un)]) hx hb dX11_inLeastTerms_48 hl (by decide) (zLvf_h rfl) (fun ls hl => ?_)
        refine lv_iload_n hx hb dX11_inLeastTerms_50 rfl (lv_at hl 2 rfl) ?_
        refine lv_if_ne (tgt := 59) hx hb dX11_inLeastTerms_51 (by decide) (fun c_8 => ?_) (fun c_8 => ?_)
        · have c_8n : ¬ xx = 0 := fun q => c_8 ((nI_eq (a := xx) (b := 0) (by omega) (by omega)).mpr q)
          refine lv_iload hx hb dX11_inLeastTerms_59 (lv_at hl 0 rfl) ?_
          refine lv_iload_n hx hb dX11_inLeastTerms_61 rfl (lv_at hl 2 rfl) ?_
          refine lv_idiv hx hb dX11_inLeastTerms_62 (fun q => absurd (congrArg Int32.toInt q) (by show ¬ (nI xx).toInt = (0 : Int); rw [nI_toInt (by omega)]; omega)) ?_
          exact z_back hQz_ (z_iret C hr hlocks G (Nat.le_of_ble_eq_true rfl) (Nat.le_of_ble_eq_true rfl) dX11_inLeastTerms_63 ⟨rfl, (by
                                                                have g9 : xx = Nat.gcd A_ B_ := by rw [← zEu_g 15 100 A_ B_ (by omega) (by decide), hz9]
                                                                unfold zLt_
                                                                rw [← g9]
                                                                first | (exfalso; omega) | (rw [if_pos (by first | with_reducible assumption | assumption)]; exact pk_div (by omega) (by omega) (by omega)) | (rw [if_neg (by first | with_reducible assumption | assumption)]; exact pk_div (by omega) (by omega) (by omega)))⟩)
        · have c_8n : xx = 0 := (nI_eq (a := xx) (b := 0) (by omega) (by omega)).mp c_8
          refine lv_iload hx hb dX11_inLeastTerms_54 (lv_at hl 0 rfl) ?_
          refine lv_goto (tgt := 63) hx hb dX11_inLeastTerms_56 (by decide) ?_
          exact z_back hQz_ (z_iret C hr hlocks G (Nat.le_of_ble_eq_true rfl) (Nat.le_of_ble_eq_true rfl) dX11_inLeastTerms_63 ⟨rfl, (by
                                                                have g9 : xx = Nat.gcd A_ B_ := by rw [← zEu_g 15 100 A_ B_ (by omega) (by decide), hz9]
                                                                unfold zLt_
                                                                rw [← g9]
                                                                first | (exfalso; omega) | (rw [if_pos (by first | with_reducible assumption | assumption)]; exact pk_div (by omega) (by omega) (by omega)) | (rw [if_neg (by first | with_reducible assumption | assumption)]; exact pk_div (by omega) (by omega) (by omega)))⟩)
    · have c_5n : ¬ yy = 0 := fun q => c_5 ((nI_eq (a := yy) (b := 0) (by omega) (by omega)).mpr q)
      refine lv_iload_n hx hb dX11_inLeastTerms_20 rfl (lv_at hl 2 rfl) ?_
      refine lv_iload hx hb dX11_inLeastTerms_21 (lv_at hl 1 rfl) ?_
      refine lv_irem hx hb dX11_inLeastTerms_23 (fun q => absurd (congrArg Int32.toInt q) (by show ¬ (nI yy).toInt = (0 : Int); rw [nI_toInt (by omega)]; omega)) ?_
      refine lv_topi (fun y_9 ey_9 => ?_)
      obtain rfl : y_9 = nI (xx % yy) := ey_9.trans (pk_rem (by omega) (by omega) (by omega))
      refine lv_istore (lv' := [(6, .int (nI (xx % yy))), (5, .int (nI i)), (4, .int (nI yy)), (3, .int (nI xx)), (0, .int (nI A_)), (1, .int (nI B_)), (2, .int un)]) hx hb dX11_inLeastTerms_24 hl (by decide) (zLvf_h rfl) (fun ls hl => ?_)
      refine lv_iload hx hb dX11_inLeastTerms_26 (lv_at hl 2 rfl) ?_
      refine lv_istore_n (lv' := [(3, .int (nI yy)), (6, .int (nI (xx % yy))), (5, .int (nI i)), (4, .int (nI yy)), (0, .int (nI A_)), (1, .int (nI B_)), (2, .int un)]) hx hb dX11_inLeastTerms_28 rfl hl (by decide) (zLvf_h rfl) (fun ls hl => ?_)
      refine lv_iload hx hb dX11_inLeastTerms_29 (lv_at hl 1 rfl) ?_
      refine lv_istore (lv' := [(4, .int (nI (xx % yy))), (3, .int (nI yy)), (6, .int (nI (xx % yy))), (5, .int (nI i)), (0, .int (nI A_)), (1, .int (nI B_)), (2, .int un)]) hx hb dX11_inLeastTerms_31 hl (by decide) (zLvf_h rfl) (fun ls hl => ?_)
      refine lv_iinc (v := nI (i + 1)) (lv' := [(5, .int (nI (i + 1))), (4, .int (nI (xx % yy))), (3, .int (nI yy)), (6, .int (nI (xx % yy))), (0, .int (nI A_)), (1, .int (nI B_)), (2, .int un)]) hx hb dX11_inLeastTerms_33 hl (k := 3) rfl (z_inc i 1) (by decide) (zLvf_h rfl) (fun ls hl => ?_)
      refine lv_goto (tgt := 8) hx hb dX11_inLeastTerms_36 (by decide) ?_
      exact ih_8 (i + 1) yy (xx % yy) (show (i + 1) ≤ 100 ∧ yy < 2147483648 ∧ (xx % yy) ≤ 16384 ∧ zEu 100 A_ B_ = zEu (100 - (i + 1)) yy (xx % yy) from ⟨by omega, by omega, (by have q9 := Nat.mod_lt xx (show 0 < yy by omega); omega), (by rw [hzz, show 100 - i = (100 - (i + 1)) + 1 by omega]; exact zEu_s (by omega))⟩) (show 100 - (i + 1) < 100 - i from by omega) _ _ ls G (lv_sub hl [0, 1, 2, 4, 5, 6] rfl)
set_option maxHeartbeats 4000000 in
set_option maxRecDepth 100000 in
/-- c_f_waysInA -/
theorem c_f_waysInA (l : Launch) (T : zTy) (xo : Nat) (t : Nat) (im : Nat) (mk : Nat) (rd : Nat) (po : Nat) (co : Nat) (tr : Nat) (wa : Nat) (wb_ : Nat) (fi : Nat) (cd : Nat) (i1 : Int32) (laA : Nat) (mdA : Int32) (wyA : Int32) (pc_A : Int32) (f1A : Nat → Int32) (f2A : Nat → Int32) (f3A : Nat → Int32) (f4A : Nat → Int32) (f5A : Nat → Int32) (f6A : Nat → Int32) (n4A : Nat) (wwA : va_W) (o : Nat) (cr : Int32) (inn : Int32) (k1 : Nat → Int32) (k2 : Nat → Int32) (k3 : Nat → Int32) (k4 : Nat → Int32) (z : va_W) (hwwA : bWays T wa laA mdA wyA pc_A f1A f2A f3A f4A f5A f6A n4A wwA) (hz : bLand T o cr inn k1 k2 k3 k4 z) (hI : zLI cr k1 k3) (hpw : zPw n4A) (hmd : mdA = 0 ∨ laA = o) (hO : aOk (aW cr inn k1) k2) (hTb : mdA = 0 ∨ zTab cr inn k1 k2 wyA pc_A f1A f2A f5A n4A) (hi1 : i1.toInt = 0) : zMq l T yX11_waysIn cX11_waysIn 4 (some (.object "TurnedPosts$AllWays")) 6 3 (6 * (zMk mdA n4A (zPl cr inn k1) - n4A)) [.ref xo, .int i1, .ref o] [[zO10 xo t im mk rd po co tr wa wb_ fi cd], wwA, z] (fun (r : Option Nat) bs => ∃ (w2 : va_W) (m2 : Int32) (wy2 : Int32) (pc2 : Int32) (g1 : Nat → Int32) (g2 : Nat → Int32) (g4 : Nat → Int32) (g5 : Nat → Int32) (g6 : Nat → Int32), bs = [[zO10 xo t im mk rd po co tr wa wb_ fi cd], w2, z] ∧ r = some wa ∧ bWays T wa o m2 wy2 pc2 g1 g2 f3A g4 g5 g6 (zMk mdA n4A (zPl cr inn k1)) w2 ∧ wy2 = zWy cr inn k1 ∧ ¬ m2 = 0 ∧ zTab cr inn k1 k2 wy2 pc2 g1 g2 g5 (zMk mdA n4A (zPl cr inn k1))) := by
  refine zMq_of (own := RX11) (by decide) rfl (Nat.le_of_ble_eq_true rfl) ?_
  intro p e s m args below meth c A ls C hr hlocks hnm hAe G hl
  refine zHide (fun Qz_ hQz_ => ?_)
  have hx := C.1
  have hb := C.2.1
  replace hmd : zHd (mdA = 0 ∨ laA = o) := hmd
  replace hTb : zHd (mdA = 0 ∨ zTab cr inn k1 k2 wyA pc_A f1A f2A f5A n4A) := hTb
  have hl : lv_has ls 4 [(0, .ref xo), (1, .int i1), (2, .ref o)] := hl
  refine lv_iload_n hx hb dX11_waysIn_0 rfl (lv_at hl 1 rfl) ?_
  refine lv_if_ne (tgt := 11) hx hb dX11_waysIn_1 (by decide) (fun q => absurd ((fa_eq i1 (0 : Int32)).mpr (by show i1.toInt = (0 : Int); omega)) q) (fun _ => ?_)
  refine lv_aload_n hx hb dX11_waysIn_4 rfl (lv_at hl 0 rfl) ?_
  refine z_get C G clX11 0 rfl 7 (by decide) m_fl_RX11_55 rfl dX11_waysIn_5 ?_
  refine lv_goto (tgt := 15) hx hb dX11_waysIn_8 (by decide) ?_
  refine lv_astore_n (lv' := [(3, .ref wa), (0, .ref xo), (1, .int i1), (2, .ref o)]) hx hb dX11_waysIn_15 rfl hl (by decide) (zLvf_h rfl) (fun ls hl => ?_)
  refine lv_aload_n hx hb dX11_waysIn_16 rfl (lv_at hl 0 rfl) ?_
  refine lv_aload_n hx hb dX11_waysIn_17 rfl (lv_at hl 3 rfl) ?_
  refine z_Vv (bc := [wwA, z]) (br := [[zO10 xo t im mk rd po co tr wa wb_ fi cd]]) (As := [.ref o]) (rest := []) C G (c_f_make l T wa laA mdA wyA pc_A f1A f2A f3A f4A f5A f6A n4A wwA o cr inn k1 k2 k3 k4 z hwwA hz (by first | with_reducible assumption | with_reducible rfl | omega | assumption | rfl) hO hpw hmd hTb) (kV_RX11_232 C.2.2.2.2 (Nat.le_of_ble_eq_true rfl) (Nat.le_of_ble_eq_true rfl)) [1, 2] [1, 0] rfl rfl (ci := 0) (qc := (RX0, TX0, 10)) rfl rfl (List.mem_flatten.mpr ⟨_, List.mem_of_getElem? (i := 0) rfl, (bWays_mem hwwA).choose_spec⟩) rfl rfl hl.1 dX11_waysIn_18 (Nat.le_of_ble_eq_true rfl) (by show _ + (6 * (zMk mdA n4A (zPl cr inn k1) - n4A)) ≤ 6 * (zMk mdA n4A (zPl cr inn k1) - n4A); omega) (fun b1 H locs hw G => ?_)
  refine zEx8 hw ?_
  intro w2_1 m2_2 pc2_3 g1_4 g2_5 g4_6 g5_7 g6_8
  refine zCu4 ?_
  intro hbs9 h_9 h_10 h_11
  clear hw
  subst hbs9
  have G : zS T A s.heap s [[zO10 xo t im mk rd po co tr wa wb_ fi cd], w2_1, z] _ _ := G
  refine lv_aload_n hx hb dX11_waysIn_21 rfl (lv_at hl 0 rfl) ?_
  exact z_back hQz_ (z_aret (r := (some wa)) C hr (Or.inl ⟨_, rfl⟩) hlocks G (Nat.le_of_ble_eq_true rfl) (by omega) dX11_waysIn_22 ⟨w2_1, m2_2, (zWy cr inn k1), pc2_3, g1_4, g2_5, g4_6, g5_7, g6_8, rfl, rfl, h_9, rfl, h_10, h_11⟩)
set_option maxHeartbeats 4000000 in
set_option maxRecDepth 100000 in
/-- c_f_waysInB -/
theorem c_f_waysInB (l : Launch) (T : zTy) (xo : Nat) (t : Nat) (im : Nat) (mk : Nat) (rd : Nat) (po : Nat) (co : Nat) (tr : Nat) (wa : Nat) (wb_ : Nat) (fi : Nat) (cd : Nat) (i1 : Int32) (laB : Nat) (mdB : Int32) (wyB : Int32) (pc_B : Int32) (f1B : Nat → Int32) (f2B : Nat → Int32) (f3B : Nat → Int32) (f4B : Nat → Int32) (f5B : Nat → Int32) (f6B : Nat → Int32) (n4B : Nat) (wwB : va_W) (o : Nat) (cr : Int32) (inn : Int32) (k1 : Nat → Int32) (k2 : Nat → Int32) (k3 : Nat → Int32) (k4 : Nat → Int32) (z : va_W) (hwwB : bWays T wb_ laB mdB wyB pc_B f1B f2B f3B f4B f5B f6B n4B wwB) (hz : bLand T o cr inn k1 k2 k3 k4 z) (hI : zLI cr k1 k3) (hpw : zPw n4B) (hmd : mdB = 0 ∨ laB = o) (hO : aOk (aW cr inn k1) k2) (hTb : mdB = 0 ∨ zTab cr inn k1 k2 wyB pc_B f1B f2B f5B n4B) (hi1 : i1.toInt = 1) : zMq l T yX11_waysIn cX11_waysIn 4 (some (.object "TurnedPosts$AllWays")) 6 3 (6 * (zMk mdB n4B (zPl cr inn k1) - n4B)) [.ref xo, .int i1, .ref o] [[zO10 xo t im mk rd po co tr wa wb_ fi cd], wwB, z] (fun (r : Option Nat) bs => ∃ (w2 : va_W) (m2 : Int32) (wy2 : Int32) (pc2 : Int32) (g1 : Nat → Int32) (g2 : Nat → Int32) (g4 : Nat → Int32) (g5 : Nat → Int32) (g6 : Nat → Int32), bs = [[zO10 xo t im mk rd po co tr wa wb_ fi cd], w2, z] ∧ r = some wb_ ∧ bWays T wb_ o m2 wy2 pc2 g1 g2 f3B g4 g5 g6 (zMk mdB n4B (zPl cr inn k1)) w2 ∧ wy2 = zWy cr inn k1 ∧ ¬ m2 = 0 ∧ zTab cr inn k1 k2 wy2 pc2 g1 g2 g5 (zMk mdB n4B (zPl cr inn k1))) := by
  refine zMq_of (own := RX11) (by decide) rfl (Nat.le_of_ble_eq_true rfl) ?_
  intro p e s m args below meth c A ls C hr hlocks hnm hAe G hl
  refine zHide (fun Qz_ hQz_ => ?_)
  have hx := C.1
  have hb := C.2.1
  replace hmd : zHd (mdB = 0 ∨ laB = o) := hmd
  replace hTb : zHd (mdB = 0 ∨ zTab cr inn k1 k2 wyB pc_B f1B f2B f5B n4B) := hTb
  have hl : lv_has ls 4 [(0, .ref xo), (1, .int i1), (2, .ref o)] := hl
  refine lv_iload_n hx hb dX11_waysIn_0 rfl (lv_at hl 1 rfl) ?_
  refine lv_if_ne (tgt := 11) hx hb dX11_waysIn_1 (by decide) (fun _ => ?_) (fun q => absurd q (fun q2 => absurd (show i1.toInt = (0 : Int) from (fa_eq i1 (0 : Int32)).mp q2) (by omega)))
  refine lv_aload_n hx hb dX11_waysIn_11 rfl (lv_at hl 0 rfl) ?_
  refine z_get C G clX11 0 rfl 8 (by decide) m_fl_RX11_59 rfl dX11_waysIn_12 ?_
  refine lv_astore_n (lv' := [(3, .ref wb_), (0, .ref xo), (1, .int i1), (2, .ref o)]) hx hb dX11_waysIn_15 rfl hl (by decide) (zLvf_h rfl) (fun ls hl => ?_)
  refine lv_aload_n hx hb dX11_waysIn_16 rfl (lv_at hl 0 rfl) ?_
  refine lv_aload_n hx hb dX11_waysIn_17 rfl (lv_at hl 3 rfl) ?_
  refine z_Vv (bc := [wwB, z]) (br := [[zO10 xo t im mk rd po co tr wa wb_ fi cd]]) (As := [.ref o]) (rest := []) C G (c_f_make l T wb_ laB mdB wyB pc_B f1B f2B f3B f4B f5B f6B n4B wwB o cr inn k1 k2 k3 k4 z hwwB hz (by first | with_reducible assumption | with_reducible rfl | omega | assumption | rfl) hO hpw hmd hTb) (kV_RX11_232 C.2.2.2.2 (Nat.le_of_ble_eq_true rfl) (Nat.le_of_ble_eq_true rfl)) [1, 2] [1, 0] rfl rfl (ci := 0) (qc := (RX0, TX0, 10)) rfl rfl (List.mem_flatten.mpr ⟨_, List.mem_of_getElem? (i := 0) rfl, (bWays_mem hwwB).choose_spec⟩) rfl rfl hl.1 dX11_waysIn_18 (Nat.le_of_ble_eq_true rfl) (by show _ + (6 * (zMk mdB n4B (zPl cr inn k1) - n4B)) ≤ 6 * (zMk mdB n4B (zPl cr inn k1) - n4B); omega) (fun b1 H locs hw G => ?_)
  refine zEx8 hw ?_
  intro w2_1 m2_2 pc2_3 g1_4 g2_5 g4_6 g5_7 g6_8
  refine zCu4 ?_
  intro hbs9 h_9 h_10 h_11
  clear hw
  subst hbs9
  have G : zS T A s.heap s [[zO10 xo t im mk rd po co tr wa wb_ fi cd], w2_1, z] _ _ := G
  refine lv_aload_n hx hb dX11_waysIn_21 rfl (lv_at hl 0 rfl) ?_
  exact z_back hQz_ (z_aret (r := (some wb_)) C hr (Or.inl ⟨_, rfl⟩) hlocks G (Nat.le_of_ble_eq_true rfl) (by omega) dX11_waysIn_22 ⟨w2_1, m2_2, (zWy cr inn k1), pc2_3, g1_4, g2_5, g4_6, g5_7, g6_8, rfl, rfl, h_9, rfl, h_10, h_11⟩)

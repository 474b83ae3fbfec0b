/-- roads lead to crossings that are there -/
def rOk (W L : Nat → Int32) (m : Nat) : Prop := m ≤ 7 ∧ (∀ c, c < 7 → 0 ≤ (W c).toInt ∧ (W c).toInt ≤ 4) ∧ ∀ c r : Nat, c < 7 → (r : Int) < (W c).toInt → 0 ≤ (L (4 * c + r)).toInt ∧ (L (4 * c + r)).toInt < m
/-! the class's roads are such -/
theorem zTarget_e {cr inn : Int32} {k1 k2 k3 : Nat → Int32} (hI : zLI cr k1 k3) {c r : Nat} (hc : c < 7) (h : (r : Int) < (zWays cr inn k1 (nI c)).toInt) : zTarget cr k1 k2 (nI c) (nI r) = k2 (4 * c + r) := by
  have z0 : (0 : Int32).toInt = 0 := rfl
  have z : ¬ zWays cr inn k1 (nI c) = 0 := fun q => by rw [q, z0] at h; omega
  obtain ⟨c0, c1, c2, c3, c4⟩ := zWays_in z
  have w4 := zWays_le (inn := inn) hI (nI c)
  have tc := nI_toInt (n := c) (by omega)
  have tr := nI_toInt (n := r) (by omega)
  have kc := nI_clamp (n := c) (by omega)
  have kr := nI_clamp (n := r) (by omega)
  have h2 : (r : Int) < (k1 c).toInt := by
    rw [c4, kc] at h
    exact h
  unfold zTarget
  rw [if_pos ⟨c0, c1, c2, by omega, by rw [kc, tr]; exact h2, by omega⟩, kc, kr]
theorem kOk {cr inn : Int32} {k1 k2 k3 : Nat → Int32} (hI : zLI cr k1 k3) (hq : zLq cr k1 k2) : rOk (kW cr inn k1) k2 cr.toInt.toNat := by
  have h7 := hI.1
  have z0 : (0 : Int32).toInt = 0 := rfl
  refine ⟨by omega, fun c hc => zWays_le (inn := inn) hI (nI c), fun c r hc hr => ?_⟩
  have hr : (r : Int) < (zWays cr inn k1 (nI c)).toInt := hr
  have w := zWays_le (inn := inn) hI (nI c)
  have z : ¬ zWays cr inn k1 (nI c) = 0 := fun q => by rw [q, z0] at hr; omega
  obtain ⟨_, _, _, _, c4⟩ := zWays_in z
  have kc := nI_clamp (n := c) (by omega)
  rw [c4, kc] at hr w
  have t := hq c r hc (by omega) hr
  omega
theorem qOk {f : Nat → Int32} {z cr n : Int32} (hL : zML f z cr) (hV : zVR (fun j => f (z.toInt.toNat + j))) : rOk (zWo f z n) (zLo f z) cr.toInt.toNat := by
  have hcr := hL.cr
  have z0 : (0 : Int32).toInt = 0 := rfl
  refine ⟨by omega, fun c hc => ?_, fun c r hc hr => ?_⟩
  · have q : 0 ≤ (zRo f z c).toInt ∧ (zRo f z c).toInt ≤ 4 := (hL.2.2.2.1 c hc).1
    unfold zWo
    split
    · exact ⟨by decide, by decide⟩
    · exact q
  · have q : 0 ≤ (zRo f z c).toInt ∧ (zRo f z c).toInt ≤ 4 := (hL.2.2.2.1 c hc).1
    have e : zWo f z n c = zRo f z c := by
      unfold zWo
      by_cases g : zBit n (nI c) = 1
      · have e0 : zWo f z n c = 0 := if_pos g
        rw [e0, z0] at hr
        omega
      · exact if_neg g
    rw [e] at hr
    have b : 0 ≤ (f (z.toInt.toNat + (23 + (4 * c + r)))).toInt := (hL.2.2.2.2 (4 * c + r) (by omega)).1
    have v : (f (z.toInt.toNat + (23 + 4 * c + r))).toInt < (f (z.toInt.toNat + 0)).toInt := (hV c hc).2.2 r (by omega) hr
    rw [show 23 + 4 * c + r = 23 + (4 * c + r) by omega] at v
    have e2 : cr.toInt = (f (z.toInt.toNat + 0)).toInt := congrArg Int32.toInt hL.2.1
    show 0 ≤ (f (z.toInt.toNat + (23 + (4 * c + r)))).toInt ∧ (f (z.toInt.toNat + (23 + (4 * c + r)))).toInt < ((cr.toInt.toNat : Nat) : Int)
    omega
theorem zLnd_7 {cr inn z : Int32} {k1 k2 k3 k4 f : Nat → Int32} {B : Nat} (h : zLnd cr inn k1 k2 k3 k4 (fun j => f (B + j))) : 0 ≤ cr.toInt ∧ cr.toInt ≤ 7 := by
  obtain ⟨ha, hab, -⟩ := h
  have ha : cr = f (B + 0) := ha
  have hab : 0 ≤ (f (B + 0)).toInt ∧ (f (B + 0)).toInt ≤ 7 := hab
  rw [ha]
  exact hab
theorem kTg {cr inn x : Int32} {k1 k2 k3 : Nat → Int32} (hI : zLI cr k1 k3) (h0 : 0 ≤ x.toInt) (h6 : x.toInt ≤ 6) {r : Nat} (h : (r : Int) < (zWays cr inn k1 x).toInt) : zTarget cr k1 k2 x (nI r) = k2 (4 * x.toInt.toNat + r) := by
  have e : x = nI x.toInt.toNat := z_nI (by omega) (by omega)
  have t := zTarget_e (k2 := k2) (inn := inn) hI (c := x.toInt.toNat) (r := r) (by omega) (by rw [← e]; exact h)
  rw [← e] at t
  exact t
/-! the way posts point -/
def rSt (W L P : Nat → Int32) (c : Int32) : Int32 := if 0 < (W c.toInt.toNat).toInt then L (4 * c.toInt.toNat + (P c.toInt.toNat).toInt.toNat) else c
/-- posts point to roads -/
def rPo (W P : Nat → Int32) : Prop := ∀ c, c < 7 → 0 < (W c).toInt → 0 ≤ (P c).toInt ∧ (P c).toInt < (W c).toInt
def rIn (m : Nat) (c : Int32) : Prop := 0 ≤ c.toInt ∧ c.toInt < m
theorem rSt_in {W L P : Nat → Int32} {m : Nat} (hO : rOk W L m) (hP : rPo W P) {c : Int32} (h : rIn m c) : rIn m (rSt W L P c) := by
  have m7 := hO.1
  obtain ⟨h0, h1⟩ := h
  unfold rSt
  by_cases q : 0 < (W c.toInt.toNat).toInt
  · rw [if_pos q]
    have p := hP c.toInt.toNat (by omega) q
    exact hO.2.2 c.toInt.toNat (P c.toInt.toNat).toInt.toNat (by omega) (by omega)
  · rw [if_neg q]
    exact ⟨h0, h1⟩
theorem rPt_in {W L P : Nat → Int32} {m : Nat} (hO : rOk W L m) (hP : rPo W P) {c : Int32} (h : rIn m c) : ∀ k, rIn m (zLed (rSt W L P) k c)
  | 0 => h
  | k + 1 => rSt_in hO hP (rPt_in hO hP h k)
theorem zLed_0 {S : Int32 → Int32} {c : Int32} : zLed S 0 c = c := rfl
theorem zLed_s {S : Int32 → Int32} {k : Nat} {c : Int32} : zLed S (k + 1) c = S (zLed S k c) := rfl
/-- he can't go on there -/
def rSk (W L P : Nat → Int32) (c : Int32) (k : Nat) : Bool := decide (¬ 0 < (W (zLed (rSt W L P) k c).toInt.toNat).toInt)
theorem rSk_s {W L P : Nat → Int32} {c : Int32} {k : Nat} (h : rSk W L P c k = true) : zLed (rSt W L P) (k + 1) c = zLed (rSt W L P) k c := if_neg (of_decide_eq_true h)
theorem rSk_m {W L P : Nat → Int32} {c : Int32} {k : Nat} (h : rSk W L P c k = true) : ∀ n, zLed (rSt W L P) (k + n) c = zLed (rSt W L P) k c ∧ rSk W L P c (k + n) = true
  | 0 => ⟨rfl, h⟩
  | n + 1 => by
    have ih := rSk_m h n
    have e : zLed (rSt W L P) (k + (n + 1)) c = zLed (rSt W L P) k c := (rSk_s ih.2).trans ih.1
    refine ⟨e, ?_⟩
    unfold rSk at h ⊢
    rw [e]
    exact h
/-- among so many places one comes again -/
theorem rPg {W L P : Nat → Int32} {m : Nat} (hO : rOk W L m) (hP : rPo W P) {c : Int32} (h : rIn m c) : ∃ i j : Nat, i < j ∧ j ≤ m ∧ zLed (rSt W L P) i c = zLed (rSt W L P) j c := by
  have B := rPt_in hO hP h
  refine Classical.byContradiction (fun hn => ?_)
  have inj : ∀ i j : Nat, i < j → j ≤ m → ¬ zLed (rSt W L P) i c = zLed (rSt W L P) j c := fun i j a b e => hn ⟨i, j, a, b, e⟩
  have hnd : ((List.range (m + 1)).map (fun i => (zLed (rSt W L P) i c).toInt.toNat)).Nodup := by
    refine List.pairwise_map.mpr ((List.pairwise_lt_range (n := m + 1)).imp_of_mem (fun {a b} ha hb hab e => ?_))
    have h1 := B a
    have h2 := B b
    obtain ⟨h10, h11⟩ := h1
    obtain ⟨h20, h21⟩ := h2
    exact inj a b hab (by have := List.mem_range.mp hb; omega) (Int32.toInt_inj.mp (by omega))
  have hsub : ((List.range (m + 1)).map (fun i => (zLed (rSt W L P) i c).toInt.toNat)) ⊆ List.range m := by
    intro x hx
    obtain ⟨i, -, rfl⟩ := List.mem_map.mp hx
    obtain ⟨h10, h11⟩ := B i
    exact List.mem_range.mpr (by omega)
  have := List.Nodup.length_le_of_subset hnd hsub
  rw [List.length_map, List.length_range, List.length_range] at this
  omega
section RPER
variable {S : Int32 → Int32} {c : Int32} {i j : Nat}
theorem rPr_1 (hij : i < j) (e : zLed S i c = zLed S j c) : ∀ d, zLed S (j + d) c = zLed S (i + d) c
  | 0 => e.symm
  | d + 1 => congrArg S (rPr_1 hij e d)
theorem rPr_k (hij : i < j) (e : zLed S i c = zLed S j c) {n : Nat} (hn : i ≤ n) : ∀ k, zLed S (n + k * (j - i)) c = zLed S n c
  | 0 => by rw [Nat.zero_mul, Nat.add_zero]
  | k + 1 => by
    have ih := rPr_k hij e hn k
    have q := rPr_1 hij e (n + k * (j - i) - i)
    rw [show j + (n + k * (j - i) - i) = n + (k + 1) * (j - i) by rw [Nat.add_mul, Nat.one_mul]; omega, show i + (n + k * (j - i) - i) = n + k * (j - i) by omega] at q
    rw [q, ih]
/-- what is so of a ring is so all round it -/
theorem rPr_q (hij : i < j) (e : zLed S i c = zLed S j c) {n n' q : Nat} (hn : i ≤ n) (hn' : i ≤ n') (h : zLed S (n + q) c = zLed S n c) : zLed S (n' + q) c = zLed S n' c := by
  have p : n ≤ n * (j - i) := Nat.le_mul_of_pos_right _ (by omega)
  have a := rPr_k hij e (n := n' + q) (by omega) n
  have b := rPr_k hij e (n := n') hn' n
  rw [show n' + q + n * (j - i) = (n + q) + (n' + n * (j - i) - n) by omega, zLed_add, h, ← zLed_add, show n + (n' + n * (j - i) - n) = n' + n * (j - i) by omega, b] at a
  exact a.symm
end RPER
/-- not stuck within as many steps as there are places: never -/
theorem rSk_n {W L P : Nat → Int32} {m : Nat} (hO : rOk W L m) (hP : rPo W P) {c : Int32} (h : rIn m c) (hn : ∀ t, t ≤ m → rSk W L P c t = false) : ∀ k, rSk W L P c k = false := by
  obtain ⟨i, j, hij, hj, e⟩ := rPg hO hP h
  have key : ∀ k, ∃ t, t ≤ m ∧ zLed (rSt W L P) k c = zLed (rSt W L P) t c := by
    intro k
    induction k using Nat.strongRecOn with
    | ind k ih =>
      by_cases q : k ≤ m
      · exact ⟨k, q, rfl⟩
      · obtain ⟨t, ht, et⟩ := ih (k - (j - i)) (by omega)
        have p := rPr_1 hij e (k - j)
        rw [show j + (k - j) = k by omega, show i + (k - j) = k - (j - i) by omega] at p
        exact ⟨t, ht, p.trans et⟩
  intro k
  obtain ⟨t, ht, et⟩ := key k
  have a := hn t ht
  unfold rSk at a ⊢
  rw [et]
  exact a
theorem rSt_cg {W V L L' P Q : Nat → Int32} (hW : ∀ j, j < 7 → W j = V j) (hL : zLs W L L') (h4 : ∀ j, j < 7 → (W j).toInt ≤ 4) (hPQ : ∀ j, j < 7 → P j = Q j) (hP : rPo W P) {c : Int32} (h : 0 ≤ c.toInt ∧ c.toInt < 7) : rSt W L P c = rSt V L' Q c := by
  unfold rSt
  rw [← hW _ (by omega), ← hPQ _ (by omega)]
  by_cases q : 0 < (W c.toInt.toNat).toInt
  · have p := hP c.toInt.toNat (by omega) q
    have w := h4 c.toInt.toNat (by omega)
    rw [if_pos q, if_pos q, hL c.toInt.toNat (P c.toInt.toNat).toInt.toNat (by omega) (by omega) (by omega)]
  · rw [if_neg q, if_neg q]
theorem rPt_cg {W V L L' P Q : Nat → Int32} {m : Nat} (hO : rOk W L m) (hW : ∀ j, j < 7 → W j = V j) (hL : zLs W L L') (hPQ : ∀ j, j < 7 → P j = Q j) (hP : rPo W P) {c : Int32} (h : rIn m c) (k : Nat) : zLed (rSt W L P) k c = zLed (rSt V L' Q) k c := by
  induction k with
  | zero => rw [zLed_0, zLed_0]
  | succ k ih =>
    have m7 := hO.1
    obtain ⟨b0, b1⟩ := rPt_in hO hP h k
    have e : rSt W L P (zLed (rSt W L P) k c) = rSt V L' Q (zLed (rSt W L P) k c) := rSt_cg hW hL (fun j hj => (hO.2.1 j hj).2) hPQ hP ⟨b0, by omega⟩
    rw [zLed_s, zLed_s, e, ih]
theorem kOk_z {cr inn z : Int32} {k1 k2 k3 k4 f : Nat → Int32} {B : Nat} (h : zLnd cr inn k1 k2 k3 k4 (fun j => f (B + j))) (hF : zLF (fun j => f (B + j))) (hz : z.toInt.toNat = B) (hV : zVR (fun j => f (z.toInt.toNat + j))) : rOk (kW cr inn k1) k2 cr.toInt.toNat := by
  obtain ⟨a1, a2, a3, a4, a5, a6⟩ := zLnd_w h hF hz
  have c7 := zLnd_7 (z := z) h
  have q := zLq_e h hF hz hV
  refine ⟨by omega, fun c hc => (a4 c hc).1, fun c r hc hr => ?_⟩
  have w := (a4 c hc).1
  have z0 : (0 : Int32).toInt = 0 := rfl
  have hr : (r : Int) < (zWays cr inn k1 (nI c)).toInt := hr
  have n0 : ¬ zWays cr inn k1 (nI c) = 0 := fun q => by rw [q, z0] at hr; omega
  obtain ⟨_, _, _, _, c4⟩ := zWays_in n0
  have kc := nI_clamp (n := c) (by omega)
  rw [c4, kc] at hr
  have w : (kW cr inn k1 c).toInt ≤ 4 := w.2
  have e : kW cr inn k1 c = k1 c := by
    show zWays cr inn k1 (nI c) = k1 c
    rw [c4, kc]
  rw [e] at w
  have t := q c r hc (by omega) hr
  omega
theorem kStp {cr inn u : Int32} {k1 k2 k3 : Nat → Int32} (hI : zLI cr k1 k3) (hP : rPo (kW cr inn k1) k3) (h0 : 0 ≤ u.toInt) (h6 : u.toInt ≤ 6) (hw : 0 < (kW cr inn k1 u.toInt.toNat).toInt) : zTarget cr k1 k2 u (k3 u.toNatClampNeg) = rSt (kW cr inn k1) k2 k3 u := by
  have ec : u.toNatClampNeg = u.toInt.toNat := rfl
  have eu : u = nI u.toInt.toNat := z_nI (by omega) (by omega)
  have p := hP u.toInt.toNat (by omega) hw
  have w4 := zWays_le (inn := inn) hI (nI u.toInt.toNat)
  have hw2 : (kW cr inn k1 u.toInt.toNat).toInt ≤ 4 := w4.2
  have ep : k3 u.toInt.toNat = nI (k3 u.toInt.toNat).toInt.toNat := z_nI (by omega) (by omega)
  have e : rSt (kW cr inn k1) k2 k3 u = k2 (4 * u.toInt.toNat + (k3 u.toInt.toNat).toInt.toNat) := if_pos hw
  have t := kTg (k2 := k2) (inn := inn) hI h0 h6 (r := (k3 u.toInt.toNat).toInt.toNat) (by
    have q : kW cr inn k1 u.toInt.toNat = zWays cr inn k1 u := congrArg (zWays cr inn k1) eu.symm
    rw [← q]
    omega)
  rw [ec, e, ← t, ← ep]
theorem zStp_e {f P : Nat → Int32} {z n c : Int32} (h0 : 0 ≤ c.toInt) (h6 : c.toInt ≤ 6) : zStp f z n P c = rSt (zWo f z n) (zLo f z) P c := by
  have ec : c = nI c.toInt.toNat := z_nI (by omega) (by omega)
  have e1 : P c.toNatClampNeg = P c.toInt.toNat := rfl
  have z0 : (0 : Int32).toInt = 0 := rfl
  unfold zStp rSt
  by_cases q : zBit n c = 1
  · have w : zWo f z n c.toInt.toNat = 0 := zWo_i q h0 h6
    rw [if_neg (fun g => g.1 q), w, if_neg (by rw [z0]; omega)]
  · have w : zWo f z n c.toInt.toNat = zRd f z c := zWo_o q h0 h6
    rw [w]
    by_cases g : 0 < (zRd f z c).toInt
    · rw [if_pos ⟨q, g⟩, if_pos g]
      rfl
    · rw [if_neg (fun y => g y.2), if_neg g]
theorem zLed_e {f P : Nat → Int32} {z n c : Int32} {m : Nat} (hO : rOk (zWo f z n) (zLo f z) m) (hP : rPo (zWo f z n) P) (h : rIn m c) (k : Nat) : zLed (zStp f z n P) k c = zLed (rSt (zWo f z n) (zLo f z) P) k c := by
  induction k with
  | zero => rw [zLed_0, zLed_0]
  | succ k ih =>
    have m7 := hO.1
    obtain ⟨b0, b1⟩ := rPt_in hO hP h k
    have e := zStp_e (f := f) (P := P) (z := z) (n := n) b0 (by omega)
    rw [zLed_s, zLed_s, ih, e]
theorem rSk_f {W L P : Nat → Int32} {c : Int32} {k : Nat} (h : 0 < (W (zLed (rSt W L P) k c).toInt.toNat).toInt) : rSk W L P c k = false := decide_eq_false (fun q => q h)
theorem aLow {W : Nat → Int32} {w : Nat} : ∀ n, n ≤ 7 → (∀ j, j ≤ 6 → 7 ≤ j + n → aRd W w j + 1 = aCh W j) → w % aPr W n + 1 = aPr W n
  | 0, _, _ => by
    have e : aPr W 0 = 1 := rfl
    rw [e, Nat.mod_one]
  | n + 1, hn, h => by
    have ih := aLow n (by omega) (fun j h1 h2 => h j h1 (by omega))
    have d := h (6 - n) (by omega) (by omega)
    unfold aRd at d
    rw [show 6 - (6 - n) = n by omega] at d
    have e : aPr W (n + 1) = aPr W n * aCh W (6 - n) := rfl
    have p := aPr_p (W := W) n
    have m := aCh_p (W := W) (c := 6 - n)
    obtain ⟨k, hk⟩ : ∃ k, aCh W (6 - n) = k + 1 := ⟨aCh W (6 - n) - 1, by omega⟩
    rw [e, Nat.mod_mul, show w / aPr W n % aCh W (6 - n) = k by omega, hk, Nat.mul_add, Nat.mul_one]
    omega
theorem aInc {W : Nat → Int32} {w k : Nat} (hk : k ≤ 6) (hlow : ∀ j, k < j → j ≤ 6 → aRd W w j + 1 = aCh W j) (hd : aRd W w k + 1 < aCh W k) : (∀ j, j < k → aRd W (w + 1) j = aRd W w j) ∧ aRd W (w + 1) k = aRd W w k + 1 ∧ ∀ j, k < j → j ≤ 6 → aRd W (w + 1) j = 0 := by
  have l := aLow (W := W) (w := w) (6 - k) (by omega) (fun j h1 h2 => hlow j (by omega) h1)
  have hp := aPr_p (W := W) (6 - k)
  have e1 : aPr W (6 - k) * (w / aPr W (6 - k)) + w % aPr W (6 - k) = w := Nat.div_add_mod w _
  have e2 : w + 1 = aPr W (6 - k) * (w / aPr W (6 - k) + 1) := by
    rw [Nat.mul_add, Nat.mul_one]
    omega
  have e3 : (w + 1) / aPr W (6 - k) = w / aPr W (6 - k) + 1 := by
    rw [e2, Nat.mul_div_cancel_left _ hp]
  unfold aRd at hd
  have m1 := aCh_p (W := W) (c := k)
  have e4 : (w / aPr W (6 - k) + 1) % aCh W k = w / aPr W (6 - k) % aCh W k + 1 := by
    rw [Nat.add_mod, Nat.mod_eq_of_lt (show 1 < aCh W k by omega), Nat.mod_eq_of_lt hd]
  have e5 : (w / aPr W (6 - k) + 1) / aCh W k = w / aPr W (6 - k) / aCh W k := by
    have a := Nat.div_add_mod (w / aPr W (6 - k)) (aCh W k)
    have b := Nat.div_add_mod (w / aPr W (6 - k) + 1) (aCh W k)
    rw [e4] at b
    have c : aCh W k * ((w / aPr W (6 - k) + 1) / aCh W k) = aCh W k * (w / aPr W (6 - k) / aCh W k) := by omega
    exact Nat.eq_of_mul_eq_mul_left m1 c
  refine ⟨fun j hj => ?_, ?_, fun j h1 h2 => ?_⟩
  · obtain ⟨s, hs⟩ := aPr_d (W := W) (m := 6 - k + 1) (n := 6 - j) (by omega)
    unfold aRd
    rw [hs, aPr_s hk, ← Nat.div_div_eq_div_mul, ← Nat.div_div_eq_div_mul, ← Nat.div_div_eq_div_mul, ← Nat.div_div_eq_div_mul, e3, e5]
  · unfold aRd
    rw [e3, e4]
  · obtain ⟨s, hs⟩ := aPr_d (W := W) (m := 6 - j + 1) (n := 6 - k) (by omega)
    rw [aPr_s h2] at hs
    have q := aPr_p (W := W) (6 - j)
    have e7 : ∀ q, aPr W (6 - k) * q = aPr W (6 - j) * (aCh W j * (s * q)) := fun q => by rw [hs, Nat.mul_assoc, Nat.mul_assoc]
    have e6 : w + 1 = aPr W (6 - j) * (aCh W j * (s * (w / aPr W (6 - k) + 1))) := e2.trans (e7 _)
    unfold aRd
    rw [e6, Nat.mul_div_cancel_left _ q, Nat.mul_mod_right]
theorem aIncA {W : Nat → Int32} {w : Nat} (hw : w < aPr W 7) (h : ∀ j, j ≤ 6 → aRd W w j + 1 = aCh W j) : w + 1 = aPr W 7 := by
  have l := aLow (W := W) (w := w) 7 (Nat.le_refl _) (fun j h1 _ => h j h1)
  rw [Nat.mod_eq_of_lt hw] at l
  exact l
theorem aPo_in {W : Nat → Int32} {w : Nat} (h4 : ∀ c, c < 7 → (W c).toInt ≤ 4) : rPo W (aPo W w) := by
  intro c hc hw
  have l := aRd_lt (W := W) (w := w) (c := c)
  have e : aCh W c = (W c).toInt.toNat := if_neg (by omega)
  have t := h4 c hc
  unfold aPo
  rw [nI_toInt (by omega)]
  omega
/-- all come -/
def rTr (W L : Nat → Int32) (m : Nat) (inn : Int32) (R : Nat → Int32) : Nat → Bool := fun c => decide ((W c).toInt ≤ 0) || decide (zBit inn (zLed (rSt W L R) 7 (nI c)) = 1)
def rTrs (W L : Nat → Int32) (m : Nat) (inn : Int32) : Int32 := nI (rCn (fun w => rAll (rTr W L m inn (aPo W w)) m) (aPr W 7))
theorem rTr_cg {W V L L' R Q : Nat → Int32} {m : Nat} {inn : Int32} (hO : rOk W L m) (hW : ∀ j, j < 7 → W j = V j) (hL : zLs W L L') (hR : ∀ j, j < 7 → R j = Q j) (hP : rPo W R) {c : Nat} (hc : c < m) : rTr W L m inn R c = rTr V L' m inn Q c := by
  have m7 := hO.1
  have t := nI_toInt (n := c) (by omega)
  have e := rPt_cg hO hW hL hR hP (c := nI c) ⟨by omega, by omega⟩ 7
  unfold rTr
  rw [e, hW c (by omega)]
theorem rTrs_cg {W V L L' : Nat → Int32} {m : Nat} {inn : Int32} (hO : rOk W L m) (hW : ∀ j, j < 7 → W j = V j) (hL : zLs W L L') : rTrs W L m inn = rTrs V L' m inn := by
  have e : ∀ w, w < aPr V 7 → rAll (rTr W L m inn (aPo W w)) m = rAll (rTr V L' m inn (aPo V w)) m := fun w _ => rAll_cg m (fun c hc => rTr_cg hO hW hL (fun j hj => congrArg nI (aRd_cg hW hj)) (aPo_in (fun c hc => (hO.2.1 c hc).2)) hc)
  unfold rTrs
  rw [aPr_cg hW 7]
  exact congrArg nI (rCn_cg _ e)
theorem rCom {W L R : Nat → Int32} {m i : Nat} {inn a : Int32} (hO : rOk W L m) (hP : rPo W R) (h : rIn m a) (hi : i ≤ m) (hn : ∀ t, t < i → rSk W L R a t = false) (hx : (W (zLed (rSt W L R) i a).toInt.toNat).toInt ≤ 0 ∨ i = m) (hI : ∀ c : Int32, rIn m c → zBit inn c = 1 → (W c.toInt.toNat).toInt ≤ 0) : zBit inn (zLed (rSt W L R) i a) = 1 ↔ zBit inn (zLed (rSt W L R) 7 a) = 1 := by
  have m7 := hO.1
  by_cases q : rSk W L R a i = true
  · have e := (rSk_m q (7 - i)).1
    rw [show i + (7 - i) = 7 by omega] at e
    rw [e]
  · have im : i = m := by
      rcases hx with z | z
      · exact absurd (decide_eq_true (by omega)) q
      · exact z
    have ns := rSk_n hO hP h (fun t ht => by
      by_cases y : t = i
      · rw [y]
        exact Bool.not_eq_true _ ▸ q
      · exact hn t (by omega))
    have no : ∀ k, ¬ zBit inn (zLed (rSt W L R) k a) = 1 := fun k z => by
      have s := hI _ (rPt_in hO hP h k) z
      have t := ns k
      have t2 : rSk W L R a k = true := decide_eq_true (by omega)
      rw [t] at t2
      exact absurd t2 (by decide)
    exact ⟨fun z => absurd z (no i), fun z => absurd z (no 7)⟩
theorem kIn {cr inn c : Int32} {k1 : Nat → Int32} (h0 : 0 ≤ c.toInt) (h6 : c.toInt ≤ 6) (h : zBit inn c = 1) : (kW cr inn k1 c.toInt.toNat).toInt ≤ 0 := by
  have e : nI c.toInt.toNat = c := (z_nI (by omega) (by omega)).symm
  have z : kW cr inn k1 c.toInt.toNat = 0 := by
    unfold kW zWays
    rw [e, if_neg (fun q => zBit_o h q.2.2.2)]
  rw [z]
  decide
def kTrees (cr inn : Int32) (k1 k2 k3 : Nat → Int32) : Int32 := rTrs (kW cr inn k1) k2 cr.toInt.toNat inn
def pTrees (f : Nat → Int32) (z : Int32) : Int32 := rTrs (pW f z) (zLo f z) (f z.toInt.toNat).toInt.toNat (f (z.toInt.toNat + 1))
theorem kTrees_e {cr inn z : Int32} {k1 k2 k3 k4 f : Nat → Int32} {B : Nat} (h : zLnd cr inn k1 k2 k3 k4 (fun j => f (B + j))) (hF : zLF (fun j => f (B + j))) (hz : z.toInt.toNat = B) (hV : zVR (fun j => f (z.toInt.toNat + j))) : kTrees cr inn k1 k2 k3 = pTrees f z := by
  obtain ⟨a1, a2, a3, a4, a5, a6⟩ := zLnd_w h hF hz
  unfold kTrees pTrees
  rw [← a5, ← a6]
  exact rTrs_cg (kOk_z h hF hz hV) a1 a2
set_option maxHeartbeats 4000000 in
set_option maxRecDepth 100000 in
/-- nextRow -/
theorem c_f_nextRow (l : Launch) (T : zTy) (h : Nat) (la : Nat) (md : Int32) (wy : Int32) (pc_ : Int32) (f1 : Nat → Int32) (f2 : Nat → Int32) (f3 : Nat → Int32) (f4 : Nat → Int32) (f5 : Nat → Int32) (f6 : Nat → Int32) (n4 : Nat) (ww : va_W) (W_ : Nat → Int32) (w_ : Nat) (hww : bWays T h la md wy pc_ f1 f2 f3 f4 f5 f6 n4 ww) (hcf : (∀ c, c < 7 → f1 c = nI (aCh W_ c))) (h4 : (∀ c, aCh W_ c ≤ 4)) (hr_ : (∀ c, c < 7 → f3 c = aPo W_ w_ c)) (hw_ : w_ < aPr W_ 7) : zMv l T yX0_nextRow cX0_nextRow 2 1 0 0 [.ref h] [ww] (fun bs => ∃ (w2 : va_W) (g3 : Nat → Int32), bs = [w2] ∧ bWays T h la md wy pc_ f1 f2 g3 f4 f5 f6 n4 w2 ∧ (w_ + 1 < aPr W_ 7 → ∀ c, c < 7 → g3 c = aPo W_ (w_ + 1) c)) := by
  refine zMv_of (own := RX0) (by decide) rfl (Nat.le_of_ble_eq_true rfl) ?_
  intro p e s m args below meth c A ls C hr hlocks hnm hAe G hl
  refine zHide (fun Qz_ hQz_ => ?_)
  have hx := C.1
  have hb := C.2.1
  have hl : lv_has ls 2 [(0, .ref h)] := hl
  have ha0 := h4 0
  have hl0 := aRd_lt (W := W_) (w := w_) (c := 0)
  have hA0 : (f3 0 + 1).toInt = (aRd W_ w_ 0 : Nat) + 1 := by rw [hr_ 0 (by decide)]; unfold aPo; rw [zInc1, nI_toInt (by omega)]; omega
  have hB0 : (f1 0).toInt = (aCh W_ 0 : Nat) := by rw [hcf 0 (by decide), nI_toInt (by omega)]
  have ha1 := h4 1
  have hl1 := aRd_lt (W := W_) (w := w_) (c := 1)
  have hA1 : (f3 1 + 1).toInt = (aRd W_ w_ 1 : Nat) + 1 := by rw [hr_ 1 (by decide)]; unfold aPo; rw [zInc1, nI_toInt (by omega)]; omega
  have hB1 : (f1 1).toInt = (aCh W_ 1 : Nat) := by rw [hcf 1 (by decide), nI_toInt (by omega)]
  have ha2 := h4 2
  have hl2 := aRd_lt (W := W_) (w := w_) (c := 2)
  have hA2 : (f3 2 + 1).toInt = (aRd W_ w_ 2 : Nat) + 1 := by rw [hr_ 2 (by decide)]; unfold aPo; rw [zInc1, nI_toInt (by omega)]; omega
  have hB2 : (f1 2).toInt = (aCh W_ 2 : Nat) := by rw [hcf 2 (by decide), nI_toInt (by omega)]
  have ha3 := h4 3
  have hl3 := aRd_lt (W := W_) (w := w_) (c := 3)
  have hA3 : (f3 3 + 1).toInt = (aRd W_ w_ 3 : Nat) + 1 := by rw [hr_ 3 (by decide)]; unfold aPo; rw [zInc1, nI_toInt (by omega)]; omega
  have hB3 : (f1 3).toInt = (aCh W_ 3 : Nat) := by rw [hcf 3 (by decide), nI_toInt (by omega)]
  have ha4 := h4 4
  have hl4 := aRd_lt (W := W_) (w := w_) (c := 4)
  have hA4 : (f3 4 + 1).toInt = (aRd W_ w_ 4 : Nat) + 1 := by rw [hr_ 4 (by decide)]; unfold aPo; rw [zInc1, nI_toInt (by omega)]; omega
  have hB4 : (f1 4).toInt = (aCh W_ 4 : Nat) := by rw [hcf 4 (by decide), nI_toInt (by omega)]
  have ha5 := h4 5
  have hl5 := aRd_lt (W := W_) (w := w_) (c := 5)
  have hA5 : (f3 5 + 1).toInt = (aRd W_ w_ 5 : Nat) + 1 := by rw [hr_ 5 (by decide)]; unfold aPo; rw [zInc1, nI_toInt (by omega)]; omega
  have hB5 : (f1 5).toInt = (aCh W_ 5 : Nat) := by rw [hcf 5 (by decide), nI_toInt (by omega)]
  have ha6 := h4 6
  have hl6 := aRd_lt (W := W_) (w := w_) (c := 6)
  have hA6 : (f3 6 + 1).toInt = (aRd W_ w_ 6 : Nat) + 1 := by rw [hr_ 6 (by decide)]; unfold aPo; rw [zInc1, nI_toInt (by omega)]; omega
  have hB6 : (f1 6).toInt = (aCh W_ 6 : Nat) := by rw [hcf 6 (by decide), nI_toInt (by omega)]
  refine lv_bipush (v := 6) hx hb dX0_nextRow_0 (by decide) ?_
  refine lv_istore_n (lv' := [(1, .int 6), (0, .ref h)]) hx hb dX0_nextRow_2 rfl hl (by decide) (zLvf_h rfl) (fun ls hl => ?_)
  refine lv_iload_n hx hb dX0_nextRow_3 rfl (lv_at hl 0 rfl) ?_
  refine lv_if_lt (tgt := 46) hx hb dX0_nextRow_4 (by decide) (fun q => absurd q (by decide)) (fun _ => ?_)
  refine lv_aload_n hx hb dX0_nextRow_7 rfl (lv_at hl 1 rfl) ?_
  refine zEx6 hww ?_
  intro a1_1 a2_2 a3_3 a4_4 a5_5 a6_6 hbs9
  clear hww
  subst hbs9
  have G : zS T A s.heap s [[zO0 h md wy la pc_ a1_1 a2_2 a3_3 a4_4 a5_5 a6_6], [zAr T 0 a1_1 7 f1], [zAr T 0 a2_2 7 f2], [zAr T 0 a3_3 7 f3], [zAr T 0 a4_4 n4 f4], [zAr T 0 a5_5 n4 f5], [zAr T 0 a6_6 n4 f6]] _ _ := G.re rfl
  refine z_get C G clX0 0 rfl 6 (by decide) m_fl_RX0_25 rfl dX0_nextRow_8 ?_
  refine lv_iload_n hx hb dX0_nextRow_11 rfl (lv_at hl 0 rfl) ?_
  refine lv_dup2_11 hx hb dX0_nextRow_12 rfl rfl ?_
  refine z_ild C G 3 rfl (vp_in_nI (n := 6) (by decide) (by decide)) dX0_nextRow_13 ?_
  refine lv_topi (fun v_7 ev_7 => ?_)
  rw [show ((6 : Int32).toNatClampNeg) = 6 from rfl] at ev_7
  subst ev_7
  refine lv_iconst (v := 1) hx hb dX0_nextRow_14 (by decide) ?_
  refine lv_iadd hx hb dX0_nextRow_15 ?_
  refine z_ist C G 3 rfl (vp_in_nI (n := 6) (by decide) (by decide)) dX0_nextRow_16 (fun H locs G => ?_)
  have G : zS T A s.heap s [[zO0 h md wy la pc_ a1_1 a2_2 a3_3 a4_4 a5_5 a6_6], [zAr T 0 a1_1 7 f1], [zAr T 0 a2_2 7 f2], [zAr T 0 a3_3 7 (upd f3 6 ((f3 6) + 1))], [zAr T 0 a4_4 n4 f4], [zAr T 0 a5_5 n4 f5], [zAr T 0 a6_6 n4 f6]] _ _ := G
  refine lv_aload_n hx hb dX0_nextRow_17 rfl (lv_at hl 1 rfl) ?_
  refine z_get C G clX0 0 rfl 6 (by decide) m_fl_RX0_25 rfl dX0_nextRow_18 ?_
  refine lv_iload_n hx hb dX0_nextRow_21 rfl (lv_at hl 0 rfl) ?_
  refine z_ild C G 3 rfl (vp_in_nI (n := 6) (by decide) (by decide)) dX0_nextRow_22 ?_
  refine lv_topi (fun v_8 ev_8 => ?_)
  have ev_8 : v_8 = (f3 6) + 1 := ev_8
  subst ev_8
  refine lv_aload_n hx hb dX0_nextRow_23 rfl (lv_at hl 1 rfl) ?_
  refine z_get C G clX0 0 rfl 4 (by decide) m_fl_RX0_18 rfl dX0_nextRow_24 ?_
  refine lv_iload_n hx hb dX0_nextRow_27 rfl (lv_at hl 0 rfl) ?_
  refine z_ild C G 1 rfl (vp_in_nI (n := 6) (by decide) (by decide)) dX0_nextRow_28 ?_
  refine lv_topi (fun v_9 ev_9 => ?_)
  rw [show ((6 : Int32).toNatClampNeg) = 6 from rfl] at ev_9
  subst ev_9
  refine lv_icmp_ge (tgt := 33) hx hb dX0_nextRow_29 (by decide) (fun c_10 => ?_) (fun c_10 => ?_)
  · have c_10n : (f1 6).toInt ≤ ((f3 6) + 1).toInt := (fa_le _ _).mp c_10
    refine lv_aload_n hx hb dX0_nextRow_33 rfl (lv_at hl 1 rfl) ?_
    refine z_get C G clX0 0 rfl 6 (by decide) m_fl_RX0_25 rfl dX0_nextRow_34 ?_
    refine lv_iload_n hx hb dX0_nextRow_37 rfl (lv_at hl 0 rfl) ?_
    refine lv_iconst (v := 0) hx hb dX0_nextRow_38 (by decide) ?_
    refine z_ist C G 3 rfl (vp_in_nI (n := 6) (by decide) (by decide)) dX0_nextRow_39 (fun H locs G => ?_)
    have G : zS T A s.heap s [[zO0 h md wy la pc_ a1_1 a2_2 a3_3 a4_4 a5_5 a6_6], [zAr T 0 a1_1 7 f1], [zAr T 0 a2_2 7 f2], [zAr T 0 a3_3 7 (upd (upd f3 6 ((f3 6) + 1)) 6 0)], [zAr T 0 a4_4 n4 f4], [zAr T 0 a5_5 n4 f5], [zAr T 0 a6_6 n4 f6]] _ _ := G
    refine lv_iinc (v := 5) (lv' := [(1, .int 5), (0, .ref h)]) hx hb dX0_nextRow_40 hl (k := 0) rfl (by decide) (by decide) (zLvf_h rfl) (fun ls hl => ?_)
    refine lv_goto (tgt := 3) hx hb dX0_nextRow_43 (by decide) ?_
    refine lv_iload_n hx hb dX0_nextRow_3 rfl (lv_at hl 0 rfl) ?_
    refine lv_if_lt (tgt := 46) hx hb dX0_nextRow_4 (by decide) (fun q => absurd q (by decide)) (fun _ => ?_)
    refine lv_aload_n hx hb dX0_nextRow_7 rfl (lv_at hl 1 rfl) ?_
    refine z_get C G clX0 0 rfl 6 (by decide) m_fl_RX0_25 rfl dX0_nextRow_8 ?_
    refine lv_iload_n hx hb dX0_nextRow_11 rfl (lv_at hl 0 rfl) ?_
    refine lv_dup2_11 hx hb dX0_nextRow_12 rfl rfl ?_
    refine z_ild C G 3 rfl (vp_in_nI (n := 5) (by decide) (by decide)) dX0_nextRow_13 ?_
    refine lv_topi (fun v_11 ev_11 => ?_)
    rw [show ((5 : Int32).toNatClampNeg) = 5 from rfl] at ev_11
    subst ev_11
    refine lv_topi (fun y_12 ey_12 => ?_)
    obtain rfl : y_12 = f3 5 := ey_12.trans (rfl)
    refine lv_iconst (v := 1) hx hb dX0_nextRow_14 (by decide) ?_
    refine lv_iadd hx hb dX0_nextRow_15 ?_
    refine z_ist C G 3 rfl (vp_in_nI (n := 5) (by decide) (by decide)) dX0_nextRow_16 (fun H locs G => ?_)
    have G : zS T A s.heap s [[zO0 h md wy la pc_ a1_1 a2_2 a3_3 a4_4 a5_5 a6_6], [zAr T 0 a1_1 7 f1], [zAr T 0 a2_2 7 f2], [zAr T 0 a3_3 7 (upd (upd (upd f3 6 ((f3 6) + 1)) 6 0) 5 ((f3 5) + 1))], [zAr T 0 a4_4 n4 f4], [zAr T 0 a5_5 n4 f5], [zAr T 0 a6_6 n4 f6]] _ _ := G
    refine lv_aload_n hx hb dX0_nextRow_17 rfl (lv_at hl 1 rfl) ?_
    refine z_get C G clX0 0 rfl 6 (by decide) m_fl_RX0_25 rfl dX0_nextRow_18 ?_
    refine lv_iload_n hx hb dX0_nextRow_21 rfl (lv_at hl 0 rfl) ?_
    refine z_ild C G 3 rfl (vp_in_nI (n := 5) (by decide) (by decide)) dX0_nextRow_22 ?_
    refine lv_topi (fun v_13 ev_13 => ?_)
    have ev_13 : v_13 = (f3 5) + 1 := ev_13
    subst ev_13
    refine lv_aload_n hx hb dX0_nextRow_23 rfl (lv_at hl 1 rfl) ?_
    refine z_get C G clX0 0 rfl 4 (by decide) m_fl_RX0_18 rfl dX0_nextRow_24 ?_
    refine lv_iload_n hx hb dX0_nextRow_27 rfl (lv_at hl 0 rfl) ?_
    refine z_ild C G 1 rfl (vp_in_nI (n := 5) (by decide) (by decide)) dX0_nextRow_28 ?_
    refine lv_topi (fun v_14 ev_14 => ?_)
    rw [show ((5 : Int32).toNatClampNeg) = 5 from rfl] at ev_14
    subst ev_14
    refine lv_icmp_ge (tgt := 33) hx hb dX0_nextRow_29 (by decide) (fun c_15 => ?_) (fun c_15 => ?_)
    · have c_15n : (f1 5).toInt ≤ ((f3 5) + 1).toInt := (fa_le _ _).mp c_15
      refine lv_aload_n hx hb dX0_nextRow_33 rfl (lv_at hl 1 rfl) ?_
      refine z_get C G clX0 0 rfl 6 (by decide) m_fl_RX0_25 rfl dX0_nextRow_34 ?_
      refine lv_iload_n hx hb dX0_nextRow_37 rfl (lv_at hl 0 rfl) ?_
      refine lv_iconst (v := 0) hx hb dX0_nextRow_38 (by decide) ?_
      refine z_ist C G 3 rfl (vp_in_nI (n := 5) (by decide) (by decide)) dX0_nextRow_39 (fun H locs G => ?_)
      have G : zS T A s.heap s [[zO0 h md wy la pc_ a1_1 a2_2 a3_3 a4_4 a5_5 a6_6], [zAr T 0 a1_1 7 f1], [zAr T 0 a2_2 7 f2], [zAr T 0 a3_3 7 (upd (upd (upd (upd f3 6 ((f3 6) + 1)) 6 0) 5 ((f3 5) + 1)) 5 0)], [zAr T 0 a4_4 n4 f4], [zAr T 0 a5_5 n4 f5], [zAr T 0 a6_6 n4 f6]] _ _ := G
      refine lv_iinc (v := 4) (lv' := [(1, .int 4), (0, .ref h)]) hx hb dX0_nextRow_40 hl (k := 0) rfl (by decide) (by decide) (zLvf_h rfl) (fun ls hl => ?_)
      refine lv_goto (tgt := 3) hx hb dX0_nextRow_43 (by decide) ?_
      refine lv_iload_n hx hb dX0_nextRow_3 rfl (lv_at hl 0 rfl) ?_
      refine lv_if_lt (tgt := 46) hx hb dX0_nextRow_4 (by decide) (fun q => absurd q (by decide)) (fun _ => ?_)
      refine lv_aload_n hx hb dX0_nextRow_7 rfl (lv_at hl 1 rfl) ?_
      refine z_get C G clX0 0 rfl 6 (by decide) m_fl_RX0_25 rfl dX0_nextRow_8 ?_
      refine lv_iload_n hx hb dX0_nextRow_11 rfl (lv_at hl 0 rfl) ?_
      refine lv_dup2_11 hx hb dX0_nextRow_12 rfl rfl ?_
      refine z_ild C G 3 rfl (vp_in_nI (n := 4) (by decide) (by decide)) dX0_nextRow_13 ?_
      refine lv_topi (fun v_16 ev_16 => ?_)
      rw [show ((4 : Int32).toNatClampNeg) = 4 from rfl] at ev_16
      subst ev_16
      refine lv_topi (fun y_17 ey_17 => ?_)
      obtain rfl : y_17 = f3 4 := ey_17.trans (rfl)
      refine lv_iconst (v := 1) hx hb dX0_nextRow_14 (by decide) ?_
      refine lv_iadd hx hb dX0_nextRow_15 ?_
      refine z_ist C G 3 rfl (vp_in_nI (n := 4) (by decide) (by decide)) dX0_nextRow_16 (fun H locs G => ?_)
      have G : zS T A s.heap s [[zO0 h md wy la pc_ a1_1 a2_2 a3_3 a4_4 a5_5 a6_6], [zAr T 0 a1_1 7 f1], [zAr T 0 a2_2 7 f2], [zAr T 0 a3_3 7 (upd (upd (upd (upd (upd f3 6 ((f3 6) + 1)) 6 0) 5 ((f3 5) + 1)) 5 0) 4 ((f3 4) + 1))], [zAr T 0 a4_4 n4 f4], [zAr T 0 a5_5 n4 f5], [zAr T 0 a6_6 n4 f6]] _ _ := G
      refine lv_aload_n hx hb dX0_nextRow_17 rfl (lv_at hl 1 rfl) ?_
      refine z_get C G clX0 0 rfl 6 (by decide) m_fl_RX0_25 rfl dX0_nextRow_18 ?_
      refine lv_iload_n hx hb dX0_nextRow_21 rfl (lv_at hl 0 rfl) ?_
      refine z_ild C G 3 rfl (vp_in_nI (n := 4) (by decide) (by decide)) dX0_nextRow_22 ?_
      refine lv_topi (fun v_18 ev_18 => ?_)
      have ev_18 : v_18 = (f3 4) + 1 := ev_18
      subst ev_18
      refine lv_aload_n hx hb dX0_nextRow_23 rfl (lv_at hl 1 rfl) ?_
      refine z_get C G clX0 0 rfl 4 (by decide) m_fl_RX0_18 rfl dX0_nextRow_24 ?_
      refine lv_iload_n hx hb dX0_nextRow_27 rfl (lv_at hl 0 rfl) ?_
      refine z_ild C G 1 rfl (vp_in_nI (n := 4) (by decide) (by decide)) dX0_nextRow_28 ?_
      refine lv_topi (fun v_19 ev_19 => ?_)
      rw [show ((4 : Int32).toNatClampNeg) = 4 from rfl] at ev_19
      subst ev_19
      refine lv_icmp_ge (tgt := 33) hx hb dX0_nextRow_29 (by decide) (fun c_20 => ?_) (fun c_20 => ?_)
      · have c_20n : (f1 4).toInt ≤ ((f3 4) + 1).toInt := (fa_le _ _).mp c_20
        refine lv_aload_n hx hb dX0_nextRow_33 rfl (lv_at hl 1 rfl) ?_
        refine z_get C G clX0 0 rfl 6 (by decide) m_fl_RX0_25 rfl dX0_nextRow_34 ?_
        refine lv_iload_n hx hb dX0_nextRow_37 rfl (lv_at hl 0 rfl) ?_
        refine lv_iconst (v := 0) hx hb dX0_nextRow_38 (by decide) ?_
        refine z_ist C G 3 rfl (vp_in_nI (n := 4) (by decide) (by decide)) dX0_nextRow_39 (fun H locs G => ?_)
        have G : zS T A s.heap s [[zO0 h md wy la pc_ a1_1 a2_2 a3_3 a4_4 a5_5 a6_6], [zAr T 0 a1_1 7 f1], [zAr T 0 a2_2 7 f2], [zAr T 0 a3_3 7 (upd (upd (upd (upd (upd (upd f3 6 ((f3 6) + 1)) 6 0) 5 ((f3 5) + 1)) 5 0) 4 ((f3 4) + 1)) 4 0)], [zAr T 0 a4_4 n4 f4], [zAr T 0 a5_5 n4 f5], [zAr T 0 a6_6 n4 f6]] _ _ := G
        refine lv_iinc (v := 3) (lv' := [(1, .int 3), (0, .ref h)]) hx hb dX0_nextRow_40 hl (k := 0) rfl (by decide) (by decide) (zLvf_h rfl) (fun ls hl => ?_)
        refine lv_goto (tgt := 3) hx hb dX0_nextRow_43 (by decide) ?_
        refine lv_iload_n hx hb dX0_nextRow_3 rfl (lv_at hl 0 rfl) ?_
        refine lv_if_lt (tgt := 46) hx hb dX0_nextRow_4 (by decide) (fun q => absurd q (by decide)) (fun _ => ?_)
        refine lv_aload_n hx hb dX0_nextRow_7 rfl (lv_at hl 1 rfl) ?_
        refine z_get C G clX0 0 rfl 6 (by decide) m_fl_RX0_25 rfl dX0_nextRow_8 ?_
        refine lv_iload_n hx hb dX0_nextRow_11 rfl (lv_at hl 0 rfl) ?_
        refine lv_dup2_11 hx hb dX0_nextRow_12 rfl rfl ?_
        refine z_ild C G 3 rfl (vp_in_nI (n := 3) (by decide) (by decide)) dX0_nextRow_13 ?_
        refine lv_topi (fun v_21 ev_21 => ?_)
        rw [show ((3 : Int32).toNatClampNeg) = 3 from rfl] at ev_21
        subst ev_21
        refine lv_topi (fun y_22 ey_22 => ?_)
        obtain rfl : y_22 = f3 3 := ey_22.trans (rfl)
        refine lv_iconst (v := 1) hx hb dX0_nextRow_14 (by decide) ?_
        refine lv_iadd hx hb dX0_nextRow_15 ?_
        refine z_ist C G 3 rfl (vp_in_nI (n := 3) (by decide) (by decide)) dX0_nextRow_16 (fun H locs G => ?_)
        have G : zS T A s.heap s [[zO0 h md wy la pc_ a1_1 a2_2 a3_3 a4_4 a5_5 a6_6], [zAr T 0 a1_1 7 f1], [zAr T 0 a2_2 7 f2], [zAr T 0 a3_3 7 (upd (upd (upd (upd (upd (upd (upd f3 6 ((f3 6) + 1)) 6 0) 5 ((f3 5) + 1)) 5 0) 4 ((f3 4) + 1)) 4 0) 3 ((f3 3) + 1))], [zAr T 0 a4_4 n4 f4], [zAr T 0 a5_5 n4 f5], [zAr T 0 a6_6 n4 f6]] _ _ := G
        refine lv_aload_n hx hb dX0_nextRow_17 rfl (lv_at hl 1 rfl) ?_
        refine z_get C G clX0 0 rfl 6 (by decide) m_fl_RX0_25 rfl dX0_nextRow_18 ?_
        refine lv_iload_n hx hb dX0_nextRow_21 rfl (lv_at hl 0 rfl) ?_
        refine z_ild C G 3 rfl (vp_in_nI (n := 3) (by decide) (by decide)) dX0_nextRow_22 ?_
        refine lv_topi (fun v_23 ev_23 => ?_)
        have ev_23 : v_23 = (f3 3) + 1 := ev_23
        subst ev_23
        refine lv_aload_n hx hb dX0_nextRow_23 rfl (lv_at hl 1 rfl) ?_
        refine z_get C G clX0 0 rfl 4 (by decide) m_fl_RX0_18 rfl dX0_nextRow_24 ?_
        refine lv_iload_n hx hb dX0_nextRow_27 rfl (lv_at hl 0 rfl) ?_
        refine z_ild C G 1 rfl (vp_in_nI (n := 3) (by decide) (by decide)) dX0_nextRow_28 ?_
        refine lv_topi (fun v_24 ev_24 => ?_)
        rw [show ((3 : Int32).toNatClampNeg) = 3 from rfl] at ev_24
        subst ev_24
        refine lv_icmp_ge (tgt := 33) hx hb dX0_nextRow_29 (by decide) (fun c_25 => ?_) (fun c_25 => ?_)
        · have c_25n : (f1 3).toInt ≤ ((f3 3) + 1).toInt := (fa_le _ _).mp c_25
          refine lv_aload_n hx hb dX0_nextRow_33 rfl (lv_at hl 1 rfl) ?_
          refine z_get C G clX0 0 rfl 6 (by decide) m_fl_RX0_25 rfl dX0_nextRow_34 ?_
          refine lv_iload_n hx hb dX0_nextRow_37 rfl (lv_at hl 0 rfl) ?_
          refine lv_iconst (v := 0) hx hb dX0_nextRow_38 (by decide) ?_
          refine z_ist C G 3 rfl (vp_in_nI (n := 3) (by decide) (by decide)) dX0_nextRow_39 (fun H locs G => ?_)
          have G : zS T A s.heap s [[zO0 h md wy la pc_ a1_1 a2_2 a3_3 a4_4 a5_5 a6_6], [zAr T 0 a1_1 7 f1], [zAr T 0 a2_2 7 f2], [zAr T 0 a3_3 7 (upd (upd (upd (upd (upd (upd (upd (upd f3 6 ((f3 6) + 1)) 6 0) 5 ((f3 5) + 1)) 5 0) 4 ((f3 4) + 1)) 4 0) 3 ((f3 3) + 1)) 3 0)], [zAr T 0 a4_4 n4 f4], [zAr T 0 a5_5 n4 f5], [zAr T 0 a6_6 n4 f6]] _ _ := G
          refine lv_iinc (v := 2) (lv' := [(1, .int 2), (0, .ref h)]) hx hb dX0_nextRow_40 hl (k := 0) rfl (by decide) (by decide) (zLvf_h rfl) (fun ls hl => ?_)
          refine lv_goto (tgt := 3) hx hb dX0_nextRow_43 (by decide) ?_
          refine lv_iload_n hx hb dX0_nextRow_3 rfl (lv_at hl 0 rfl) ?_
          refine lv_if_lt (tgt := 46) hx hb dX0_nextRow_4 (by decide) (fun q => absurd q (by decide)) (fun _ => ?_)
          refine lv_aload_n hx hb dX0_nextRow_7 rfl (lv_at hl 1 rfl) ?_
          refine z_get C G clX0 0 rfl 6 (by decide) m_fl_RX0_25 rfl dX0_nextRow_8 ?_
          refine lv_iload_n hx hb dX0_nextRow_11 rfl (lv_at hl 0 rfl) ?_
          refine lv_dup2_11 hx hb dX0_nextRow_12 rfl rfl ?_
          refine z_ild C G 3 rfl (vp_in_nI (n := 2) (by decide) (by decide)) dX0_nextRow_13 ?_
          refine lv_topi (fun v_26 ev_26 => ?_)
          rw [show ((2 : Int32).toNatClampNeg) = 2 from rfl] at ev_26
          subst ev_26
          refine lv_topi (fun y_27 ey_27 => ?_)
          obtain rfl : y_27 = f3 2 := ey_27.trans (rfl)
          refine lv_iconst (v := 1) hx hb dX0_nextRow_14 (by decide) ?_
          refine lv_iadd hx hb dX0_nextRow_15 ?_
          refine z_ist C G 3 rfl (vp_in_nI (n := 2) (by decide) (by decide)) dX0_nextRow_16 (fun H locs G => ?_)
          have G : zS T A s.heap s [[zO0 h md wy la pc_ a1_1 a2_2 a3_3 a4_4 a5_5 a6_6], [zAr T 0 a1_1 7 f1], [zAr T 0 a2_2 7 f2], [zAr T 0 a3_3 7 (upd (upd (upd (upd (upd (upd (upd (upd (upd f3 6 ((f3 6) + 1)) 6 0) 5 ((f3 5) + 1)) 5 0) 4 ((f3 4) + 1)) 4 0) 3 ((f3 3) + 1)) 3 0) 2 ((f3 2) + 1))], [zAr T 0 a4_4 n4 f4], [zAr T 0 a5_5 n4 f5], [zAr T 0 a6_6 n4 f6]] _ _ := G
          refine lv_aload_n hx hb dX0_nextRow_17 rfl (lv_at hl 1 rfl) ?_
          refine z_get C G clX0 0 rfl 6 (by decide) m_fl_RX0_25 rfl dX0_nextRow_18 ?_
          refine lv_iload_n hx hb dX0_nextRow_21 rfl (lv_at hl 0 rfl) ?_
          refine z_ild C G 3 rfl (vp_in_nI (n := 2) (by decide) (by decide)) dX0_nextRow_22 ?_
          refine lv_topi (fun v_28 ev_28 => ?_)
          have ev_28 : v_28 = (f3 2) + 1 := ev_28
          subst ev_28
          refine lv_aload_n hx hb dX0_nextRow_23 rfl (lv_at hl 1 rfl) ?_
          refine z_get C G clX0 0 rfl 4 (by decide) m_fl_RX0_18 rfl dX0_nextRow_24 ?_
          refine lv_iload_n hx hb dX0_nextRow_27 rfl (lv_at hl 0 rfl) ?_
          refine z_ild C G 1 rfl (vp_in_nI (n := 2) (by decide) (by decide)) dX0_nextRow_28 ?_
          refine lv_topi (fun v_29 ev_29 => ?_)
          rw [show ((2 : Int32).toNatClampNeg) = 2 from rfl] at ev_29
          subst ev_29
          refine lv_icmp_ge (tgt := 33) hx hb dX0_nextRow_29 (by decide) (fun c_30 => ?_) (fun c_30 => ?_)
          · have c_30n : (f1 2).toInt ≤ ((f3 2) + 1).toInt := (fa_le _ _).mp c_30
            refine lv_aload_n hx hb dX0_nextRow_33 rfl (lv_at hl 1 rfl) ?_
            refine z_get C G clX0 0 rfl 6 (by decide) m_fl_RX0_25 rfl dX0_nextRow_34 ?_
            refine lv_iload_n hx hb dX0_nextRow_37 rfl (lv_at hl 0 rfl) ?_
            refine lv_iconst (v := 0) hx hb dX0_nextRow_38 (by decide) ?_
            refine z_ist C G 3 rfl (vp_in_nI (n := 2) (by decide) (by decide)) dX0_nextRow_39 (fun H locs G => ?_)
            have G : zS T A s.heap s [[zO0 h md wy la pc_ a1_1 a2_2 a3_3 a4_4 a5_5 a6_6], [zAr T 0 a1_1 7 f1], [zAr T 0 a2_2 7 f2], [zAr T 0 a3_3 7 (upd (upd (upd (upd (upd (upd (upd (upd (upd (upd f3 6 ((f3 6) + 1)) 6 0) 5 ((f3 5) + 1)) 5 0) 4 ((f3 4) + 1)) 4 0) 3 ((f3 3) + 1)) 3 0) 2 ((f3 2) + 1)) 2 0)], [zAr T 0 a4_4 n4 f4], [zAr T 0 a5_5 n4 f5], [zAr T 0 a6_6 n4 f6]] _ _ := G
            refine lv_iinc (v := 1) (lv' := [(1, .int 1), (0, .ref h)]) hx hb dX0_nextRow_40 hl (k := 0) rfl (by decide) (by decide) (zLvf_h rfl) (fun ls hl => ?_)
            refine lv_goto (tgt := 3) hx hb dX0_nextRow_43 (by decide) ?_
            refine lv_iload_n hx hb dX0_nextRow_3 rfl (lv_at hl 0 rfl) ?_
            refine lv_if_lt (tgt := 46) hx hb dX0_nextRow_4 (by decide) (fun q => absurd q (by decide)) (fun _ => ?_)
            refine lv_aload_n hx hb dX0_nextRow_7 rfl (lv_at hl 1 rfl) ?_
            refine z_get C G clX0 0 rfl 6 (by decide) m_fl_RX0_25 rfl dX0_nextRow_8 ?_
            refine lv_iload_n hx hb dX0_nextRow_11 rfl (lv_at hl 0 rfl) ?_
            refine lv_dup2_11 hx hb dX0_nextRow_12 rfl rfl ?_
            refine z_ild C G 3 rfl (vp_in_nI (n := 1) (by decide) (by decide)) dX0_nextRow_13 ?_
            refine lv_topi (fun v_31 ev_31 => ?_)
            rw [show ((1 : Int32).toNatClampNeg) = 1 from rfl] at ev_31
            subst ev_31
            refine lv_topi (fun y_32 ey_32 => ?_)
            obtain rfl : y_32 = f3 1 := ey_32.trans (rfl)
            refine lv_iconst (v := 1) hx hb dX0_nextRow_14 (by decide) ?_
            refine lv_iadd hx hb dX0_nextRow_15 ?_
            refine z_ist C G 3 rfl (vp_in_nI (n := 1) (by decide) (by decide)) dX0_nextRow_16 (fun H locs G => ?_)
            have G : zS T A s.heap s [[zO0 h md wy la pc_ a1_1 a2_2 a3_3 a4_4 a5_5 a6_6], [zAr T 0 a1_1 7 f1], [zAr T 0 a2_2 7 f2], [zAr T 0 a3_3 7 (upd (upd (upd (upd (upd (upd (upd (upd (upd (upd (upd f3 6 ((f3 6) + 1)) 6 0) 5 ((f3 5) + 1)) 5 0) 4 ((f3 4) + 1)) 4 0) 3 ((f3 3) + 1)) 3 0) 2 ((f3 2) + 1)) 2 0) 1 ((f3 1) + 1))], [zAr T 0 a4_4 n4 f4], [zAr T 0 a5_5 n4 f5], [zAr T 0 a6_6 n4 f6]] _ _ := G
            refine lv_aload_n hx hb dX0_nextRow_17 rfl (lv_at hl 1 rfl) ?_
            refine z_get C G clX0 0 rfl 6 (by decide) m_fl_RX0_25 rfl dX0_nextRow_18 ?_
            refine lv_iload_n hx hb dX0_nextRow_21 rfl (lv_at hl 0 rfl) ?_
            refine z_ild C G 3 rfl (vp_in_nI (n := 1) (by decide) (by decide)) dX0_nextRow_22 ?_
            refine lv_topi (fun v_33 ev_33 => ?_)
            have ev_33 : v_33 = (f3 1) + 1 := ev_33
            subst ev_33
            refine lv_aload_n hx hb dX0_nextRow_23 rfl (lv_at hl 1 rfl) ?_
            refine z_get C G clX0 0 rfl 4 (by decide) m_fl_RX0_18 rfl dX0_nextRow_24 ?_
            refine lv_iload_n hx hb dX0_nextRow_27 rfl (lv_at hl 0 rfl) ?_
            refine z_ild C G 1 rfl (vp_in_nI (n := 1) (by decide) (by decide)) dX0_nextRow_28 ?_
            refine lv_topi (fun v_34 ev_34 => ?_)
            rw [show ((1 : Int32).toNatClampNeg) = 1 from rfl] at ev_34
            subst ev_34
            refine lv_icmp_ge (tgt := 33) hx hb dX0_nextRow_29 (by decide) (fun c_35 => ?_) (fun c_35 => ?_)
            · have c_35n : (f1 1).toInt ≤ ((f3 1) + 1).toInt := (fa_le _ _).mp c_35
              refine lv_aload_n hx hb dX0_nextRow_33 rfl (lv_at hl 1 rfl) ?_
              refine z_get C G clX0 0 rfl 6 (by decide) m_fl_RX0_25 rfl dX0_nextRow_34 ?_
              refine lv_iload_n hx hb dX0_nextRow_37 rfl (lv_at hl 0 rfl) ?_
              refine lv_iconst (v := 0) hx hb dX0_nextRow_38 (by decide) ?_
              refine z_ist C G 3 rfl (vp_in_nI (n := 1) (by decide) (by decide)) dX0_nextRow_39 (fun H locs G => ?_)
              have G : zS T A s.heap s [[zO0 h md wy la pc_ a1_1 a2_2 a3_3 a4_4 a5_5 a6_6], [zAr T 0 a1_1 7 f1], [zAr T 0 a2_2 7 f2], [zAr T 0 a3_3 7 (upd (upd (upd (upd (upd (upd (upd (upd (upd (upd (upd (upd f3 6 ((f3 6) + 1)) 6 0) 5 ((f3 5) + 1)) 5 0) 4 ((f3 4) + 1)) 4 0) 3 ((f3 3) + 1)) 3 0) 2 ((f3 2) + 1)) 2 0) 1 ((f3 1) + 1)) 1 0)], [zAr T 0 a4_4 n4 f4], [zAr T 0 a5_5 n4 f5], [zAr T 0 a6_6 n4 f6]] _ _ := G
              refine lv_iinc (v := 0) (lv' := [(1, .int 0), (0, .ref h)]) hx hb dX0_nextRow_40 hl (k := 0) rfl (by decide) (by decide) (zLvf_h rfl) (fun ls hl => ?_)
              refine lv_goto (tgt := 3) hx hb dX0_nextRow_43 (by decide) ?_
              refine lv_iload_n hx hb dX0_nextRow_3 rfl (lv_at hl 0 rfl) ?_
              refine lv_if_lt (tgt := 46) hx hb dX0_nextRow_4 (by decide) (fun q => absurd q (by decide)) (fun _ => ?_)
              refine lv_aload_n hx hb dX0_nextRow_7 rfl (lv_at hl 1 rfl) ?_
              refine z_get C G clX0 0 rfl 6 (by decide) m_fl_RX0_25 rfl dX0_nextRow_8 ?_
              refine lv_iload_n hx hb dX0_nextRow_11 rfl (lv_at hl 0 rfl) ?_
              refine lv_dup2_11 hx hb dX0_nextRow_12 rfl rfl ?_
              refine z_ild C G 3 rfl (vp_in_nI (n := 0) (by decide) (by decide)) dX0_nextRow_13 ?_
              refine lv_topi (fun v_36 ev_36 => ?_)
              rw [show ((0 : Int32).toNatClampNeg) = 0 from rfl] at ev_36
              subst ev_36
              refine lv_topi (fun y_37 ey_37 => ?_)
              obtain rfl : y_37 = f3 0 := ey_37.trans (rfl)
              refine lv_iconst (v := 1) hx hb dX0_nextRow_14 (by decide) ?_
              refine lv_iadd hx hb dX0_nextRow_15 ?_
              refine z_ist C G 3 rfl (vp_in_nI (n := 0) (by decide) (by decide)) dX0_nextRow_16 (fun H locs G => ?_)
              have G : zS T A s.heap s [[zO0 h md wy la pc_ a1_1 a2_2 a3_3 a4_4 a5_5 a6_6], [zAr T 0 a1_1 7 f1], [zAr T 0 a2_2 7 f2], [zAr T 0 a3_3 7 (upd (upd (upd (upd (upd (upd (upd (upd (upd (upd (upd (upd (upd f3 6 ((f3 6) + 1)) 6 0) 5 ((f3 5) + 1)) 5 0) 4 ((f3 4) + 1)) 4 0) 3 ((f3 3) + 1)) 3 0) 2 ((f3 2) + 1)) 2 0) 1 ((f3 1) + 1)) 1 0) 0 ((f3 0) + 1))], [zAr T 0 a4_4 n4 f4], [zAr T 0 a5_5 n4 f5], [zAr T 0 a6_6 n4 f6]] _ _ := G
              refine lv_aload_n hx hb dX0_nextRow_17 rfl (lv_at hl 1 rfl) ?_
              refine z_get C G clX0 0 rfl 6 (by decide) m_fl_RX0_25 rfl dX0_nextRow_18 ?_
              refine lv_iload_n hx hb dX0_nextRow_21 rfl (lv_at hl 0 rfl) ?_
              refine z_ild C G 3 rfl (vp_in_nI (n := 0) (by decide) (by decide)) dX0_nextRow_22 ?_
              refine lv_topi (fun v_38 ev_38 => ?_)
              have ev_38 : v_38 = (f3 0) + 1 := ev_38
              subst ev_38
              refine lv_aload_n hx hb dX0_nextRow_23 rfl (lv_at hl 1 rfl) ?_
              refine z_get C G clX0 0 rfl 4 (by decide) m_fl_RX0_18 rfl dX0_nextRow_24 ?_
              refine lv_iload_n hx hb dX0_nextRow_27 rfl (lv_at hl 0 rfl) ?_
              refine z_ild C G 1 rfl (vp_in_nI (n := 0) (by decide) (by decide)) dX0_nextRow_28 ?_
              refine lv_topi (fun v_39 ev_39 => ?_)
              rw [show ((0 : Int32).toNatClampNeg) = 0 from rfl] at ev_39
              subst ev_39
              refine lv_icmp_ge (tgt := 33) hx hb dX0_nextRow_29 (by decide) (fun c_40 => ?_) (fun c_40 => ?_)
              · have c_40n : (f1 0).toInt ≤ ((f3 0) + 1).toInt := (fa_le _ _).mp c_40
                refine lv_aload_n hx hb dX0_nextRow_33 rfl (lv_at hl 1 rfl) ?_
                refine z_get C G clX0 0 rfl 6 (by decide) m_fl_RX0_25 rfl dX0_nextRow_34 ?_
                refine lv_iload_n hx hb dX0_nextRow_37 rfl (lv_at hl 0 rfl) ?_
                refine lv_iconst (v := 0) hx hb dX0_nextRow_38 (by decide) ?_
                refine z_ist C G 3 rfl (vp_in_nI (n := 0) (by decide) (by decide)) dX0_nextRow_39 (fun H locs G => ?_)
                have G : zS T A s.heap s [[zO0 h md wy la pc_ a1_1 a2_2 a3_3 a4_4 a5_5 a6_6], [zAr T 0 a1_1 7 f1], [zAr T 0 a2_2 7 f2], [zAr T 0 a3_3 7 (upd (upd (upd (upd (upd (upd (upd (upd (upd (upd (upd (upd (upd (upd f3 6 ((f3 6) + 1)) 6 0) 5 ((f3 5) + 1)) 5 0) 4 ((f3 4) + 1)) 4 0) 3 ((f3 3) + 1)) 3 0) 2 ((f3 2) + 1)) 2 0) 1 ((f3 1) + 1)) 1 0) 0 ((f3 0) + 1)) 0 0)], [zAr T 0 a4_4 n4 f4], [zAr T 0 a5_5 n4 f5], [zAr T 0 a6_6 n4 f6]] _ _ := G
                refine lv_iinc (v := (-1)) (lv' := [(1, .int (-1)), (0, .ref h)]) hx hb dX0_nextRow_40 hl (k := 0) rfl (by decide) (by decide) (zLvf_h rfl) (fun ls hl => ?_)
                refine lv_goto (tgt := 3) hx hb dX0_nextRow_43 (by decide) ?_
                refine lv_iload_n hx hb dX0_nextRow_3 rfl (lv_at hl 0 rfl) ?_
                refine lv_if_lt (tgt := 46) hx hb dX0_nextRow_4 (by decide) (fun _ => ?_) (fun q => absurd (by decide) q)
                have hw_41 : bWays T h la md wy pc_ f1 f2 (upd (upd (upd (upd (upd (upd (upd (upd (upd (upd (upd (upd (upd (upd f3 6 ((f3 6) + 1)) 6 0) 5 ((f3 5) + 1)) 5 0) 4 ((f3 4) + 1)) 4 0) 3 ((f3 3) + 1)) 3 0) 2 ((f3 2) + 1)) 2 0) 1 ((f3 1) + 1)) 1 0) 0 ((f3 0) + 1)) 0 0) f4 f5 f6 n4 [zO0 h md wy la pc_ a1_1 a2_2 a3_3 a4_4 a5_5 a6_6, zAr T 0 a1_1 7 f1, zAr T 0 a2_2 7 f2, zAr T 0 a3_3 7 (upd (upd (upd (upd (upd (upd (upd (upd (upd (upd (upd (upd (upd (upd f3 6 ((f3 6) + 1)) 6 0) 5 ((f3 5) + 1)) 5 0) 4 ((f3 4) + 1)) 4 0) 3 ((f3 3) + 1)) 3 0) 2 ((f3 2) + 1)) 2 0) 1 ((f3 1) + 1)) 1 0) 0 ((f3 0) + 1)) 0 0), zAr T 0 a4_4 n4 f4, zAr T 0 a5_5 n4 f5, zAr T 0 a6_6 n4 f6] := ⟨a1_1, a2_2, a3_3, a4_4, a5_5, a6_6, rfl⟩
                have G : zS T A s.heap s [[zO0 h md wy la pc_ a1_1 a2_2 a3_3 a4_4 a5_5 a6_6, zAr T 0 a1_1 7 f1, zAr T 0 a2_2 7 f2, zAr T 0 a3_3 7 (upd (upd (upd (upd (upd (upd (upd (upd (upd (upd (upd (upd (upd (upd f3 6 ((f3 6) + 1)) 6 0) 5 ((f3 5) + 1)) 5 0) 4 ((f3 4) + 1)) 4 0) 3 ((f3 3) + 1)) 3 0) 2 ((f3 2) + 1)) 2 0) 1 ((f3 1) + 1)) 1 0) 0 ((f3 0) + 1)) 0 0), zAr T 0 a4_4 n4 f4, zAr T 0 a5_5 n4 f5, zAr T 0 a6_6 n4 f6]] _ _ := G.re rfl
                exact z_back hQz_ (z_vret C hr hlocks G (Nat.le_of_ble_eq_true rfl) (Nat.le_of_ble_eq_true rfl) dX0_nextRow_46 ⟨([zO0 h md wy la pc_ a1_1 a2_2 a3_3 a4_4 a5_5 a6_6, zAr T 0 a1_1 7 f1, zAr T 0 a2_2 7 f2, zAr T 0 a3_3 7 (upd (upd (upd (upd (upd (upd (upd (upd (upd (upd (upd (upd (upd (upd f3 6 ((f3 6) + 1)) 6 0) 5 ((f3 5) + 1)) 5 0) 4 ((f3 4) + 1)) 4 0) 3 ((f3 3) + 1)) 3 0) 2 ((f3 2) + 1)) 2 0) 1 ((f3 1) + 1)) 1 0) 0 ((f3 0) + 1)) 0 0), zAr T 0 a4_4 n4 f4, zAr T 0 a5_5 n4 f5, zAr T 0 a6_6 n4 f6]), (upd (upd (upd (upd (upd (upd (upd (upd (upd (upd (upd (upd (upd (upd f3 6 ((f3 6) + 1)) 6 0) 5 ((f3 5) + 1)) 5 0) 4 ((f3 4) + 1)) 4 0) 3 ((f3 3) + 1)) 3 0) 2 ((f3 2) + 1)) 2 0) 1 ((f3 1) + 1)) 1 0) 0 ((f3 0) + 1)) 0 0), rfl, hw_41, (fun hw9 => by exfalso; have q9 := aIncA (W := W_) (w := w_) hw_ (fun j h2 => by rcases (show j = 0 ∨ j = 1 ∨ j = 2 ∨ j = 3 ∨ j = 4 ∨ j = 5 ∨ j = 6 from by omega) with q | q | q | q | q | q | q <;> subst q <;> omega); omega)⟩)
              · have c_40n : ¬ (f1 0).toInt ≤ ((f3 0) + 1).toInt := fun q => c_40 ((fa_le _ _).mpr q)
                have hw_42 : bWays T h la md wy pc_ f1 f2 (upd (upd (upd (upd (upd (upd (upd (upd (upd (upd (upd (upd (upd f3 6 ((f3 6) + 1)) 6 0) 5 ((f3 5) + 1)) 5 0) 4 ((f3 4) + 1)) 4 0) 3 ((f3 3) + 1)) 3 0) 2 ((f3 2) + 1)) 2 0) 1 ((f3 1) + 1)) 1 0) 0 ((f3 0) + 1)) f4 f5 f6 n4 [zO0 h md wy la pc_ a1_1 a2_2 a3_3 a4_4 a5_5 a6_6, zAr T 0 a1_1 7 f1, zAr T 0 a2_2 7 f2, zAr T 0 a3_3 7 (upd (upd (upd (upd (upd (upd (upd (upd (upd (upd (upd (upd (upd f3 6 ((f3 6) + 1)) 6 0) 5 ((f3 5) + 1)) 5 0) 4 ((f3 4) + 1)) 4 0) 3 ((f3 3) + 1)) 3 0) 2 ((f3 2) + 1)) 2 0) 1 ((f3 1) + 1)) 1 0) 0 ((f3 0) + 1)), zAr T 0 a4_4 n4 f4, zAr T 0 a5_5 n4 f5, zAr T 0 a6_6 n4 f6] := ⟨a1_1, a2_2, a3_3, a4_4, a5_5, a6_6, rfl⟩
                have G : zS T A s.heap s [[zO0 h md wy la pc_ a1_1 a2_2 a3_3 a4_4 a5_5 a6_6, zAr T 0 a1_1 7 f1, zAr T 0 a2_2 7 f2, zAr T 0 a3_3 7 (upd (upd (upd (upd (upd (upd (upd (upd (upd (upd (upd (upd (upd f3 6 ((f3 6) + 1)) 6 0) 5 ((f3 5) + 1)) 5 0) 4 ((f3 4) + 1)) 4 0) 3 ((f3 3) + 1)) 3 0) 2 ((f3 2) + 1)) 2 0) 1 ((f3 1) + 1)) 1 0) 0 ((f3 0) + 1)), zAr T 0 a4_4 n4 f4, zAr T 0 a5_5 n4 f5, zAr T 0 a6_6 n4 f6]] _ _ := G.re rfl
                exact z_back hQz_ (z_vret C hr hlocks G (Nat.le_of_ble_eq_true rfl) (Nat.le_of_ble_eq_true rfl) dX0_nextRow_32 ⟨([zO0 h md wy la pc_ a1_1 a2_2 a3_3 a4_4 a5_5 a6_6, zAr T 0 a1_1 7 f1, zAr T 0 a2_2 7 f2, zAr T 0 a3_3 7 (upd (upd (upd (upd (upd (upd (upd (upd (upd (upd (upd (upd (upd f3 6 ((f3 6) + 1)) 6 0) 5 ((f3 5) + 1)) 5 0) 4 ((f3 4) + 1)) 4 0) 3 ((f3 3) + 1)) 3 0) 2 ((f3 2) + 1)) 2 0) 1 ((f3 1) + 1)) 1 0) 0 ((f3 0) + 1)), zAr T 0 a4_4 n4 f4, zAr T 0 a5_5 n4 f5, zAr T 0 a6_6 n4 f6]), (upd (upd (upd (upd (upd (upd (upd (upd (upd (upd (upd (upd (upd f3 6 ((f3 6) + 1)) 6 0) 5 ((f3 5) + 1)) 5 0) 4 ((f3 4) + 1)) 4 0) 3 ((f3 3) + 1)) 3 0) 2 ((f3 2) + 1)) 2 0) 1 ((f3 1) + 1)) 1 0) 0 ((f3 0) + 1)), rfl, hw_42, (fun _ c hc => (by
                                                                have hI9 := aInc (W := W_) (w := w_) (k := 0) (by decide) (fun j h1 h2 => by rcases (show j = 1 ∨ j = 2 ∨ j = 3 ∨ j = 4 ∨ j = 5 ∨ j = 6 from by omega) with q | q | q | q | q | q <;> subst q <;> omega) (by omega)
                                                                rcases (show c = 0 ∨ c = 1 ∨ c = 2 ∨ c = 3 ∨ c = 4 ∨ c = 5 ∨ c = 6 by omega) with q | q | q | q | q | q | q <;> subst q
                                                                · show f3 0 + 1 = nI (aRd W_ (w_ + 1) 0); rw [hI9.2.1, hr_ 0 (by decide)]; exact nI_add _ 1
                                                                · show (0 : Int32) = nI (aRd W_ (w_ + 1) 1); rw [hI9.2.2 1 (by decide) (by decide)]; rfl
                                                                · show (0 : Int32) = nI (aRd W_ (w_ + 1) 2); rw [hI9.2.2 2 (by decide) (by decide)]; rfl
                                                                · show (0 : Int32) = nI (aRd W_ (w_ + 1) 3); rw [hI9.2.2 3 (by decide) (by decide)]; rfl
                                                                · show (0 : Int32) = nI (aRd W_ (w_ + 1) 4); rw [hI9.2.2 4 (by decide) (by decide)]; rfl
                                                                · show (0 : Int32) = nI (aRd W_ (w_ + 1) 5); rw [hI9.2.2 5 (by decide) (by decide)]; rfl
                                                                · show (0 : Int32) = nI (aRd W_ (w_ + 1) 6); rw [hI9.2.2 6 (by decide) (by decide)]; rfl))⟩)
            · have c_35n : ¬ (f1 1).toInt ≤ ((f3 1) + 1).toInt := fun q => c_35 ((fa_le _ _).mpr q)
              have hw_43 : bWays T h la md wy pc_ f1 f2 (upd (upd (upd (upd (upd (upd (upd (upd (upd (upd (upd f3 6 ((f3 6) + 1)) 6 0) 5 ((f3 5) + 1)) 5 0) 4 ((f3 4) + 1)) 4 0) 3 ((f3 3) + 1)) 3 0) 2 ((f3 2) + 1)) 2 0) 1 ((f3 1) + 1)) f4 f5 f6 n4 [zO0 h md wy la pc_ a1_1 a2_2 a3_3 a4_4 a5_5 a6_6, zAr T 0 a1_1 7 f1, zAr T 0 a2_2 7 f2, zAr T 0 a3_3 7 (upd (upd (upd (upd (upd (upd (upd (upd (upd (upd (upd f3 6 ((f3 6) + 1)) 6 0) 5 ((f3 5) + 1)) 5 0) 4 ((f3 4) + 1)) 4 0) 3 ((f3 3) + 1)) 3 0) 2 ((f3 2) + 1)) 2 0) 1 ((f3 1) + 1)), zAr T 0 a4_4 n4 f4, zAr T 0 a5_5 n4 f5, zAr T 0 a6_6 n4 f6] := ⟨a1_1, a2_2, a3_3, a4_4, a5_5, a6_6, rfl⟩
              have G : zS T A s.heap s [[zO0 h md wy la pc_ a1_1 a2_2 a3_3 a4_4 a5_5 a6_6, zAr T 0 a1_1 7 f1, zAr T 0 a2_2 7 f2, zAr T 0 a3_3 7 (upd (upd (upd (upd (upd (upd (upd (upd (upd (upd (upd f3 6 ((f3 6) + 1)) 6 0) 5 ((f3 5) + 1)) 5 0) 4 ((f3 4) + 1)) 4 0) 3 ((f3 3) + 1)) 3 0) 2 ((f3 2) + 1)) 2 0) 1 ((f3 1) + 1)), zAr T 0 a4_4 n4 f4, zAr T 0 a5_5 n4 f5, zAr T 0 a6_6 n4 f6]] _ _ := G.re rfl
              exact z_back hQz_ (z_vret C hr hlocks G (Nat.le_of_ble_eq_true rfl) (Nat.le_of_ble_eq_true rfl) dX0_nextRow_32 ⟨([zO0 h md wy la pc_ a1_1 a2_2 a3_3 a4_4 a5_5 a6_6, zAr T 0 a1_1 7 f1, zAr T 0 a2_2 7 f2, zAr T 0 a3_3 7 (upd (upd (upd (upd (upd (upd (upd (upd (upd (upd (upd f3 6 ((f3 6) + 1)) 6 0) 5 ((f3 5) + 1)) 5 0) 4 ((f3 4) + 1)) 4 0) 3 ((f3 3) + 1)) 3 0) 2 ((f3 2) + 1)) 2 0) 1 ((f3 1) + 1)), zAr T 0 a4_4 n4 f4, zAr T 0 a5_5 n4 f5, zAr T 0 a6_6 n4 f6]), (upd (upd (upd (upd (upd (upd (upd (upd (upd (upd (upd f3 6 ((f3 6) + 1)) 6 0) 5 ((f3 5) + 1)) 5 0) 4 ((f3 4) + 1)) 4 0) 3 ((f3 3) + 1)) 3 0) 2 ((f3 2) + 1)) 2 0) 1 ((f3 1) + 1)), rfl, hw_43, (fun _ c hc => (by
                                                                have hI9 := aInc (W := W_) (w := w_) (k := 1) (by decide) (fun j h1 h2 => by rcases (show j = 2 ∨ j = 3 ∨ j = 4 ∨ j = 5 ∨ j = 6 from by omega) with q | q | q | q | q <;> subst q <;> omega) (by omega)
                                                                rcases (show c = 0 ∨ c = 1 ∨ c = 2 ∨ c = 3 ∨ c = 4 ∨ c = 5 ∨ c = 6 by omega) with q | q | q | q | q | q | q <;> subst q
                                                                · exact (hr_ 0 (by decide)).trans (congrArg nI (hI9.1 0 (by decide)).symm)
                                                                · show f3 1 + 1 = nI (aRd W_ (w_ + 1) 1); rw [hI9.2.1, hr_ 1 (by decide)]; exact nI_add _ 1
                                                                · show (0 : Int32) = nI (aRd W_ (w_ + 1) 2); rw [hI9.2.2 2 (by decide) (by decide)]; rfl
                                                                · show (0 : Int32) = nI (aRd W_ (w_ + 1) 3); rw [hI9.2.2 3 (by decide) (by decide)]; rfl
                                                                · show (0 : Int32) = nI (aRd W_ (w_ + 1) 4); rw [hI9.2.2 4 (by decide) (by decide)]; rfl
                                                                · show (0 : Int32) = nI (aRd W_ (w_ + 1) 5); rw [hI9.2.2 5 (by decide) (by decide)]; rfl
                                                                · show (0 : Int32) = nI (aRd W_ (w_ + 1) 6); rw [hI9.2.2 6 (by decide) (by decide)]; rfl))⟩)
          · have c_30n : ¬ (f1 2).toInt ≤ ((f3 2) + 1).toInt := fun q => c_30 ((fa_le _ _).mpr q)
            have hw_44 : bWays T h la md wy pc_ f1 f2 (upd (upd (upd (upd (upd (upd (upd (upd (upd f3 6 ((f3 6) + 1)) 6 0) 5 ((f3 5) + 1)) 5 0) 4 ((f3 4) + 1)) 4 0) 3 ((f3 3) + 1)) 3 0) 2 ((f3 2) + 1)) f4 f5 f6 n4 [zO0 h md wy la pc_ a1_1 a2_2 a3_3 a4_4 a5_5 a6_6, zAr T 0 a1_1 7 f1, zAr T 0 a2_2 7 f2, zAr T 0 a3_3 7 (upd (upd (upd (upd (upd (upd (upd (upd (upd f3 6 ((f3 6) + 1)) 6 0) 5 ((f3 5) + 1)) 5 0) 4 ((f3 4) + 1)) 4 0) 3 ((f3 3) + 1)) 3 0) 2 ((f3 2) + 1)), zAr T 0 a4_4 n4 f4, zAr T 0 a5_5 n4 f5, zAr T 0 a6_6 n4 f6] := ⟨a1_1, a2_2, a3_3, a4_4, a5_5, a6_6, rfl⟩
            have G : zS T A s.heap s [[zO0 h md wy la pc_ a1_1 a2_2 a3_3 a4_4 a5_5 a6_6, zAr T 0 a1_1 7 f1, zAr T 0 a2_2 7 f2, zAr T 0 a3_3 7 (upd (upd (upd (upd (upd (upd (upd (upd (upd f3 6 ((f3 6) + 1)) 6 0) 5 ((f3 5) + 1)) 5 0) 4 ((f3 4) + 1)) 4 0) 3 ((f3 3) + 1)) 3 0) 2 ((f3 2) + 1)), zAr T 0 a4_4 n4 f4, zAr T 0 a5_5 n4 f5, zAr T 0 a6_6 n4 f6]] _ _ := G.re rfl
            exact z_back hQz_ (z_vret C hr hlocks G (Nat.le_of_ble_eq_true rfl) (Nat.le_of_ble_eq_true rfl) dX0_nextRow_32 ⟨([zO0 h md wy la pc_ a1_1 a2_2 a3_3 a4_4 a5_5 a6_6, zAr T 0 a1_1 7 f1, zAr T 0 a2_2 7 f2, zAr T 0 a3_3 7 (upd (upd (upd (upd (upd (upd (upd (upd (upd f3 6 ((f3 6) + 1)) 6 0) 5 ((f3 5) + 1)) 5 0) 4 ((f3 4) + 1)) 4 0) 3 ((f3 3) + 1)) 3 0) 2 ((f3 2) + 1)), zAr T 0 a4_4 n4 f4, zAr T 0 a5_5 n4 f5, zAr T 0 a6_6 n4 f6]), (upd (upd (upd (upd (upd (upd (upd (upd (upd f3 6 ((f3 6) + 1)) 6 0) 5 ((f3 5) + 1)) 5 0) 4 ((f3 4) + 1)) 4 0) 3 ((f3 3) + 1)) 3 0) 2 ((f3 2) + 1)), rfl, hw_44, (fun _ c hc => (by
                                                                have hI9 := aInc (W := W_) (w := w_) (k := 2) (by decide) (fun j h1 h2 => by rcases (show j = 3 ∨ j = 4 ∨ j = 5 ∨ j = 6 from by omega) with q | q | q | q <;> subst q <;> omega) (by omega)
                                                                rcases (show c = 0 ∨ c = 1 ∨ c = 2 ∨ c = 3 ∨ c = 4 ∨ c = 5 ∨ c = 6 by omega) with q | q | q | q | q | q | q <;> subst q
                                                                · exact (hr_ 0 (by decide)).trans (congrArg nI (hI9.1 0 (by decide)).symm)
                                                                · exact (hr_ 1 (by decide)).trans (congrArg nI (hI9.1 1 (by decide)).symm)
                                                                · show f3 2 + 1 = nI (aRd W_ (w_ + 1) 2); rw [hI9.2.1, hr_ 2 (by decide)]; exact nI_add _ 1
                                                                · show (0 : Int32) = nI (aRd W_ (w_ + 1) 3); rw [hI9.2.2 3 (by decide) (by decide)]; rfl
                                                                · show (0 : Int32) = nI (aRd W_ (w_ + 1) 4); rw [hI9.2.2 4 (by decide) (by decide)]; rfl
                                                                · show (0 : Int32) = nI (aRd W_ (w_ + 1) 5); rw [hI9.2.2 5 (by decide) (by decide)]; rfl
                                                                · show (0 : Int32) = nI (aRd W_ (w_ + 1) 6); rw [hI9.2.2 6 (by decide) (by decide)]; rfl))⟩)
        · have c_25n : ¬ (f1 3).toInt ≤ ((f3 3) + 1).toInt := fun q => c_25 ((fa_le _ _).mpr q)
          have hw_45 : bWays T h la md wy pc_ f1 f2 (upd (upd (upd (upd (upd (upd (upd f3 6 ((f3 6) + 1)) 6 0) 5 ((f3 5) + 1)) 5 0) 4 ((f3 4) + 1)) 4 0) 3 ((f3 3) + 1)) f4 f5 f6 n4 [zO0 h md wy la pc_ a1_1 a2_2 a3_3 a4_4 a5_5 a6_6, zAr T 0 a1_1 7 f1, zAr T 0 a2_2 7 f2, zAr T 0 a3_3 7 (upd (upd (upd (upd (upd (upd (upd f3 6 ((f3 6) + 1)) 6 0) 5 ((f3 5) + 1)) 5 0) 4 ((f3 4) + 1)) 4 0) 3 ((f3 3) + 1)), zAr T 0 a4_4 n4 f4, zAr T 0 a5_5 n4 f5, zAr T 0 a6_6 n4 f6] := ⟨a1_1, a2_2, a3_3, a4_4, a5_5, a6_6, rfl⟩
          have G : zS T A s.heap s [[zO0 h md wy la pc_ a1_1 a2_2 a3_3 a4_4 a5_5 a6_6, zAr T 0 a1_1 7 f1, zAr T 0 a2_2 7 f2, zAr T 0 a3_3 7 (upd (upd (upd (upd (upd (upd (upd f3 6 ((f3 6) + 1)) 6 0) 5 ((f3 5) + 1)) 5 0) 4 ((f3 4) + 1)) 4 0) 3 ((f3 3) + 1)), zAr T 0 a4_4 n4 f4, zAr T 0 a5_5 n4 f5, zAr T 0 a6_6 n4 f6]] _ _ := G.re rfl
          exact z_back hQz_ (z_vret C hr hlocks G (Nat.le_of_ble_eq_true rfl) (Nat.le_of_ble_eq_true rfl) dX0_nextRow_32 ⟨([zO0 h md wy la pc_ a1_1 a2_2 a3_3 a4_4 a5_5 a6_6, zAr T 0 a1_1 7 f1, zAr T 0 a2_2 7 f2, zAr T 0 a3_3 7 (upd (upd (upd (upd (upd (upd (upd f3 6 ((f3 6) + 1)) 6 0) 5 ((f3 5) + 1)) 5 0) 4 ((f3 4) + 1)) 4 0) 3 ((f3 3) + 1)), zAr T 0 a4_4 n4 f4, zAr T 0 a5_5 n4 f5, zAr T 0 a6_6 n4 f6]), (upd (upd (upd (upd (upd (upd (upd f3 6 ((f3 6) + 1)) 6 0) 5 ((f3 5) + 1)) 5 0) 4 ((f3 4) + 1)) 4 0) 3 ((f3 3) + 1)), rfl, hw_45, (fun _ c hc => (by
                                                                have hI9 := aInc (W := W_) (w := w_) (k := 3) (by decide) (fun j h1 h2 => by rcases (show j = 4 ∨ j = 5 ∨ j = 6 from by omega) with q | q | q <;> subst q <;> omega) (by omega)
                                                                rcases (show c = 0 ∨ c = 1 ∨ c = 2 ∨ c = 3 ∨ c = 4 ∨ c = 5 ∨ c = 6 by omega) with q | q | q | q | q | q | q <;> subst q
                                                                · exact (hr_ 0 (by decide)).trans (congrArg nI (hI9.1 0 (by decide)).symm)
                                                                · exact (hr_ 1 (by decide)).trans (congrArg nI (hI9.1 1 (by decide)).symm)
                                                                · exact (hr_ 2 (by decide)).trans (congrArg nI (hI9.1 2 (by decide)).symm)
                                                                · show f3 3 + 1 = nI (aRd W_ (w_ + 1) 3); rw [hI9.2.1, hr_ 3 (by decide)]; exact nI_add _ 1
                                                                · show (0 : Int32) = nI (aRd W_ (w_ + 1) 4); rw [hI9.2.2 4 (by decide) (by decide)]; rfl
                                                                · show (0 : Int32) = nI (aRd W_ (w_ + 1) 5); rw [hI9.2.2 5 (by decide) (by decide)]; rfl
                                                                · show (0 : Int32) = nI (aRd W_ (w_ + 1) 6); rw [hI9.2.2 6 (by decide) (by decide)]; rfl))⟩)
      · have c_20n : ¬ (f1 4).toInt ≤ ((f3 4) + 1).toInt := fun q => c_20 ((fa_le _ _).mpr q)
        have hw_46 : bWays T h la md wy pc_ f1 f2 (upd (upd (upd (upd (upd f3 6 ((f3 6) + 1)) 6 0) 5 ((f3 5) + 1)) 5 0) 4 ((f3 4) + 1)) f4 f5 f6 n4 [zO0 h md wy la pc_ a1_1 a2_2 a3_3 a4_4 a5_5 a6_6, zAr T 0 a1_1 7 f1, zAr T 0 a2_2 7 f2, zAr T 0 a3_3 7 (upd (upd (upd (upd (upd f3 6 ((f3 6) + 1)) 6 0) 5 ((f3 5) + 1)) 5 0) 4 ((f3 4) + 1)), zAr T 0 a4_4 n4 f4, zAr T 0 a5_5 n4 f5, zAr T 0 a6_6 n4 f6] := ⟨a1_1, a2_2, a3_3, a4_4, a5_5, a6_6, rfl⟩
        have G : zS T A s.heap s [[zO0 h md wy la pc_ a1_1 a2_2 a3_3 a4_4 a5_5 a6_6, zAr T 0 a1_1 7 f1, zAr T 0 a2_2 7 f2, zAr T 0 a3_3 7 (upd (upd (upd (upd (upd f3 6 ((f3 6) + 1)) 6 0) 5 ((f3 5) + 1)) 5 0) 4 ((f3 4) + 1)), zAr T 0 a4_4 n4 f4, zAr T 0 a5_5 n4 f5, zAr T 0 a6_6 n4 f6]] _ _ := G.re rfl
        exact z_back hQz_ (z_vret C hr hlocks G (Nat.le_of_ble_eq_true rfl) (Nat.le_of_ble_eq_true rfl) dX0_nextRow_32 ⟨([zO0 h md wy la pc_ a1_1 a2_2 a3_3 a4_4 a5_5 a6_6, zAr T 0 a1_1 7 f1, zAr T 0 a2_2 7 f2, zAr T 0 a3_3 7 (upd (upd (upd (upd (upd f3 6 ((f3 6) + 1)) 6 0) 5 ((f3 5) + 1)) 5 0) 4 ((f3 4) + 1)), zAr T 0 a4_4 n4 f4, zAr T 0 a5_5 n4 f5, zAr T 0 a6_6 n4 f6]), (upd (upd (upd (upd (upd f3 6 ((f3 6) + 1)) 6 0) 5 ((f3 5) + 1)) 5 0) 4 ((f3 4) + 1)), rfl, hw_46, (fun _ c hc => (by
                                                                have hI9 := aInc (W := W_) (w := w_) (k := 4) (by decide) (fun j h1 h2 => by rcases (show j = 5 ∨ j = 6 from by omega) with q | q <;> subst q <;> omega) (by omega)
                                                                rcases (show c = 0 ∨ c = 1 ∨ c = 2 ∨ c = 3 ∨ c = 4 ∨ c = 5 ∨ c = 6 by omega) with q | q | q | q | q | q | q <;> subst q
                                                                · exact (hr_ 0 (by decide)).trans (congrArg nI (hI9.1 0 (by decide)).symm)
                                                                · exact (hr_ 1 (by decide)).trans (congrArg nI (hI9.1 1 (by decide)).symm)
                                                                · exact (hr_ 2 (by decide)).trans (congrArg nI (hI9.1 2 (by decide)).symm)
                                                                · exact (hr_ 3 (by decide)).trans (congrArg nI (hI9.1 3 (by decide)).symm)
                                                                · show f3 4 + 1 = nI (aRd W_ (w_ + 1) 4); rw [hI9.2.1, hr_ 4 (by decide)]; exact nI_add _ 1
                                                                · show (0 : Int32) = nI (aRd W_ (w_ + 1) 5); rw [hI9.2.2 5 (by decide) (by decide)]; rfl
                                                                · show (0 : Int32) = nI (aRd W_ (w_ + 1) 6); rw [hI9.2.2 6 (by decide) (by decide)]; rfl))⟩)
    · have c_15n : ¬ (f1 5).toInt ≤ ((f3 5) + 1).toInt := fun q => c_15 ((fa_le _ _).mpr q)
      have hw_47 : bWays T h la md wy pc_ f1 f2 (upd (upd (upd f3 6 ((f3 6) + 1)) 6 0) 5 ((f3 5) + 1)) f4 f5 f6 n4 [zO0 h md wy la pc_ a1_1 a2_2 a3_3 a4_4 a5_5 a6_6, zAr T 0 a1_1 7 f1, zAr T 0 a2_2 7 f2, zAr T 0 a3_3 7 (upd (upd (upd f3 6 ((f3 6) + 1)) 6 0) 5 ((f3 5) + 1)), zAr T 0 a4_4 n4 f4, zAr T 0 a5_5 n4 f5, zAr T 0 a6_6 n4 f6] := ⟨a1_1, a2_2, a3_3, a4_4, a5_5, a6_6, rfl⟩
      have G : zS T A s.heap s [[zO0 h md wy la pc_ a1_1 a2_2 a3_3 a4_4 a5_5 a6_6, zAr T 0 a1_1 7 f1, zAr T 0 a2_2 7 f2, zAr T 0 a3_3 7 (upd (upd (upd f3 6 ((f3 6) + 1)) 6 0) 5 ((f3 5) + 1)), zAr T 0 a4_4 n4 f4, zAr T 0 a5_5 n4 f5, zAr T 0 a6_6 n4 f6]] _ _ := G.re rfl
      exact z_back hQz_ (z_vret C hr hlocks G (Nat.le_of_ble_eq_true rfl) (Nat.le_of_ble_eq_true rfl) dX0_nextRow_32 ⟨([zO0 h md wy la pc_ a1_1 a2_2 a3_3 a4_4 a5_5 a6_6, zAr T 0 a1_1 7 f1, zAr T 0 a2_2 7 f2, zAr T 0 a3_3 7 (upd (upd (upd f3 6 ((f3 6) + 1)) 6 0) 5 ((f3 5) + 1)), zAr T 0 a4_4 n4 f4, zAr T 0 a5_5 n4 f5, zAr T 0 a6_6 n4 f6]), (upd (upd (upd f3 6 ((f3 6) + 1)) 6 0) 5 ((f3 5) + 1)), rfl, hw_47, (fun _ c hc => (by
                                                                have hI9 := aInc (W := W_) (w := w_) (k := 5) (by decide) (fun j h1 h2 => by rcases (show j = 6 from by omega) with q <;> subst q <;> omega) (by omega)
                                                                rcases (show c = 0 ∨ c = 1 ∨ c = 2 ∨ c = 3 ∨ c = 4 ∨ c = 5 ∨ c = 6 by omega) with q | q | q | q | q | q | q <;> subst q
                                                                · exact (hr_ 0 (by decide)).trans (congrArg nI (hI9.1 0 (by decide)).symm)
                                                                · exact (hr_ 1 (by decide)).trans (congrArg nI (hI9.1 1 (by decide)).symm)
                                                                · exact (hr_ 2 (by decide)).trans (congrArg nI (hI9.1 2 (by decide)).symm)
                                                                · exact (hr_ 3 (by decide)).trans (congrArg nI (hI9.1 3 (by decide)).symm)
                                                                · exact (hr_ 4 (by decide)).trans (congrArg nI (hI9.1 4 (by decide)).symm)
                                                                · show f3 5 + 1 = nI (aRd W_ (w_ + 1) 5); rw [hI9.2.1, hr_ 5 (by decide)]; exact nI_add _ 1
                                                                · show (0 : Int32) = nI (aRd W_ (w_ + 1) 6); rw [hI9.2.2 6 (by decide) (by decide)]; rfl))⟩)
  · have c_10n : ¬ (f1 6).toInt ≤ ((f3 6) + 1).toInt := fun q => c_10 ((fa_le _ _).mpr q)
    have hw_48 : bWays T h la md wy pc_ f1 f2 (upd f3 6 ((f3 6) + 1)) f4 f5 f6 n4 [zO0 h md wy la pc_ a1_1 a2_2 a3_3 a4_4 a5_5 a6_6, zAr T 0 a1_1 7 f1, zAr T 0 a2_2 7 f2, zAr T 0 a3_3 7 (upd f3 6 ((f3 6) + 1)), zAr T 0 a4_4 n4 f4, zAr T 0 a5_5 n4 f5, zAr T 0 a6_6 n4 f6] := ⟨a1_1, a2_2, a3_3, a4_4, a5_5, a6_6, rfl⟩
    have G : zS T A s.heap s [[zO0 h md wy la pc_ a1_1 a2_2 a3_3 a4_4 a5_5 a6_6, zAr T 0 a1_1 7 f1, zAr T 0 a2_2 7 f2, zAr T 0 a3_3 7 (upd f3 6 ((f3 6) + 1)), zAr T 0 a4_4 n4 f4, zAr T 0 a5_5 n4 f5, zAr T 0 a6_6 n4 f6]] _ _ := G.re rfl
    exact z_back hQz_ (z_vret C hr hlocks G (Nat.le_of_ble_eq_true rfl) (Nat.le_of_ble_eq_true rfl) dX0_nextRow_32 ⟨([zO0 h md wy la pc_ a1_1 a2_2 a3_3 a4_4 a5_5 a6_6, zAr T 0 a1_1 7 f1, zAr T 0 a2_2 7 f2, zAr T 0 a3_3 7 (upd f3 6 ((f3 6) + 1)), zAr T 0 a4_4 n4 f4, zAr T 0 a5_5 n4 f5, zAr T 0 a6_6 n4 f6]), (upd f3 6 ((f3 6) + 1)), rfl, hw_48, (fun _ c hc => (by
                                                                have hI9 := aInc (W := W_) (w := w_) (k := 6) (by decide) (fun j h1 h2 => by exfalso; omega) (by omega)
                                                                rcases (show c = 0 ∨ c = 1 ∨ c = 2 ∨ c = 3 ∨ c = 4 ∨ c = 5 ∨ c = 6 by omega) with q | q | q | q | q | q | q <;> subst q
                                                                · exact (hr_ 0 (by decide)).trans (congrArg nI (hI9.1 0 (by decide)).symm)
                                                                · exact (hr_ 1 (by decide)).trans (congrArg nI (hI9.1 1 (by decide)).symm)
                                                                · exact (hr_ 2 (by decide)).trans (congrArg nI (hI9.1 2 (by decide)).symm)
                                                                · exact (hr_ 3 (by decide)).trans (congrArg nI (hI9.1 3 (by decide)).symm)
                                                                · exact (hr_ 4 (by decide)).trans (congrArg nI (hI9.1 4 (by decide)).symm)
                                                                · exact (hr_ 5 (by decide)).trans (congrArg nI (hI9.1 5 (by decide)).symm)
                                                                · show f3 6 + 1 = nI (aRd W_ (w_ + 1) 6); rw [hI9.2.1, hr_ 6 (by decide)]; exact nI_add _ 1))⟩)
set_option maxHeartbeats 4000000 in
set_option maxRecDepth 100000 in
/-- c_f_comesByRow -/
theorem c_f_comesByRow (l : Launch) (T : zTy) (h : Nat) (la : Nat) (md : Int32) (wy : Int32) (pc_ : Int32) (f1 : Nat → Int32) (f2 : Nat → Int32) (f3 : Nat → Int32) (f4 : Nat → Int32) (f5 : Nat → Int32) (f6 : Nat → Int32) (n4 : Nat) (ww : va_W) (cr : Int32) (inn : Int32) (k1 : Nat → Int32) (k2 : Nat → Int32) (k3 : Nat → Int32) (k4 : Nat → Int32) (z : va_W) (x : Int32) (hww : bWays T h la md wy pc_ f1 f2 f3 f4 f5 f6 n4 ww) (hz : bLand T la cr inn k1 k2 k3 k4 z) (hI : zLI cr k1 k3) (hx0 : 0 ≤ x.toInt) (hx1 : x.toInt < cr.toInt) (hRo : rPo (kW cr inn k1) f3) (hLq : zLq cr k1 k2) (hR3 : (∀ j, j < 7 → 0 ≤ (f3 j).toInt ∧ (f3 j).toInt ≤ 1000)) : zMi l T yX0_comesByRow cX0_comesByRow 4 (some .boolean) 3 0 0 [.ref h, .int x] [ww, z] (fun (r : Int32) bs => bs = [ww, z] ∧ ((r = 1 ∧ zBit inn (zLed (rSt (kW cr inn k1) k2 f3) 7 x) = 1) ∨ (r = 0 ∧ ¬ zBit inn (zLed (rSt (kW cr inn k1) k2 f3) 7 x) = 1))) := by
  refine zMi_of (own := RX0) (by decide) rfl (Nat.le_of_ble_eq_true rfl) ?_
  intro p e s m args below meth c A ls C hr hlocks hnm hAe G hl
  refine zHide (fun Qz_ hQz_ => ?_)
  have hx := C.1
  have hb := C.2.1
  have hl : lv_has ls 4 [(0, .ref h), (1, .int x)] := hl
  have hc0 := hI.1
  have hO9 := kOk (inn := inn) hI hLq
  have hra : rIn cr.toInt.toNat x := ⟨by omega, by omega⟩
  refine lv_iload_n hx hb dX0_comesByRow_0 rfl (lv_at hl 1 rfl) ?_
  refine lv_istore_n (lv' := [(2, .int x), (0, .ref h), (1, .int x)]) hx hb dX0_comesByRow_1 rfl hl (by decide) (zLvf_h rfl) (fun ls hl => ?_)
  refine lv_iconst (v := 0) hx hb dX0_comesByRow_2 (by decide) ?_
  refine lv_istore_n (lv' := [(3, .int 0), (2, .int x), (0, .ref h), (1, .int x)]) hx hb dX0_comesByRow_3 rfl hl (by decide) (zLvf_h rfl) (fun ls hl => ?_)
  refine zEx6 hww ?_
  intro a1_1 a2_2 a3_3 a4_4 a5_5 a6_6 hbs9
  clear hww
  subst hbs9
  have G : zS T A s.heap s [[zO0 h md wy la pc_ a1_1 a2_2 a3_3 a4_4 a5_5 a6_6], [zAr T 0 a1_1 7 f1], [zAr T 0 a2_2 7 f2], [zAr T 0 a3_3 7 f3], [zAr T 0 a4_4 n4 f4], [zAr T 0 a5_5 n4 f5], [zAr T 0 a6_6 n4 f6], z] _ _ := G.re rfl
  refine zEx4 hz ?_
  intro a1_7 a2_8 a3_9 a4_10 hbs9
  clear hz
  subst hbs9
  have G : zS T A s.heap s [[zO0 h md wy la pc_ a1_1 a2_2 a3_3 a4_4 a5_5 a6_6], [zAr T 0 a1_1 7 f1], [zAr T 0 a2_2 7 f2], [zAr T 0 a3_3 7 f3], [zAr T 0 a4_4 n4 f4], [zAr T 0 a5_5 n4 f5], [zAr T 0 a6_6 n4 f6], [zO4 la cr inn a1_7 a2_8 a3_9 a4_10], [zAr T 0 a1_7 7 k1], [zAr T 0 a2_8 28 k2], [zAr T 0 a3_9 7 k3], [zAr T 0 a4_10 7 k4]] _ _ := G.re rfl
  have hw_11 : bWays T h la md wy pc_ f1 f2 f3 f4 f5 f6 n4 [zO0 h md wy la pc_ a1_1 a2_2 a3_3 a4_4 a5_5 a6_6, zAr T 0 a1_1 7 f1, zAr T 0 a2_2 7 f2, zAr T 0 a3_3 7 f3, zAr T 0 a4_4 n4 f4, zAr T 0 a5_5 n4 f5, zAr T 0 a6_6 n4 f6] := ⟨a1_1, a2_2, a3_3, a4_4, a5_5, a6_6, rfl⟩
  have G : zS T A s.heap s [[zO0 h md wy la pc_ a1_1 a2_2 a3_3 a4_4 a5_5 a6_6, zAr T 0 a1_1 7 f1, zAr T 0 a2_2 7 f2, zAr T 0 a3_3 7 f3, zAr T 0 a4_4 n4 f4, zAr T 0 a5_5 n4 f5, zAr T 0 a6_6 n4 f6], [zO4 la cr inn a1_7 a2_8 a3_9 a4_10], [zAr T 0 a1_7 7 k1], [zAr T 0 a2_8 28 k2], [zAr T 0 a3_9 7 k3], [zAr T 0 a4_10 7 k4]] _ _ := G.re rfl
  have hw_12 : bLand T la cr inn k1 k2 k3 k4 [zO4 la cr inn a1_7 a2_8 a3_9 a4_10, zAr T 0 a1_7 7 k1, zAr T 0 a2_8 28 k2, zAr T 0 a3_9 7 k3, zAr T 0 a4_10 7 k4] := ⟨a1_7, a2_8, a3_9, a4_10, rfl⟩
  have G : zS T A s.heap s [[zO0 h md wy la pc_ a1_1 a2_2 a3_3 a4_4 a5_5 a6_6, zAr T 0 a1_1 7 f1, zAr T 0 a2_2 7 f2, zAr T 0 a3_3 7 f3, zAr T 0 a4_4 n4 f4, zAr T 0 a5_5 n4 f5, zAr T 0 a6_6 n4 f6], [zO4 la cr inn a1_7 a2_8 a3_9 a4_10, zAr T 0 a1_7 7 k1, zAr T 0 a2_8 28 k2, zAr T 0 a3_9 7 k3, zAr T 0 a4_10 7 k4]] _ _ := G.re rfl
  refine z_lp2 (T := T) 4 (fun (i : Nat) (u2 : Int32) => [[zO0 h md wy la pc_ a1_1 a2_2 a3_3 a4_4 a5_5 a6_6, zAr T 0 a1_1 7 f1, zAr T 0 a2_2 7 f2, zAr T 0 a3_3 7 f3, zAr T 0 a4_4 n4 f4, zAr T 0 a5_5 n4 f5, zAr T 0 a6_6 n4 f6], [zO4 la cr inn a1_7 a2_8 a3_9 a4_10, zAr T 0 a1_7 7 k1, zAr T 0 a2_8 28 k2, zAr T 0 a3_9 7 k3, zAr T 0 a4_10 7 k4]]) (fun (i : Nat) (u2 : Int32) => [(3, .int (nI i)), (2, .int u2), (0, .ref h), (1, .int x)]) (fun (i : Nat) (u2 : Int32) => i ≤ cr.toInt.toNat ∧ u2 = zLed (rSt (kW cr inn k1) k2 f3) i x ∧ (∀ t, t < i → rSk (kW cr inn k1) k2 f3 x t = false)) (fun (i : Nat) (u2 : Int32) => cr.toInt.toNat - i) ?_ 0 x (show 0 ≤ cr.toInt.toNat ∧ x = zLed (rSt (kW cr inn k1) k2 f3) 0 x ∧ (∀ t, t < 0 → rSk (kW cr inn k1) k2 f3 x t = false) from ⟨by omega, rfl, (fun t h9 => absurd h9 (by omega))⟩) G (lv_sub hl [0, 1, 2, 3] rfl)
  intro i u2 hI9 ih_4 H locs ls G hl
  replace hI9 : i ≤ cr.toInt.toNat ∧ u2 = zLed (rSt (kW cr inn k1) k2 f3) i x ∧ (∀ t, t < i → rSk (kW cr inn k1) k2 f3 x t = false) := hI9
  refine zAn3 hI9 ?_
  intro hi hu hsk
  clear hI9
  replace G : zS T A s.heap s [[zO0 h md wy la pc_ a1_1 a2_2 a3_3 a4_4 a5_5 a6_6, zAr T 0 a1_1 7 f1, zAr T 0 a2_2 7 f2, zAr T 0 a3_3 7 f3, zAr T 0 a4_4 n4 f4, zAr T 0 a5_5 n4 f5, zAr T 0 a6_6 n4 f6], [zO4 la cr inn a1_7 a2_8 a3_9 a4_10, zAr T 0 a1_7 7 k1, zAr T 0 a2_8 28 k2, zAr T 0 a3_9 7 k3, zAr T 0 a4_10 7 k4]] _ _ := G
  replace hl : lv_has ls 4 [(3, .int (nI i)), (2, .int u2), (0, .ref h), (1, .int x)] := hl
  refine lv_iload_n hx hb dX0_comesByRow_4 rfl (lv_at hl 0 rfl) ?_
  refine lv_aload_n hx hb dX0_comesByRow_5 rfl (lv_at hl 2 rfl) ?_
  have G : zS T A s.heap s [[zO0 h md wy la pc_ a1_1 a2_2 a3_3 a4_4 a5_5 a6_6], [zAr T 0 a1_1 7 f1], [zAr T 0 a2_2 7 f2], [zAr T 0 a3_3 7 f3], [zAr T 0 a4_4 n4 f4], [zAr T 0 a5_5 n4 f5], [zAr T 0 a6_6 n4 f6], [zO4 la cr inn a1_7 a2_8 a3_9 a4_10, zAr T 0 a1_7 7 k1, zAr T 0 a2_8 28 k2, zAr T 0 a3_9 7 k3, zAr T 0 a4_10 7 k4]] _ _ := G.re rfl
  refine z_get C G clX0 0 rfl 2 (by decide) m_fl_RX0_14 rfl dX0_comesByRow_6 ?_
  have G : zS T A s.heap s [[zO0 h md wy la pc_ a1_1 a2_2 a3_3 a4_4 a5_5 a6_6], [zAr T 0 a1_1 7 f1], [zAr T 0 a2_2 7 f2], [zAr T 0 a3_3 7 f3], [zAr T 0 a4_4 n4 f4], [zAr T 0 a5_5 n4 f5], [zAr T 0 a6_6 n4 f6], [zO4 la cr inn a1_7 a2_8 a3_9 a4_10], [zAr T 0 a1_7 7 k1], [zAr T 0 a2_8 28 k2], [zAr T 0 a3_9 7 k3], [zAr T 0 a4_10 7 k4]] _ _ := G.re rfl
  refine z_get C G clX4 7 rfl 0 (by decide) m_fl_RX0_107 rfl dX0_comesByRow_9 ?_
  refine lv_icmp_ge (tgt := 47) hx hb dX0_comesByRow_12 (by decide) (fun c_13 => ?_) (fun c_13 => ?_)
  · have c_13n : cr.toInt ≤ (i : Int) := by have q := (fa_le _ _).mp c_13; rw [nI_toInt (n := i) (by omega)] at q; exact q
    have hcm9 := rCom (inn := inn) hO9 hRo hra (i := i) (by omega) hsk (by first | exact Or.inr (by omega) | (exact Or.inl (by rw [← hu, ew9]; omega))) (fun c hc => kIn (by obtain ⟨q1, q2⟩ := hc; omega) (by obtain ⟨q1, q2⟩ := hc; omega))
    rw [← hu] at hcm9
    have hbb9 := rPt_in hO9 hRo hra i
    rw [← hu] at hbb9
    obtain ⟨hb2, hb3⟩ := hbb9
    refine lv_aload_n hx hb dX0_comesByRow_47 rfl (lv_at hl 2 rfl) ?_
    refine z_get C G clX0 0 rfl 2 (by decide) m_fl_RX0_14 rfl dX0_comesByRow_48 ?_
    refine lv_iload_n hx hb dX0_comesByRow_51 rfl (lv_at hl 1 rfl) ?_
    have hw_14 : bLand T la cr inn k1 k2 k3 k4 [zO4 la cr inn a1_7 a2_8 a3_9 a4_10, zAr T 0 a1_7 7 k1, zAr T 0 a2_8 28 k2, zAr T 0 a3_9 7 k3, zAr T 0 a4_10 7 k4] := ⟨a1_7, a2_8, a3_9, a4_10, rfl⟩
    have G : zS T A s.heap s [[zO0 h md wy la pc_ a1_1 a2_2 a3_3 a4_4 a5_5 a6_6], [zAr T 0 a1_1 7 f1], [zAr T 0 a2_2 7 f2], [zAr T 0 a3_3 7 f3], [zAr T 0 a4_4 n4 f4], [zAr T 0 a5_5 n4 f5], [zAr T 0 a6_6 n4 f6], [zO4 la cr inn a1_7 a2_8 a3_9 a4_10, zAr T 0 a1_7 7 k1, zAr T 0 a2_8 28 k2, zAr T 0 a3_9 7 k3, zAr T 0 a4_10 7 k4]] _ _ := G.re rfl
    refine z_Vi (bc := [[zO4 la cr inn a1_7 a2_8 a3_9 a4_10, zAr T 0 a1_7 7 k1, zAr T 0 a2_8 28 k2, zAr T 0 a3_9 7 k3, zAr T 0 a4_10 7 k4]]) (br := [[zO0 h md wy la pc_ a1_1 a2_2 a3_3 a4_4 a5_5 a6_6], [zAr T 0 a1_1 7 f1], [zAr T 0 a2_2 7 f2], [zAr T 0 a3_3 7 f3], [zAr T 0 a4_4 n4 f4], [zAr T 0 a5_5 n4 f5], [zAr T 0 a6_6 n4 f6]]) (As := [.int u2]) (rest := []) C G (c_isInn l T la cr inn k1 k2 k3 k4 ([zO4 la cr inn a1_7 a2_8 a3_9 a4_10, zAr T 0 a1_7 7 k1, zAr T 0 a2_8 28 k2, zAr T 0 a3_9 7 k3, zAr T 0 a4_10 7 k4]) u2 hw_14) (kV_RX0_97 C.2.2.2.2 (Nat.le_of_ble_eq_true rfl) (Nat.le_of_ble_eq_true rfl)) [7] [7] rfl rfl (ci := 4) (qc := (RX4, TX4, 6)) rfl rfl (List.mem_flatten.mpr ⟨_, List.mem_of_getElem? (i := 0) rfl, (bLand_mem hw_14).choose_spec⟩) rfl rfl hl.1 dX0_comesByRow_52 (Nat.le_of_ble_eq_true rfl) (Nat.le_of_ble_eq_true rfl) (fun r_16 b1 H locs hw G => ?_)
    refine zAn2 hw ?_
    intro hbs9 hc_15
    clear hw
    subst hbs9
    have G : zS T A s.heap s [[zO0 h md wy la pc_ a1_1 a2_2 a3_3 a4_4 a5_5 a6_6], [zAr T 0 a1_1 7 f1], [zAr T 0 a2_2 7 f2], [zAr T 0 a3_3 7 f3], [zAr T 0 a4_4 n4 f4], [zAr T 0 a5_5 n4 f5], [zAr T 0 a6_6 n4 f6], [zO4 la cr inn a1_7 a2_8 a3_9 a4_10, zAr T 0 a1_7 7 k1, zAr T 0 a2_8 28 k2, zAr T 0 a3_9 7 k3, zAr T 0 a4_10 7 k4]] _ _ := G
    rcases hc_15 with ⟨rfl, h_17, h_18, h_19, h_20⟩ | ⟨rfl, h_21⟩
    · have h_17 : 0 ≤ u2.toInt := h_17
      have h_18 : u2.toInt < cr.toInt := h_18
      have h_19 : u2.toInt < 7 := h_19
      have h_20 : ¬ zBit inn u2 = 0 := h_20
      have hcb9 : zBit inn (zLed (rSt (kW cr inn k1) k2 f3) 7 x) = 1 := hcm9.mp (zBit_p h_20)
      have hw_22 : bWays T h la md wy pc_ f1 f2 f3 f4 f5 f6 n4 [zO0 h md wy la pc_ a1_1 a2_2 a3_3 a4_4 a5_5 a6_6, zAr T 0 a1_1 7 f1, zAr T 0 a2_2 7 f2, zAr T 0 a3_3 7 f3, zAr T 0 a4_4 n4 f4, zAr T 0 a5_5 n4 f5, zAr T 0 a6_6 n4 f6] := ⟨a1_1, a2_2, a3_3, a4_4, a5_5, a6_6, rfl⟩
      have G : zS T A s.heap s [[zO0 h md wy la pc_ a1_1 a2_2 a3_3 a4_4 a5_5 a6_6, zAr T 0 a1_1 7 f1, zAr T 0 a2_2 7 f2, zAr T 0 a3_3 7 f3, zAr T 0 a4_4 n4 f4, zAr T 0 a5_5 n4 f5, zAr T 0 a6_6 n4 f6], [zO4 la cr inn a1_7 a2_8 a3_9 a4_10, zAr T 0 a1_7 7 k1, zAr T 0 a2_8 28 k2, zAr T 0 a3_9 7 k3, zAr T 0 a4_10 7 k4]] _ _ := G.re rfl
      exact z_back hQz_ (z_zret C hr hlocks G (Nat.le_of_ble_eq_true rfl) (Nat.le_of_ble_eq_true rfl) dX0_comesByRow_55 rfl ⟨rfl, (Or.inl (⟨rfl, hcb9⟩))⟩)
    · have h_21 : (u2.toInt < 0 ∨ cr.toInt ≤ u2.toInt ∨ 7 ≤ u2.toInt ∨ zBit inn u2 = 0) := h_21
      have hcb9 : ¬ zBit inn (zLed (rSt (kW cr inn k1) k2 f3) 7 x) = 1 := fun q9 => by have q8 := hcm9.mpr q9; rcases h_21 with e9 | e9 | e9 | e9 <;> first | omega | exact zBit_o q8 e9
      have hw_23 : bWays T h la md wy pc_ f1 f2 f3 f4 f5 f6 n4 [zO0 h md wy la pc_ a1_1 a2_2 a3_3 a4_4 a5_5 a6_6, zAr T 0 a1_1 7 f1, zAr T 0 a2_2 7 f2, zAr T 0 a3_3 7 f3, zAr T 0 a4_4 n4 f4, zAr T 0 a5_5 n4 f5, zAr T 0 a6_6 n4 f6] := ⟨a1_1, a2_2, a3_3, a4_4, a5_5, a6_6, rfl⟩
      have G : zS T A s.heap s [[zO0 h md wy la pc_ a1_1 a2_2 a3_3 a4_4 a5_5 a6_6, zAr T 0 a1_1 7 f1, zAr T 0 a2_2 7 f2, zAr T 0 a3_3 7 f3, zAr T 0 a4_4 n4 f4, zAr T 0 a5_5 n4 f5, zAr T 0 a6_6 n4 f6], [zO4 la cr inn a1_7 a2_8 a3_9 a4_10, zAr T 0 a1_7 7 k1, zAr T 0 a2_8 28 k2, zAr T 0 a3_9 7 k3, zAr T 0 a4_10 7 k4]] _ _ := G.re rfl
      exact z_back hQz_ (z_zret C hr hlocks G (Nat.le_of_ble_eq_true rfl) (Nat.le_of_ble_eq_true rfl) dX0_comesByRow_55 rfl ⟨rfl, (Or.inr (⟨rfl, hcb9⟩))⟩)
  · have c_13n : ¬ cr.toInt ≤ (i : Int) := fun q => c_13 ((fa_le _ _).mpr (by rw [nI_toInt (n := i) (by omega)]; exact q))
    obtain ⟨hb0, hb1⟩ := rPt_in hO9 hRo hra i
    rw [← hu] at hb0 hb1
    have eu9 : u2 = nI u2.toInt.toNat := z_nI (by omega) (by omega)
    have ew9 : (kW cr inn k1) u2.toInt.toNat = zWays cr inn k1 u2 := by show zWays cr inn k1 (nI u2.toInt.toNat) = _; rw [← eu9]
    have hwl9 := zWays_le (inn := inn) hI u2
    refine lv_aload_n hx hb dX0_comesByRow_15 rfl (lv_at hl 2 rfl) ?_
    refine z_get C G clX0 0 rfl 2 (by decide) m_fl_RX0_14 rfl dX0_comesByRow_16 ?_
    refine lv_iload_n hx hb dX0_comesByRow_19 rfl (lv_at hl 1 rfl) ?_
    have hw_24 : bLand T la cr inn k1 k2 k3 k4 [zO4 la cr inn a1_7 a2_8 a3_9 a4_10, zAr T 0 a1_7 7 k1, zAr T 0 a2_8 28 k2, zAr T 0 a3_9 7 k3, zAr T 0 a4_10 7 k4] := ⟨a1_7, a2_8, a3_9, a4_10, rfl⟩
    have G : zS T A s.heap s [[zO0 h md wy la pc_ a1_1 a2_2 a3_3 a4_4 a5_5 a6_6], [zAr T 0 a1_1 7 f1], [zAr T 0 a2_2 7 f2], [zAr T 0 a3_3 7 f3], [zAr T 0 a4_4 n4 f4], [zAr T 0 a5_5 n4 f5], [zAr T 0 a6_6 n4 f6], [zO4 la cr inn a1_7 a2_8 a3_9 a4_10, zAr T 0 a1_7 7 k1, zAr T 0 a2_8 28 k2, zAr T 0 a3_9 7 k3, zAr T 0 a4_10 7 k4]] _ _ := G.re rfl
    refine z_Vi (bc := [[zO4 la cr inn a1_7 a2_8 a3_9 a4_10, zAr T 0 a1_7 7 k1, zAr T 0 a2_8 28 k2, zAr T 0 a3_9 7 k3, zAr T 0 a4_10 7 k4]]) (br := [[zO0 h md wy la pc_ a1_1 a2_2 a3_3 a4_4 a5_5 a6_6], [zAr T 0 a1_1 7 f1], [zAr T 0 a2_2 7 f2], [zAr T 0 a3_3 7 f3], [zAr T 0 a4_4 n4 f4], [zAr T 0 a5_5 n4 f5], [zAr T 0 a6_6 n4 f6]]) (As := [.int u2]) (rest := []) C G (c_waysOut l T la cr inn k1 k2 k3 k4 ([zO4 la cr inn a1_7 a2_8 a3_9 a4_10, zAr T 0 a1_7 7 k1, zAr T 0 a2_8 28 k2, zAr T 0 a3_9 7 k3, zAr T 0 a4_10 7 k4]) u2 hw_24) (kV_RX0_61 C.2.2.2.2 (Nat.le_of_ble_eq_true rfl) (Nat.le_of_ble_eq_true rfl)) [7] [7] rfl rfl (ci := 4) (qc := (RX4, TX4, 6)) rfl rfl (List.mem_flatten.mpr ⟨_, List.mem_of_getElem? (i := 0) rfl, (bLand_mem hw_24).choose_spec⟩) rfl rfl hl.1 dX0_comesByRow_20 (Nat.le_of_ble_eq_true rfl) (Nat.le_of_ble_eq_true rfl) (fun r_26 b1 H locs hw G => ?_)
    refine zAn2 hw ?_
    intro hbs9 h_25
    clear hw
    subst hbs9
    have G : zS T A s.heap s [[zO0 h md wy la pc_ a1_1 a2_2 a3_3 a4_4 a5_5 a6_6], [zAr T 0 a1_1 7 f1], [zAr T 0 a2_2 7 f2], [zAr T 0 a3_3 7 f3], [zAr T 0 a4_4 n4 f4], [zAr T 0 a5_5 n4 f5], [zAr T 0 a6_6 n4 f6], [zO4 la cr inn a1_7 a2_8 a3_9 a4_10, zAr T 0 a1_7 7 k1, zAr T 0 a2_8 28 k2, zAr T 0 a3_9 7 k3, zAr T 0 a4_10 7 k4]] _ _ := G
    subst h_25
    refine lv_if_le (tgt := 47) hx hb dX0_comesByRow_23 (by decide) (fun c_27 => ?_) (fun c_27 => ?_)
    · have c_27n : (zWays cr inn k1 u2).toInt ≤ (0 : Int) := (fa_le _ _).mp c_27
      have hcm9 := rCom (inn := inn) hO9 hRo hra (i := i) (by omega) hsk (by first | exact Or.inr (by omega) | (exact Or.inl (by rw [← hu, ew9]; omega))) (fun c hc => kIn (by obtain ⟨q1, q2⟩ := hc; omega) (by obtain ⟨q1, q2⟩ := hc; omega))
      rw [← hu] at hcm9
      have hbb9 := rPt_in hO9 hRo hra i
      rw [← hu] at hbb9
      obtain ⟨hb2, hb3⟩ := hbb9
      refine lv_aload_n hx hb dX0_comesByRow_47 rfl (lv_at hl 2 rfl) ?_
      refine z_get C G clX0 0 rfl 2 (by decide) m_fl_RX0_14 rfl dX0_comesByRow_48 ?_
      refine lv_iload_n hx hb dX0_comesByRow_51 rfl (lv_at hl 1 rfl) ?_
      refine z_Vi (bc := [[zO4 la cr inn a1_7 a2_8 a3_9 a4_10, zAr T 0 a1_7 7 k1, zAr T 0 a2_8 28 k2, zAr T 0 a3_9 7 k3, zAr T 0 a4_10 7 k4]]) (br := [[zO0 h md wy la pc_ a1_1 a2_2 a3_3 a4_4 a5_5 a6_6], [zAr T 0 a1_1 7 f1], [zAr T 0 a2_2 7 f2], [zAr T 0 a3_3 7 f3], [zAr T 0 a4_4 n4 f4], [zAr T 0 a5_5 n4 f5], [zAr T 0 a6_6 n4 f6]]) (As := [.int u2]) (rest := []) C G (c_isInn l T la cr inn k1 k2 k3 k4 ([zO4 la cr inn a1_7 a2_8 a3_9 a4_10, zAr T 0 a1_7 7 k1, zAr T 0 a2_8 28 k2, zAr T 0 a3_9 7 k3, zAr T 0 a4_10 7 k4]) u2 hw_24) (kV_RX0_97 C.2.2.2.2 (Nat.le_of_ble_eq_true rfl) (Nat.le_of_ble_eq_true rfl)) [7] [7] rfl rfl (ci := 4) (qc := (RX4, TX4, 6)) rfl rfl (List.mem_flatten.mpr ⟨_, List.mem_of_getElem? (i := 0) rfl, (bLand_mem hw_24).choose_spec⟩) rfl rfl hl.1 dX0_comesByRow_52 (Nat.le_of_ble_eq_true rfl) (Nat.le_of_ble_eq_true rfl) (fun r_29 b1 H locs hw G => ?_)
      refine zAn2 hw ?_
      intro hbs9 hc_28
      clear hw
      subst hbs9
      have G : zS T A s.heap s [[zO0 h md wy la pc_ a1_1 a2_2 a3_3 a4_4 a5_5 a6_6], [zAr T 0 a1_1 7 f1], [zAr T 0 a2_2 7 f2], [zAr T 0 a3_3 7 f3], [zAr T 0 a4_4 n4 f4], [zAr T 0 a5_5 n4 f5], [zAr T 0 a6_6 n4 f6], [zO4 la cr inn a1_7 a2_8 a3_9 a4_10, zAr T 0 a1_7 7 k1, zAr T 0 a2_8 28 k2, zAr T 0 a3_9 7 k3, zAr T 0 a4_10 7 k4]] _ _ := G
      rcases hc_28 with ⟨rfl, h_30, h_31, h_32, h_33⟩ | ⟨rfl, h_34⟩
      · have h_30 : 0 ≤ u2.toInt := h_30
        have h_31 : u2.toInt < cr.toInt := h_31
        have h_32 : u2.toInt < 7 := h_32
        have h_33 : ¬ zBit inn u2 = 0 := h_33
        have hcb9 : zBit inn (zLed (rSt (kW cr inn k1) k2 f3) 7 x) = 1 := hcm9.mp (zBit_p h_33)
        have hw_35 : bWays T h la md wy pc_ f1 f2 f3 f4 f5 f6 n4 [zO0 h md wy la pc_ a1_1 a2_2 a3_3 a4_4 a5_5 a6_6, zAr T 0 a1_1 7 f1, zAr T 0 a2_2 7 f2, zAr T 0 a3_3 7 f3, zAr T 0 a4_4 n4 f4, zAr T 0 a5_5 n4 f5, zAr T 0 a6_6 n4 f6] := ⟨a1_1, a2_2, a3_3, a4_4, a5_5, a6_6, rfl⟩
        have G : zS T A s.heap s [[zO0 h md wy la pc_ a1_1 a2_2 a3_3 a4_4 a5_5 a6_6, zAr T 0 a1_1 7 f1, zAr T 0 a2_2 7 f2, zAr T 0 a3_3 7 f3, zAr T 0 a4_4 n4 f4, zAr T 0 a5_5 n4 f5, zAr T 0 a6_6 n4 f6], [zO4 la cr inn a1_7 a2_8 a3_9 a4_10, zAr T 0 a1_7 7 k1, zAr T 0 a2_8 28 k2, zAr T 0 a3_9 7 k3, zAr T 0 a4_10 7 k4]] _ _ := G.re rfl
        exact z_back hQz_ (z_zret C hr hlocks G (Nat.le_of_ble_eq_true rfl) (Nat.le_of_ble_eq_true rfl) dX0_comesByRow_55 rfl ⟨rfl, (Or.inl (⟨rfl, hcb9⟩))⟩)
      · have h_34 : (u2.toInt < 0 ∨ cr.toInt ≤ u2.toInt ∨ 7 ≤ u2.toInt ∨ zBit inn u2 = 0) := h_34
        have hcb9 : ¬ zBit inn (zLed (rSt (kW cr inn k1) k2 f3) 7 x) = 1 := fun q9 => by have q8 := hcm9.mpr q9; rcases h_34 with e9 | e9 | e9 | e9 <;> first | omega | exact zBit_o q8 e9
        have hw_36 : bWays T h la md wy pc_ f1 f2 f3 f4 f5 f6 n4 [zO0 h md wy la pc_ a1_1 a2_2 a3_3 a4_4 a5_5 a6_6, zAr T 0 a1_1 7 f1, zAr T 0 a2_2 7 f2, zAr T 0 a3_3 7 f3, zAr T 0 a4_4 n4 f4, zAr T 0 a5_5 n4 f5, zAr T 0 a6_6 n4 f6] := ⟨a1_1, a2_2, a3_3, a4_4, a5_5, a6_6, rfl⟩
        have G : zS T A s.heap s [[zO0 h md wy la pc_ a1_1 a2_2 a3_3 a4_4 a5_5 a6_6, zAr T 0 a1_1 7 f1, zAr T 0 a2_2 7 f2, zAr T 0 a3_3 7 f3, zAr T 0 a4_4 n4 f4, zAr T 0 a5_5 n4 f5, zAr T 0 a6_6 n4 f6], [zO4 la cr inn a1_7 a2_8 a3_9 a4_10, zAr T 0 a1_7 7 k1, zAr T 0 a2_8 28 k2, zAr T 0 a3_9 7 k3, zAr T 0 a4_10 7 k4]] _ _ := G.re rfl
        exact z_back hQz_ (z_zret C hr hlocks G (Nat.le_of_ble_eq_true rfl) (Nat.le_of_ble_eq_true rfl) dX0_comesByRow_55 rfl ⟨rfl, (Or.inr (⟨rfl, hcb9⟩))⟩)
    · have c_27n : ¬ (zWays cr inn k1 u2).toInt ≤ (0 : Int) := fun q => c_27 ((fa_le _ _).mpr q)
      refine lv_aload_n hx hb dX0_comesByRow_26 rfl (lv_at hl 2 rfl) ?_
      refine z_get C G clX0 0 rfl 2 (by decide) m_fl_RX0_14 rfl dX0_comesByRow_27 ?_
      refine lv_iload_n hx hb dX0_comesByRow_30 rfl (lv_at hl 1 rfl) ?_
      refine lv_aload_n hx hb dX0_comesByRow_31 rfl (lv_at hl 2 rfl) ?_
      refine z_get C G clX0 0 rfl 6 (by decide) m_fl_RX0_25 rfl dX0_comesByRow_32 ?_
      refine lv_iload_n hx hb dX0_comesByRow_35 rfl (lv_at hl 1 rfl) ?_
      refine z_ild C G 3 rfl (vp_in_iff.mpr ⟨by omega, by omega⟩) dX0_comesByRow_36 ?_
      refine lv_topi (fun v_37 ev_37 => ?_)
      subst ev_37
      refine z_Vi (bc := [[zO4 la cr inn a1_7 a2_8 a3_9 a4_10, zAr T 0 a1_7 7 k1, zAr T 0 a2_8 28 k2, zAr T 0 a3_9 7 k3, zAr T 0 a4_10 7 k4]]) (br := [[zO0 h md wy la pc_ a1_1 a2_2 a3_3 a4_4 a5_5 a6_6], [zAr T 0 a1_1 7 f1], [zAr T 0 a2_2 7 f2], [zAr T 0 a3_3 7 f3], [zAr T 0 a4_4 n4 f4], [zAr T 0 a5_5 n4 f5], [zAr T 0 a6_6 n4 f6]]) (As := [.int u2, .int (f3 u2.toNatClampNeg)]) (rest := []) C G (c_target l T la cr inn k1 k2 k3 k4 ([zO4 la cr inn a1_7 a2_8 a3_9 a4_10, zAr T 0 a1_7 7 k1, zAr T 0 a2_8 28 k2, zAr T 0 a3_9 7 k3, zAr T 0 a4_10 7 k4]) u2 (f3 u2.toNatClampNeg) hw_24) (kV_RX0_84 C.2.2.2.2 (Nat.le_of_ble_eq_true rfl) (Nat.le_of_ble_eq_true rfl)) [7] [7] rfl rfl (ci := 4) (qc := (RX4, TX4, 6)) rfl rfl (List.mem_flatten.mpr ⟨_, List.mem_of_getElem? (i := 0) rfl, (bLand_mem hw_24).choose_spec⟩) rfl rfl hl.1 dX0_comesByRow_37 (Nat.le_of_ble_eq_true rfl) (Nat.le_of_ble_eq_true rfl) (fun r_39 b1 H locs hw G => ?_)
      refine zAn2 hw ?_
      intro hbs9 h_38
      clear hw
      subst hbs9
      have G : zS T A s.heap s [[zO0 h md wy la pc_ a1_1 a2_2 a3_3 a4_4 a5_5 a6_6], [zAr T 0 a1_1 7 f1], [zAr T 0 a2_2 7 f2], [zAr T 0 a3_3 7 f3], [zAr T 0 a4_4 n4 f4], [zAr T 0 a5_5 n4 f5], [zAr T 0 a6_6 n4 f6], [zO4 la cr inn a1_7 a2_8 a3_9 a4_10, zAr T 0 a1_7 7 k1, zAr T 0 a2_8 28 k2, zAr T 0 a3_9 7 k3, zAr T 0 a4_10 7 k4]] _ _ := G
      subst h_38
      refine lv_topi (fun y_40 ey_40 => ?_)
      obtain rfl : y_40 = (rSt (kW cr inn k1) k2 f3 u2) := ey_40.trans (kStp ⟨hI.1, hI.2.1, hR3⟩ hRo (by omega) (by omega) (by rw [ew9]; omega))
      refine lv_istore_n (lv' := [(2, .int (rSt (kW cr inn k1) k2 f3 u2)), (3, .int (nI i)), (0, .ref h), (1, .int x)]) hx hb dX0_comesByRow_40 rfl hl (by decide) (zLvf_h rfl) (fun ls hl => ?_)
      refine lv_iinc (v := nI (i + 1)) (lv' := [(3, .int (nI (i + 1))), (2, .int (rSt (kW cr inn k1) k2 f3 u2)), (0, .ref h), (1, .int x)]) hx hb dX0_comesByRow_41 hl (k := 1) rfl (z_inc i 1) (by decide) (zLvf_h rfl) (fun ls hl => ?_)
      refine lv_goto (tgt := 4) hx hb dX0_comesByRow_44 (by decide) ?_
      have hw_41 : bWays T h la md wy pc_ f1 f2 f3 f4 f5 f6 n4 [zO0 h md wy la pc_ a1_1 a2_2 a3_3 a4_4 a5_5 a6_6, zAr T 0 a1_1 7 f1, zAr T 0 a2_2 7 f2, zAr T 0 a3_3 7 f3, zAr T 0 a4_4 n4 f4, zAr T 0 a5_5 n4 f5, zAr T 0 a6_6 n4 f6] := ⟨a1_1, a2_2, a3_3, a4_4, a5_5, a6_6, rfl⟩
      have G : zS T A s.heap s [[zO0 h md wy la pc_ a1_1 a2_2 a3_3 a4_4 a5_5 a6_6, zAr T 0 a1_1 7 f1, zAr T 0 a2_2 7 f2, zAr T 0 a3_3 7 f3, zAr T 0 a4_4 n4 f4, zAr T 0 a5_5 n4 f5, zAr T 0 a6_6 n4 f6], [zO4 la cr inn a1_7 a2_8 a3_9 a4_10, zAr T 0 a1_7 7 k1, zAr T 0 a2_8 28 k2, zAr T 0 a3_9 7 k3, zAr T 0 a4_10 7 k4]] _ _ := G.re rfl
      exact ih_4 (i + 1) (rSt (kW cr inn k1) k2 f3 u2) (show (i + 1) ≤ cr.toInt.toNat ∧ (rSt (kW cr inn k1) k2 f3 u2) = zLed (rSt (kW cr inn k1) k2 f3) (i + 1) x ∧ (∀ t, t < (i + 1) → rSk (kW cr inn k1) k2 f3 x t = false) from ⟨by omega, (by rw [hu]; rfl), (fun t h9 => by by_cases q9 : t = i <;> first | (rw [q9]; exact rSk_f (by rw [← hu, ew9]; omega)) | exact hsk t (by omega))⟩) (show cr.toInt.toNat - (i + 1) < cr.toInt.toNat - i from by omega) _ _ ls G (lv_sub hl [0, 1, 2, 3] rfl)
set_option maxHeartbeats 4000000 in
set_option maxRecDepth 100000 in
/-- c_f_allComeByRow -/
theorem c_f_allComeByRow (l : Launch) (T : zTy) (h : Nat) (la : Nat) (md : Int32) (wy : Int32) (pc_ : Int32) (f1 : Nat → Int32) (f2 : Nat → Int32) (f3 : Nat → Int32) (f4 : Nat → Int32) (f5 : Nat → Int32) (f6 : Nat → Int32) (n4 : Nat) (ww : va_W) (cr : Int32) (inn : Int32) (k1 : Nat → Int32) (k2 : Nat → Int32) (k3 : Nat → Int32) (k4 : Nat → Int32) (z : va_W) (hww : bWays T h la md wy pc_ f1 f2 f3 f4 f5 f6 n4 ww) (hz : bLand T la cr inn k1 k2 k3 k4 z) (hI : zLI cr k1 k3) (hRo : rPo (kW cr inn k1) f3) (hLq : zLq cr k1 k2) (hR3 : (∀ j, j < 7 → 0 ≤ (f3 j).toInt ∧ (f3 j).toInt ≤ 1000)) : zMi l T yX0_allComeByRow cX0_allComeByRow 2 (some .boolean) 4 0 0 [.ref h] [ww, z] (fun (r : Int32) bs => bs = [ww, z] ∧ ((r = 1 ∧ rAll (rTr (kW cr inn k1) k2 cr.toInt.toNat inn f3) cr.toInt.toNat = true) ∨ (r = 0 ∧ ¬ rAll (rTr (kW cr inn k1) k2 cr.toInt.toNat inn f3) cr.toInt.toNat = true))) := by
  refine zMi_of (own := RX0) (by decide) rfl (Nat.le_of_ble_eq_true rfl) ?_
  intro p e s m args below meth c A ls C hr hlocks hnm hAe G hl
  refine zHide (fun Qz_ hQz_ => ?_)
  have hx := C.1
  have hb := C.2.1
  have hl : lv_has ls 2 [(0, .ref h)] := hl
  have hcr := hI.1
  refine lv_iconst (v := 0) hx hb dX0_allComeByRow_0 (by decide) ?_
  refine lv_istore_n (lv' := [(1, .int 0), (0, .ref h)]) hx hb dX0_allComeByRow_1 rfl hl (by decide) (zLvf_h rfl) (fun ls hl => ?_)
  refine zEx6 hww ?_
  intro a1_1 a2_2 a3_3 a4_4 a5_5 a6_6 hbs9
  clear hww
  subst hbs9
  have G : zS T A s.heap s [[zO0 h md wy la pc_ a1_1 a2_2 a3_3 a4_4 a5_5 a6_6], [zAr T 0 a1_1 7 f1], [zAr T 0 a2_2 7 f2], [zAr T 0 a3_3 7 f3], [zAr T 0 a4_4 n4 f4], [zAr T 0 a5_5 n4 f5], [zAr T 0 a6_6 n4 f6], z] _ _ := G.re rfl
  refine zEx4 hz ?_
  intro a1_7 a2_8 a3_9 a4_10 hbs9
  clear hz
  subst hbs9
  have G : zS T A s.heap s [[zO0 h md wy la pc_ a1_1 a2_2 a3_3 a4_4 a5_5 a6_6], [zAr T 0 a1_1 7 f1], [zAr T 0 a2_2 7 f2], [zAr T 0 a3_3 7 f3], [zAr T 0 a4_4 n4 f4], [zAr T 0 a5_5 n4 f5], [zAr T 0 a6_6 n4 f6], [zO4 la cr inn a1_7 a2_8 a3_9 a4_10], [zAr T 0 a1_7 7 k1], [zAr T 0 a2_8 28 k2], [zAr T 0 a3_9 7 k3], [zAr T 0 a4_10 7 k4]] _ _ := G.re rfl
  have hw_11 : bWays T h la md wy pc_ f1 f2 f3 f4 f5 f6 n4 [zO0 h md wy la pc_ a1_1 a2_2 a3_3 a4_4 a5_5 a6_6, zAr T 0 a1_1 7 f1, zAr T 0 a2_2 7 f2, zAr T 0 a3_3 7 f3, zAr T 0 a4_4 n4 f4, zAr T 0 a5_5 n4 f5, zAr T 0 a6_6 n4 f6] := ⟨a1_1, a2_2, a3_3, a4_4, a5_5, a6_6, rfl⟩
  have G : zS T A s.heap s [[zO0 h md wy la pc_ a1_1 a2_2 a3_3 a4_4 a5_5 a6_6, zAr T 0 a1_1 7 f1, zAr T 0 a2_2 7 f2, zAr T 0 a3_3 7 f3, zAr T 0 a4_4 n4 f4, zAr T 0 a5_5 n4 f5, zAr T 0 a6_6 n4 f6], [zO4 la cr inn a1_7 a2_8 a3_9 a4_10], [zAr T 0 a1_7 7 k1], [zAr T 0 a2_8 28 k2], [zAr T 0 a3_9 7 k3], [zAr T 0 a4_10 7 k4]] _ _ := G.re rfl
  have hw_12 : bLand T la cr inn k1 k2 k3 k4 [zO4 la cr inn a1_7 a2_8 a3_9 a4_10, zAr T 0 a1_7 7 k1, zAr T 0 a2_8 28 k2, zAr T 0 a3_9 7 k3, zAr T 0 a4_10 7 k4] := ⟨a1_7, a2_8, a3_9, a4_10, rfl⟩
  have G : zS T A s.heap s [[zO0 h md wy la pc_ a1_1 a2_2 a3_3 a4_4 a5_5 a6_6, zAr T 0 a1_1 7 f1, zAr T 0 a2_2 7 f2, zAr T 0 a3_3 7 f3, zAr T 0 a4_4 n4 f4, zAr T 0 a5_5 n4 f5, zAr T 0 a6_6 n4 f6], [zO4 la cr inn a1_7 a2_8 a3_9 a4_10, zAr T 0 a1_7 7 k1, zAr T 0 a2_8 28 k2, zAr T 0 a3_9 7 k3, zAr T 0 a4_10 7 k4]] _ _ := G.re rfl
  refine z_lp1 (T := T) 2 (fun (i : Nat) => [[zO0 h md wy la pc_ a1_1 a2_2 a3_3 a4_4 a5_5 a6_6, zAr T 0 a1_1 7 f1, zAr T 0 a2_2 7 f2, zAr T 0 a3_3 7 f3, zAr T 0 a4_4 n4 f4, zAr T 0 a5_5 n4 f5, zAr T 0 a6_6 n4 f6], [zO4 la cr inn a1_7 a2_8 a3_9 a4_10, zAr T 0 a1_7 7 k1, zAr T 0 a2_8 28 k2, zAr T 0 a3_9 7 k3, zAr T 0 a4_10 7 k4]]) (fun (i : Nat) => [(1, .int (nI i)), (0, .ref h)]) (fun (i : Nat) => i ≤ cr.toInt.toNat ∧ rAll (rTr (kW cr inn k1) k2 cr.toInt.toNat inn f3) i = true) (fun (i : Nat) => cr.toInt.toNat - i) ?_ 0 (show 0 ≤ cr.toInt.toNat ∧ rAll (rTr (kW cr inn k1) k2 cr.toInt.toNat inn f3) 0 = true from ⟨by omega, rfl⟩) G (lv_sub hl [0, 1] rfl)
  intro i hI9 ih_2 H locs ls G hl
  replace hI9 : i ≤ cr.toInt.toNat ∧ rAll (rTr (kW cr inn k1) k2 cr.toInt.toNat inn f3) i = true := hI9
  refine zAn2 hI9 ?_
  intro hi hal
  clear hI9
  replace G : zS T A s.heap s [[zO0 h md wy la pc_ a1_1 a2_2 a3_3 a4_4 a5_5 a6_6, zAr T 0 a1_1 7 f1, zAr T 0 a2_2 7 f2, zAr T 0 a3_3 7 f3, zAr T 0 a4_4 n4 f4, zAr T 0 a5_5 n4 f5, zAr T 0 a6_6 n4 f6], [zO4 la cr inn a1_7 a2_8 a3_9 a4_10, zAr T 0 a1_7 7 k1, zAr T 0 a2_8 28 k2, zAr T 0 a3_9 7 k3, zAr T 0 a4_10 7 k4]] _ _ := G
  replace hl : lv_has ls 2 [(1, .int (nI i)), (0, .ref h)] := hl
  refine lv_iload_n hx hb dX0_allComeByRow_2 rfl (lv_at hl 0 rfl) ?_
  refine lv_aload_n hx hb dX0_allComeByRow_3 rfl (lv_at hl 1 rfl) ?_
  have G : zS T A s.heap s [[zO0 h md wy la pc_ a1_1 a2_2 a3_3 a4_4 a5_5 a6_6], [zAr T 0 a1_1 7 f1], [zAr T 0 a2_2 7 f2], [zAr T 0 a3_3 7 f3], [zAr T 0 a4_4 n4 f4], [zAr T 0 a5_5 n4 f5], [zAr T 0 a6_6 n4 f6], [zO4 la cr inn a1_7 a2_8 a3_9 a4_10, zAr T 0 a1_7 7 k1, zAr T 0 a2_8 28 k2, zAr T 0 a3_9 7 k3, zAr T 0 a4_10 7 k4]] _ _ := G.re rfl
  refine z_get C G clX0 0 rfl 2 (by decide) m_fl_RX0_14 rfl dX0_allComeByRow_4 ?_
  have G : zS T A s.heap s [[zO0 h md wy la pc_ a1_1 a2_2 a3_3 a4_4 a5_5 a6_6], [zAr T 0 a1_1 7 f1], [zAr T 0 a2_2 7 f2], [zAr T 0 a3_3 7 f3], [zAr T 0 a4_4 n4 f4], [zAr T 0 a5_5 n4 f5], [zAr T 0 a6_6 n4 f6], [zO4 la cr inn a1_7 a2_8 a3_9 a4_10], [zAr T 0 a1_7 7 k1], [zAr T 0 a2_8 28 k2], [zAr T 0 a3_9 7 k3], [zAr T 0 a4_10 7 k4]] _ _ := G.re rfl
  refine z_get C G clX4 7 rfl 0 (by decide) m_fl_RX0_107 rfl dX0_allComeByRow_7 ?_
  refine lv_icmp_ge (tgt := 40) hx hb dX0_allComeByRow_10 (by decide) (fun c_13 => ?_) (fun c_13 => ?_)
  · have c_13n : cr.toInt ≤ (i : Int) := by have q := (fa_le _ _).mp c_13; rw [nI_toInt (n := i) (by omega)] at q; exact q
    refine lv_iconst (v := 1) hx hb dX0_allComeByRow_40 (by decide) ?_
    have hw_14 : bWays T h la md wy pc_ f1 f2 f3 f4 f5 f6 n4 [zO0 h md wy la pc_ a1_1 a2_2 a3_3 a4_4 a5_5 a6_6, zAr T 0 a1_1 7 f1, zAr T 0 a2_2 7 f2, zAr T 0 a3_3 7 f3, zAr T 0 a4_4 n4 f4, zAr T 0 a5_5 n4 f5, zAr T 0 a6_6 n4 f6] := ⟨a1_1, a2_2, a3_3, a4_4, a5_5, a6_6, rfl⟩
    have G : zS T A s.heap s [[zO0 h md wy la pc_ a1_1 a2_2 a3_3 a4_4 a5_5 a6_6, zAr T 0 a1_1 7 f1, zAr T 0 a2_2 7 f2, zAr T 0 a3_3 7 f3, zAr T 0 a4_4 n4 f4, zAr T 0 a5_5 n4 f5, zAr T 0 a6_6 n4 f6], [zO4 la cr inn a1_7 a2_8 a3_9 a4_10], [zAr T 0 a1_7 7 k1], [zAr T 0 a2_8 28 k2], [zAr T 0 a3_9 7 k3], [zAr T 0 a4_10 7 k4]] _ _ := G.re rfl
    have hw_15 : bLand T la cr inn k1 k2 k3 k4 [zO4 la cr inn a1_7 a2_8 a3_9 a4_10, zAr T 0 a1_7 7 k1, zAr T 0 a2_8 28 k2, zAr T 0 a3_9 7 k3, zAr T 0 a4_10 7 k4] := ⟨a1_7, a2_8, a3_9, a4_10, rfl⟩
    have G : zS T A s.heap s [[zO0 h md wy la pc_ a1_1 a2_2 a3_3 a4_4 a5_5 a6_6, zAr T 0 a1_1 7 f1, zAr T 0 a2_2 7 f2, zAr T 0 a3_3 7 f3, zAr T 0 a4_4 n4 f4, zAr T 0 a5_5 n4 f5, zAr T 0 a6_6 n4 f6], [zO4 la cr inn a1_7 a2_8 a3_9 a4_10, zAr T 0 a1_7 7 k1, zAr T 0 a2_8 28 k2, zAr T 0 a3_9 7 k3, zAr T 0 a4_10 7 k4]] _ _ := G.re rfl
    exact z_back hQz_ (z_zret C hr hlocks G (Nat.le_of_ble_eq_true rfl) (Nat.le_of_ble_eq_true rfl) dX0_allComeByRow_41 rfl ⟨rfl, (Or.inl (⟨rfl, (by rw [show cr.toInt.toNat = i by omega]; exact hal)⟩))⟩)
  · have c_13n : ¬ cr.toInt ≤ (i : Int) := fun q => c_13 ((fa_le _ _).mpr (by rw [nI_toInt (n := i) (by omega)]; exact q))
    refine lv_aload_n hx hb dX0_allComeByRow_13 rfl (lv_at hl 1 rfl) ?_
    refine z_get C G clX0 0 rfl 2 (by decide) m_fl_RX0_14 rfl dX0_allComeByRow_14 ?_
    refine lv_iload_n hx hb dX0_allComeByRow_17 rfl (lv_at hl 0 rfl) ?_
    have hw_16 : bLand T la cr inn k1 k2 k3 k4 [zO4 la cr inn a1_7 a2_8 a3_9 a4_10, zAr T 0 a1_7 7 k1, zAr T 0 a2_8 28 k2, zAr T 0 a3_9 7 k3, zAr T 0 a4_10 7 k4] := ⟨a1_7, a2_8, a3_9, a4_10, rfl⟩
    have G : zS T A s.heap s [[zO0 h md wy la pc_ a1_1 a2_2 a3_3 a4_4 a5_5 a6_6], [zAr T 0 a1_1 7 f1], [zAr T 0 a2_2 7 f2], [zAr T 0 a3_3 7 f3], [zAr T 0 a4_4 n4 f4], [zAr T 0 a5_5 n4 f5], [zAr T 0 a6_6 n4 f6], [zO4 la cr inn a1_7 a2_8 a3_9 a4_10, zAr T 0 a1_7 7 k1, zAr T 0 a2_8 28 k2, zAr T 0 a3_9 7 k3, zAr T 0 a4_10 7 k4]] _ _ := G.re rfl
    refine z_Vi (bc := [[zO4 la cr inn a1_7 a2_8 a3_9 a4_10, zAr T 0 a1_7 7 k1, zAr T 0 a2_8 28 k2, zAr T 0 a3_9 7 k3, zAr T 0 a4_10 7 k4]]) (br := [[zO0 h md wy la pc_ a1_1 a2_2 a3_3 a4_4 a5_5 a6_6], [zAr T 0 a1_1 7 f1], [zAr T 0 a2_2 7 f2], [zAr T 0 a3_3 7 f3], [zAr T 0 a4_4 n4 f4], [zAr T 0 a5_5 n4 f5], [zAr T 0 a6_6 n4 f6]]) (As := [.int (nI i)]) (rest := []) C G (c_waysOut l T la cr inn k1 k2 k3 k4 ([zO4 la cr inn a1_7 a2_8 a3_9 a4_10, zAr T 0 a1_7 7 k1, zAr T 0 a2_8 28 k2, zAr T 0 a3_9 7 k3, zAr T 0 a4_10 7 k4]) (nI i) hw_16) (kV_RX0_61 C.2.2.2.2 (Nat.le_of_ble_eq_true rfl) (Nat.le_of_ble_eq_true rfl)) [7] [7] rfl rfl (ci := 4) (qc := (RX4, TX4, 6)) rfl rfl (List.mem_flatten.mpr ⟨_, List.mem_of_getElem? (i := 0) rfl, (bLand_mem hw_16).choose_spec⟩) rfl rfl hl.1 dX0_allComeByRow_18 (Nat.le_of_ble_eq_true rfl) (Nat.le_of_ble_eq_true rfl) (fun r_18 b1 H locs hw G => ?_)
    refine zAn2 hw ?_
    intro hbs9 h_17
    clear hw
    subst hbs9
    have G : zS T A s.heap s [[zO0 h md wy la pc_ a1_1 a2_2 a3_3 a4_4 a5_5 a6_6], [zAr T 0 a1_1 7 f1], [zAr T 0 a2_2 7 f2], [zAr T 0 a3_3 7 f3], [zAr T 0 a4_4 n4 f4], [zAr T 0 a5_5 n4 f5], [zAr T 0 a6_6 n4 f6], [zO4 la cr inn a1_7 a2_8 a3_9 a4_10, zAr T 0 a1_7 7 k1, zAr T 0 a2_8 28 k2, zAr T 0 a3_9 7 k3, zAr T 0 a4_10 7 k4]] _ _ := G
    subst h_17
    refine lv_if_le (tgt := 34) hx hb dX0_allComeByRow_21 (by decide) (fun c_19 => ?_) (fun c_19 => ?_)
    · have c_19n : (zWays cr inn k1 (nI i)).toInt ≤ (0 : Int) := (fa_le _ _).mp c_19
      have hal9 : rTr (kW cr inn k1) k2 cr.toInt.toNat inn f3 i = true := by unfold rTr; first | (rw [decide_eq_true (show ((kW cr inn k1) i).toInt ≤ 0 from by show (zWays cr inn k1 (nI i)).toInt ≤ 0; omega)]; rfl) | (rw [decide_eq_true (show zBit inn (zLed (rSt (kW cr inn k1) k2 f3) 7 (nI i)) = 1 from by first | with_reducible assumption | assumption), Bool.or_true])
      refine lv_iinc (v := nI (i + 1)) (lv' := [(1, .int (nI (i + 1))), (0, .ref h)]) hx hb dX0_allComeByRow_34 hl (k := 0) rfl (z_inc i 1) (by decide) (zLvf_h rfl) (fun ls hl => ?_)
      refine lv_goto (tgt := 2) hx hb dX0_allComeByRow_37 (by decide) ?_
      have hw_20 : bWays T h la md wy pc_ f1 f2 f3 f4 f5 f6 n4 [zO0 h md wy la pc_ a1_1 a2_2 a3_3 a4_4 a5_5 a6_6, zAr T 0 a1_1 7 f1, zAr T 0 a2_2 7 f2, zAr T 0 a3_3 7 f3, zAr T 0 a4_4 n4 f4, zAr T 0 a5_5 n4 f5, zAr T 0 a6_6 n4 f6] := ⟨a1_1, a2_2, a3_3, a4_4, a5_5, a6_6, rfl⟩
      have G : zS T A s.heap s [[zO0 h md wy la pc_ a1_1 a2_2 a3_3 a4_4 a5_5 a6_6, zAr T 0 a1_1 7 f1, zAr T 0 a2_2 7 f2, zAr T 0 a3_3 7 f3, zAr T 0 a4_4 n4 f4, zAr T 0 a5_5 n4 f5, zAr T 0 a6_6 n4 f6], [zO4 la cr inn a1_7 a2_8 a3_9 a4_10, zAr T 0 a1_7 7 k1, zAr T 0 a2_8 28 k2, zAr T 0 a3_9 7 k3, zAr T 0 a4_10 7 k4]] _ _ := G.re rfl
      exact ih_2 (i + 1) (show (i + 1) ≤ cr.toInt.toNat ∧ rAll (rTr (kW cr inn k1) k2 cr.toInt.toNat inn f3) (i + 1) = true from ⟨by omega, (rAll_s hal hal9)⟩) (show cr.toInt.toNat - (i + 1) < cr.toInt.toNat - i from by omega) _ _ ls G (lv_sub hl [0, 1] rfl)
    · have c_19n : ¬ (zWays cr inn k1 (nI i)).toInt ≤ (0 : Int) := fun q => c_19 ((fa_le _ _).mpr q)
      refine lv_aload_n hx hb dX0_allComeByRow_24 rfl (lv_at hl 1 rfl) ?_
      refine lv_iload_n hx hb dX0_allComeByRow_25 rfl (lv_at hl 0 rfl) ?_
      have ti9 := nI_toInt (n := i) (by omega)
      have hwp9 : 0 < (zWays cr inn k1 (nI i)).toInt := by omega
      have hw_21 : bWays T h la md wy pc_ f1 f2 f3 f4 f5 f6 n4 [zO0 h md wy la pc_ a1_1 a2_2 a3_3 a4_4 a5_5 a6_6, zAr T 0 a1_1 7 f1, zAr T 0 a2_2 7 f2, zAr T 0 a3_3 7 f3, zAr T 0 a4_4 n4 f4, zAr T 0 a5_5 n4 f5, zAr T 0 a6_6 n4 f6] := ⟨a1_1, a2_2, a3_3, a4_4, a5_5, a6_6, rfl⟩
      have G : zS T A s.heap s [[zO0 h md wy la pc_ a1_1 a2_2 a3_3 a4_4 a5_5 a6_6, zAr T 0 a1_1 7 f1, zAr T 0 a2_2 7 f2, zAr T 0 a3_3 7 f3, zAr T 0 a4_4 n4 f4, zAr T 0 a5_5 n4 f5, zAr T 0 a6_6 n4 f6], [zO4 la cr inn a1_7 a2_8 a3_9 a4_10, zAr T 0 a1_7 7 k1, zAr T 0 a2_8 28 k2, zAr T 0 a3_9 7 k3, zAr T 0 a4_10 7 k4]] _ _ := G.re rfl
      refine z_Vi (bc := [[zO0 h md wy la pc_ a1_1 a2_2 a3_3 a4_4 a5_5 a6_6, zAr T 0 a1_1 7 f1, zAr T 0 a2_2 7 f2, zAr T 0 a3_3 7 f3, zAr T 0 a4_4 n4 f4, zAr T 0 a5_5 n4 f5, zAr T 0 a6_6 n4 f6], [zO4 la cr inn a1_7 a2_8 a3_9 a4_10, zAr T 0 a1_7 7 k1, zAr T 0 a2_8 28 k2, zAr T 0 a3_9 7 k3, zAr T 0 a4_10 7 k4]]) (br := []) (As := [.int (nI i)]) (rest := []) C G (c_f_comesByRow l T h la md wy pc_ f1 f2 f3 f4 f5 f6 n4 ([zO0 h md wy la pc_ a1_1 a2_2 a3_3 a4_4 a5_5 a6_6, zAr T 0 a1_1 7 f1, zAr T 0 a2_2 7 f2, zAr T 0 a3_3 7 f3, zAr T 0 a4_4 n4 f4, zAr T 0 a5_5 n4 f5, zAr T 0 a6_6 n4 f6]) cr inn k1 k2 k3 k4 ([zO4 la cr inn a1_7 a2_8 a3_9 a4_10, zAr T 0 a1_7 7 k1, zAr T 0 a2_8 28 k2, zAr T 0 a3_9 7 k3, zAr T 0 a4_10 7 k4]) (nI i) hw_21 hw_16 (by first | with_reducible assumption | with_reducible rfl | omega | assumption | rfl) (by omega) (by omega) (by first | with_reducible assumption | with_reducible rfl | omega | assumption | rfl) (by first | with_reducible assumption | with_reducible rfl | omega | assumption | rfl) (by first | with_reducible assumption | with_reducible rfl | omega | assumption | rfl)) (kV_RX0_129 C.2.2.2.2 (Nat.le_of_ble_eq_true rfl) (Nat.le_of_ble_eq_true rfl)) [0, 1] [0, 0] rfl rfl (ci := 0) (qc := (RX0, TX0, 10)) rfl rfl (List.mem_flatten.mpr ⟨_, List.mem_of_getElem? (i := 0) rfl, (bWays_mem hw_21).choose_spec⟩) rfl rfl hl.1 dX0_allComeByRow_26 (Nat.le_of_ble_eq_true rfl) (Nat.le_of_ble_eq_true rfl) (fun r_23 b1 H locs hw G => ?_)
      refine zAn2 hw ?_
      intro hbs9 hc_22
      clear hw
      subst hbs9
      have G : zS T A s.heap s [[zO0 h md wy la pc_ a1_1 a2_2 a3_3 a4_4 a5_5 a6_6, zAr T 0 a1_1 7 f1, zAr T 0 a2_2 7 f2, zAr T 0 a3_3 7 f3, zAr T 0 a4_4 n4 f4, zAr T 0 a5_5 n4 f5, zAr T 0 a6_6 n4 f6], [zO4 la cr inn a1_7 a2_8 a3_9 a4_10, zAr T 0 a1_7 7 k1, zAr T 0 a2_8 28 k2, zAr T 0 a3_9 7 k3, zAr T 0 a4_10 7 k4]] _ _ := G
      rcases hc_22 with ⟨rfl, h_24⟩ | ⟨rfl, h_25⟩
      · have h_24 : zBit inn (zLed (rSt (kW cr inn k1) k2 f3) 7 (nI i)) = 1 := h_24
        refine lv_if_ne (tgt := 34) hx hb dX0_allComeByRow_29 (by decide) (fun _ => ?_) (fun q => absurd q (by decide))
        have hal9 : rTr (kW cr inn k1) k2 cr.toInt.toNat inn f3 i = true := by unfold rTr; first | (rw [decide_eq_true (show ((kW cr inn k1) i).toInt ≤ 0 from by show (zWays cr inn k1 (nI i)).toInt ≤ 0; omega)]; rfl) | (rw [decide_eq_true (show zBit inn (zLed (rSt (kW cr inn k1) k2 f3) 7 (nI i)) = 1 from by first | with_reducible assumption | assumption), Bool.or_true])
        refine lv_iinc (v := nI (i + 1)) (lv' := [(1, .int (nI (i + 1))), (0, .ref h)]) hx hb dX0_allComeByRow_34 hl (k := 0) rfl (z_inc i 1) (by decide) (zLvf_h rfl) (fun ls hl => ?_)
        refine lv_goto (tgt := 2) hx hb dX0_allComeByRow_37 (by decide) ?_
        exact ih_2 (i + 1) (show (i + 1) ≤ cr.toInt.toNat ∧ rAll (rTr (kW cr inn k1) k2 cr.toInt.toNat inn f3) (i + 1) = true from ⟨by omega, (rAll_s hal hal9)⟩) (show cr.toInt.toNat - (i + 1) < cr.toInt.toNat - i from by omega) _ _ ls G (lv_sub hl [0, 1] rfl)
      · have h_25 : ¬ zBit inn (zLed (rSt (kW cr inn k1) k2 f3) 7 (nI i)) = 1 := h_25
        refine lv_if_ne (tgt := 34) hx hb dX0_allComeByRow_29 (by decide) (fun q => absurd (by decide) q) (fun _ => ?_)
        refine lv_iconst (v := 0) hx hb dX0_allComeByRow_32 (by decide) ?_
        exact z_back hQz_ (z_zret C hr hlocks G (Nat.le_of_ble_eq_true rfl) (Nat.le_of_ble_eq_true rfl) dX0_allComeByRow_33 rfl ⟨rfl, (Or.inr (⟨rfl, (fun q9 => by have q8 := (rAll_y _).mp q9 i (by omega); unfold rTr at q8; rw [decide_eq_false (show ¬ ((kW cr inn k1) i).toInt ≤ 0 from by show ¬ (zWays cr inn k1 (nI i)).toInt ≤ 0; omega), decide_eq_false (show ¬ zBit inn (zLed (rSt (kW cr inn k1) k2 f3) 7 (nI i)) = 1 from by first | with_reducible assumption | assumption)] at q8; exact absurd q8 (by decide))⟩))⟩)
set_option maxHeartbeats 4000000 in
set_option maxRecDepth 100000 in
/-- treesOf -/
theorem c_f_treesOf (l : Launch) (T : zTy) (h : Nat) (la : Nat) (md : Int32) (wy : Int32) (pc_ : Int32) (f1 : Nat → Int32) (f2 : Nat → Int32) (f3 : Nat → Int32) (f4 : Nat → Int32) (f5 : Nat → Int32) (f6 : Nat → Int32) (n4 : Nat) (ww : va_W) (o : Nat) (cr : Int32) (inn : Int32) (k1 : Nat → Int32) (k2 : Nat → Int32) (k3 : Nat → Int32) (k4 : Nat → Int32) (z : va_W) (hww : bWays T h la md wy pc_ f1 f2 f3 f4 f5 f6 n4 ww) (hz : bLand T o cr inn k1 k2 k3 k4 z) (hI : zLI cr k1 k3) (hLq : zLq cr k1 k2) : zMi l T yX0_treesOf cX0_treesOf 4 (some .int) 5 0 0 [.ref h, .ref o] [ww, z] (fun (r : Int32) bs => ∃ (w2 : va_W) (g1 : Nat → Int32) (g2 : Nat → Int32) (g3 : Nat → Int32), bs = [w2, z] ∧ bWays T h o md (zWy cr inn k1) (zPl cr inn k1) g1 g2 g3 f4 f5 f6 n4 w2 ∧ aF cr inn k1 g1 g2 ∧ r = rTrs (kW cr inn k1) k2 cr.toInt.toNat inn) := by
  refine zMi_of (own := RX0) (by decide) rfl (Nat.le_of_ble_eq_true rfl) ?_
  intro p e s m args below meth c A ls C hr hlocks hnm hAe G hl
  refine zHide (fun Qz_ hQz_ => ?_)
  have hx := C.1
  have hb := C.2.1
  have hl : lv_has ls 4 [(0, .ref h), (1, .ref o)] := hl
  refine lv_aload_n hx hb dX0_treesOf_0 rfl (lv_at hl 0 rfl) ?_
  refine lv_aload_n hx hb dX0_treesOf_1 rfl (lv_at hl 1 rfl) ?_
  refine z_Vv (bc := [ww, z]) (br := []) (As := [.ref o]) (rest := []) C G (c_f_countWays l T h la md wy pc_ f1 f2 f3 f4 f5 f6 n4 ww o cr inn k1 k2 k3 k4 z hww hz) (kV_RX0_41 C.2.2.2.2 (Nat.le_of_ble_eq_true rfl) (Nat.le_of_ble_eq_true rfl)) [0, 1] [0, 0] rfl rfl (ci := 0) (qc := (RX0, TX0, 10)) rfl rfl (List.mem_flatten.mpr ⟨_, List.mem_of_getElem? (i := 0) rfl, (bWays_mem hww).choose_spec⟩) rfl rfl hl.1 dX0_treesOf_2 (Nat.le_of_ble_eq_true rfl) (Nat.le_of_ble_eq_true rfl) (fun b1 H locs hw G => ?_)
  refine zEx3 hw ?_
  intro w2_1 g1_2 g2_3
  refine zCu3 ?_
  intro hbs9 h_4 h_5
  clear hw
  subst hbs9
  have G : zS T A s.heap s [w2_1, z] _ _ := G
  have hwl := Int32.toInt_lt (zWy cr inn k1)
  have hp79 : aPr (kW cr inn k1) 7 ≤ 16384 := aPr_7 hI
  have hwT9 : (zWy cr inn k1).toInt = ((aPr (kW cr inn k1) 7 : Nat) : Int) := by rw [zWy_z hI]; exact nI_toInt (n := aPr (kW cr inn k1) 7) (by omega)
  refine lv_iconst (v := 0) hx hb dX0_treesOf_5 (by decide) ?_
  refine lv_istore_n (lv' := [(2, .int 0), (0, .ref h), (1, .ref o)]) hx hb dX0_treesOf_6 rfl hl (by decide) (zLvf_h rfl) (fun ls hl => ?_)
  refine lv_iconst (v := 0) hx hb dX0_treesOf_7 (by decide) ?_
  refine lv_istore_n (lv' := [(3, .int 0), (2, .int 0), (0, .ref h), (1, .ref o)]) hx hb dX0_treesOf_8 rfl hl (by decide) (zLvf_h rfl) (fun ls hl => ?_)
  refine zEx6 h_4 ?_
  intro a1_7 a2_8 a3_9 a4_10 a5_11 a6_12 hbs9
  clear h_4
  subst hbs9
  have G : zS T A s.heap s [[zO0 h md (zWy cr inn k1) o (zPl cr inn k1) a1_7 a2_8 a3_9 a4_10 a5_11 a6_12], [zAr T 0 a1_7 7 g1_2], [zAr T 0 a2_8 7 g2_3], [zAr T 0 a3_9 7 f3], [zAr T 0 a4_10 n4 f4], [zAr T 0 a5_11 n4 f5], [zAr T 0 a6_12 n4 f6], z] _ _ := G.re rfl
  have hw_13 : bWays T h o md (zWy cr inn k1) (zPl cr inn k1) g1_2 g2_3 f3 f4 f5 f6 n4 [zO0 h md (zWy cr inn k1) o (zPl cr inn k1) a1_7 a2_8 a3_9 a4_10 a5_11 a6_12, zAr T 0 a1_7 7 g1_2, zAr T 0 a2_8 7 g2_3, zAr T 0 a3_9 7 f3, zAr T 0 a4_10 n4 f4, zAr T 0 a5_11 n4 f5, zAr T 0 a6_12 n4 f6] := ⟨a1_7, a2_8, a3_9, a4_10, a5_11, a6_12, rfl⟩
  have G : zS T A s.heap s [[zO0 h md (zWy cr inn k1) o (zPl cr inn k1) a1_7 a2_8 a3_9 a4_10 a5_11 a6_12, zAr T 0 a1_7 7 g1_2, zAr T 0 a2_8 7 g2_3, zAr T 0 a3_9 7 f3, zAr T 0 a4_10 n4 f4, zAr T 0 a5_11 n4 f5, zAr T 0 a6_12 n4 f6], z] _ _ := G.re rfl
  refine z_lp3 (T := T) 9 (fun (i : Nat) (wt : va_W) (x3 : Nat → Int32) => [wt, z]) (fun (i : Nat) (wt : va_W) (x3 : Nat → Int32) => [(3, .int (nI i)), (2, .int 0), (0, .ref h), (1, .ref o)]) (fun (i : Nat) (wt : va_W) (x3 : Nat → Int32) => bWays T h o md (zWy cr inn k1) (zPl cr inn k1) g1_2 g2_3 x3 f4 f5 f6 n4 wt ∧ i ≤ 7 ∧ (∀ j, j < i → x3 j = 0)) (fun (i : Nat) (wt : va_W) (x3 : Nat → Int32) => 7 - i) ?_ 0 ([zO0 h md (zWy cr inn k1) o (zPl cr inn k1) a1_7 a2_8 a3_9 a4_10 a5_11 a6_12, zAr T 0 a1_7 7 g1_2, zAr T 0 a2_8 7 g2_3, zAr T 0 a3_9 7 f3, zAr T 0 a4_10 n4 f4, zAr T 0 a5_11 n4 f5, zAr T 0 a6_12 n4 f6]) f3 (show bWays T h o md (zWy cr inn k1) (zPl cr inn k1) g1_2 g2_3 f3 f4 f5 f6 n4 ([zO0 h md (zWy cr inn k1) o (zPl cr inn k1) a1_7 a2_8 a3_9 a4_10 a5_11 a6_12, zAr T 0 a1_7 7 g1_2, zAr T 0 a2_8 7 g2_3, zAr T 0 a3_9 7 f3, zAr T 0 a4_10 n4 f4, zAr T 0 a5_11 n4 f5, zAr T 0 a6_12 n4 f6]) ∧ 0 ≤ 7 ∧ (∀ j, j < 0 → f3 j = 0) from ⟨hw_13, by omega, (fun j hj => absurd hj (by omega))⟩) G (lv_sub hl [0, 1, 2, 3] rfl)
  intro i wt x3 hI9 ih_9 H locs ls G hl
  replace hI9 : bWays T h o md (zWy cr inn k1) (zPl cr inn k1) g1_2 g2_3 x3 f4 f5 f6 n4 wt ∧ i ≤ 7 ∧ (∀ j, j < i → x3 j = 0) := hI9
  refine zAn3 hI9 ?_
  intro hwt hi hx30
  clear hI9
  replace G : zS T A s.heap s [wt, z] _ _ := G
  replace hl : lv_has ls 4 [(3, .int (nI i)), (2, .int 0), (0, .ref h), (1, .ref o)] := hl
  refine lv_iload_n hx hb dX0_treesOf_9 rfl (lv_at hl 0 rfl) ?_
  refine lv_bipush (v := 7) hx hb dX0_treesOf_10 (by decide) ?_
  refine lv_icmp_ge (tgt := 28) hx hb dX0_treesOf_12 (by decide) (fun c_14 => ?_) (fun c_14 => ?_)
  · have c_14n : 7 ≤ i := (nI_leI (a := 7) (b := i) (by omega) (by omega)).mp c_14
    refine lv_iconst (v := 0) hx hb dX0_treesOf_28 (by decide) ?_
    refine lv_istore_n (lv' := [(3, .int 0), (2, .int 0), (0, .ref h), (1, .ref o)]) hx hb dX0_treesOf_29 rfl hl (by decide) (zLvf_h rfl) (fun ls hl => ?_)
    refine zEx6 hwt ?_
    intro a1_15 a2_16 a3_17 a4_18 a5_19 a6_20 hbs9
    clear hwt
    subst hbs9
    have G : zS T A s.heap s [[zO0 h md (zWy cr inn k1) o (zPl cr inn k1) a1_15 a2_16 a3_17 a4_18 a5_19 a6_20], [zAr T 0 a1_15 7 g1_2], [zAr T 0 a2_16 7 g2_3], [zAr T 0 a3_17 7 x3], [zAr T 0 a4_18 n4 f4], [zAr T 0 a5_19 n4 f5], [zAr T 0 a6_20 n4 f6], z] _ _ := G.re rfl
    have hw_21 : bWays T h o md (zWy cr inn k1) (zPl cr inn k1) g1_2 g2_3 x3 f4 f5 f6 n4 [zO0 h md (zWy cr inn k1) o (zPl cr inn k1) a1_15 a2_16 a3_17 a4_18 a5_19 a6_20, zAr T 0 a1_15 7 g1_2, zAr T 0 a2_16 7 g2_3, zAr T 0 a3_17 7 x3, zAr T 0 a4_18 n4 f4, zAr T 0 a5_19 n4 f5, zAr T 0 a6_20 n4 f6] := ⟨a1_15, a2_16, a3_17, a4_18, a5_19, a6_20, rfl⟩
    have G : zS T A s.heap s [[zO0 h md (zWy cr inn k1) o (zPl cr inn k1) a1_15 a2_16 a3_17 a4_18 a5_19 a6_20, zAr T 0 a1_15 7 g1_2, zAr T 0 a2_16 7 g2_3, zAr T 0 a3_17 7 x3, zAr T 0 a4_18 n4 f4, zAr T 0 a5_19 n4 f5, zAr T 0 a6_20 n4 f6], z] _ _ := G.re rfl
    refine z_lp4 (T := T) 30 (fun (j : Nat) (cm : Nat) (wu : va_W) (y3 : Nat → Int32) => [wu, z]) (fun (j : Nat) (cm : Nat) (wu : va_W) (y3 : Nat → Int32) => [(3, .int (nI j)), (2, .int (nI cm)), (0, .ref h), (1, .ref o)]) (fun (j : Nat) (cm : Nat) (wu : va_W) (y3 : Nat → Int32) => bWays T h o md (zWy cr inn k1) (zPl cr inn k1) g1_2 g2_3 y3 f4 f5 f6 n4 wu ∧ j ≤ aPr (kW cr inn k1) 7 ∧ cm = rCn (fun w => rAll (rTr (kW cr inn k1) k2 cr.toInt.toNat inn (aPo (kW cr inn k1) w)) cr.toInt.toNat) j ∧ (j < aPr (kW cr inn k1) 7 → ∀ c, c < 7 → y3 c = aPo (kW cr inn k1) j c)) (fun (j : Nat) (cm : Nat) (wu : va_W) (y3 : Nat → Int32) => aPr (kW cr inn k1) 7 - j) ?_ 0 0 ([zO0 h md (zWy cr inn k1) o (zPl cr inn k1) a1_15 a2_16 a3_17 a4_18 a5_19 a6_20, zAr T 0 a1_15 7 g1_2, zAr T 0 a2_16 7 g2_3, zAr T 0 a3_17 7 x3, zAr T 0 a4_18 n4 f4, zAr T 0 a5_19 n4 f5, zAr T 0 a6_20 n4 f6]) x3 (show bWays T h o md (zWy cr inn k1) (zPl cr inn k1) g1_2 g2_3 x3 f4 f5 f6 n4 ([zO0 h md (zWy cr inn k1) o (zPl cr inn k1) a1_15 a2_16 a3_17 a4_18 a5_19 a6_20, zAr T 0 a1_15 7 g1_2, zAr T 0 a2_16 7 g2_3, zAr T 0 a3_17 7 x3, zAr T 0 a4_18 n4 f4, zAr T 0 a5_19 n4 f5, zAr T 0 a6_20 n4 f6]) ∧ 0 ≤ aPr (kW cr inn k1) 7 ∧ 0 = rCn (fun w => rAll (rTr (kW cr inn k1) k2 cr.toInt.toNat inn (aPo (kW cr inn k1) w)) cr.toInt.toNat) 0 ∧ (0 < aPr (kW cr inn k1) 7 → ∀ c, c < 7 → x3 c = aPo (kW cr inn k1) 0 c) from ⟨hw_21, (Nat.zero_le _), rfl, (fun _ c hc => by rw [hx30 c (by omega)]; unfold aPo aRd; rw [Nat.zero_div, Nat.zero_mod]; rfl)⟩) G (lv_sub hl [0, 1, 2, 3] rfl)
    intro j cm wu y3 hI9 ih_30 H locs ls G hl
    replace hI9 : bWays T h o md (zWy cr inn k1) (zPl cr inn k1) g1_2 g2_3 y3 f4 f5 f6 n4 wu ∧ j ≤ aPr (kW cr inn k1) 7 ∧ cm = rCn (fun w => rAll (rTr (kW cr inn k1) k2 cr.toInt.toNat inn (aPo (kW cr inn k1) w)) cr.toInt.toNat) j ∧ (j < aPr (kW cr inn k1) 7 → ∀ c, c < 7 → y3 c = aPo (kW cr inn k1) j c) := hI9
    refine zAn4 hI9 ?_
    intro hwu hj hcm hy3
    clear hI9
    replace G : zS T A s.heap s [wu, z] _ _ := G
    replace hl : lv_has ls 4 [(3, .int (nI j)), (2, .int (nI cm)), (0, .ref h), (1, .ref o)] := hl
    refine lv_iload_n hx hb dX0_treesOf_30 rfl (lv_at hl 0 rfl) ?_
    refine lv_aload_n hx hb dX0_treesOf_31 rfl (lv_at hl 2 rfl) ?_
    refine zEx6 hwu ?_
    intro a1_22 a2_23 a3_24 a4_25 a5_26 a6_27 hbs9
    clear hwu
    subst hbs9
    have G : zS T A s.heap s [[zO0 h md (zWy cr inn k1) o (zPl cr inn k1) a1_22 a2_23 a3_24 a4_25 a5_26 a6_27], [zAr T 0 a1_22 7 g1_2], [zAr T 0 a2_23 7 g2_3], [zAr T 0 a3_24 7 y3], [zAr T 0 a4_25 n4 f4], [zAr T 0 a5_26 n4 f5], [zAr T 0 a6_27 n4 f6], z] _ _ := G.re rfl
    refine z_get C G clX0 0 rfl 1 (by decide) m_fl_RX0_57 rfl dX0_treesOf_32 ?_
    refine lv_icmp_ge (tgt := 58) hx hb dX0_treesOf_35 (by decide) (fun c_28 => ?_) (fun c_28 => ?_)
    · have c_28n : (zWy cr inn k1).toInt ≤ (j : Int) := by have q := (fa_le _ _).mp c_28; rw [nI_toInt (n := j) (by omega)] at q; exact q
      refine lv_iload_n hx hb dX0_treesOf_58 rfl (lv_at hl 1 rfl) ?_
      have hw_29 : bWays T h o md (zWy cr inn k1) (zPl cr inn k1) g1_2 g2_3 y3 f4 f5 f6 n4 [zO0 h md (zWy cr inn k1) o (zPl cr inn k1) a1_22 a2_23 a3_24 a4_25 a5_26 a6_27, zAr T 0 a1_22 7 g1_2, zAr T 0 a2_23 7 g2_3, zAr T 0 a3_24 7 y3, zAr T 0 a4_25 n4 f4, zAr T 0 a5_26 n4 f5, zAr T 0 a6_27 n4 f6] := ⟨a1_22, a2_23, a3_24, a4_25, a5_26, a6_27, rfl⟩
      have G : zS T A s.heap s [[zO0 h md (zWy cr inn k1) o (zPl cr inn k1) a1_22 a2_23 a3_24 a4_25 a5_26 a6_27, zAr T 0 a1_22 7 g1_2, zAr T 0 a2_23 7 g2_3, zAr T 0 a3_24 7 y3, zAr T 0 a4_25 n4 f4, zAr T 0 a5_26 n4 f5, zAr T 0 a6_27 n4 f6], z] _ _ := G.re rfl
      exact z_back hQz_ (z_iret C hr hlocks G (Nat.le_of_ble_eq_true rfl) (Nat.le_of_ble_eq_true rfl) dX0_treesOf_59 ⟨([zO0 h md (zWy cr inn k1) o (zPl cr inn k1) a1_22 a2_23 a3_24 a4_25 a5_26 a6_27, zAr T 0 a1_22 7 g1_2, zAr T 0 a2_23 7 g2_3, zAr T 0 a3_24 7 y3, zAr T 0 a4_25 n4 f4, zAr T 0 a5_26 n4 f5, zAr T 0 a6_27 n4 f6]), g1_2, g2_3, y3, rfl, hw_29, h_5, (by rw [hcm, show j = aPr (kW cr inn k1) 7 by omega]; rfl)⟩)
    · have c_28n : ¬ (zWy cr inn k1).toInt ≤ (j : Int) := fun q => c_28 ((fa_le _ _).mpr (by rw [nI_toInt (n := j) (by omega)]; exact q))
      have hjl9 : j < aPr (kW cr inn k1) 7 := by omega
      have hyj9 := hy3 hjl9
      have hRo9 : rPo (kW cr inn k1) y3 := fun c hc hw => by rw [hyj9 c hc]; exact aPo_in (fun c hc => (zWays_le (inn := inn) hI (nI c)).2) c hc hw
      have hR39 : ∀ j, j < 7 → 0 ≤ (y3 j).toInt ∧ (y3 j).toInt ≤ 1000 := fun c hc => by rw [hyj9 c hc]; have q9 := aRd_lt (W := (kW cr inn k1)) (w := j) (c := c); have q8 : aCh (kW cr inn k1) c ≤ 4 := aCh_4 (inn := inn) hI c; unfold aPo; rw [nI_toInt (by omega)]; omega
      have haw9 : rAll (rTr (kW cr inn k1) k2 cr.toInt.toNat inn y3) cr.toInt.toNat = true ↔ (fun w => rAll (rTr (kW cr inn k1) k2 cr.toInt.toNat inn (aPo (kW cr inn k1) w)) cr.toInt.toNat) j = true := by show _ ↔ rAll (rTr (kW cr inn k1) k2 cr.toInt.toNat inn (aPo (kW cr inn k1) j)) cr.toInt.toNat = true; rw [rAll_cg cr.toInt.toNat (fun c hc => rTr_cg (kOk (inn := inn) hI hLq) (fun _ _ => rfl) zLs_rf hyj9 hRo9 hc)]
      refine lv_aload_n hx hb dX0_treesOf_38 rfl (lv_at hl 2 rfl) ?_
      have hw_30 : bWays T h o md (zWy cr inn k1) (zPl cr inn k1) g1_2 g2_3 y3 f4 f5 f6 n4 [zO0 h md (zWy cr inn k1) o (zPl cr inn k1) a1_22 a2_23 a3_24 a4_25 a5_26 a6_27, zAr T 0 a1_22 7 g1_2, zAr T 0 a2_23 7 g2_3, zAr T 0 a3_24 7 y3, zAr T 0 a4_25 n4 f4, zAr T 0 a5_26 n4 f5, zAr T 0 a6_27 n4 f6] := ⟨a1_22, a2_23, a3_24, a4_25, a5_26, a6_27, rfl⟩
      have G : zS T A s.heap s [[zO0 h md (zWy cr inn k1) o (zPl cr inn k1) a1_22 a2_23 a3_24 a4_25 a5_26 a6_27, zAr T 0 a1_22 7 g1_2, zAr T 0 a2_23 7 g2_3, zAr T 0 a3_24 7 y3, zAr T 0 a4_25 n4 f4, zAr T 0 a5_26 n4 f5, zAr T 0 a6_27 n4 f6], z] _ _ := G.re rfl
      refine z_Vi (bc := [[zO0 h md (zWy cr inn k1) o (zPl cr inn k1) a1_22 a2_23 a3_24 a4_25 a5_26 a6_27, zAr T 0 a1_22 7 g1_2, zAr T 0 a2_23 7 g2_3, zAr T 0 a3_24 7 y3, zAr T 0 a4_25 n4 f4, zAr T 0 a5_26 n4 f5, zAr T 0 a6_27 n4 f6], z]) (br := []) (As := []) (rest := []) C G (c_f_allComeByRow l T h o md (zWy cr inn k1) (zPl cr inn k1) g1_2 g2_3 y3 f4 f5 f6 n4 ([zO0 h md (zWy cr inn k1) o (zPl cr inn k1) a1_22 a2_23 a3_24 a4_25 a5_26 a6_27, zAr T 0 a1_22 7 g1_2, zAr T 0 a2_23 7 g2_3, zAr T 0 a3_24 7 y3, zAr T 0 a4_25 n4 f4, zAr T 0 a5_26 n4 f5, zAr T 0 a6_27 n4 f6]) cr inn k1 k2 k3 k4 z hw_30 hz (by first | with_reducible assumption | with_reducible rfl | omega | assumption | rfl) hRo9 hLq hR39) (kV_RX0_122 C.2.2.2.2 (Nat.le_of_ble_eq_true rfl) (Nat.le_of_ble_eq_true rfl)) [0, 1] [0, 0] rfl rfl (ci := 0) (qc := (RX0, TX0, 10)) rfl rfl (List.mem_flatten.mpr ⟨_, List.mem_of_getElem? (i := 0) rfl, (bWays_mem hw_30).choose_spec⟩) rfl rfl hl.1 dX0_treesOf_39 (Nat.le_of_ble_eq_true rfl) (Nat.le_of_ble_eq_true rfl) (fun r_32 b1 H locs hw G => ?_)
      refine zAn2 hw ?_
      intro hbs9 hc_31
      clear hw
      subst hbs9
      have G : zS T A s.heap s [[zO0 h md (zWy cr inn k1) o (zPl cr inn k1) a1_22 a2_23 a3_24 a4_25 a5_26 a6_27, zAr T 0 a1_22 7 g1_2, zAr T 0 a2_23 7 g2_3, zAr T 0 a3_24 7 y3, zAr T 0 a4_25 n4 f4, zAr T 0 a5_26 n4 f5, zAr T 0 a6_27 n4 f6], z] _ _ := G
      rcases hc_31 with ⟨rfl, h_33⟩ | ⟨rfl, h_34⟩
      · have h_33 : rAll (rTr (kW cr inn k1) k2 cr.toInt.toNat inn y3) cr.toInt.toNat = true := h_33
        refine lv_if_eq (tgt := 48) hx hb dX0_treesOf_42 (by decide) (fun q => absurd q (by decide)) (fun _ => ?_)
        refine lv_iinc (v := nI (cm + 1)) (lv' := [(2, .int (nI (cm + 1))), (3, .int (nI j)), (0, .ref h), (1, .ref o)]) hx hb dX0_treesOf_45 hl (k := 1) rfl (z_inc cm 1) (by decide) (zLvf_h rfl) (fun ls hl => ?_)
        refine lv_aload_n hx hb dX0_treesOf_48 rfl (lv_at hl 2 rfl) ?_
        refine z_Vv (bc := [[zO0 h md (zWy cr inn k1) o (zPl cr inn k1) a1_22 a2_23 a3_24 a4_25 a5_26 a6_27, zAr T 0 a1_22 7 g1_2, zAr T 0 a2_23 7 g2_3, zAr T 0 a3_24 7 y3, zAr T 0 a4_25 n4 f4, zAr T 0 a5_26 n4 f5, zAr T 0 a6_27 n4 f6]]) (br := [z]) (As := []) (rest := []) C G (c_f_nextRow l T h o md (zWy cr inn k1) (zPl cr inn k1) g1_2 g2_3 y3 f4 f5 f6 n4 ([zO0 h md (zWy cr inn k1) o (zPl cr inn k1) a1_22 a2_23 a3_24 a4_25 a5_26 a6_27, zAr T 0 a1_22 7 g1_2, zAr T 0 a2_23 7 g2_3, zAr T 0 a3_24 7 y3, zAr T 0 a4_25 n4 f4, zAr T 0 a5_26 n4 f5, zAr T 0 a6_27 n4 f6]) (kW cr inn k1) j hw_30 (fun c hc => (h_5.1 c hc).trans (aCh_z hI c)) (fun c => aCh_4 (inn := inn) hI c) hyj9 hjl9) (kV_RX0_126 C.2.2.2.2 (Nat.le_of_ble_eq_true rfl) (Nat.le_of_ble_eq_true rfl)) [0] [0] rfl rfl (ci := 0) (qc := (RX0, TX0, 10)) rfl rfl (List.mem_flatten.mpr ⟨_, List.mem_of_getElem? (i := 0) rfl, (bWays_mem hw_30).choose_spec⟩) rfl rfl hl.1 dX0_treesOf_49 (Nat.le_of_ble_eq_true rfl) (Nat.le_of_ble_eq_true rfl) (fun b1 H locs hw G => ?_)
        refine zEx2 hw ?_
        intro w2_35 g3_36
        refine zCu3 ?_
        intro hbs9 h_37 h_38
        clear hw
        subst hbs9
        have G : zS T A s.heap s [z, w2_35] _ _ := G
        refine lv_iinc (v := nI (j + 1)) (lv' := [(3, .int (nI (j + 1))), (2, .int (nI (cm + 1))), (0, .ref h), (1, .ref o)]) hx hb dX0_treesOf_52 hl (k := 1) rfl (z_inc j 1) (by decide) (zLvf_h rfl) (fun ls hl => ?_)
        refine lv_goto (tgt := 30) hx hb dX0_treesOf_55 (by decide) ?_
        have G := G.sub (bs' := [w2_35, z]) [1, 0] rfl
        exact ih_30 (j + 1) (cm + 1) w2_35 g3_36 (show bWays T h o md (zWy cr inn k1) (zPl cr inn k1) g1_2 g2_3 g3_36 f4 f5 f6 n4 w2_35 ∧ (j + 1) ≤ aPr (kW cr inn k1) 7 ∧ (cm + 1) = rCn (fun w => rAll (rTr (kW cr inn k1) k2 cr.toInt.toNat inn (aPo (kW cr inn k1) w)) cr.toInt.toNat) (j + 1) ∧ ((j + 1) < aPr (kW cr inn k1) 7 → ∀ c, c < 7 → g3_36 c = aPo (kW cr inn k1) (j + 1) c) from ⟨h_37, (by omega), (by rw [hcm]; exact (rCn_t (p := (fun w => rAll (rTr (kW cr inn k1) k2 cr.toInt.toNat inn (aPo (kW cr inn k1) w)) cr.toInt.toNat)) (haw9.mp (by first | with_reducible assumption | assumption))).symm), h_38⟩) (show aPr (kW cr inn k1) 7 - (j + 1) < aPr (kW cr inn k1) 7 - j from by omega) _ _ ls G (lv_sub hl [0, 1, 2, 3] rfl)
      · have h_34 : ¬ rAll (rTr (kW cr inn k1) k2 cr.toInt.toNat inn y3) cr.toInt.toNat = true := h_34
        refine lv_if_eq (tgt := 48) hx hb dX0_treesOf_42 (by decide) (fun _ => ?_) (fun q => absurd (by decide) q)
        refine lv_aload_n hx hb dX0_treesOf_48 rfl (lv_at hl 2 rfl) ?_
        refine z_Vv (bc := [[zO0 h md (zWy cr inn k1) o (zPl cr inn k1) a1_22 a2_23 a3_24 a4_25 a5_26 a6_27, zAr T 0 a1_22 7 g1_2, zAr T 0 a2_23 7 g2_3, zAr T 0 a3_24 7 y3, zAr T 0 a4_25 n4 f4, zAr T 0 a5_26 n4 f5, zAr T 0 a6_27 n4 f6]]) (br := [z]) (As := []) (rest := []) C G (c_f_nextRow l T h o md (zWy cr inn k1) (zPl cr inn k1) g1_2 g2_3 y3 f4 f5 f6 n4 ([zO0 h md (zWy cr inn k1) o (zPl cr inn k1) a1_22 a2_23 a3_24 a4_25 a5_26 a6_27, zAr T 0 a1_22 7 g1_2, zAr T 0 a2_23 7 g2_3, zAr T 0 a3_24 7 y3, zAr T 0 a4_25 n4 f4, zAr T 0 a5_26 n4 f5, zAr T 0 a6_27 n4 f6]) (kW cr inn k1) j hw_30 (fun c hc => (h_5.1 c hc).trans (aCh_z hI c)) (fun c => aCh_4 (inn := inn) hI c) hyj9 hjl9) (kV_RX0_126 C.2.2.2.2 (Nat.le_of_ble_eq_true rfl) (Nat.le_of_ble_eq_true rfl)) [0] [0] rfl rfl (ci := 0) (qc := (RX0, TX0, 10)) rfl rfl (List.mem_flatten.mpr ⟨_, List.mem_of_getElem? (i := 0) rfl, (bWays_mem hw_30).choose_spec⟩) rfl rfl hl.1 dX0_treesOf_49 (Nat.le_of_ble_eq_true rfl) (Nat.le_of_ble_eq_true rfl) (fun b1 H locs hw G => ?_)
        refine zEx2 hw ?_
        intro w2_40 g3_41
        refine zCu3 ?_
        intro hbs9 h_42 h_43
        clear hw
        subst hbs9
        have G : zS T A s.heap s [z, w2_40] _ _ := G
        refine lv_iinc (v := nI (j + 1)) (lv' := [(3, .int (nI (j + 1))), (2, .int (nI cm)), (0, .ref h), (1, .ref o)]) hx hb dX0_treesOf_52 hl (k := 0) rfl (z_inc j 1) (by decide) (zLvf_h rfl) (fun ls hl => ?_)
        refine lv_goto (tgt := 30) hx hb dX0_treesOf_55 (by decide) ?_
        have G := G.sub (bs' := [w2_40, z]) [1, 0] rfl
        exact ih_30 (j + 1) cm w2_40 g3_41 (show bWays T h o md (zWy cr inn k1) (zPl cr inn k1) g1_2 g2_3 g3_41 f4 f5 f6 n4 w2_40 ∧ (j + 1) ≤ aPr (kW cr inn k1) 7 ∧ cm = rCn (fun w => rAll (rTr (kW cr inn k1) k2 cr.toInt.toNat inn (aPo (kW cr inn k1) w)) cr.toInt.toNat) (j + 1) ∧ ((j + 1) < aPr (kW cr inn k1) 7 → ∀ c, c < 7 → g3_41 c = aPo (kW cr inn k1) (j + 1) c) from ⟨h_42, (by omega), (by rw [hcm]; exact (rCn_f (p := (fun w => rAll (rTr (kW cr inn k1) k2 cr.toInt.toNat inn (aPo (kW cr inn k1) w)) cr.toInt.toNat)) (fun q9 => absurd (haw9.mpr q9) (by first | with_reducible assumption | assumption))).symm), h_43⟩) (show aPr (kW cr inn k1) 7 - (j + 1) < aPr (kW cr inn k1) 7 - j from by omega) _ _ ls G (lv_sub hl [0, 1, 2, 3] rfl)
  · have c_14n : ¬ 7 ≤ i := fun q => c_14 ((nI_leI (a := 7) (b := i) (by omega) (by omega)).mpr q)
    refine lv_aload_n hx hb dX0_treesOf_15 rfl (lv_at hl 2 rfl) ?_
    refine zEx6 hwt ?_
    intro a1_45 a2_46 a3_47 a4_48 a5_49 a6_50 hbs9
    clear hwt
    subst hbs9
    have G : zS T A s.heap s [[zO0 h md (zWy cr inn k1) o (zPl cr inn k1) a1_45 a2_46 a3_47 a4_48 a5_49 a6_50], [zAr T 0 a1_45 7 g1_2], [zAr T 0 a2_46 7 g2_3], [zAr T 0 a3_47 7 x3], [zAr T 0 a4_48 n4 f4], [zAr T 0 a5_49 n4 f5], [zAr T 0 a6_50 n4 f6], z] _ _ := G.re rfl
    refine z_get C G clX0 0 rfl 6 (by decide) m_fl_RX0_25 rfl dX0_treesOf_16 ?_
    refine lv_iload_n hx hb dX0_treesOf_19 rfl (lv_at hl 0 rfl) ?_
    refine lv_iconst (v := 0) hx hb dX0_treesOf_20 (by decide) ?_
    refine z_ist C G 3 rfl (vp_in_nI (by omega) (by decide)) dX0_treesOf_21 (fun H locs G => ?_)
    rw [nI_clamp (by omega)] at G
    have G : zS T A s.heap s [[zO0 h md (zWy cr inn k1) o (zPl cr inn k1) a1_45 a2_46 a3_47 a4_48 a5_49 a6_50], [zAr T 0 a1_45 7 g1_2], [zAr T 0 a2_46 7 g2_3], [zAr T 0 a3_47 7 (upd x3 i 0)], [zAr T 0 a4_48 n4 f4], [zAr T 0 a5_49 n4 f5], [zAr T 0 a6_50 n4 f6], z] _ _ := G
    refine lv_iinc (v := nI (i + 1)) (lv' := [(3, .int (nI (i + 1))), (2, .int 0), (0, .ref h), (1, .ref o)]) hx hb dX0_treesOf_22 hl (k := 0) rfl (z_inc i 1) (by decide) (zLvf_h rfl) (fun ls hl => ?_)
    refine lv_goto (tgt := 9) hx hb dX0_treesOf_25 (by decide) ?_
    have hw_51 : bWays T h o md (zWy cr inn k1) (zPl cr inn k1) g1_2 g2_3 (upd x3 i 0) f4 f5 f6 n4 [zO0 h md (zWy cr inn k1) o (zPl cr inn k1) a1_45 a2_46 a3_47 a4_48 a5_49 a6_50, zAr T 0 a1_45 7 g1_2, zAr T 0 a2_46 7 g2_3, zAr T 0 a3_47 7 (upd x3 i 0), zAr T 0 a4_48 n4 f4, zAr T 0 a5_49 n4 f5, zAr T 0 a6_50 n4 f6] := ⟨a1_45, a2_46, a3_47, a4_48, a5_49, a6_50, rfl⟩
    have G : zS T A s.heap s [[zO0 h md (zWy cr inn k1) o (zPl cr inn k1) a1_45 a2_46 a3_47 a4_48 a5_49 a6_50, zAr T 0 a1_45 7 g1_2, zAr T 0 a2_46 7 g2_3, zAr T 0 a3_47 7 (upd x3 i 0), zAr T 0 a4_48 n4 f4, zAr T 0 a5_49 n4 f5, zAr T 0 a6_50 n4 f6], z] _ _ := G.re rfl
    exact ih_9 (i + 1) ([zO0 h md (zWy cr inn k1) o (zPl cr inn k1) a1_45 a2_46 a3_47 a4_48 a5_49 a6_50, zAr T 0 a1_45 7 g1_2, zAr T 0 a2_46 7 g2_3, zAr T 0 a3_47 7 (upd x3 i 0), zAr T 0 a4_48 n4 f4, zAr T 0 a5_49 n4 f5, zAr T 0 a6_50 n4 f6]) (upd x3 i 0) (show bWays T h o md (zWy cr inn k1) (zPl cr inn k1) g1_2 g2_3 (upd x3 i 0) f4 f5 f6 n4 ([zO0 h md (zWy cr inn k1) o (zPl cr inn k1) a1_45 a2_46 a3_47 a4_48 a5_49 a6_50, zAr T 0 a1_45 7 g1_2, zAr T 0 a2_46 7 g2_3, zAr T 0 a3_47 7 (upd x3 i 0), zAr T 0 a4_48 n4 f4, zAr T 0 a5_49 n4 f5, zAr T 0 a6_50 n4 f6]) ∧ (i + 1) ≤ 7 ∧ (∀ j, j < (i + 1) → (upd x3 i 0) j = 0) from ⟨hw_51, by omega, z_upS0 (f := fun _ => 0) hx30 rfl⟩) (show 7 - (i + 1) < 7 - i from by omega) _ _ ls G (lv_sub hl [0, 1, 2, 3] rfl)
set_option maxHeartbeats 4000000 in
set_option maxRecDepth 100000 in
/-- c_f_trees -/
theorem c_f_trees (l : Launch) (T : zTy) (xo : Nat) (t : Nat) (im : Nat) (mk : Nat) (rd : Nat) (po : Nat) (co : Nat) (tr : Nat) (wa : Nat) (wb_ : Nat) (fi : Nat) (cd : Nat) (l0 : Nat) (l1 : Nat) (d0 : Nat) (d1 : Nat) (g0 : Nat) (g1 : Nat) (ln : Int32) (fl : Int32) (pl : Int32) (ft : Nat → Int32) (fk : Nat → Int32) (wt : va_W) (cr0_ : Int32) (inn0_ : Int32) (k10_ : Nat → Int32) (k20_ : Nat → Int32) (k30_ : Nat → Int32) (k40_ : Nat → Int32) (z0_ : va_W) (cr1_ : Int32) (inn1_ : Int32) (k11_ : Nat → Int32) (k21_ : Nat → Int32) (k31_ : Nat → Int32) (k41_ : Nat → Int32) (z1_ : va_W) (laA : Nat) (mdA : Int32) (wyA : Int32) (pc_A : Int32) (f1A : Nat → Int32) (f2A : Nat → Int32) (f3A : Nat → Int32) (f4A : Nat → Int32) (f5A : Nat → Int32) (f6A : Nat → Int32) (n4A : Nat) (wwA : va_W) (laB : Nat) (mdB : Int32) (wyB : Int32) (pc_B : Int32) (f1B : Nat → Int32) (f2B : Nat → Int32) (f3B : Nat → Int32) (f4B : Nat → Int32) (f5B : Nat → Int32) (f6B : Nat → Int32) (n4B : Nat) (wwB : va_W) (i1 : Int32) (ht : bTold T t l0 l1 d0 d1 g0 g1 ln fl pl ft fk wt) (hK : zKT fk) (hz0_ : bLand T l0 cr0_ inn0_ k10_ k20_ k30_ k40_ z0_) (hI0_ : zLI cr0_ k10_ k30_) (hz1_ : bLand T l1 cr1_ inn1_ k11_ k21_ k31_ k41_ z1_) (hI1_ : zLI cr1_ k11_ k31_) (hwwA : bWays T wa laA mdA wyA pc_A f1A f2A f3A f4A f5A f6A n4A wwA) (hpwA : zPw n4A) (hmdA : mdA = 0 ∨ laA = l0) (hwmA : 0 ≤ wyA.toInt ∧ wyA.toInt ≤ 16384) (hTbA : mdA = 0 ∨ zTab cr0_ inn0_ k10_ k20_ wyA pc_A f1A f2A f5A n4A) (hLq0 : zLq cr0_ k10_ k20_) (hwwB : bWays T wb_ laB mdB wyB pc_B f1B f2B f3B f4B f5B f6B n4B wwB) (hpwB : zPw n4B) (hmdB : mdB = 0 ∨ laB = l1) (hwmB : 0 ≤ wyB.toInt ∧ wyB.toInt ≤ 16384) (hTbB : mdB = 0 ∨ zTab cr1_ inn1_ k11_ k21_ wyB pc_B f1B f2B f5B n4B) (hLq1 : zLq cr1_ k11_ k21_) : zMi l T yX11_trees cX11_trees 4 (some .int) 6 0 0 [.ref xo, .int i1] [[zO10 xo t im mk rd po co tr wa wb_ fi cd], wt, z0_, z1_, wwA, wwB] (fun (r : Int32) bs => ∃ (laA_2 : Nat) (mdA_2 : Int32) (wyA_2 : Int32) (pc_A_2 : Int32) (f1A_2 : Nat → Int32) (f2A_2 : Nat → Int32) (f3A_2 : Nat → Int32) (f4A_2 : Nat → Int32) (f5A_2 : Nat → Int32) (f6A_2 : Nat → Int32) (n4A_2 : Nat) (wwA_2 : va_W) (laB_2 : Nat) (mdB_2 : Int32) (wyB_2 : Int32) (pc_B_2 : Int32) (f1B_2 : Nat → Int32) (f2B_2 : Nat → Int32) (f3B_2 : Nat → Int32) (f4B_2 : Nat → Int32) (f5B_2 : Nat → Int32) (f6B_2 : Nat → Int32) (n4B_2 : Nat) (wwB_2 : va_W), bs = [[zO10 xo t im mk rd po co tr wa wb_ fi cd], wt, z0_, z1_, wwA_2, wwB_2] ∧ bWays T wa laA_2 mdA_2 wyA_2 pc_A_2 f1A_2 f2A_2 f3A_2 f4A_2 f5A_2 f6A_2 n4A_2 wwA_2 ∧ (mdA_2 = 0 ∨ laA_2 = l0) ∧ (0 ≤ wyA_2.toInt ∧ wyA_2.toInt ≤ 16384) ∧ n4A_2 = n4A ∧ mdA_2 = mdA ∧ (mdA_2 = 0 ∨ zTab cr0_ inn0_ k10_ k20_ wyA_2 pc_A_2 f1A_2 f2A_2 f5A_2 n4A_2) ∧ bWays T wb_ laB_2 mdB_2 wyB_2 pc_B_2 f1B_2 f2B_2 f3B_2 f4B_2 f5B_2 f6B_2 n4B_2 wwB_2 ∧ (mdB_2 = 0 ∨ laB_2 = l1) ∧ (0 ≤ wyB_2.toInt ∧ wyB_2.toInt ≤ 16384) ∧ n4B_2 = n4B ∧ mdB_2 = mdB ∧ (mdB_2 = 0 ∨ zTab cr1_ inn1_ k11_ k21_ wyB_2 pc_B_2 f1B_2 f2B_2 f5B_2 n4B_2) ∧ ((i1.toInt < 0 ∨ (fk 0).toInt ≤ i1.toInt ∨ 2 ≤ i1.toInt) ∧ r = -1 ∨ i1.toInt = 0 ∧ 0 < (fk 0).toInt ∧ r = kTrees cr0_ inn0_ k10_ k20_ k30_ ∨ i1.toInt = 1 ∧ 1 < (fk 0).toInt ∧ r = kTrees cr1_ inn1_ k11_ k21_ k31_)) := by
  refine zMi_of (own := RX11) (by decide) rfl (Nat.le_of_ble_eq_true rfl) ?_
  intro p e s m args below meth c A ls C hr hlocks hnm hAe G hl
  refine zHide (fun Qz_ hQz_ => ?_)
  have hx := C.1
  have hb := C.2.1
  replace hmdA : zHd (mdA = 0 ∨ laA = l0) := hmdA
  replace hTbA : zHd (mdA = 0 ∨ zTab cr0_ inn0_ k10_ k20_ wyA pc_A f1A f2A f5A n4A) := hTbA
  replace hmdB : zHd (mdB = 0 ∨ laB = l1) := hmdB
  replace hTbB : zHd (mdB = 0 ∨ zTab cr1_ inn1_ k11_ k21_ wyB pc_B f1B f2B f5B n4B) := hTbB
  have hl : lv_has ls 4 [(0, .ref xo), (1, .int i1)] := hl
  refine lv_aload_n hx hb dX11_trees_0 rfl (lv_at hl 0 rfl) ?_
  refine z_get C G clX11 0 rfl 0 (by decide) m_fl_RX11_10 rfl dX11_trees_1 ?_
  refine lv_iload_n hx hb dX11_trees_4 rfl (lv_at hl 1 rfl) ?_
  refine z_Vq (bc := [wt]) (br := [[zO10 xo t im mk rd po co tr wa wb_ fi cd], z0_, z1_, wwA, wwB]) (As := [.int i1]) (rest := []) C G (c_landAt l T t l0 l1 d0 d1 g0 g1 ln fl pl ft fk wt i1 ht) (kV_RX11_121 C.2.2.2.2 (Nat.le_of_ble_eq_true rfl) (Nat.le_of_ble_eq_true rfl)) [1] [1] rfl rfl (ci := 8) (qc := (RX9, TX9, 8)) rfl rfl (List.mem_flatten.mpr ⟨_, List.mem_of_getElem? (i := 0) rfl, (bTold_mem ht).choose_spec⟩) rfl rfl hl.1 dX11_trees_5 (Nat.le_of_ble_eq_true rfl) (Nat.le_of_ble_eq_true rfl) (fun r_2 b1 H locs hw G => ?_)
  refine zAn2 hw ?_
  intro hbs9 hc_1
  clear hw
  subst hbs9
  have G : zS T A s.heap s [[zO10 xo t im mk rd po co tr wa wb_ fi cd], z0_, z1_, wwA, wwB, wt] _ _ := G
  rcases hc_1 with ⟨rfl, h_3⟩ | ⟨rfl, h_4, h_5⟩ | ⟨rfl, h_6, h_7⟩
  · have h_3 : (i1.toInt < 0 ∨ (fk 0).toInt ≤ i1.toInt ∨ 2 ≤ i1.toInt) := h_3
    refine lv_astore_nN (lv' := [(2, .null), (0, .ref xo), (1, .int i1)]) hx hb dX11_trees_8 rfl hl (by decide) (zLvf_h rfl) (fun ls hl => ?_)
    refine lv_aload_nN hx hb dX11_trees_9 rfl (lv_at hl 0 rfl) ?_
    refine lv_ifnonnullN hx hb dX11_trees_10 ?_
    refine lv_iconst (v := (-1)) hx hb dX11_trees_13 (by decide) ?_
    have G := G.sub (bs' := [[zO10 xo t im mk rd po co tr wa wb_ fi cd], wt, z0_, z1_, wwA, wwB]) [0, 5, 1, 2, 3, 4] rfl
    exact z_back hQz_ (z_iret C hr hlocks G (Nat.le_of_ble_eq_true rfl) (Nat.le_of_ble_eq_true rfl) dX11_trees_14 ⟨laA, mdA, wyA, pc_A, f1A, f2A, f3A, f4A, f5A, f6A, n4A, wwA, laB, mdB, wyB, pc_B, f1B, f2B, f3B, f4B, f5B, f6B, n4B, wwB, rfl, hwwA, hmdA, hwmA, rfl, rfl, hTbA, hwwB, hmdB, hwmB, rfl, rfl, hTbB, (Or.inl ⟨by first | with_reducible assumption | assumption, rfl⟩)⟩)
  · have h_4 : i1.toInt = 0 := h_4
    have h_5 : 0 < (fk 0).toInt := h_5
    refine lv_astore_n (lv' := [(2, .ref l0), (0, .ref xo), (1, .int i1)]) hx hb dX11_trees_8 rfl hl (by decide) (zLvf_h rfl) (fun ls hl => ?_)
    refine lv_aload_n hx hb dX11_trees_9 rfl (lv_at hl 0 rfl) ?_
    refine lv_ifnonnull (tgt := 15) hx hb dX11_trees_10 (by decide) ?_
    refine lv_iload_n hx hb dX11_trees_15 rfl (lv_at hl 2 rfl) ?_
    refine lv_if_ne (tgt := 26) hx hb dX11_trees_16 (by decide) (fun q => absurd ((fa_eq i1 (0 : Int32)).mpr (by show i1.toInt = (0 : Int); omega)) q) (fun _ => ?_)
    refine lv_aload_n hx hb dX11_trees_19 rfl (lv_at hl 1 rfl) ?_
    refine z_get C G clX11 0 rfl 7 (by decide) m_fl_RX11_55 rfl dX11_trees_20 ?_
    refine lv_goto (tgt := 30) hx hb dX11_trees_23 (by decide) ?_
    refine lv_astore_n (lv' := [(3, .ref wa), (2, .ref l0), (0, .ref xo), (1, .int i1)]) hx hb dX11_trees_30 rfl hl (by decide) (zLvf_h rfl) (fun ls hl => ?_)
    refine lv_aload_n hx hb dX11_trees_31 rfl (lv_at hl 0 rfl) ?_
    refine lv_aload_n hx hb dX11_trees_32 rfl (lv_at hl 1 rfl) ?_
    refine z_Vi (bc := [wwA, z0_]) (br := [[zO10 xo t im mk rd po co tr wa wb_ fi cd], z1_, wwB, wt]) (As := [.ref l0]) (rest := []) C G (c_f_treesOf l T wa laA mdA wyA pc_A f1A f2A f3A f4A f5A f6A n4A wwA l0 cr0_ inn0_ k10_ k20_ k30_ k40_ z0_ hwwA hz0_ hI0_ hLq0) (kV_RX11_268 C.2.2.2.2 (Nat.le_of_ble_eq_true rfl) (Nat.le_of_ble_eq_true rfl)) [3, 1] [1, 1] rfl rfl (ci := 0) (qc := (RX0, TX0, 10)) rfl rfl (List.mem_flatten.mpr ⟨_, List.mem_of_getElem? (i := 0) rfl, (bWays_mem hwwA).choose_spec⟩) rfl rfl hl.1 dX11_trees_33 (Nat.le_of_ble_eq_true rfl) (Nat.le_of_ble_eq_true rfl) (fun r_15 b1 H locs hw G => ?_)
    refine zEx4 hw ?_
    intro w2_8 g1_9 g2_10 g3_11
    refine zCu4 ?_
    intro hbs9 h_12 h_13 h_14
    clear hw
    subst hbs9
    have G : zS T A s.heap s [[zO10 xo t im mk rd po co tr wa wb_ fi cd], z1_, wwB, wt, w2_8, z0_] _ _ := G
    have G := G.sub (bs' := [[zO10 xo t im mk rd po co tr wa wb_ fi cd], wt, z0_, z1_, w2_8, wwB]) [0, 3, 5, 1, 4, 2] rfl
    exact z_back hQz_ (z_iret C hr hlocks G (Nat.le_of_ble_eq_true rfl) (Nat.le_of_ble_eq_true rfl) dX11_trees_36 ⟨l0, mdA, (zWy cr0_ inn0_ k10_), (zPl cr0_ inn0_ k10_), g1_9, g2_10, g3_11, f4A, f5A, f6A, n4A, w2_8, laB, mdB, wyB, pc_B, f1B, f2B, f3B, f4B, f5B, f6B, n4B, wwB, rfl, h_12, (Or.inr rfl), (by have q := zWy_in (inn := inn0_) hI0_; omega), rfl, rfl, (hTbA.imp id (fun q => ⟨rfl, rfl, h_13, q.2.2.2⟩)), hwwB, hmdB, hwmB, rfl, rfl, hTbB, (Or.inr (Or.inl ⟨by first | with_reducible assumption | assumption, by first | with_reducible assumption | assumption, h_14⟩))⟩)
  · have h_6 : i1.toInt = 1 := h_6
    have h_7 : 1 < (fk 0).toInt := h_7
    refine lv_astore_n (lv' := [(2, .ref l1), (0, .ref xo), (1, .int i1)]) hx hb dX11_trees_8 rfl hl (by decide) (zLvf_h rfl) (fun ls hl => ?_)
    refine lv_aload_n hx hb dX11_trees_9 rfl (lv_at hl 0 rfl) ?_
    refine lv_ifnonnull (tgt := 15) hx hb dX11_trees_10 (by decide) ?_
    refine lv_iload_n hx hb dX11_trees_15 rfl (lv_at hl 2 rfl) ?_
    refine lv_if_ne (tgt := 26) hx hb dX11_trees_16 (by decide) (fun _ => ?_) (fun q => absurd q (fun q2 => absurd (show i1.toInt = (0 : Int) from (fa_eq i1 (0 : Int32)).mp q2) (by omega)))
    refine lv_aload_n hx hb dX11_trees_26 rfl (lv_at hl 1 rfl) ?_
    refine z_get C G clX11 0 rfl 8 (by decide) m_fl_RX11_59 rfl dX11_trees_27 ?_
    refine lv_astore_n (lv' := [(3, .ref wb_), (2, .ref l1), (0, .ref xo), (1, .int i1)]) hx hb dX11_trees_30 rfl hl (by decide) (zLvf_h rfl) (fun ls hl => ?_)
    refine lv_aload_n hx hb dX11_trees_31 rfl (lv_at hl 0 rfl) ?_
    refine lv_aload_n hx hb dX11_trees_32 rfl (lv_at hl 1 rfl) ?_
    refine z_Vi (bc := [wwB, z1_]) (br := [[zO10 xo t im mk rd po co tr wa wb_ fi cd], z0_, wwA, wt]) (As := [.ref l1]) (rest := []) C G (c_f_treesOf l T wb_ laB mdB wyB pc_B f1B f2B f3B f4B f5B f6B n4B wwB l1 cr1_ inn1_ k11_ k21_ k31_ k41_ z1_ hwwB hz1_ hI1_ hLq1) (kV_RX11_268 C.2.2.2.2 (Nat.le_of_ble_eq_true rfl) (Nat.le_of_ble_eq_true rfl)) [4, 2] [2, 1] rfl rfl (ci := 0) (qc := (RX0, TX0, 10)) rfl rfl (List.mem_flatten.mpr ⟨_, List.mem_of_getElem? (i := 0) rfl, (bWays_mem hwwB).choose_spec⟩) rfl rfl hl.1 dX11_trees_33 (Nat.le_of_ble_eq_true rfl) (Nat.le_of_ble_eq_true rfl) (fun r_23 b1 H locs hw G => ?_)
    refine zEx4 hw ?_
    intro w2_16 g1_17 g2_18 g3_19
    refine zCu4 ?_
    intro hbs9 h_20 h_21 h_22
    clear hw
    subst hbs9
    have G : zS T A s.heap s [[zO10 xo t im mk rd po co tr wa wb_ fi cd], z0_, wwA, wt, w2_16, z1_] _ _ := G
    have G := G.sub (bs' := [[zO10 xo t im mk rd po co tr wa wb_ fi cd], wt, z0_, z1_, wwA, w2_16]) [0, 3, 1, 5, 2, 4] rfl
    exact z_back hQz_ (z_iret C hr hlocks G (Nat.le_of_ble_eq_true rfl) (Nat.le_of_ble_eq_true rfl) dX11_trees_36 ⟨laA, mdA, wyA, pc_A, f1A, f2A, f3A, f4A, f5A, f6A, n4A, wwA, l1, mdB, (zWy cr1_ inn1_ k11_), (zPl cr1_ inn1_ k11_), g1_17, g2_18, g3_19, f4B, f5B, f6B, n4B, w2_16, rfl, hwwA, hmdA, hwmA, rfl, rfl, hTbA, h_20, (Or.inr rfl), (by have q := zWy_in (inn := inn1_) hI1_; omega), rfl, rfl, (hTbB.imp id (fun q => ⟨rfl, rfl, h_21, q.2.2.2⟩)), (Or.inr (Or.inr ⟨by first | with_reducible assumption | assumption, by first | with_reducible assumption | assumption, h_22⟩))⟩)
theorem rLd_cg {W L P Q : Nat → Int32} {m : Nat} (hO : rOk W L m) (hP : rPo W P) (h : ∀ j, j < 7 → 0 < (W j).toInt → P j = Q j) {c : Int32} (hc : rIn m c) (k : Nat) : zLed (rSt W L P) k c = zLed (rSt W L Q) k c := by
  induction k with
  | zero => rw [zLed_0, zLed_0]
  | succ k ih =>
    have m7 := hO.1
    obtain ⟨b0, b1⟩ := rPt_in hO hP hc k
    have e : rSt W L P (zLed (rSt W L P) k c) = rSt W L Q (zLed (rSt W L P) k c) := by
      unfold rSt
      by_cases q : 0 < (W (zLed (rSt W L P) k c).toInt.toNat).toInt
      · have e2 := h _ (show (zLed (rSt W L P) k c).toInt.toNat < 7 by omega) q
        unfold rSt at e2 q
        rw [if_pos q, if_pos q, e2]
      · unfold rSt at q
        rw [if_neg q, if_neg q]
    rw [zLed_s, zLed_s, e, ih]
set_option maxHeartbeats 4000000 in
set_option maxRecDepth 100000 in
/-- c_fm_trees -/
theorem c_fm_trees (l : Launch) (T : zTy) (mo : Nat) (m_all : Nat) (m_has : Nat) (i_size : Int32) (i_next : Int32) (i_where : Int32) (i_token : Int32) (i_number : Int32) (i_word : Int32) (i_wrong : Int32) (i_farCrossing : Int32) (m_read : Nat) (i_z0 : Int32) (i_crossings : Int32) (i_inns : Int32) (m_posts : Nat) (m_shut : Nat) (m_here : Nat) (i_steps : Int32) (i_done : Int32) (i_at : Int32) (i_gone : Int32) (m_was : Nat) (m_came : Nat) (m_seenAt : Nat) (m_rowWorth : Nat) (m_farBy : Nat) (m_used : Nat) (i_everywhere : Int32) (i_again0 : Int32) (i_d0 : Int32) (i_never : Int32) (i_firstCame : Int32) (i_longRun : Int32) (i_moved : Int32) (i_crowd : Int32) (i_l0 : Int32) (i_fitMany : Int32) (i_fitLeast : Int32) (i_fitMost : Int32) (m_fitPost : Nat) (m_fitEnd : Nat) (m_keptPosts : Nat) (i_x0 : Int32) (f_all : Nat → Int32) (f_posts : Nat → Int32) (f_shut : Nat → Int32) (f_here : Nat → Int32) (l_ : Int32) (hB : zBI f_all) (hVA : zVA f_all) (hVZ0 : zVZ f_all 610 (f_all 610)) (hVZ1 : zVZ f_all 661 (f_all 661)) : zMi l T yX12_trees cX12_trees 7 (some .int) 7 0 0 [.ref mo, .int l_] [[zO11 mo m_all m_has i_size i_next i_where i_token i_number i_word i_wrong i_farCrossing m_read i_z0 i_crossings i_inns m_posts m_shut m_here i_steps i_done i_at i_gone m_was m_came m_seenAt m_rowWorth m_farBy m_used i_everywhere i_again0 i_d0 i_never i_firstCame i_longRun i_moved i_crowd i_l0 i_fitMany i_fitLeast i_fitMost m_fitPost m_fitEnd m_keptPosts i_x0], [zAr T 0 m_all 3952 f_all], [zAr T 0 m_posts 7 f_posts], [zAr T 0 m_shut 7 f_shut], [zAr T 0 m_here 7 f_here]] (fun (r : Int32) bs => ∃ (j_z0 : Int32) (j_crossings : Int32) (j_inns : Int32) (j_steps : Int32) (j_done : Int32) (g_posts : Nat → Int32) (g_shut : Nat → Int32) (g_here : Nat → Int32), bs = [[zO11 mo m_all m_has i_size i_next i_where i_token i_number i_word i_wrong i_farCrossing m_read j_z0 j_crossings j_inns m_posts m_shut m_here j_steps j_done i_at i_gone m_was m_came m_seenAt m_rowWorth m_farBy m_used i_everywhere i_again0 i_d0 i_never i_firstCame i_longRun i_moved i_crowd i_l0 i_fitMany i_fitLeast i_fitMost m_fitPost m_fitEnd m_keptPosts i_x0], [zAr T 0 m_all 3952 f_all], [zAr T 0 m_posts 7 g_posts], [zAr T 0 m_shut 7 g_shut], [zAr T 0 m_here 7 g_here]] ∧ ((l_.toInt < 0 ∨ (f_all 0).toInt ≤ l_.toInt) ∧ r = -1 ∨ l_.toInt = 0 ∧ 0 < (f_all 0).toInt ∧ r = pTrees f_all 610 ∨ l_.toInt = 1 ∧ 1 < (f_all 0).toInt ∧ r = pTrees f_all 661)) := by
  refine zMi_of (own := RX12) (by decide) rfl (Nat.le_of_ble_eq_true rfl) ?_
  intro p e s m args below meth c A ls C hr hlocks hnm hAe G hl
  refine zHide (fun Qz_ hQz_ => ?_)
  have hx := C.1
  have hb := C.2.1
  have hl : lv_has ls 7 [(0, .ref mo), (1, .int l_)] := hl
  refine lv_aload_n hx hb dX12_trees_0 rfl (lv_at hl 0 rfl) ?_
  refine lv_iload_n hx hb dX12_trees_1 rfl (lv_at hl 1 rfl) ?_
  refine z_Vi (bc := [[zO11 mo m_all m_has i_size i_next i_where i_token i_number i_word i_wrong i_farCrossing m_read i_z0 i_crossings i_inns m_posts m_shut m_here i_steps i_done i_at i_gone m_was m_came m_seenAt m_rowWorth m_farBy m_used i_everywhere i_again0 i_d0 i_never i_firstCame i_longRun i_moved i_crowd i_l0 i_fitMany i_fitLeast i_fitMost m_fitPost m_fitEnd m_keptPosts i_x0], [zAr T 0 m_all 3952 f_all], [zAr T 0 m_posts 7 f_posts], [zAr T 0 m_shut 7 f_shut], [zAr T 0 m_here 7 f_here]]) (br := []) (As := [.int l_]) (rest := []) C G (c_m_isLand l T mo m_all m_has i_size i_next i_where i_token i_number i_word i_wrong i_farCrossing m_read i_z0 i_crossings i_inns m_posts m_shut m_here i_steps i_done i_at i_gone m_was m_came m_seenAt m_rowWorth m_farBy m_used i_everywhere i_again0 i_d0 i_never i_firstCame i_longRun i_moved i_crowd i_l0 i_fitMany i_fitLeast i_fitMost m_fitPost m_fitEnd m_keptPosts i_x0 f_all f_posts f_shut f_here l_ (by first | with_reducible assumption | with_reducible rfl | omega | assumption | rfl | decide)) (kV_RX12_184 C.2.2.2.2 (Nat.le_of_ble_eq_true rfl) (Nat.le_of_ble_eq_true rfl)) [0, 1, 2, 3, 4] [0, 0, 0, 0, 0] rfl rfl (ci := 11) (qc := (RX12, TX12, 43)) rfl rfl (List.mem_flatten.mpr ⟨_, List.mem_of_getElem? (i := 0) rfl, List.mem_cons_self⟩) rfl rfl hl.1 dX12_trees_2 (Nat.le_of_ble_eq_true rfl) (Nat.le_of_ble_eq_true rfl) (fun r_10 b1 H locs hw G => ?_)
  refine zEx8 hw ?_
  intro j_z0_1 j_crossings_2 j_inns_3 j_steps_4 j_done_5 g_posts_6 g_shut_7 g_here_8
  refine zCu2 ?_
  intro hbs9 hc_9
  clear hw
  subst hbs9
  have G : zS T A s.heap s [[zO11 mo m_all m_has i_size i_next i_where i_token i_number i_word i_wrong i_farCrossing m_read j_z0_1 j_crossings_2 j_inns_3 m_posts m_shut m_here j_steps_4 j_done_5 i_at i_gone m_was m_came m_seenAt m_rowWorth m_farBy m_used i_everywhere i_again0 i_d0 i_never i_firstCame i_longRun i_moved i_crowd i_l0 i_fitMany i_fitLeast i_fitMost m_fitPost m_fitEnd m_keptPosts i_x0], [zAr T 0 m_all 3952 f_all], [zAr T 0 m_posts 7 g_posts_6], [zAr T 0 m_shut 7 g_shut_7], [zAr T 0 m_here 7 g_here_8]] _ _ := G
  rcases hc_9 with ⟨rfl, h_11, h_12, h_13, h_14, h_15, h_16, h_17, h_18, h_19, h_20, h_21, h_22⟩ | ⟨rfl, h_23⟩
  · have h_11 : 0 ≤ l_.toInt := h_11
    have h_12 : l_.toInt ≤ 1 := h_12
    have h_13 : l_.toInt < (f_all 0).toInt := h_13
    have h_14 : j_z0_1.toInt = 610 + 51 * l_.toInt := h_14
    have h_15 : zML f_all j_z0_1 j_crossings_2 := h_15
    have h_16 : zMP g_posts_6 := h_16
    have h_17 : j_inns_3 = f_all (j_z0_1.toInt.toNat + 1) := h_17
    have h_18 : j_steps_4 = 0 := h_18
    have h_19 : j_done_5 = 0 := h_19
    have h_20 : (∀ j, j < 7 → g_posts_6 j = zPt f_all j_z0_1 (nI j)) := h_20
    have h_21 : (∀ j, j < 7 → g_shut_7 j = 0) := h_21
    have h_22 : (∀ j, j < 7 → g_here_8 j = zWk f_all j_z0_1 j) := h_22
    have hLx := h_15
    have hcr := hLx.cr
    have hzx := hLx.1
    have hPx := h_16
    have hVx : zMV (zRo f_all j_z0_1) g_posts_6 := zVA_z hVA hzx h_20
    refine lv_if_ne (tgt := 10) hx hb dX12_trees_5 (by decide) (fun _ => ?_) (fun q => absurd q (by decide))
    rcases (show l_.toInt = 0 ∨ l_.toInt = 1 from by have hq9 := hB.2.1 0 (by decide); omega) with hkk | hkk
    · obtain rfl : j_z0_1 = 610 := Int32.toInt_inj.mp (by show j_z0_1.toInt = 610; omega)
      have hcx : j_crossings_2.toInt = (f_all 610).toInt := by rw [hLx.2.1]; rfl
      have hVz : zVZ f_all 610 j_crossings_2 := by rw [hLx.2.1]; exact hVZ0
      have hWe : (zWo f_all 610 j_inns_3) = pW f_all 610 := congrArg (zWo f_all 610) h_17
      have hS0 : ∀ j, j < 7 → g_shut_7 j = 0 := h_21
      have hNz : 1 ≤ aPr (zWo f_all 610 j_inns_3) 7 := aPr_p _
      have hNi : j_inns_3 = f_all (610 + 1) := h_17
      refine lv_aload_n hx hb dX12_trees_10 rfl (lv_at hl 0 rfl) ?_
      refine z_Vi (bc := [[zO11 mo m_all m_has i_size i_next i_where i_token i_number i_word i_wrong i_farCrossing m_read 610 j_crossings_2 j_inns_3 m_posts m_shut m_here j_steps_4 j_done_5 i_at i_gone m_was m_came m_seenAt m_rowWorth m_farBy m_used i_everywhere i_again0 i_d0 i_never i_firstCame i_longRun i_moved i_crowd i_l0 i_fitMany i_fitLeast i_fitMost m_fitPost m_fitEnd m_keptPosts i_x0], [zAr T 0 m_all 3952 f_all]]) (br := [[zAr T 0 m_posts 7 g_posts_6], [zAr T 0 m_shut 7 g_shut_7], [zAr T 0 m_here 7 g_here_8]]) (As := []) (rest := []) C G (c_fm_waysMany l T mo m_all m_has i_size i_next i_where i_token i_number i_word i_wrong i_farCrossing m_read 610 j_crossings_2 j_inns_3 m_posts m_shut m_here j_steps_4 j_done_5 i_at i_gone m_was m_came m_seenAt m_rowWorth m_farBy m_used i_everywhere i_again0 i_d0 i_never i_firstCame i_longRun i_moved i_crowd i_l0 i_fitMany i_fitLeast i_fitMost m_fitPost m_fitEnd m_keptPosts i_x0 f_all (by first | with_reducible assumption | with_reducible rfl | omega | assumption | rfl | decide) hVz) (kV_RX12_229 C.2.2.2.2 (Nat.le_of_ble_eq_true rfl) (Nat.le_of_ble_eq_true rfl)) [0, 1] [0, 0] rfl rfl (ci := 11) (qc := (RX12, TX12, 43)) rfl rfl (List.mem_flatten.mpr ⟨_, List.mem_of_getElem? (i := 0) rfl, List.mem_cons_self⟩) rfl rfl hl.1 dX12_trees_11 (Nat.le_of_ble_eq_true rfl) (Nat.le_of_ble_eq_true rfl) (fun r_27 b1 H locs hw G => ?_)
      refine zAn4 hw ?_
      intro hbs9 h_24 h_25 h_26
      clear hw
      subst hbs9
      have G : zS T A s.heap s [[zAr T 0 m_posts 7 g_posts_6], [zAr T 0 m_shut 7 g_shut_7], [zAr T 0 m_here 7 g_here_8], [zO11 mo m_all m_has i_size i_next i_where i_token i_number i_word i_wrong i_farCrossing m_read 610 j_crossings_2 j_inns_3 m_posts m_shut m_here j_steps_4 j_done_5 i_at i_gone m_was m_came m_seenAt m_rowWorth m_farBy m_used i_everywhere i_again0 i_d0 i_never i_firstCame i_longRun i_moved i_crowd i_l0 i_fitMany i_fitLeast i_fitMost m_fitPost m_fitEnd m_keptPosts i_x0], [zAr T 0 m_all 3952 f_all]] _ _ := G
      have hmN : r_27 = nI (aPr (zWo f_all 610 j_inns_3) 7) := h_26
      have hm1 : aPr (zWo f_all 610 j_inns_3) 7 ≤ 16384 := aPr_mx hLx
      have hmT : r_27.toInt = ((aPr (zWo f_all 610 j_inns_3) 7 : Nat) : Int) := by rw [hmN, nI_toInt (by omega)]
      refine lv_istore_n (lv' := [(2, .int r_27), (0, .ref mo), (1, .int l_)]) hx hb dX12_trees_14 rfl hl (by decide) (zLvf_h rfl) (fun ls hl => ?_)
      refine lv_iconst (v := 0) hx hb dX12_trees_15 (by decide) ?_
      refine lv_istore_n (lv' := [(3, .int 0), (2, .int r_27), (0, .ref mo), (1, .int l_)]) hx hb dX12_trees_16 rfl hl (by decide) (zLvf_h rfl) (fun ls hl => ?_)
      refine lv_iconst (v := 0) hx hb dX12_trees_17 (by decide) ?_
      refine lv_istore (lv' := [(4, .int 0), (3, .int 0), (2, .int r_27), (0, .ref mo), (1, .int l_)]) hx hb dX12_trees_18 hl (by decide) (zLvf_h rfl) (fun ls hl => ?_)
      refine z_lp3 (T := T) 20 (fun (i : Nat) (cm : Nat) (xposts : Nat → Int32) => [[zAr T 0 m_posts 7 xposts], [zAr T 0 m_shut 7 g_shut_7], [zAr T 0 m_here 7 g_here_8], [zO11 mo m_all m_has i_size i_next i_where i_token i_number i_word i_wrong i_farCrossing m_read 610 j_crossings_2 j_inns_3 m_posts m_shut m_here j_steps_4 j_done_5 i_at i_gone m_was m_came m_seenAt m_rowWorth m_farBy m_used i_everywhere i_again0 i_d0 i_never i_firstCame i_longRun i_moved i_crowd i_l0 i_fitMany i_fitLeast i_fitMost m_fitPost m_fitEnd m_keptPosts i_x0], [zAr T 0 m_all 3952 f_all]]) (fun (i : Nat) (cm : Nat) (xposts : Nat → Int32) => [(4, .int (nI i)), (3, .int (nI cm)), (2, .int r_27), (0, .ref mo), (1, .int l_)]) (fun (i : Nat) (cm : Nat) (xposts : Nat → Int32) => i ≤ aPr (zWo f_all 610 j_inns_3) 7 ∧ zMP xposts ∧ zMV (zRo f_all 610) xposts ∧ cm = rCn (fun w => rAll (rTr (zWo f_all 610 j_inns_3) (zLo f_all 610) j_crossings_2.toInt.toNat j_inns_3 (aPo (zWo f_all 610 j_inns_3) w)) j_crossings_2.toInt.toNat) i) (fun (i : Nat) (cm : Nat) (xposts : Nat → Int32) => aPr (zWo f_all 610 j_inns_3) 7 - i) ?_ 0 0 g_posts_6 (show 0 ≤ aPr (zWo f_all 610 j_inns_3) 7 ∧ zMP g_posts_6 ∧ zMV (zRo f_all 610) g_posts_6 ∧ 0 = rCn (fun w => rAll (rTr (zWo f_all 610 j_inns_3) (zLo f_all 610) j_crossings_2.toInt.toNat j_inns_3 (aPo (zWo f_all 610 j_inns_3) w)) j_crossings_2.toInt.toNat) 0 from ⟨(Nat.zero_le _), (by first | with_reducible assumption | assumption), hVx, rfl⟩) G (lv_sub hl [0, 1, 2, 3, 4] rfl)
      intro i cm xposts hI9 ih_20 H locs ls G hl
      replace hI9 : i ≤ aPr (zWo f_all 610 j_inns_3) 7 ∧ zMP xposts ∧ zMV (zRo f_all 610) xposts ∧ cm = rCn (fun w => rAll (rTr (zWo f_all 610 j_inns_3) (zLo f_all 610) j_crossings_2.toInt.toNat j_inns_3 (aPo (zWo f_all 610 j_inns_3) w)) j_crossings_2.toInt.toNat) i := hI9
      refine zAn4 hI9 ?_
      intro hi hQ hVq hcm
      clear hI9
      replace G : zS T A s.heap s [[zAr T 0 m_posts 7 xposts], [zAr T 0 m_shut 7 g_shut_7], [zAr T 0 m_here 7 g_here_8], [zO11 mo m_all m_has i_size i_next i_where i_token i_number i_word i_wrong i_farCrossing m_read 610 j_crossings_2 j_inns_3 m_posts m_shut m_here j_steps_4 j_done_5 i_at i_gone m_was m_came m_seenAt m_rowWorth m_farBy m_used i_everywhere i_again0 i_d0 i_never i_firstCame i_longRun i_moved i_crowd i_l0 i_fitMany i_fitLeast i_fitMost m_fitPost m_fitEnd m_keptPosts i_x0], [zAr T 0 m_all 3952 f_all]] _ _ := G
      replace hl : lv_has ls 7 [(4, .int (nI i)), (3, .int (nI cm)), (2, .int r_27), (0, .ref mo), (1, .int l_)] := hl
      refine lv_iload hx hb dX12_trees_20 (lv_at hl 0 rfl) ?_
      refine lv_iload_n hx hb dX12_trees_22 rfl (lv_at hl 2 rfl) ?_
      refine lv_icmp_ge (tgt := 108) hx hb dX12_trees_23 (by decide) (fun c_28 => ?_) (fun c_28 => ?_)
      · have c_28n : r_27.toInt ≤ (i : Int) := by have q := (fa_le _ _).mp c_28; rw [nI_toInt (n := i) (by omega)] at q; exact q
        refine lv_iload_n hx hb dX12_trees_108 rfl (lv_at hl 1 rfl) ?_
        have G := G.sub (bs' := [[zO11 mo m_all m_has i_size i_next i_where i_token i_number i_word i_wrong i_farCrossing m_read 610 j_crossings_2 j_inns_3 m_posts m_shut m_here j_steps_4 j_done_5 i_at i_gone m_was m_came m_seenAt m_rowWorth m_farBy m_used i_everywhere i_again0 i_d0 i_never i_firstCame i_longRun i_moved i_crowd i_l0 i_fitMany i_fitLeast i_fitMost m_fitPost m_fitEnd m_keptPosts i_x0], [zAr T 0 m_all 3952 f_all], [zAr T 0 m_posts 7 xposts], [zAr T 0 m_shut 7 g_shut_7], [zAr T 0 m_here 7 g_here_8]]) [3, 4, 0, 1, 2] rfl
        exact z_back hQz_ (z_iret C hr hlocks G (Nat.le_of_ble_eq_true rfl) (Nat.le_of_ble_eq_true rfl) dX12_trees_109 ⟨610, j_crossings_2, j_inns_3, j_steps_4, j_done_5, xposts, g_shut_7, g_here_8, rfl, (Or.inr (Or.inl ⟨by first | with_reducible assumption | assumption, by omega, (by unfold pTrees; show _ = rTrs (pW f_all 610) (zLo f_all 610) (f_all 610).toInt.toNat (f_all (610 + 1)); rw [← hWe, ← hNi, ← hcx, hcm, show i = aPr (zWo f_all 610 j_inns_3) 7 by omega]; rfl)⟩))⟩)
      · have c_28n : ¬ r_27.toInt ≤ (i : Int) := fun q => c_28 ((fa_le _ _).mpr (by rw [nI_toInt (n := i) (by omega)]; exact q))
        refine lv_aload_n hx hb dX12_trees_26 rfl (lv_at hl 3 rfl) ?_
        refine lv_iload hx hb dX12_trees_27 (lv_at hl 0 rfl) ?_
        have ti_29 : (nI i).toInt = ((i : Nat) : Int) := nI_toInt (by omega)
        refine z_Vv (bc := [[zO11 mo m_all m_has i_size i_next i_where i_token i_number i_word i_wrong i_farCrossing m_read 610 j_crossings_2 j_inns_3 m_posts m_shut m_here j_steps_4 j_done_5 i_at i_gone m_was m_came m_seenAt m_rowWorth m_farBy m_used i_everywhere i_again0 i_d0 i_never i_firstCame i_longRun i_moved i_crowd i_l0 i_fitMany i_fitLeast i_fitMost m_fitPost m_fitEnd m_keptPosts i_x0], [zAr T 0 m_all 3952 f_all], [zAr T 0 m_posts 7 xposts]]) (br := [[zAr T 0 m_shut 7 g_shut_7], [zAr T 0 m_here 7 g_here_8]]) (As := [.int (nI i)]) (rest := []) C G (c_fm_setsWay l T mo m_all m_has i_size i_next i_where i_token i_number i_word i_wrong i_farCrossing m_read 610 j_crossings_2 j_inns_3 m_posts m_shut m_here j_steps_4 j_done_5 i_at i_gone m_was m_came m_seenAt m_rowWorth m_farBy m_used i_everywhere i_again0 i_d0 i_never i_firstCame i_longRun i_moved i_crowd i_l0 i_fitMany i_fitLeast i_fitMost m_fitPost m_fitEnd m_keptPosts i_x0 f_all xposts (nI i) (by first | with_reducible assumption | with_reducible rfl | omega | assumption | rfl | decide) (by first | with_reducible assumption | with_reducible rfl | omega | assumption | rfl | decide) (by first | with_reducible assumption | with_reducible rfl | omega | assumption | rfl | decide) hVz) (kV_RX12_226 C.2.2.2.2 (Nat.le_of_ble_eq_true rfl) (Nat.le_of_ble_eq_true rfl)) [3, 4, 0] [0, 2, 0] rfl rfl (ci := 11) (qc := (RX12, TX12, 43)) rfl rfl (List.mem_flatten.mpr ⟨_, List.mem_of_getElem? (i := 0) rfl, List.mem_cons_self⟩) rfl rfl hl.1 dX12_trees_29 (Nat.le_of_ble_eq_true rfl) (Nat.le_of_ble_eq_true rfl) (fun b1 H locs hw G => ?_)
        refine zEx1 hw ?_
        intro g_posts_30
        refine zCu4 ?_
        intro hbs9 h_31 h_32 h_33
        clear hw
        subst hbs9
        have G : zS T A s.heap s [[zAr T 0 m_shut 7 g_shut_7], [zAr T 0 m_here 7 g_here_8], [zO11 mo m_all m_has i_size i_next i_where i_token i_number i_word i_wrong i_farCrossing m_read 610 j_crossings_2 j_inns_3 m_posts m_shut m_here j_steps_4 j_done_5 i_at i_gone m_was m_came m_seenAt m_rowWorth m_farBy m_used i_everywhere i_again0 i_d0 i_never i_firstCame i_longRun i_moved i_crowd i_l0 i_fitMany i_fitLeast i_fitMost m_fitPost m_fitEnd m_keptPosts i_x0], [zAr T 0 m_all 3952 f_all], [zAr T 0 m_posts 7 g_posts_30]] _ _ := G
        have hn2i := nI_n (n := i) (by omega)
        have hdg := h_33
        rw [hn2i] at hdg
        have hVy := h_32
        have hQy := h_31
        have hV9 := zVA_0 hVA hLx.1
        have hO9 := qOk (n := j_inns_3) hLx hV9
        have hRa9 : rPo (zWo f_all 610 j_inns_3) (aPo (zWo f_all 610 j_inns_3) i) := aPo_in (fun c hc => (hO9.2.1 c hc).2)
        have hRw9 : rPo (zWo f_all 610 j_inns_3) g_posts_30 := fun c hc hw => by rw [hdg c hc (by by_cases q9 : (c : Int) < j_crossings_2.toInt <;> first | exact q9 | (have q8 := zVZ_w (n := j_inns_3) hVz hc (by omega); omega))]; exact hRa9 c hc hw
        refine lv_iconst (v := 1) hx hb dX12_trees_32 (by decide) ?_
        refine lv_istore (lv' := [(5, .int 1), (4, .int (nI i)), (3, .int (nI cm)), (2, .int r_27), (0, .ref mo), (1, .int l_)]) hx hb dX12_trees_33 hl (by decide) (zLvf_h rfl) (fun ls hl => ?_)
        refine lv_iconst (v := 0) hx hb dX12_trees_35 (by decide) ?_
        refine lv_istore (lv' := [(6, .int 0), (5, .int 1), (4, .int (nI i)), (3, .int (nI cm)), (2, .int r_27), (0, .ref mo), (1, .int l_)]) hx hb dX12_trees_36 hl (by decide) (zLvf_h rfl) (fun ls hl => ?_)
        refine z_lp2 (T := T) 38 (fun (k : Nat) (b5 : Int32) => [[zAr T 0 m_shut 7 g_shut_7], [zAr T 0 m_here 7 g_here_8], [zO11 mo m_all m_has i_size i_next i_where i_token i_number i_word i_wrong i_farCrossing m_read 610 j_crossings_2 j_inns_3 m_posts m_shut m_here j_steps_4 j_done_5 i_at i_gone m_was m_came m_seenAt m_rowWorth m_farBy m_used i_everywhere i_again0 i_d0 i_never i_firstCame i_longRun i_moved i_crowd i_l0 i_fitMany i_fitLeast i_fitMost m_fitPost m_fitEnd m_keptPosts i_x0], [zAr T 0 m_all 3952 f_all], [zAr T 0 m_posts 7 g_posts_30]]) (fun (k : Nat) (b5 : Int32) => [(6, .int (nI k)), (5, .int b5), (4, .int (nI i)), (3, .int (nI cm)), (2, .int r_27), (0, .ref mo), (1, .int l_)]) (fun (k : Nat) (b5 : Int32) => k ≤ 7 ∧ (k : Int) ≤ j_crossings_2.toInt ∧ (b5 = 1 ∧ rAll (rTr (zWo f_all 610 j_inns_3) (zLo f_all 610) j_crossings_2.toInt.toNat j_inns_3 (aPo (zWo f_all 610 j_inns_3) i)) k = true ∨ b5 = 0 ∧ ¬ rAll (rTr (zWo f_all 610 j_inns_3) (zLo f_all 610) j_crossings_2.toInt.toNat j_inns_3 (aPo (zWo f_all 610 j_inns_3) i)) j_crossings_2.toInt.toNat = true)) (fun (k : Nat) (b5 : Int32) => 7 - k) ?_ 0 1 (show 0 ≤ 7 ∧ (0 : Int) ≤ j_crossings_2.toInt ∧ (1 = 1 ∧ rAll (rTr (zWo f_all 610 j_inns_3) (zLo f_all 610) j_crossings_2.toInt.toNat j_inns_3 (aPo (zWo f_all 610 j_inns_3) i)) 0 = true ∨ 1 = 0 ∧ ¬ rAll (rTr (zWo f_all 610 j_inns_3) (zLo f_all 610) j_crossings_2.toInt.toNat j_inns_3 (aPo (zWo f_all 610 j_inns_3) i)) j_crossings_2.toInt.toNat = true) from ⟨by omega, by omega, (Or.inl ⟨rfl, rfl⟩)⟩) G (lv_sub hl [0, 1, 2, 3, 4, 5, 6] rfl)
        intro k b5 hI9 ih_38 H locs ls G hl
        replace hI9 : k ≤ 7 ∧ (k : Int) ≤ j_crossings_2.toInt ∧ (b5 = 1 ∧ rAll (rTr (zWo f_all 610 j_inns_3) (zLo f_all 610) j_crossings_2.toInt.toNat j_inns_3 (aPo (zWo f_all 610 j_inns_3) i)) k = true ∨ b5 = 0 ∧ ¬ rAll (rTr (zWo f_all 610 j_inns_3) (zLo f_all 610) j_crossings_2.toInt.toNat j_inns_3 (aPo (zWo f_all 610 j_inns_3) i)) j_crossings_2.toInt.toNat = true) := hI9
        refine zAn3 hI9 ?_
        intro hk hkc hb5
        clear hI9
        replace G : zS T A s.heap s [[zAr T 0 m_shut 7 g_shut_7], [zAr T 0 m_here 7 g_here_8], [zO11 mo m_all m_has i_size i_next i_where i_token i_number i_word i_wrong i_farCrossing m_read 610 j_crossings_2 j_inns_3 m_posts m_shut m_here j_steps_4 j_done_5 i_at i_gone m_was m_came m_seenAt m_rowWorth m_farBy m_used i_everywhere i_again0 i_d0 i_never i_firstCame i_longRun i_moved i_crowd i_l0 i_fitMany i_fitLeast i_fitMost m_fitPost m_fitEnd m_keptPosts i_x0], [zAr T 0 m_all 3952 f_all], [zAr T 0 m_posts 7 g_posts_30]] _ _ := G
        replace hl : lv_has ls 7 [(6, .int (nI k)), (5, .int b5), (4, .int (nI i)), (3, .int (nI cm)), (2, .int r_27), (0, .ref mo), (1, .int l_)] := hl
        refine lv_iload hx hb dX12_trees_38 (lv_at hl 0 rfl) ?_
        refine lv_aload_n hx hb dX12_trees_40 rfl (lv_at hl 5 rfl) ?_
        refine z_get C G clX12 2 rfl 12 (by decide) m_fl_RX12_169 rfl dX12_trees_41 ?_
        refine lv_icmp_ge (tgt := 89) hx hb dX12_trees_44 (by decide) (fun c_35 => ?_) (fun c_35 => ?_)
        · have c_35n : j_crossings_2.toInt ≤ (k : Int) := by have q := (fa_le _ _).mp c_35; rw [nI_toInt (n := k) (by omega)] at q; exact q
          refine lv_iload_n hx hb dX12_trees_89 rfl (lv_at hl 3 rfl) ?_
          refine lv_iload hx hb dX12_trees_90 (lv_at hl 1 rfl) ?_
          refine lv_if_eq (tgt := 99) hx hb dX12_trees_92 (by decide) (fun c_36 => ?_) (fun c_36 => ?_)
          · have c_36n : b5.toInt = (0 : Int) := (fa_eq _ _).mp c_36
            refine lv_iconst (v := 0) hx hb dX12_trees_99 (by decide) ?_
            refine lv_iadd hx hb dX12_trees_100 ?_
            refine lv_topi (fun y_37 ey_37 => ?_)
            obtain rfl : y_37 = nI cm := ey_37.trans (z_iaddn cm 0 rfl rfl)
            have haq9 : ¬ (fun w => rAll (rTr (zWo f_all 610 j_inns_3) (zLo f_all 610) j_crossings_2.toInt.toNat j_inns_3 (aPo (zWo f_all 610 j_inns_3) w)) j_crossings_2.toInt.toNat) i = true := by rcases hb5 with ⟨e9, e8⟩ | ⟨e9, e8⟩ <;> first | exact e8 | (exfalso; have e7 := congrArg Int32.toInt e9; have e6 : (0 : Int32).toInt = 0 := rfl; have e5 : (1 : Int32).toInt = 1 := rfl; omega)
            refine lv_istore_n (lv' := [(3, .int (nI cm)), (6, .int (nI k)), (5, .int b5), (4, .int (nI i)), (2, .int r_27), (0, .ref mo), (1, .int l_)]) hx hb dX12_trees_101 rfl hl (by decide) (zLvf_h rfl) (fun ls hl => ?_)
            refine lv_iinc (v := nI (i + 1)) (lv' := [(4, .int (nI (i + 1))), (3, .int (nI cm)), (6, .int (nI k)), (5, .int b5), (2, .int r_27), (0, .ref mo), (1, .int l_)]) hx hb dX12_trees_102 hl (k := 3) rfl (z_inc i 1) (by decide) (zLvf_h rfl) (fun ls hl => ?_)
            refine lv_goto (tgt := 20) hx hb dX12_trees_105 (by decide) ?_
            have G := G.sub (bs' := [[zAr T 0 m_posts 7 g_posts_30], [zAr T 0 m_shut 7 g_shut_7], [zAr T 0 m_here 7 g_here_8], [zO11 mo m_all m_has i_size i_next i_where i_token i_number i_word i_wrong i_farCrossing m_read 610 j_crossings_2 j_inns_3 m_posts m_shut m_here j_steps_4 j_done_5 i_at i_gone m_was m_came m_seenAt m_rowWorth m_farBy m_used i_everywhere i_again0 i_d0 i_never i_firstCame i_longRun i_moved i_crowd i_l0 i_fitMany i_fitLeast i_fitMost m_fitPost m_fitEnd m_keptPosts i_x0], [zAr T 0 m_all 3952 f_all]]) [4, 0, 1, 2, 3] rfl
            exact ih_20 (i + 1) cm g_posts_30 (show (i + 1) ≤ aPr (zWo f_all 610 j_inns_3) 7 ∧ zMP g_posts_30 ∧ zMV (zRo f_all 610) g_posts_30 ∧ cm = rCn (fun w => rAll (rTr (zWo f_all 610 j_inns_3) (zLo f_all 610) j_crossings_2.toInt.toNat j_inns_3 (aPo (zWo f_all 610 j_inns_3) w)) j_crossings_2.toInt.toNat) (i + 1) from ⟨(by omega), (by first | with_reducible assumption | assumption), hVy, (by
                                                                first | rw [Nat.add_zero, hcm] | rw [hcm]
                                                                exact (rCn_f (p := (fun w => rAll (rTr (zWo f_all 610 j_inns_3) (zLo f_all 610) j_crossings_2.toInt.toNat j_inns_3 (aPo (zWo f_all 610 j_inns_3) w)) j_crossings_2.toInt.toNat)) haq9).symm)⟩) (show aPr (zWo f_all 610 j_inns_3) 7 - (i + 1) < aPr (zWo f_all 610 j_inns_3) 7 - i from by omega) _ _ ls G (lv_sub hl [0, 1, 4, 5, 6] rfl)
          · have c_36n : ¬ b5.toInt = (0 : Int) := fun q => c_36 ((fa_eq _ _).mpr q)
            refine lv_iconst (v := 1) hx hb dX12_trees_95 (by decide) ?_
            refine lv_goto (tgt := 100) hx hb dX12_trees_96 (by decide) ?_
            refine lv_iadd hx hb dX12_trees_100 ?_
            refine lv_topi (fun y_38 ey_38 => ?_)
            obtain rfl : y_38 = nI (cm + 1) := ey_38.trans (z_iaddn cm 1 rfl rfl)
            have haq9 : (fun w => rAll (rTr (zWo f_all 610 j_inns_3) (zLo f_all 610) j_crossings_2.toInt.toNat j_inns_3 (aPo (zWo f_all 610 j_inns_3) w)) j_crossings_2.toInt.toNat) i = true := by rcases hb5 with ⟨e9, e8⟩ | ⟨e9, e8⟩ <;> first | (show rAll (rTr (zWo f_all 610 j_inns_3) (zLo f_all 610) j_crossings_2.toInt.toNat j_inns_3 (aPo (zWo f_all 610 j_inns_3) i)) j_crossings_2.toInt.toNat = true; rw [show j_crossings_2.toInt.toNat = k by omega]; exact e8) | (exfalso; have e7 := congrArg Int32.toInt e9; have e6 : (0 : Int32).toInt = 0 := rfl; have e5 : (1 : Int32).toInt = 1 := rfl; omega)
            refine lv_istore_n (lv' := [(3, .int (nI (cm + 1))), (6, .int (nI k)), (5, .int b5), (4, .int (nI i)), (2, .int r_27), (0, .ref mo), (1, .int l_)]) hx hb dX12_trees_101 rfl hl (by decide) (zLvf_h rfl) (fun ls hl => ?_)
            refine lv_iinc (v := nI (i + 1)) (lv' := [(4, .int (nI (i + 1))), (3, .int (nI (cm + 1))), (6, .int (nI k)), (5, .int b5), (2, .int r_27), (0, .ref mo), (1, .int l_)]) hx hb dX12_trees_102 hl (k := 3) rfl (z_inc i 1) (by decide) (zLvf_h rfl) (fun ls hl => ?_)
            refine lv_goto (tgt := 20) hx hb dX12_trees_105 (by decide) ?_
            have G := G.sub (bs' := [[zAr T 0 m_posts 7 g_posts_30], [zAr T 0 m_shut 7 g_shut_7], [zAr T 0 m_here 7 g_here_8], [zO11 mo m_all m_has i_size i_next i_where i_token i_number i_word i_wrong i_farCrossing m_read 610 j_crossings_2 j_inns_3 m_posts m_shut m_here j_steps_4 j_done_5 i_at i_gone m_was m_came m_seenAt m_rowWorth m_farBy m_used i_everywhere i_again0 i_d0 i_never i_firstCame i_longRun i_moved i_crowd i_l0 i_fitMany i_fitLeast i_fitMost m_fitPost m_fitEnd m_keptPosts i_x0], [zAr T 0 m_all 3952 f_all]]) [4, 0, 1, 2, 3] rfl
            exact ih_20 (i + 1) (cm + 1) g_posts_30 (show (i + 1) ≤ aPr (zWo f_all 610 j_inns_3) 7 ∧ zMP g_posts_30 ∧ zMV (zRo f_all 610) g_posts_30 ∧ (cm + 1) = rCn (fun w => rAll (rTr (zWo f_all 610 j_inns_3) (zLo f_all 610) j_crossings_2.toInt.toNat j_inns_3 (aPo (zWo f_all 610 j_inns_3) w)) j_crossings_2.toInt.toNat) (i + 1) from ⟨(by omega), (by first | with_reducible assumption | assumption), hVy, (by rw [hcm]; exact (rCn_t (p := (fun w => rAll (rTr (zWo f_all 610 j_inns_3) (zLo f_all 610) j_crossings_2.toInt.toNat j_inns_3 (aPo (zWo f_all 610 j_inns_3) w)) j_crossings_2.toInt.toNat)) haq9).symm)⟩) (show aPr (zWo f_all 610 j_inns_3) 7 - (i + 1) < aPr (zWo f_all 610 j_inns_3) 7 - i from by omega) _ _ ls G (lv_sub hl [0, 1, 4, 5, 6] rfl)
        · have c_35n : ¬ j_crossings_2.toInt ≤ (k : Int) := fun q => c_35 ((fa_le _ _).mpr (by rw [nI_toInt (n := k) (by omega)]; exact q))
          refine lv_iload hx hb dX12_trees_47 (lv_at hl 1 rfl) ?_
          refine lv_if_eq (tgt := 89) hx hb dX12_trees_49 (by decide) (fun c_39 => ?_) (fun c_39 => ?_)
          · have c_39n : b5.toInt = (0 : Int) := (fa_eq _ _).mp c_39
            refine lv_iload_n hx hb dX12_trees_89 rfl (lv_at hl 3 rfl) ?_
            refine lv_iload hx hb dX12_trees_90 (lv_at hl 1 rfl) ?_
            refine lv_if_eq (tgt := 99) hx hb dX12_trees_92 (by decide) (fun _ => ?_) (fun q => absurd c_39 q)
            refine lv_iconst (v := 0) hx hb dX12_trees_99 (by decide) ?_
            refine lv_iadd hx hb dX12_trees_100 ?_
            refine lv_topi (fun y_40 ey_40 => ?_)
            obtain rfl : y_40 = nI cm := ey_40.trans (z_iaddn cm 0 rfl rfl)
            have haq9 : ¬ (fun w => rAll (rTr (zWo f_all 610 j_inns_3) (zLo f_all 610) j_crossings_2.toInt.toNat j_inns_3 (aPo (zWo f_all 610 j_inns_3) w)) j_crossings_2.toInt.toNat) i = true := by rcases hb5 with ⟨e9, e8⟩ | ⟨e9, e8⟩ <;> first | exact e8 | (exfalso; have e7 := congrArg Int32.toInt e9; have e6 : (0 : Int32).toInt = 0 := rfl; have e5 : (1 : Int32).toInt = 1 := rfl; omega)
            refine lv_istore_n (lv' := [(3, .int (nI cm)), (6, .int (nI k)), (5, .int b5), (4, .int (nI i)), (2, .int r_27), (0, .ref mo), (1, .int l_)]) hx hb dX12_trees_101 rfl hl (by decide) (zLvf_h rfl) (fun ls hl => ?_)
            refine lv_iinc (v := nI (i + 1)) (lv' := [(4, .int (nI (i + 1))), (3, .int (nI cm)), (6, .int (nI k)), (5, .int b5), (2, .int r_27), (0, .ref mo), (1, .int l_)]) hx hb dX12_trees_102 hl (k := 3) rfl (z_inc i 1) (by decide) (zLvf_h rfl) (fun ls hl => ?_)
            refine lv_goto (tgt := 20) hx hb dX12_trees_105 (by decide) ?_
            have G := G.sub (bs' := [[zAr T 0 m_posts 7 g_posts_30], [zAr T 0 m_shut 7 g_shut_7], [zAr T 0 m_here 7 g_here_8], [zO11 mo m_all m_has i_size i_next i_where i_token i_number i_word i_wrong i_farCrossing m_read 610 j_crossings_2 j_inns_3 m_posts m_shut m_here j_steps_4 j_done_5 i_at i_gone m_was m_came m_seenAt m_rowWorth m_farBy m_used i_everywhere i_again0 i_d0 i_never i_firstCame i_longRun i_moved i_crowd i_l0 i_fitMany i_fitLeast i_fitMost m_fitPost m_fitEnd m_keptPosts i_x0], [zAr T 0 m_all 3952 f_all]]) [4, 0, 1, 2, 3] rfl
            exact ih_20 (i + 1) cm g_posts_30 (show (i + 1) ≤ aPr (zWo f_all 610 j_inns_3) 7 ∧ zMP g_posts_30 ∧ zMV (zRo f_all 610) g_posts_30 ∧ cm = rCn (fun w => rAll (rTr (zWo f_all 610 j_inns_3) (zLo f_all 610) j_crossings_2.toInt.toNat j_inns_3 (aPo (zWo f_all 610 j_inns_3) w)) j_crossings_2.toInt.toNat) (i + 1) from ⟨(by omega), (by first | with_reducible assumption | assumption), hVy, (by
                                                                first | rw [Nat.add_zero, hcm] | rw [hcm]
                                                                exact (rCn_f (p := (fun w => rAll (rTr (zWo f_all 610 j_inns_3) (zLo f_all 610) j_crossings_2.toInt.toNat j_inns_3 (aPo (zWo f_all 610 j_inns_3) w)) j_crossings_2.toInt.toNat)) haq9).symm)⟩) (show aPr (zWo f_all 610 j_inns_3) 7 - (i + 1) < aPr (zWo f_all 610 j_inns_3) 7 - i from by omega) _ _ ls G (lv_sub hl [0, 1, 4, 5, 6] rfl)
          · have c_39n : ¬ b5.toInt = (0 : Int) := fun q => c_39 ((fa_eq _ _).mpr q)
            have hb51 : rAll (rTr (zWo f_all 610 j_inns_3) (zLo f_all 610) j_crossings_2.toInt.toNat j_inns_3 (aPo (zWo f_all 610 j_inns_3) i)) k = true := by rcases hb5 with ⟨_, e9⟩ | ⟨e9, _⟩ <;> first | exact e9 | (exfalso; have e7 := congrArg Int32.toInt e9; have e6 : (0 : Int32).toInt = 0 := rfl; have e5 : (1 : Int32).toInt = 1 := rfl; omega)
            have tk9 := nI_toInt (n := k) (by omega)
            have tn9 := nI_n (n := k) (by omega)
            have hrk9 : rIn j_crossings_2.toInt.toNat (nI k) := ⟨by omega, by omega⟩
            have hLk9 : zLed (zStp f_all 610 j_inns_3 g_posts_30) 7 (nI k) = zLed (rSt (zWo f_all 610 j_inns_3) (zLo f_all 610) (aPo (zWo f_all 610 j_inns_3) i)) 7 (nI k) := (zLed_e hO9 hRw9 hrk9 7).trans (rLd_cg hO9 hRw9 (fun j hj hw => hdg j hj (by by_cases q9 : (j : Int) < j_crossings_2.toInt <;> first | exact q9 | (have q8 := zVZ_w (n := j_inns_3) hVz hj (by omega); omega))) hrk9 7)
            refine lv_aload_n hx hb dX12_trees_52 rfl (lv_at hl 5 rfl) ?_
            refine lv_iload hx hb dX12_trees_53 (lv_at hl 0 rfl) ?_
            have ti_41 : (nI k).toInt = ((k : Nat) : Int) := nI_toInt (by omega)
            refine z_Vi (bc := [[zO11 mo m_all m_has i_size i_next i_where i_token i_number i_word i_wrong i_farCrossing m_read 610 j_crossings_2 j_inns_3 m_posts m_shut m_here j_steps_4 j_done_5 i_at i_gone m_was m_came m_seenAt m_rowWorth m_farBy m_used i_everywhere i_again0 i_d0 i_never i_firstCame i_longRun i_moved i_crowd i_l0 i_fitMany i_fitLeast i_fitMost m_fitPost m_fitEnd m_keptPosts i_x0], [zAr T 0 m_all 3952 f_all]]) (br := [[zAr T 0 m_shut 7 g_shut_7], [zAr T 0 m_here 7 g_here_8], [zAr T 0 m_posts 7 g_posts_30]]) (As := [.int (nI k)]) (rest := []) C G (c_m_isFree l T mo m_all m_has i_size i_next i_where i_token i_number i_word i_wrong i_farCrossing m_read 610 j_crossings_2 j_inns_3 m_posts m_shut m_here j_steps_4 j_done_5 i_at i_gone m_was m_came m_seenAt m_rowWorth m_farBy m_used i_everywhere i_again0 i_d0 i_never i_firstCame i_longRun i_moved i_crowd i_l0 i_fitMany i_fitLeast i_fitMost m_fitPost m_fitEnd m_keptPosts i_x0 f_all (nI k) (by first | with_reducible assumption | with_reducible rfl | omega | assumption | rfl | decide) (by first | with_reducible assumption | with_reducible rfl | omega | assumption | rfl | decide) (by first | with_reducible assumption | with_reducible rfl | omega | assumption | rfl | decide)) (kV_RX12_223 C.2.2.2.2 (Nat.le_of_ble_eq_true rfl) (Nat.le_of_ble_eq_true rfl)) [2, 3] [2, 0] rfl rfl (ci := 11) (qc := (RX12, TX12, 43)) rfl rfl (List.mem_flatten.mpr ⟨_, List.mem_of_getElem? (i := 0) rfl, List.mem_cons_self⟩) rfl rfl hl.1 dX12_trees_55 (Nat.le_of_ble_eq_true rfl) (Nat.le_of_ble_eq_true rfl) (fun r_43 b1 H locs hw G => ?_)
            refine zAn2 hw ?_
            intro hbs9 hc_42
            clear hw
            subst hbs9
            have G : zS T A s.heap s [[zAr T 0 m_shut 7 g_shut_7], [zAr T 0 m_here 7 g_here_8], [zAr T 0 m_posts 7 g_posts_30], [zO11 mo m_all m_has i_size i_next i_where i_token i_number i_word i_wrong i_farCrossing m_read 610 j_crossings_2 j_inns_3 m_posts m_shut m_here j_steps_4 j_done_5 i_at i_gone m_was m_came m_seenAt m_rowWorth m_farBy m_used i_everywhere i_again0 i_d0 i_never i_firstCame i_longRun i_moved i_crowd i_l0 i_fitMany i_fitLeast i_fitMost m_fitPost m_fitEnd m_keptPosts i_x0], [zAr T 0 m_all 3952 f_all]] _ _ := G
            rcases hc_42 with ⟨rfl, h_44, h_45⟩ | ⟨rfl, h_46⟩
            · have h_44 : ¬ zInn j_inns_3 (nI k) := h_44
              have h_45 : 0 < (zRd f_all 610 (nI k)).toInt := h_45
              refine lv_if_eq (tgt := 76) hx hb dX12_trees_58 (by decide) (fun q => absurd q (by decide)) (fun _ => ?_)
              refine lv_aload_n hx hb dX12_trees_61 rfl (lv_at hl 5 rfl) ?_
              refine lv_aload_n hx hb dX12_trees_62 rfl (lv_at hl 5 rfl) ?_
              refine lv_iload hx hb dX12_trees_63 (lv_at hl 0 rfl) ?_
              refine lv_bipush (v := 7) hx hb dX12_trees_65 (by decide) ?_
              have ti_47 : (nI k).toInt = ((k : Nat) : Int) := nI_toInt (by omega)
              refine z_Vi (bc := [[zO11 mo m_all m_has i_size i_next i_where i_token i_number i_word i_wrong i_farCrossing m_read 610 j_crossings_2 j_inns_3 m_posts m_shut m_here j_steps_4 j_done_5 i_at i_gone m_was m_came m_seenAt m_rowWorth m_farBy m_used i_everywhere i_again0 i_d0 i_never i_firstCame i_longRun i_moved i_crowd i_l0 i_fitMany i_fitLeast i_fitMost m_fitPost m_fitEnd m_keptPosts i_x0], [zAr T 0 m_all 3952 f_all], [zAr T 0 m_posts 7 g_posts_30]]) (br := [[zAr T 0 m_shut 7 g_shut_7], [zAr T 0 m_here 7 g_here_8]]) (As := [.int (nI k), .int 7]) (rest := [.ref mo]) C G (c_m_ledTo l T mo m_all m_has i_size i_next i_where i_token i_number i_word i_wrong i_farCrossing m_read 610 j_crossings_2 j_inns_3 m_posts m_shut m_here j_steps_4 j_done_5 i_at i_gone m_was m_came m_seenAt m_rowWorth m_farBy m_used i_everywhere i_again0 i_d0 i_never i_firstCame i_longRun i_moved i_crowd i_l0 i_fitMany i_fitLeast i_fitMost m_fitPost m_fitEnd m_keptPosts i_x0 f_all g_posts_30 (nI k) 7 (by first | with_reducible assumption | with_reducible rfl | omega | assumption | rfl | decide) (by first | with_reducible assumption | with_reducible rfl | omega | assumption | rfl | decide) (by first | with_reducible assumption | with_reducible rfl | omega | assumption | rfl | decide) (by first | with_reducible assumption | with_reducible rfl | omega | assumption | rfl | decide) (by first | with_reducible assumption | with_reducible rfl | omega | assumption | rfl | decide) (by first | with_reducible assumption | with_reducible rfl | omega | assumption | rfl | decide)) (kV_RX12_248 C.2.2.2.2 (Nat.le_of_ble_eq_true rfl) (Nat.le_of_ble_eq_true rfl)) [3, 4, 2] [2, 0, 0] rfl rfl (ci := 11) (qc := (RX12, TX12, 43)) rfl rfl (List.mem_flatten.mpr ⟨_, List.mem_of_getElem? (i := 0) rfl, List.mem_cons_self⟩) rfl rfl hl.1 dX12_trees_67 (Nat.le_of_ble_eq_true rfl) (Nat.le_of_ble_eq_true rfl) (fun r_51 b1 H locs hw G => ?_)
              refine zAn4 hw ?_
              intro hbs9 h_48 h_49 h_50
              clear hw
              subst hbs9
              have G : zS T A s.heap s [[zAr T 0 m_shut 7 g_shut_7], [zAr T 0 m_here 7 g_here_8], [zO11 mo m_all m_has i_size i_next i_where i_token i_number i_word i_wrong i_farCrossing m_read 610 j_crossings_2 j_inns_3 m_posts m_shut m_here j_steps_4 j_done_5 i_at i_gone m_was m_came m_seenAt m_rowWorth m_farBy m_used i_everywhere i_again0 i_d0 i_never i_firstCame i_longRun i_moved i_crowd i_l0 i_fitMany i_fitLeast i_fitMost m_fitPost m_fitEnd m_keptPosts i_x0], [zAr T 0 m_all 3952 f_all], [zAr T 0 m_posts 7 g_posts_30]] _ _ := G
              subst h_48
              refine z_Vi (bc := [[zO11 mo m_all m_has i_size i_next i_where i_token i_number i_word i_wrong i_farCrossing m_read 610 j_crossings_2 j_inns_3 m_posts m_shut m_here j_steps_4 j_done_5 i_at i_gone m_was m_came m_seenAt m_rowWorth m_farBy m_used i_everywhere i_again0 i_d0 i_never i_firstCame i_longRun i_moved i_crowd i_l0 i_fitMany i_fitLeast i_fitMost m_fitPost m_fitEnd m_keptPosts i_x0]]) (br := [[zAr T 0 m_shut 7 g_shut_7], [zAr T 0 m_here 7 g_here_8], [zAr T 0 m_all 3952 f_all], [zAr T 0 m_posts 7 g_posts_30]]) (As := [.int (zLed (zStp f_all 610 j_inns_3 g_posts_30) (7 : Int32).toNatClampNeg (nI k))]) (rest := []) C G (c_m_isInn l T mo m_all m_has i_size i_next i_where i_token i_number i_word i_wrong i_farCrossing m_read 610 j_crossings_2 j_inns_3 m_posts m_shut m_here j_steps_4 j_done_5 i_at i_gone m_was m_came m_seenAt m_rowWorth m_farBy m_used i_everywhere i_again0 i_d0 i_never i_firstCame i_longRun i_moved i_crowd i_l0 i_fitMany i_fitLeast i_fitMost m_fitPost m_fitEnd m_keptPosts i_x0 (zLed (zStp f_all 610 j_inns_3 g_posts_30) (7 : Int32).toNatClampNeg (nI k))) (kV_RX12_178 C.2.2.2.2 (Nat.le_of_ble_eq_true rfl) (Nat.le_of_ble_eq_true rfl)) [2] [2] rfl rfl (ci := 11) (qc := (RX12, TX12, 43)) rfl rfl (List.mem_flatten.mpr ⟨_, List.mem_of_getElem? (i := 0) rfl, List.mem_cons_self⟩) rfl rfl hl.1 dX12_trees_70 (Nat.le_of_ble_eq_true rfl) (Nat.le_of_ble_eq_true rfl) (fun r_53 b1 H locs hw G => ?_)
              refine zAn2 hw ?_
              intro hbs9 hc_52
              clear hw
              subst hbs9
              have G : zS T A s.heap s [[zAr T 0 m_shut 7 g_shut_7], [zAr T 0 m_here 7 g_here_8], [zAr T 0 m_all 3952 f_all], [zAr T 0 m_posts 7 g_posts_30], [zO11 mo m_all m_has i_size i_next i_where i_token i_number i_word i_wrong i_farCrossing m_read 610 j_crossings_2 j_inns_3 m_posts m_shut m_here j_steps_4 j_done_5 i_at i_gone m_was m_came m_seenAt m_rowWorth m_farBy m_used i_everywhere i_again0 i_d0 i_never i_firstCame i_longRun i_moved i_crowd i_l0 i_fitMany i_fitLeast i_fitMost m_fitPost m_fitEnd m_keptPosts i_x0]] _ _ := G
              rcases hc_52 with ⟨rfl, h_54⟩ | ⟨rfl, h_55⟩
              · have h_54 : zInn j_inns_3 (zLed (zStp f_all 610 j_inns_3 g_posts_30) (7 : Int32).toNatClampNeg (nI k)) := h_54
                refine lv_if_eq (tgt := 80) hx hb dX12_trees_73 (by decide) (fun q => absurd q (by decide)) (fun _ => ?_)
                refine lv_iconst (v := 1) hx hb dX12_trees_76 (by decide) ?_
                refine lv_goto (tgt := 81) hx hb dX12_trees_77 (by decide) ?_
                have hbn9 : ((1 : Int32) = 1 ∧ rAll (rTr (zWo f_all 610 j_inns_3) (zLo f_all 610) j_crossings_2.toInt.toNat j_inns_3 (aPo (zWo f_all 610 j_inns_3) i)) (k + 1) = true ∨ (1 : Int32) = 0 ∧ ¬ rAll (rTr (zWo f_all 610 j_inns_3) (zLo f_all 610) j_crossings_2.toInt.toNat j_inns_3 (aPo (zWo f_all 610 j_inns_3) i)) j_crossings_2.toInt.toNat = true) := Or.inl ⟨rfl, rAll_s hb51 (by unfold rTr; first | (have q9 := aWo_0 (f := f_all) (z := 610) (n := j_inns_3) (c := nI k) (by first | with_reducible assumption | assumption) (by omega) (by omega); rw [tn9] at q9; rw [decide_eq_true q9.1]; rfl) | (rw [← hLk9, decide_eq_true (show zBit j_inns_3 _ = 1 from by first | with_reducible assumption | assumption), Bool.or_true]))⟩
                refine lv_istore (lv' := [(5, .int 1), (6, .int (nI k)), (4, .int (nI i)), (3, .int (nI cm)), (2, .int r_27), (0, .ref mo), (1, .int l_)]) hx hb dX12_trees_81 hl (by decide) (zLvf_h rfl) (fun ls hl => ?_)
                refine lv_iinc (v := nI (k + 1)) (lv' := [(6, .int (nI (k + 1))), (5, .int 1), (4, .int (nI i)), (3, .int (nI cm)), (2, .int r_27), (0, .ref mo), (1, .int l_)]) hx hb dX12_trees_83 hl (k := 1) rfl (z_inc k 1) (by decide) (zLvf_h rfl) (fun ls hl => ?_)
                refine lv_goto (tgt := 38) hx hb dX12_trees_86 (by decide) ?_
                have G := G.sub (bs' := [[zAr T 0 m_shut 7 g_shut_7], [zAr T 0 m_here 7 g_here_8], [zO11 mo m_all m_has i_size i_next i_where i_token i_number i_word i_wrong i_farCrossing m_read 610 j_crossings_2 j_inns_3 m_posts m_shut m_here j_steps_4 j_done_5 i_at i_gone m_was m_came m_seenAt m_rowWorth m_farBy m_used i_everywhere i_again0 i_d0 i_never i_firstCame i_longRun i_moved i_crowd i_l0 i_fitMany i_fitLeast i_fitMost m_fitPost m_fitEnd m_keptPosts i_x0], [zAr T 0 m_all 3952 f_all], [zAr T 0 m_posts 7 g_posts_30]]) [0, 1, 4, 2, 3] rfl
                exact ih_38 (k + 1) 1 (show (k + 1) ≤ 7 ∧ ((k + 1) : Int) ≤ j_crossings_2.toInt ∧ (1 = 1 ∧ rAll (rTr (zWo f_all 610 j_inns_3) (zLo f_all 610) j_crossings_2.toInt.toNat j_inns_3 (aPo (zWo f_all 610 j_inns_3) i)) (k + 1) = true ∨ 1 = 0 ∧ ¬ rAll (rTr (zWo f_all 610 j_inns_3) (zLo f_all 610) j_crossings_2.toInt.toNat j_inns_3 (aPo (zWo f_all 610 j_inns_3) i)) j_crossings_2.toInt.toNat = true) from ⟨by omega, by omega, hbn9⟩) (show 7 - (k + 1) < 7 - k from by omega) _ _ ls G (lv_sub hl [0, 1, 2, 3, 4, 5, 6] rfl)
              · have h_55 : ¬ zInn j_inns_3 (zLed (zStp f_all 610 j_inns_3 g_posts_30) (7 : Int32).toNatClampNeg (nI k)) := h_55
                refine lv_if_eq (tgt := 80) hx hb dX12_trees_73 (by decide) (fun _ => ?_) (fun q => absurd (by decide) q)
                refine lv_iconst (v := 0) hx hb dX12_trees_80 (by decide) ?_
                have hbn9 : ((0 : Int32) = 1 ∧ rAll (rTr (zWo f_all 610 j_inns_3) (zLo f_all 610) j_crossings_2.toInt.toNat j_inns_3 (aPo (zWo f_all 610 j_inns_3) i)) (k + 1) = true ∨ (0 : Int32) = 0 ∧ ¬ rAll (rTr (zWo f_all 610 j_inns_3) (zLo f_all 610) j_crossings_2.toInt.toNat j_inns_3 (aPo (zWo f_all 610 j_inns_3) i)) j_crossings_2.toInt.toNat = true) := Or.inr ⟨rfl, fun q8 => by have q7 := (rAll_y _).mp q8 k (by omega); have q9 := aWo_1 (f := f_all) (z := 610) (n := j_inns_3) (c := nI k) (by first | with_reducible assumption | assumption) (by first | with_reducible assumption | assumption) (by omega) (by omega); rw [tn9] at q9; unfold rTr at q7; rw [decide_eq_false (show ¬ ((zWo f_all 610 j_inns_3) k).toInt ≤ 0 from by omega), ← hLk9, decide_eq_false (show ¬ zBit j_inns_3 _ = 1 from by first | with_reducible assumption | assumption)] at q7; exact absurd q7 (by decide)⟩
                refine lv_istore (lv' := [(5, .int 0), (6, .int (nI k)), (4, .int (nI i)), (3, .int (nI cm)), (2, .int r_27), (0, .ref mo), (1, .int l_)]) hx hb dX12_trees_81 hl (by decide) (zLvf_h rfl) (fun ls hl => ?_)
                refine lv_iinc (v := nI (k + 1)) (lv' := [(6, .int (nI (k + 1))), (5, .int 0), (4, .int (nI i)), (3, .int (nI cm)), (2, .int r_27), (0, .ref mo), (1, .int l_)]) hx hb dX12_trees_83 hl (k := 1) rfl (z_inc k 1) (by decide) (zLvf_h rfl) (fun ls hl => ?_)
                refine lv_goto (tgt := 38) hx hb dX12_trees_86 (by decide) ?_
                have G := G.sub (bs' := [[zAr T 0 m_shut 7 g_shut_7], [zAr T 0 m_here 7 g_here_8], [zO11 mo m_all m_has i_size i_next i_where i_token i_number i_word i_wrong i_farCrossing m_read 610 j_crossings_2 j_inns_3 m_posts m_shut m_here j_steps_4 j_done_5 i_at i_gone m_was m_came m_seenAt m_rowWorth m_farBy m_used i_everywhere i_again0 i_d0 i_never i_firstCame i_longRun i_moved i_crowd i_l0 i_fitMany i_fitLeast i_fitMost m_fitPost m_fitEnd m_keptPosts i_x0], [zAr T 0 m_all 3952 f_all], [zAr T 0 m_posts 7 g_posts_30]]) [0, 1, 4, 2, 3] rfl
                exact ih_38 (k + 1) 0 (show (k + 1) ≤ 7 ∧ ((k + 1) : Int) ≤ j_crossings_2.toInt ∧ (0 = 1 ∧ rAll (rTr (zWo f_all 610 j_inns_3) (zLo f_all 610) j_crossings_2.toInt.toNat j_inns_3 (aPo (zWo f_all 610 j_inns_3) i)) (k + 1) = true ∨ 0 = 0 ∧ ¬ rAll (rTr (zWo f_all 610 j_inns_3) (zLo f_all 610) j_crossings_2.toInt.toNat j_inns_3 (aPo (zWo f_all 610 j_inns_3) i)) j_crossings_2.toInt.toNat = true) from ⟨by omega, by omega, hbn9⟩) (show 7 - (k + 1) < 7 - k from by omega) _ _ ls G (lv_sub hl [0, 1, 2, 3, 4, 5, 6] rfl)
            · have h_46 : (zInn j_inns_3 (nI k) ∨ (zRd f_all 610 (nI k)).toInt ≤ 0) := h_46
              refine lv_if_eq (tgt := 76) hx hb dX12_trees_58 (by decide) (fun _ => ?_) (fun q => absurd (by decide) q)
              refine lv_iconst (v := 1) hx hb dX12_trees_76 (by decide) ?_
              refine lv_goto (tgt := 81) hx hb dX12_trees_77 (by decide) ?_
              have hbn9 : ((1 : Int32) = 1 ∧ rAll (rTr (zWo f_all 610 j_inns_3) (zLo f_all 610) j_crossings_2.toInt.toNat j_inns_3 (aPo (zWo f_all 610 j_inns_3) i)) (k + 1) = true ∨ (1 : Int32) = 0 ∧ ¬ rAll (rTr (zWo f_all 610 j_inns_3) (zLo f_all 610) j_crossings_2.toInt.toNat j_inns_3 (aPo (zWo f_all 610 j_inns_3) i)) j_crossings_2.toInt.toNat = true) := Or.inl ⟨rfl, rAll_s hb51 (by unfold rTr; first | (have q9 := aWo_0 (f := f_all) (z := 610) (n := j_inns_3) (c := nI k) (by first | with_reducible assumption | assumption) (by omega) (by omega); rw [tn9] at q9; rw [decide_eq_true q9.1]; rfl) | (rw [← hLk9, decide_eq_true (show zBit j_inns_3 _ = 1 from by first | with_reducible assumption | assumption), Bool.or_true]))⟩
              refine lv_istore (lv' := [(5, .int 1), (6, .int (nI k)), (4, .int (nI i)), (3, .int (nI cm)), (2, .int r_27), (0, .ref mo), (1, .int l_)]) hx hb dX12_trees_81 hl (by decide) (zLvf_h rfl) (fun ls hl => ?_)
              refine lv_iinc (v := nI (k + 1)) (lv' := [(6, .int (nI (k + 1))), (5, .int 1), (4, .int (nI i)), (3, .int (nI cm)), (2, .int r_27), (0, .ref mo), (1, .int l_)]) hx hb dX12_trees_83 hl (k := 1) rfl (z_inc k 1) (by decide) (zLvf_h rfl) (fun ls hl => ?_)
              refine lv_goto (tgt := 38) hx hb dX12_trees_86 (by decide) ?_
              have G := G.sub (bs' := [[zAr T 0 m_shut 7 g_shut_7], [zAr T 0 m_here 7 g_here_8], [zO11 mo m_all m_has i_size i_next i_where i_token i_number i_word i_wrong i_farCrossing m_read 610 j_crossings_2 j_inns_3 m_posts m_shut m_here j_steps_4 j_done_5 i_at i_gone m_was m_came m_seenAt m_rowWorth m_farBy m_used i_everywhere i_again0 i_d0 i_never i_firstCame i_longRun i_moved i_crowd i_l0 i_fitMany i_fitLeast i_fitMost m_fitPost m_fitEnd m_keptPosts i_x0], [zAr T 0 m_all 3952 f_all], [zAr T 0 m_posts 7 g_posts_30]]) [0, 1, 3, 4, 2] rfl
              exact ih_38 (k + 1) 1 (show (k + 1) ≤ 7 ∧ ((k + 1) : Int) ≤ j_crossings_2.toInt ∧ (1 = 1 ∧ rAll (rTr (zWo f_all 610 j_inns_3) (zLo f_all 610) j_crossings_2.toInt.toNat j_inns_3 (aPo (zWo f_all 610 j_inns_3) i)) (k + 1) = true ∨ 1 = 0 ∧ ¬ rAll (rTr (zWo f_all 610 j_inns_3) (zLo f_all 610) j_crossings_2.toInt.toNat j_inns_3 (aPo (zWo f_all 610 j_inns_3) i)) j_crossings_2.toInt.toNat = true) from ⟨by omega, by omega, hbn9⟩) (show 7 - (k + 1) < 7 - k from by omega) _ _ ls G (lv_sub hl [0, 1, 2, 3, 4, 5, 6] rfl)
    · obtain rfl : j_z0_1 = 661 := Int32.toInt_inj.mp (by show j_z0_1.toInt = 661; omega)
      have hcx : j_crossings_2.toInt = (f_all 661).toInt := by rw [hLx.2.1]; rfl
      have hVz : zVZ f_all 661 j_crossings_2 := by rw [hLx.2.1]; exact hVZ1
      have hWe : (zWo f_all 661 j_inns_3) = pW f_all 661 := congrArg (zWo f_all 661) h_17
      have hS0 : ∀ j, j < 7 → g_shut_7 j = 0 := h_21
      have hNz : 1 ≤ aPr (zWo f_all 661 j_inns_3) 7 := aPr_p _
      have hNi : j_inns_3 = f_all (661 + 1) := h_17
      refine lv_aload_n hx hb dX12_trees_10 rfl (lv_at hl 0 rfl) ?_
      refine z_Vi (bc := [[zO11 mo m_all m_has i_size i_next i_where i_token i_number i_word i_wrong i_farCrossing m_read 661 j_crossings_2 j_inns_3 m_posts m_shut m_here j_steps_4 j_done_5 i_at i_gone m_was m_came m_seenAt m_rowWorth m_farBy m_used i_everywhere i_again0 i_d0 i_never i_firstCame i_longRun i_moved i_crowd i_l0 i_fitMany i_fitLeast i_fitMost m_fitPost m_fitEnd m_keptPosts i_x0], [zAr T 0 m_all 3952 f_all]]) (br := [[zAr T 0 m_posts 7 g_posts_6], [zAr T 0 m_shut 7 g_shut_7], [zAr T 0 m_here 7 g_here_8]]) (As := []) (rest := []) C G (c_fm_waysMany l T mo m_all m_has i_size i_next i_where i_token i_number i_word i_wrong i_farCrossing m_read 661 j_crossings_2 j_inns_3 m_posts m_shut m_here j_steps_4 j_done_5 i_at i_gone m_was m_came m_seenAt m_rowWorth m_farBy m_used i_everywhere i_again0 i_d0 i_never i_firstCame i_longRun i_moved i_crowd i_l0 i_fitMany i_fitLeast i_fitMost m_fitPost m_fitEnd m_keptPosts i_x0 f_all (by first | with_reducible assumption | with_reducible rfl | omega | assumption | rfl | decide) hVz) (kV_RX12_229 C.2.2.2.2 (Nat.le_of_ble_eq_true rfl) (Nat.le_of_ble_eq_true rfl)) [0, 1] [0, 0] rfl rfl (ci := 11) (qc := (RX12, TX12, 43)) rfl rfl (List.mem_flatten.mpr ⟨_, List.mem_of_getElem? (i := 0) rfl, List.mem_cons_self⟩) rfl rfl hl.1 dX12_trees_11 (Nat.le_of_ble_eq_true rfl) (Nat.le_of_ble_eq_true rfl) (fun r_59 b1 H locs hw G => ?_)
      refine zAn4 hw ?_
      intro hbs9 h_56 h_57 h_58
      clear hw
      subst hbs9
      have G : zS T A s.heap s [[zAr T 0 m_posts 7 g_posts_6], [zAr T 0 m_shut 7 g_shut_7], [zAr T 0 m_here 7 g_here_8], [zO11 mo m_all m_has i_size i_next i_where i_token i_number i_word i_wrong i_farCrossing m_read 661 j_crossings_2 j_inns_3 m_posts m_shut m_here j_steps_4 j_done_5 i_at i_gone m_was m_came m_seenAt m_rowWorth m_farBy m_used i_everywhere i_again0 i_d0 i_never i_firstCame i_longRun i_moved i_crowd i_l0 i_fitMany i_fitLeast i_fitMost m_fitPost m_fitEnd m_keptPosts i_x0], [zAr T 0 m_all 3952 f_all]] _ _ := G
      have hmN : r_59 = nI (aPr (zWo f_all 661 j_inns_3) 7) := h_58
      have hm1 : aPr (zWo f_all 661 j_inns_3) 7 ≤ 16384 := aPr_mx hLx
      have hmT : r_59.toInt = ((aPr (zWo f_all 661 j_inns_3) 7 : Nat) : Int) := by rw [hmN, nI_toInt (by omega)]
      refine lv_istore_n (lv' := [(2, .int r_59), (0, .ref mo), (1, .int l_)]) hx hb dX12_trees_14 rfl hl (by decide) (zLvf_h rfl) (fun ls hl => ?_)
      refine lv_iconst (v := 0) hx hb dX12_trees_15 (by decide) ?_
      refine lv_istore_n (lv' := [(3, .int 0), (2, .int r_59), (0, .ref mo), (1, .int l_)]) hx hb dX12_trees_16 rfl hl (by decide) (zLvf_h rfl) (fun ls hl => ?_)
      refine lv_iconst (v := 0) hx hb dX12_trees_17 (by decide) ?_
      refine lv_istore (lv' := [(4, .int 0), (3, .int 0), (2, .int r_59), (0, .ref mo), (1, .int l_)]) hx hb dX12_trees_18 hl (by decide) (zLvf_h rfl) (fun ls hl => ?_)
      refine z_lp3 (T := T) 20 (fun (i : Nat) (cm : Nat) (xposts : Nat → Int32) => [[zAr T 0 m_posts 7 xposts], [zAr T 0 m_shut 7 g_shut_7], [zAr T 0 m_here 7 g_here_8], [zO11 mo m_all m_has i_size i_next i_where i_token i_number i_word i_wrong i_farCrossing m_read 661 j_crossings_2 j_inns_3 m_posts m_shut m_here j_steps_4 j_done_5 i_at i_gone m_was m_came m_seenAt m_rowWorth m_farBy m_used i_everywhere i_again0 i_d0 i_never i_firstCame i_longRun i_moved i_crowd i_l0 i_fitMany i_fitLeast i_fitMost m_fitPost m_fitEnd m_keptPosts i_x0], [zAr T 0 m_all 3952 f_all]]) (fun (i : Nat) (cm : Nat) (xposts : Nat → Int32) => [(4, .int (nI i)), (3, .int (nI cm)), (2, .int r_59), (0, .ref mo), (1, .int l_)]) (fun (i : Nat) (cm : Nat) (xposts : Nat → Int32) => i ≤ aPr (zWo f_all 661 j_inns_3) 7 ∧ zMP xposts ∧ zMV (zRo f_all 661) xposts ∧ cm = rCn (fun w => rAll (rTr (zWo f_all 661 j_inns_3) (zLo f_all 661) j_crossings_2.toInt.toNat j_inns_3 (aPo (zWo f_all 661 j_inns_3) w)) j_crossings_2.toInt.toNat) i) (fun (i : Nat) (cm : Nat) (xposts : Nat → Int32) => aPr (zWo f_all 661 j_inns_3) 7 - i) ?_ 0 0 g_posts_6 (show 0 ≤ aPr (zWo f_all 661 j_inns_3) 7 ∧ zMP g_posts_6 ∧ zMV (zRo f_all 661) g_posts_6 ∧ 0 = rCn (fun w => rAll (rTr (zWo f_all 661 j_inns_3) (zLo f_all 661) j_crossings_2.toInt.toNat j_inns_3 (aPo (zWo f_all 661 j_inns_3) w)) j_crossings_2.toInt.toNat) 0 from ⟨(Nat.zero_le _), (by first | with_reducible assumption | assumption), hVx, rfl⟩) G (lv_sub hl [0, 1, 2, 3, 4] rfl)
      intro i cm xposts hI9 ih_20 H locs ls G hl
      replace hI9 : i ≤ aPr (zWo f_all 661 j_inns_3) 7 ∧ zMP xposts ∧ zMV (zRo f_all 661) xposts ∧ cm = rCn (fun w => rAll (rTr (zWo f_all 661 j_inns_3) (zLo f_all 661) j_crossings_2.toInt.toNat j_inns_3 (aPo (zWo f_all 661 j_inns_3) w)) j_crossings_2.toInt.toNat) i := hI9
      refine zAn4 hI9 ?_
      intro hi hQ hVq hcm
      clear hI9
      replace G : zS T A s.heap s [[zAr T 0 m_posts 7 xposts], [zAr T 0 m_shut 7 g_shut_7], [zAr T 0 m_here 7 g_here_8], [zO11 mo m_all m_has i_size i_next i_where i_token i_number i_word i_wrong i_farCrossing m_read 661 j_crossings_2 j_inns_3 m_posts m_shut m_here j_steps_4 j_done_5 i_at i_gone m_was m_came m_seenAt m_rowWorth m_farBy m_used i_everywhere i_again0 i_d0 i_never i_firstCame i_longRun i_moved i_crowd i_l0 i_fitMany i_fitLeast i_fitMost m_fitPost m_fitEnd m_keptPosts i_x0], [zAr T 0 m_all 3952 f_all]] _ _ := G
      replace hl : lv_has ls 7 [(4, .int (nI i)), (3, .int (nI cm)), (2, .int r_59), (0, .ref mo), (1, .int l_)] := hl
      refine lv_iload hx hb dX12_trees_20 (lv_at hl 0 rfl) ?_
      refine lv_iload_n hx hb dX12_trees_22 rfl (lv_at hl 2 rfl) ?_
      refine lv_icmp_ge (tgt := 108) hx hb dX12_trees_23 (by decide) (fun c_60 => ?_) (fun c_60 => ?_)
      · have c_60n : r_59.toInt ≤ (i : Int) := by have q := (fa_le _ _).mp c_60; rw [nI_toInt (n := i) (by omega)] at q; exact q
        refine lv_iload_n hx hb dX12_trees_108 rfl (lv_at hl 1 rfl) ?_
        have G := G.sub (bs' := [[zO11 mo m_all m_has i_size i_next i_where i_token i_number i_word i_wrong i_farCrossing m_read 661 j_crossings_2 j_inns_3 m_posts m_shut m_here j_steps_4 j_done_5 i_at i_gone m_was m_came m_seenAt m_rowWorth m_farBy m_used i_everywhere i_again0 i_d0 i_never i_firstCame i_longRun i_moved i_crowd i_l0 i_fitMany i_fitLeast i_fitMost m_fitPost m_fitEnd m_keptPosts i_x0], [zAr T 0 m_all 3952 f_all], [zAr T 0 m_posts 7 xposts], [zAr T 0 m_shut 7 g_shut_7], [zAr T 0 m_here 7 g_here_8]]) [3, 4, 0, 1, 2] rfl
        exact z_back hQz_ (z_iret C hr hlocks G (Nat.le_of_ble_eq_true rfl) (Nat.le_of_ble_eq_true rfl) dX12_trees_109 ⟨661, j_crossings_2, j_inns_3, j_steps_4, j_done_5, xposts, g_shut_7, g_here_8, rfl, (Or.inr (Or.inr ⟨by first | with_reducible assumption | assumption, by omega, (by unfold pTrees; show _ = rTrs (pW f_all 661) (zLo f_all 661) (f_all 661).toInt.toNat (f_all (661 + 1)); rw [← hWe, ← hNi, ← hcx, hcm, show i = aPr (zWo f_all 661 j_inns_3) 7 by omega]; rfl)⟩))⟩)
      · have c_60n : ¬ r_59.toInt ≤ (i : Int) := fun q => c_60 ((fa_le _ _).mpr (by rw [nI_toInt (n := i) (by omega)]; exact q))
        refine lv_aload_n hx hb dX12_trees_26 rfl (lv_at hl 3 rfl) ?_
        refine lv_iload hx hb dX12_trees_27 (lv_at hl 0 rfl) ?_
        have ti_61 : (nI i).toInt = ((i : Nat) : Int) := nI_toInt (by omega)
        refine z_Vv (bc := [[zO11 mo m_all m_has i_size i_next i_where i_token i_number i_word i_wrong i_farCrossing m_read 661 j_crossings_2 j_inns_3 m_posts m_shut m_here j_steps_4 j_done_5 i_at i_gone m_was m_came m_seenAt m_rowWorth m_farBy m_used i_everywhere i_again0 i_d0 i_never i_firstCame i_longRun i_moved i_crowd i_l0 i_fitMany i_fitLeast i_fitMost m_fitPost m_fitEnd m_keptPosts i_x0], [zAr T 0 m_all 3952 f_all], [zAr T 0 m_posts 7 xposts]]) (br := [[zAr T 0 m_shut 7 g_shut_7], [zAr T 0 m_here 7 g_here_8]]) (As := [.int (nI i)]) (rest := []) C G (c_fm_setsWay l T mo m_all m_has i_size i_next i_where i_token i_number i_word i_wrong i_farCrossing m_read 661 j_crossings_2 j_inns_3 m_posts m_shut m_here j_steps_4 j_done_5 i_at i_gone m_was m_came m_seenAt m_rowWorth m_farBy m_used i_everywhere i_again0 i_d0 i_never i_firstCame i_longRun i_moved i_crowd i_l0 i_fitMany i_fitLeast i_fitMost m_fitPost m_fitEnd m_keptPosts i_x0 f_all xposts (nI i) (by first | with_reducible assumption | with_reducible rfl | omega | assumption | rfl | decide) (by first | with_reducible assumption | with_reducible rfl | omega | assumption | rfl | decide) (by first | with_reducible assumption | with_reducible rfl | omega | assumption | rfl | decide) hVz) (kV_RX12_226 C.2.2.2.2 (Nat.le_of_ble_eq_true rfl) (Nat.le_of_ble_eq_true rfl)) [3, 4, 0] [0, 2, 0] rfl rfl (ci := 11) (qc := (RX12, TX12, 43)) rfl rfl (List.mem_flatten.mpr ⟨_, List.mem_of_getElem? (i := 0) rfl, List.mem_cons_self⟩) rfl rfl hl.1 dX12_trees_29 (Nat.le_of_ble_eq_true rfl) (Nat.le_of_ble_eq_true rfl) (fun b1 H locs hw G => ?_)
        refine zEx1 hw ?_
        intro g_posts_62
        refine zCu4 ?_
        intro hbs9 h_63 h_64 h_65
        clear hw
        subst hbs9
        have G : zS T A s.heap s [[zAr T 0 m_shut 7 g_shut_7], [zAr T 0 m_here 7 g_here_8], [zO11 mo m_all m_has i_size i_next i_where i_token i_number i_word i_wrong i_farCrossing m_read 661 j_crossings_2 j_inns_3 m_posts m_shut m_here j_steps_4 j_done_5 i_at i_gone m_was m_came m_seenAt m_rowWorth m_farBy m_used i_everywhere i_again0 i_d0 i_never i_firstCame i_longRun i_moved i_crowd i_l0 i_fitMany i_fitLeast i_fitMost m_fitPost m_fitEnd m_keptPosts i_x0], [zAr T 0 m_all 3952 f_all], [zAr T 0 m_posts 7 g_posts_62]] _ _ := G
        have hn2i := nI_n (n := i) (by omega)
        have hdg := h_65
        rw [hn2i] at hdg
        have hVy := h_64
        have hQy := h_63
        have hV9 := zVA_0 hVA hLx.1
        have hO9 := qOk (n := j_inns_3) hLx hV9
        have hRa9 : rPo (zWo f_all 661 j_inns_3) (aPo (zWo f_all 661 j_inns_3) i) := aPo_in (fun c hc => (hO9.2.1 c hc).2)
        have hRw9 : rPo (zWo f_all 661 j_inns_3) g_posts_62 := fun c hc hw => by rw [hdg c hc (by by_cases q9 : (c : Int) < j_crossings_2.toInt <;> first | exact q9 | (have q8 := zVZ_w (n := j_inns_3) hVz hc (by omega); omega))]; exact hRa9 c hc hw
        refine lv_iconst (v := 1) hx hb dX12_trees_32 (by decide) ?_
        refine lv_istore (lv' := [(5, .int 1), (4, .int (nI i)), (3, .int (nI cm)), (2, .int r_59), (0, .ref mo), (1, .int l_)]) hx hb dX12_trees_33 hl (by decide) (zLvf_h rfl) (fun ls hl => ?_)
        refine lv_iconst (v := 0) hx hb dX12_trees_35 (by decide) ?_
        refine lv_istore (lv' := [(6, .int 0), (5, .int 1), (4, .int (nI i)), (3, .int (nI cm)), (2, .int r_59), (0, .ref mo), (1, .int l_)]) hx hb dX12_trees_36 hl (by decide) (zLvf_h rfl) (fun ls hl => ?_)
        refine z_lp2 (T := T) 38 (fun (k : Nat) (b5 : Int32) => [[zAr T 0 m_shut 7 g_shut_7], [zAr T 0 m_here 7 g_here_8], [zO11 mo m_all m_has i_size i_next i_where i_token i_number i_word i_wrong i_farCrossing m_read 661 j_crossings_2 j_inns_3 m_posts m_shut m_here j_steps_4 j_done_5 i_at i_gone m_was m_came m_seenAt m_rowWorth m_farBy m_used i_everywhere i_again0 i_d0 i_never i_firstCame i_longRun i_moved i_crowd i_l0 i_fitMany i_fitLeast i_fitMost m_fitPost m_fitEnd m_keptPosts i_x0], [zAr T 0 m_all 3952 f_all], [zAr T 0 m_posts 7 g_posts_62]]) (fun (k : Nat) (b5 : Int32) => [(6, .int (nI k)), (5, .int b5), (4, .int (nI i)), (3, .int (nI cm)), (2, .int r_59), (0, .ref mo), (1, .int l_)]) (fun (k : Nat) (b5 : Int32) => k ≤ 7 ∧ (k : Int) ≤ j_crossings_2.toInt ∧ (b5 = 1 ∧ rAll (rTr (zWo f_all 661 j_inns_3) (zLo f_all 661) j_crossings_2.toInt.toNat j_inns_3 (aPo (zWo f_all 661 j_inns_3) i)) k = true ∨ b5 = 0 ∧ ¬ rAll (rTr (zWo f_all 661 j_inns_3) (zLo f_all 661) j_crossings_2.toInt.toNat j_inns_3 (aPo (zWo f_all 661 j_inns_3) i)) j_crossings_2.toInt.toNat = true)) (fun (k : Nat) (b5 : Int32) => 7 - k) ?_ 0 1 (show 0 ≤ 7 ∧ (0 : Int) ≤ j_crossings_2.toInt ∧ (1 = 1 ∧ rAll (rTr (zWo f_all 661 j_inns_3) (zLo f_all 661) j_crossings_2.toInt.toNat j_inns_3 (aPo (zWo f_all 661 j_inns_3) i)) 0 = true ∨ 1 = 0 ∧ ¬ rAll (rTr (zWo f_all 661 j_inns_3) (zLo f_all 661) j_crossings_2.toInt.toNat j_inns_3 (aPo (zWo f_all 661 j_inns_3) i)) j_crossings_2.toInt.toNat = true) from ⟨by omega, by omega, (Or.inl ⟨rfl, rfl⟩)⟩) G (lv_sub hl [0, 1, 2, 3, 4, 5, 6] rfl)
        intro k b5 hI9 ih_38 H locs ls G hl
        replace hI9 : k ≤ 7 ∧ (k : Int) ≤ j_crossings_2.toInt ∧ (b5 = 1 ∧ rAll (rTr (zWo f_all 661 j_inns_3) (zLo f_all 661) j_crossings_2.toInt.toNat j_inns_3 (aPo (zWo f_all 661 j_inns_3) i)) k = true ∨ b5 = 0 ∧ ¬ rAll (rTr (zWo f_all 661 j_inns_3) (zLo f_all 661) j_crossings_2.toInt.toNat j_inns_3 (aPo (zWo f_all 661 j_inns_3) i)) j_crossings_2.toInt.toNat = true) := hI9
        refine zAn3 hI9 ?_
        intro hk hkc hb5
        clear hI9
        replace G : zS T A s.heap s [[zAr T 0 m_shut 7 g_shut_7], [zAr T 0 m_here 7 g_here_8], [zO11 mo m_all m_has i_size i_next i_where i_token i_number i_word i_wrong i_farCrossing m_read 661 j_crossings_2 j_inns_3 m_posts m_shut m_here j_steps_4 j_done_5 i_at i_gone m_was m_came m_seenAt m_rowWorth m_farBy m_used i_everywhere i_again0 i_d0 i_never i_firstCame i_longRun i_moved i_crowd i_l0 i_fitMany i_fitLeast i_fitMost m_fitPost m_fitEnd m_keptPosts i_x0], [zAr T 0 m_all 3952 f_all], [zAr T 0 m_posts 7 g_posts_62]] _ _ := G
        replace hl : lv_has ls 7 [(6, .int (nI k)), (5, .int b5), (4, .int (nI i)), (3, .int (nI cm)), (2, .int r_59), (0, .ref mo), (1, .int l_)] := hl
        refine lv_iload hx hb dX12_trees_38 (lv_at hl 0 rfl) ?_
        refine lv_aload_n hx hb dX12_trees_40 rfl (lv_at hl 5 rfl) ?_
        refine z_get C G clX12 2 rfl 12 (by decide) m_fl_RX12_169 rfl dX12_trees_41 ?_
        refine lv_icmp_ge (tgt := 89) hx hb dX12_trees_44 (by decide) (fun c_67 => ?_) (fun c_67 => ?_)
        · have c_67n : j_crossings_2.toInt ≤ (k : Int) := by have q := (fa_le _ _).mp c_67; rw [nI_toInt (n := k) (by omega)] at q; exact q
          refine lv_iload_n hx hb dX12_trees_89 rfl (lv_at hl 3 rfl) ?_
          refine lv_iload hx hb dX12_trees_90 (lv_at hl 1 rfl) ?_
          refine lv_if_eq (tgt := 99) hx hb dX12_trees_92 (by decide) (fun c_68 => ?_) (fun c_68 => ?_)
          · have c_68n : b5.toInt = (0 : Int) := (fa_eq _ _).mp c_68
            refine lv_iconst (v := 0) hx hb dX12_trees_99 (by decide) ?_
            refine lv_iadd hx hb dX12_trees_100 ?_
            refine lv_topi (fun y_69 ey_69 => ?_)
            obtain rfl : y_69 = nI cm := ey_69.trans (z_iaddn cm 0 rfl rfl)
            have haq9 : ¬ (fun w => rAll (rTr (zWo f_all 661 j_inns_3) (zLo f_all 661) j_crossings_2.toInt.toNat j_inns_3 (aPo (zWo f_all 661 j_inns_3) w)) j_crossings_2.toInt.toNat) i = true := by rcases hb5 with ⟨e9, e8⟩ | ⟨e9, e8⟩ <;> first | exact e8 | (exfalso; have e7 := congrArg Int32.toInt e9; have e6 : (0 : Int32).toInt = 0 := rfl; have e5 : (1 : Int32).toInt = 1 := rfl; omega)
            refine lv_istore_n (lv' := [(3, .int (nI cm)), (6, .int (nI k)), (5, .int b5), (4, .int (nI i)), (2, .int r_59), (0, .ref mo), (1, .int l_)]) hx hb dX12_trees_101 rfl hl (by decide) (zLvf_h rfl) (fun ls hl => ?_)
            refine lv_iinc (v := nI (i + 1)) (lv' := [(4, .int (nI (i + 1))), (3, .int (nI cm)), (6, .int (nI k)), (5, .int b5), (2, .int r_59), (0, .ref mo), (1, .int l_)]) hx hb dX12_trees_102 hl (k := 3) rfl (z_inc i 1) (by decide) (zLvf_h rfl) (fun ls hl => ?_)
            refine lv_goto (tgt := 20) hx hb dX12_trees_105 (by decide) ?_
            have G := G.sub (bs' := [[zAr T 0 m_posts 7 g_posts_62], [zAr T 0 m_shut 7 g_shut_7], [zAr T 0 m_here 7 g_here_8], [zO11 mo m_all m_has i_size i_next i_where i_token i_number i_word i_wrong i_farCrossing m_read 661 j_crossings_2 j_inns_3 m_posts m_shut m_here j_steps_4 j_done_5 i_at i_gone m_was m_came m_seenAt m_rowWorth m_farBy m_used i_everywhere i_again0 i_d0 i_never i_firstCame i_longRun i_moved i_crowd i_l0 i_fitMany i_fitLeast i_fitMost m_fitPost m_fitEnd m_keptPosts i_x0], [zAr T 0 m_all 3952 f_all]]) [4, 0, 1, 2, 3] rfl
            exact ih_20 (i + 1) cm g_posts_62 (show (i + 1) ≤ aPr (zWo f_all 661 j_inns_3) 7 ∧ zMP g_posts_62 ∧ zMV (zRo f_all 661) g_posts_62 ∧ cm = rCn (fun w => rAll (rTr (zWo f_all 661 j_inns_3) (zLo f_all 661) j_crossings_2.toInt.toNat j_inns_3 (aPo (zWo f_all 661 j_inns_3) w)) j_crossings_2.toInt.toNat) (i + 1) from ⟨(by omega), (by first | with_reducible assumption | assumption), hVy, (by
                                                                first | rw [Nat.add_zero, hcm] | rw [hcm]
                                                                exact (rCn_f (p := (fun w => rAll (rTr (zWo f_all 661 j_inns_3) (zLo f_all 661) j_crossings_2.toInt.toNat j_inns_3 (aPo (zWo f_all 661 j_inns_3) w)) j_crossings_2.toInt.toNat)) haq9).symm)⟩) (show aPr (zWo f_all 661 j_inns_3) 7 - (i + 1) < aPr (zWo f_all 661 j_inns_3) 7 - i from by omega) _ _ ls G (lv_sub hl [0, 1, 4, 5, 6] rfl)
          · have c_68n : ¬ b5.toInt = (0 : Int) := fun q => c_68 ((fa_eq _ _).mpr q)
            refine lv_iconst (v := 1) hx hb dX12_trees_95 (by decide) ?_
            refine lv_goto (tgt := 100) hx hb dX12_trees_96 (by decide) ?_
            refine lv_iadd hx hb dX12_trees_100 ?_
            refine lv_topi (fun y_70 ey_70 => ?_)
            obtain rfl : y_70 = nI (cm + 1) := ey_70.trans (z_iaddn cm 1 rfl rfl)
            have haq9 : (fun w => rAll (rTr (zWo f_all 661 j_inns_3) (zLo f_all 661) j_crossings_2.toInt.toNat j_inns_3 (aPo (zWo f_all 661 j_inns_3) w)) j_crossings_2.toInt.toNat) i = true := by rcases hb5 with ⟨e9, e8⟩ | ⟨e9, e8⟩ <;> first | (show rAll (rTr (zWo f_all 661 j_inns_3) (zLo f_all 661) j_crossings_2.toInt.toNat j_inns_3 (aPo (zWo f_all 661 j_inns_3) i)) j_crossings_2.toInt.toNat = true; rw [show j_crossings_2.toInt.toNat = k by omega]; exact e8) | (exfalso; have e7 := congrArg Int32.toInt e9; have e6 : (0 : Int32).toInt = 0 := rfl; have e5 : (1 : Int32).toInt = 1 := rfl; omega)
            refine lv_istore_n (lv' := [(3, .int (nI (cm + 1))), (6, .int (nI k)), (5, .int b5), (4, .int (nI i)), (2, .int r_59), (0, .ref mo), (1, .int l_)]) hx hb dX12_trees_101 rfl hl (by decide) (zLvf_h rfl) (fun ls hl => ?_)
            refine lv_iinc (v := nI (i + 1)) (lv' := [(4, .int (nI (i + 1))), (3, .int (nI (cm + 1))), (6, .int (nI k)), (5, .int b5), (2, .int r_59), (0, .ref mo), (1, .int l_)]) hx hb dX12_trees_102 hl (k := 3) rfl (z_inc i 1) (by decide) (zLvf_h rfl) (fun ls hl => ?_)
            refine lv_goto (tgt := 20) hx hb dX12_trees_105 (by decide) ?_
            have G := G.sub (bs' := [[zAr T 0 m_posts 7 g_posts_62], [zAr T 0 m_shut 7 g_shut_7], [zAr T 0 m_here 7 g_here_8], [zO11 mo m_all m_has i_size i_next i_where i_token i_number i_word i_wrong i_farCrossing m_read 661 j_crossings_2 j_inns_3 m_posts m_shut m_here j_steps_4 j_done_5 i_at i_gone m_was m_came m_seenAt m_rowWorth m_farBy m_used i_everywhere i_again0 i_d0 i_never i_firstCame i_longRun i_moved i_crowd i_l0 i_fitMany i_fitLeast i_fitMost m_fitPost m_fitEnd m_keptPosts i_x0], [zAr T 0 m_all 3952 f_all]]) [4, 0, 1, 2, 3] rfl
            exact ih_20 (i + 1) (cm + 1) g_posts_62 (show (i + 1) ≤ aPr (zWo f_all 661 j_inns_3) 7 ∧ zMP g_posts_62 ∧ zMV (zRo f_all 661) g_posts_62 ∧ (cm + 1) = rCn (fun w => rAll (rTr (zWo f_all 661 j_inns_3) (zLo f_all 661) j_crossings_2.toInt.toNat j_inns_3 (aPo (zWo f_all 661 j_inns_3) w)) j_crossings_2.toInt.toNat) (i + 1) from ⟨(by omega), (by first | with_reducible assumption | assumption), hVy, (by rw [hcm]; exact (rCn_t (p := (fun w => rAll (rTr (zWo f_all 661 j_inns_3) (zLo f_all 661) j_crossings_2.toInt.toNat j_inns_3 (aPo (zWo f_all 661 j_inns_3) w)) j_crossings_2.toInt.toNat)) haq9).symm)⟩) (show aPr (zWo f_all 661 j_inns_3) 7 - (i + 1) < aPr (zWo f_all 661 j_inns_3) 7 - i from by omega) _ _ ls G (lv_sub hl [0, 1, 4, 5, 6] rfl)
        · have c_67n : ¬ j_crossings_2.toInt ≤ (k : Int) := fun q => c_67 ((fa_le _ _).mpr (by rw [nI_toInt (n := k) (by omega)]; exact q))
          refine lv_iload hx hb dX12_trees_47 (lv_at hl 1 rfl) ?_
          refine lv_if_eq (tgt := 89) hx hb dX12_trees_49 (by decide) (fun c_71 => ?_) (fun c_71 => ?_)
          · have c_71n : b5.toInt = (0 : Int) := (fa_eq _ _).mp c_71
            refine lv_iload_n hx hb dX12_trees_89 rfl (lv_at hl 3 rfl) ?_
            refine lv_iload hx hb dX12_trees_90 (lv_at hl 1 rfl) ?_
            refine lv_if_eq (tgt := 99) hx hb dX12_trees_92 (by decide) (fun _ => ?_) (fun q => absurd c_71 q)
            refine lv_iconst (v := 0) hx hb dX12_trees_99 (by decide) ?_
            refine lv_iadd hx hb dX12_trees_100 ?_
            refine lv_topi (fun y_72 ey_72 => ?_)
            obtain rfl : y_72 = nI cm := ey_72.trans (z_iaddn cm 0 rfl rfl)
            have haq9 : ¬ (fun w => rAll (rTr (zWo f_all 661 j_inns_3) (zLo f_all 661) j_crossings_2.toInt.toNat j_inns_3 (aPo (zWo f_all 661 j_inns_3) w)) j_crossings_2.toInt.toNat) i = true := by rcases hb5 with ⟨e9, e8⟩ | ⟨e9, e8⟩ <;> first | exact e8 | (exfalso; have e7 := congrArg Int32.toInt e9; have e6 : (0 : Int32).toInt = 0 := rfl; have e5 : (1 : Int32).toInt = 1 := rfl; omega)
            refine lv_istore_n (lv' := [(3, .int (nI cm)), (6, .int (nI k)), (5, .int b5), (4, .int (nI i)), (2, .int r_59), (0, .ref mo), (1, .int l_)]) hx hb dX12_trees_101 rfl hl (by decide) (zLvf_h rfl) (fun ls hl => ?_)
            refine lv_iinc (v := nI (i + 1)) (lv' := [(4, .int (nI (i + 1))), (3, .int (nI cm)), (6, .int (nI k)), (5, .int b5), (2, .int r_59), (0, .ref mo), (1, .int l_)]) hx hb dX12_trees_102 hl (k := 3) rfl (z_inc i 1) (by decide) (zLvf_h rfl) (fun ls hl => ?_)
            refine lv_goto (tgt := 20) hx hb dX12_trees_105 (by decide) ?_
            have G := G.sub (bs' := [[zAr T 0 m_posts 7 g_posts_62], [zAr T 0 m_shut 7 g_shut_7], [zAr T 0 m_here 7 g_here_8], [zO11 mo m_all m_has i_size i_next i_where i_token i_number i_word i_wrong i_farCrossing m_read 661 j_crossings_2 j_inns_3 m_posts m_shut m_here j_steps_4 j_done_5 i_at i_gone m_was m_came m_seenAt m_rowWorth m_farBy m_used i_everywhere i_again0 i_d0 i_never i_firstCame i_longRun i_moved i_crowd i_l0 i_fitMany i_fitLeast i_fitMost m_fitPost m_fitEnd m_keptPosts i_x0], [zAr T 0 m_all 3952 f_all]]) [4, 0, 1, 2, 3] rfl
            exact ih_20 (i + 1) cm g_posts_62 (show (i + 1) ≤ aPr (zWo f_all 661 j_inns_3) 7 ∧ zMP g_posts_62 ∧ zMV (zRo f_all 661) g_posts_62 ∧ cm = rCn (fun w => rAll (rTr (zWo f_all 661 j_inns_3) (zLo f_all 661) j_crossings_2.toInt.toNat j_inns_3 (aPo (zWo f_all 661 j_inns_3) w)) j_crossings_2.toInt.toNat) (i + 1) from ⟨(by omega), (by first | with_reducible assumption | assumption), hVy, (by
                                                                first | rw [Nat.add_zero, hcm] | rw [hcm]
                                                                exact (rCn_f (p := (fun w => rAll (rTr (zWo f_all 661 j_inns_3) (zLo f_all 661) j_crossings_2.toInt.toNat j_inns_3 (aPo (zWo f_all 661 j_inns_3) w)) j_crossings_2.toInt.toNat)) haq9).symm)⟩) (show aPr (zWo f_all 661 j_inns_3) 7 - (i + 1) < aPr (zWo f_all 661 j_inns_3) 7 - i from by omega) _ _ ls G (lv_sub hl [0, 1, 4, 5, 6] rfl)
          · have c_71n : ¬ b5.toInt = (0 : Int) := fun q => c_71 ((fa_eq _ _).mpr q)
            have hb51 : rAll (rTr (zWo f_all 661 j_inns_3) (zLo f_all 661) j_crossings_2.toInt.toNat j_inns_3 (aPo (zWo f_all 661 j_inns_3) i)) k = true := by rcases hb5 with ⟨_, e9⟩ | ⟨e9, _⟩ <;> first | exact e9 | (exfalso; have e7 := congrArg Int32.toInt e9; have e6 : (0 : Int32).toInt = 0 := rfl; have e5 : (1 : Int32).toInt = 1 := rfl; omega)
            have tk9 := nI_toInt (n := k) (by omega)
            have tn9 := nI_n (n := k) (by omega)
            have hrk9 : rIn j_crossings_2.toInt.toNat (nI k) := ⟨by omega, by omega⟩
            have hLk9 : zLed (zStp f_all 661 j_inns_3 g_posts_62) 7 (nI k) = zLed (rSt (zWo f_all 661 j_inns_3) (zLo f_all 661) (aPo (zWo f_all 661 j_inns_3) i)) 7 (nI k) := (zLed_e hO9 hRw9 hrk9 7).trans (rLd_cg hO9 hRw9 (fun j hj hw => hdg j hj (by by_cases q9 : (j : Int) < j_crossings_2.toInt <;> first | exact q9 | (have q8 := zVZ_w (n := j_inns_3) hVz hj (by omega); omega))) hrk9 7)
            refine lv_aload_n hx hb dX12_trees_52 rfl (lv_at hl 5 rfl) ?_
            refine lv_iload hx hb dX12_trees_53 (lv_at hl 0 rfl) ?_
            have ti_73 : (nI k).toInt = ((k : Nat) : Int) := nI_toInt (by omega)
            refine z_Vi (bc := [[zO11 mo m_all m_has i_size i_next i_where i_token i_number i_word i_wrong i_farCrossing m_read 661 j_crossings_2 j_inns_3 m_posts m_shut m_here j_steps_4 j_done_5 i_at i_gone m_was m_came m_seenAt m_rowWorth m_farBy m_used i_everywhere i_again0 i_d0 i_never i_firstCame i_longRun i_moved i_crowd i_l0 i_fitMany i_fitLeast i_fitMost m_fitPost m_fitEnd m_keptPosts i_x0], [zAr T 0 m_all 3952 f_all]]) (br := [[zAr T 0 m_shut 7 g_shut_7], [zAr T 0 m_here 7 g_here_8], [zAr T 0 m_posts 7 g_posts_62]]) (As := [.int (nI k)]) (rest := []) C G (c_m_isFree l T mo m_all m_has i_size i_next i_where i_token i_number i_word i_wrong i_farCrossing m_read 661 j_crossings_2 j_inns_3 m_posts m_shut m_here j_steps_4 j_done_5 i_at i_gone m_was m_came m_seenAt m_rowWorth m_farBy m_used i_everywhere i_again0 i_d0 i_never i_firstCame i_longRun i_moved i_crowd i_l0 i_fitMany i_fitLeast i_fitMost m_fitPost m_fitEnd m_keptPosts i_x0 f_all (nI k) (by first | with_reducible assumption | with_reducible rfl | omega | assumption | rfl | decide) (by first | with_reducible assumption | with_reducible rfl | omega | assumption | rfl | decide) (by first | with_reducible assumption | with_reducible rfl | omega | assumption | rfl | decide)) (kV_RX12_223 C.2.2.2.2 (Nat.le_of_ble_eq_true rfl) (Nat.le_of_ble_eq_true rfl)) [2, 3] [2, 0] rfl rfl (ci := 11) (qc := (RX12, TX12, 43)) rfl rfl (List.mem_flatten.mpr ⟨_, List.mem_of_getElem? (i := 0) rfl, List.mem_cons_self⟩) rfl rfl hl.1 dX12_trees_55 (Nat.le_of_ble_eq_true rfl) (Nat.le_of_ble_eq_true rfl) (fun r_75 b1 H locs hw G => ?_)
            refine zAn2 hw ?_
            intro hbs9 hc_74
            clear hw
            subst hbs9
            have G : zS T A s.heap s [[zAr T 0 m_shut 7 g_shut_7], [zAr T 0 m_here 7 g_here_8], [zAr T 0 m_posts 7 g_posts_62], [zO11 mo m_all m_has i_size i_next i_where i_token i_number i_word i_wrong i_farCrossing m_read 661 j_crossings_2 j_inns_3 m_posts m_shut m_here j_steps_4 j_done_5 i_at i_gone m_was m_came m_seenAt m_rowWorth m_farBy m_used i_everywhere i_again0 i_d0 i_never i_firstCame i_longRun i_moved i_crowd i_l0 i_fitMany i_fitLeast i_fitMost m_fitPost m_fitEnd m_keptPosts i_x0], [zAr T 0 m_all 3952 f_all]] _ _ := G
            rcases hc_74 with ⟨rfl, h_76, h_77⟩ | ⟨rfl, h_78⟩
            · have h_76 : ¬ zInn j_inns_3 (nI k) := h_76
              have h_77 : 0 < (zRd f_all 661 (nI k)).toInt := h_77
              refine lv_if_eq (tgt := 76) hx hb dX12_trees_58 (by decide) (fun q => absurd q (by decide)) (fun _ => ?_)
              refine lv_aload_n hx hb dX12_trees_61 rfl (lv_at hl 5 rfl) ?_
              refine lv_aload_n hx hb dX12_trees_62 rfl (lv_at hl 5 rfl) ?_
              refine lv_iload hx hb dX12_trees_63 (lv_at hl 0 rfl) ?_
              refine lv_bipush (v := 7) hx hb dX12_trees_65 (by decide) ?_
              have ti_79 : (nI k).toInt = ((k : Nat) : Int) := nI_toInt (by omega)
              refine z_Vi (bc := [[zO11 mo m_all m_has i_size i_next i_where i_token i_number i_word i_wrong i_farCrossing m_read 661 j_crossings_2 j_inns_3 m_posts m_shut m_here j_steps_4 j_done_5 i_at i_gone m_was m_came m_seenAt m_rowWorth m_farBy m_used i_everywhere i_again0 i_d0 i_never i_firstCame i_longRun i_moved i_crowd i_l0 i_fitMany i_fitLeast i_fitMost m_fitPost m_fitEnd m_keptPosts i_x0], [zAr T 0 m_all 3952 f_all], [zAr T 0 m_posts 7 g_posts_62]]) (br := [[zAr T 0 m_shut 7 g_shut_7], [zAr T 0 m_here 7 g_here_8]]) (As := [.int (nI k), .int 7]) (rest := [.ref mo]) C G (c_m_ledTo l T mo m_all m_has i_size i_next i_where i_token i_number i_word i_wrong i_farCrossing m_read 661 j_crossings_2 j_inns_3 m_posts m_shut m_here j_steps_4 j_done_5 i_at i_gone m_was m_came m_seenAt m_rowWorth m_farBy m_used i_everywhere i_again0 i_d0 i_never i_firstCame i_longRun i_moved i_crowd i_l0 i_fitMany i_fitLeast i_fitMost m_fitPost m_fitEnd m_keptPosts i_x0 f_all g_posts_62 (nI k) 7 (by first | with_reducible assumption | with_reducible rfl | omega | assumption | rfl | decide) (by first | with_reducible assumption | with_reducible rfl | omega | assumption | rfl | decide) (by first | with_reducible assumption | with_reducible rfl | omega | assumption | rfl | decide) (by first | with_reducible assumption | with_reducible rfl | omega | assumption | rfl | decide) (by first | with_reducible assumption | with_reducible rfl | omega | assumption | rfl | decide) (by first | with_reducible assumption | with_reducible rfl | omega | assumption | rfl | decide)) (kV_RX12_248 C.2.2.2.2 (Nat.le_of_ble_eq_true rfl) (Nat.le_of_ble_eq_true rfl)) [3, 4, 2] [2, 0, 0] rfl rfl (ci := 11) (qc := (RX12, TX12, 43)) rfl rfl (List.mem_flatten.mpr ⟨_, List.mem_of_getElem? (i := 0) rfl, List.mem_cons_self⟩) rfl rfl hl.1 dX12_trees_67 (Nat.le_of_ble_eq_true rfl) (Nat.le_of_ble_eq_true rfl) (fun r_83 b1 H locs hw G => ?_)
              refine zAn4 hw ?_
              intro hbs9 h_80 h_81 h_82
              clear hw
              subst hbs9
              have G : zS T A s.heap s [[zAr T 0 m_shut 7 g_shut_7], [zAr T 0 m_here 7 g_here_8], [zO11 mo m_all m_has i_size i_next i_where i_token i_number i_word i_wrong i_farCrossing m_read 661 j_crossings_2 j_inns_3 m_posts m_shut m_here j_steps_4 j_done_5 i_at i_gone m_was m_came m_seenAt m_rowWorth m_farBy m_used i_everywhere i_again0 i_d0 i_never i_firstCame i_longRun i_moved i_crowd i_l0 i_fitMany i_fitLeast i_fitMost m_fitPost m_fitEnd m_keptPosts i_x0], [zAr T 0 m_all 3952 f_all], [zAr T 0 m_posts 7 g_posts_62]] _ _ := G
              subst h_80
              refine z_Vi (bc := [[zO11 mo m_all m_has i_size i_next i_where i_token i_number i_word i_wrong i_farCrossing m_read 661 j_crossings_2 j_inns_3 m_posts m_shut m_here j_steps_4 j_done_5 i_at i_gone m_was m_came m_seenAt m_rowWorth m_farBy m_used i_everywhere i_again0 i_d0 i_never i_firstCame i_longRun i_moved i_crowd i_l0 i_fitMany i_fitLeast i_fitMost m_fitPost m_fitEnd m_keptPosts i_x0]]) (br := [[zAr T 0 m_shut 7 g_shut_7], [zAr T 0 m_here 7 g_here_8], [zAr T 0 m_all 3952 f_all], [zAr T 0 m_posts 7 g_posts_62]]) (As := [.int (zLed (zStp f_all 661 j_inns_3 g_posts_62) (7 : Int32).toNatClampNeg (nI k))]) (rest := []) C G (c_m_isInn l T mo m_all m_has i_size i_next i_where i_token i_number i_word i_wrong i_farCrossing m_read 661 j_crossings_2 j_inns_3 m_posts m_shut m_here j_steps_4 j_done_5 i_at i_gone m_was m_came m_seenAt m_rowWorth m_farBy m_used i_everywhere i_again0 i_d0 i_never i_firstCame i_longRun i_moved i_crowd i_l0 i_fitMany i_fitLeast i_fitMost m_fitPost m_fitEnd m_keptPosts i_x0 (zLed (zStp f_all 661 j_inns_3 g_posts_62) (7 : Int32).toNatClampNeg (nI k))) (kV_RX12_178 C.2.2.2.2 (Nat.le_of_ble_eq_true rfl) (Nat.le_of_ble_eq_true rfl)) [2] [2] rfl rfl (ci := 11) (qc := (RX12, TX12, 43)) rfl rfl (List.mem_flatten.mpr ⟨_, List.mem_of_getElem? (i := 0) rfl, List.mem_cons_self⟩) rfl rfl hl.1 dX12_trees_70 (Nat.le_of_ble_eq_true rfl) (Nat.le_of_ble_eq_true rfl) (fun r_85 b1 H locs hw G => ?_)
              refine zAn2 hw ?_
              intro hbs9 hc_84
              clear hw
              subst hbs9
              have G : zS T A s.heap s [[zAr T 0 m_shut 7 g_shut_7], [zAr T 0 m_here 7 g_here_8], [zAr T 0 m_all 3952 f_all], [zAr T 0 m_posts 7 g_posts_62], [zO11 mo m_all m_has i_size i_next i_where i_token i_number i_word i_wrong i_farCrossing m_read 661 j_crossings_2 j_inns_3 m_posts m_shut m_here j_steps_4 j_done_5 i_at i_gone m_was m_came m_seenAt m_rowWorth m_farBy m_used i_everywhere i_again0 i_d0 i_never i_firstCame i_longRun i_moved i_crowd i_l0 i_fitMany i_fitLeast i_fitMost m_fitPost m_fitEnd m_keptPosts i_x0]] _ _ := G
              rcases hc_84 with ⟨rfl, h_86⟩ | ⟨rfl, h_87⟩
              · have h_86 : zInn j_inns_3 (zLed (zStp f_all 661 j_inns_3 g_posts_62) (7 : Int32).toNatClampNeg (nI k)) := h_86
                refine lv_if_eq (tgt := 80) hx hb dX12_trees_73 (by decide) (fun q => absurd q (by decide)) (fun _ => ?_)
                refine lv_iconst (v := 1) hx hb dX12_trees_76 (by decide) ?_
                refine lv_goto (tgt := 81) hx hb dX12_trees_77 (by decide) ?_
                have hbn9 : ((1 : Int32) = 1 ∧ rAll (rTr (zWo f_all 661 j_inns_3) (zLo f_all 661) j_crossings_2.toInt.toNat j_inns_3 (aPo (zWo f_all 661 j_inns_3) i)) (k + 1) = true ∨ (1 : Int32) = 0 ∧ ¬ rAll (rTr (zWo f_all 661 j_inns_3) (zLo f_all 661) j_crossings_2.toInt.toNat j_inns_3 (aPo (zWo f_all 661 j_inns_3) i)) j_crossings_2.toInt.toNat = true) := Or.inl ⟨rfl, rAll_s hb51 (by unfold rTr; first | (have q9 := aWo_0 (f := f_all) (z := 661) (n := j_inns_3) (c := nI k) (by first | with_reducible assumption | assumption) (by omega) (by omega); rw [tn9] at q9; rw [decide_eq_true q9.1]; rfl) | (rw [← hLk9, decide_eq_true (show zBit j_inns_3 _ = 1 from by first | with_reducible assumption | assumption), Bool.or_true]))⟩
                refine lv_istore (lv' := [(5, .int 1), (6, .int (nI k)), (4, .int (nI i)), (3, .int (nI cm)), (2, .int r_59), (0, .ref mo), (1, .int l_)]) hx hb dX12_trees_81 hl (by decide) (zLvf_h rfl) (fun ls hl => ?_)
                refine lv_iinc (v := nI (k + 1)) (lv' := [(6, .int (nI (k + 1))), (5, .int 1), (4, .int (nI i)), (3, .int (nI cm)), (2, .int r_59), (0, .ref mo), (1, .int l_)]) hx hb dX12_trees_83 hl (k := 1) rfl (z_inc k 1) (by decide) (zLvf_h rfl) (fun ls hl => ?_)
                refine lv_goto (tgt := 38) hx hb dX12_trees_86 (by decide) ?_
                have G := G.sub (bs' := [[zAr T 0 m_shut 7 g_shut_7], [zAr T 0 m_here 7 g_here_8], [zO11 mo m_all m_has i_size i_next i_where i_token i_number i_word i_wrong i_farCrossing m_read 661 j_crossings_2 j_inns_3 m_posts m_shut m_here j_steps_4 j_done_5 i_at i_gone m_was m_came m_seenAt m_rowWorth m_farBy m_used i_everywhere i_again0 i_d0 i_never i_firstCame i_longRun i_moved i_crowd i_l0 i_fitMany i_fitLeast i_fitMost m_fitPost m_fitEnd m_keptPosts i_x0], [zAr T 0 m_all 3952 f_all], [zAr T 0 m_posts 7 g_posts_62]]) [0, 1, 4, 2, 3] rfl
                exact ih_38 (k + 1) 1 (show (k + 1) ≤ 7 ∧ ((k + 1) : Int) ≤ j_crossings_2.toInt ∧ (1 = 1 ∧ rAll (rTr (zWo f_all 661 j_inns_3) (zLo f_all 661) j_crossings_2.toInt.toNat j_inns_3 (aPo (zWo f_all 661 j_inns_3) i)) (k + 1) = true ∨ 1 = 0 ∧ ¬ rAll (rTr (zWo f_all 661 j_inns_3) (zLo f_all 661) j_crossings_2.toInt.toNat j_inns_3 (aPo (zWo f_all 661 j_inns_3) i)) j_crossings_2.toInt.toNat = true) from ⟨by omega, by omega, hbn9⟩) (show 7 - (k + 1) < 7 - k from by omega) _ _ ls G (lv_sub hl [0, 1, 2, 3, 4, 5, 6] rfl)
              · have h_87 : ¬ zInn j_inns_3 (zLed (zStp f_all 661 j_inns_3 g_posts_62) (7 : Int32).toNatClampNeg (nI k)) := h_87
                refine lv_if_eq (tgt := 80) hx hb dX12_trees_73 (by decide) (fun _ => ?_) (fun q => absurd (by decide) q)
                refine lv_iconst (v := 0) hx hb dX12_trees_80 (by decide) ?_
                have hbn9 : ((0 : Int32) = 1 ∧ rAll (rTr (zWo f_all 661 j_inns_3) (zLo f_all 661) j_crossings_2.toInt.toNat j_inns_3 (aPo (zWo f_all 661 j_inns_3) i)) (k + 1) = true ∨ (0 : Int32) = 0 ∧ ¬ rAll (rTr (zWo f_all 661 j_inns_3) (zLo f_all 661) j_crossings_2.toInt.toNat j_inns_3 (aPo (zWo f_all 661 j_inns_3) i)) j_crossings_2.toInt.toNat = true) := Or.inr ⟨rfl, fun q8 => by have q7 := (rAll_y _).mp q8 k (by omega); have q9 := aWo_1 (f := f_all) (z := 661) (n := j_inns_3) (c := nI k) (by first | with_reducible assumption | assumption) (by first | with_reducible assumption | assumption) (by omega) (by omega); rw [tn9] at q9; unfold rTr at q7; rw [decide_eq_false (show ¬ ((zWo f_all 661 j_inns_3) k).toInt ≤ 0 from by omega), ← hLk9, decide_eq_false (show ¬ zBit j_inns_3 _ = 1 from by first | with_reducible assumption | assumption)] at q7; exact absurd q7 (by decide)⟩
                refine lv_istore (lv' := [(5, .int 0), (6, .int (nI k)), (4, .int (nI i)), (3, .int (nI cm)), (2, .int r_59), (0, .ref mo), (1, .int l_)]) hx hb dX12_trees_81 hl (by decide) (zLvf_h rfl) (fun ls hl => ?_)
                refine lv_iinc (v := nI (k + 1)) (lv' := [(6, .int (nI (k + 1))), (5, .int 0), (4, .int (nI i)), (3, .int (nI cm)), (2, .int r_59), (0, .ref mo), (1, .int l_)]) hx hb dX12_trees_83 hl (k := 1) rfl (z_inc k 1) (by decide) (zLvf_h rfl) (fun ls hl => ?_)
                refine lv_goto (tgt := 38) hx hb dX12_trees_86 (by decide) ?_
                have G := G.sub (bs' := [[zAr T 0 m_shut 7 g_shut_7], [zAr T 0 m_here 7 g_here_8], [zO11 mo m_all m_has i_size i_next i_where i_token i_number i_word i_wrong i_farCrossing m_read 661 j_crossings_2 j_inns_3 m_posts m_shut m_here j_steps_4 j_done_5 i_at i_gone m_was m_came m_seenAt m_rowWorth m_farBy m_used i_everywhere i_again0 i_d0 i_never i_firstCame i_longRun i_moved i_crowd i_l0 i_fitMany i_fitLeast i_fitMost m_fitPost m_fitEnd m_keptPosts i_x0], [zAr T 0 m_all 3952 f_all], [zAr T 0 m_posts 7 g_posts_62]]) [0, 1, 4, 2, 3] rfl
                exact ih_38 (k + 1) 0 (show (k + 1) ≤ 7 ∧ ((k + 1) : Int) ≤ j_crossings_2.toInt ∧ (0 = 1 ∧ rAll (rTr (zWo f_all 661 j_inns_3) (zLo f_all 661) j_crossings_2.toInt.toNat j_inns_3 (aPo (zWo f_all 661 j_inns_3) i)) (k + 1) = true ∨ 0 = 0 ∧ ¬ rAll (rTr (zWo f_all 661 j_inns_3) (zLo f_all 661) j_crossings_2.toInt.toNat j_inns_3 (aPo (zWo f_all 661 j_inns_3) i)) j_crossings_2.toInt.toNat = true) from ⟨by omega, by omega, hbn9⟩) (show 7 - (k + 1) < 7 - k from by omega) _ _ ls G (lv_sub hl [0, 1, 2, 3, 4, 5, 6] rfl)
            · have h_78 : (zInn j_inns_3 (nI k) ∨ (zRd f_all 661 (nI k)).toInt ≤ 0) := h_78
              refine lv_if_eq (tgt := 76) hx hb dX12_trees_58 (by decide) (fun _ => ?_) (fun q => absurd (by decide) q)
              refine lv_iconst (v := 1) hx hb dX12_trees_76 (by decide) ?_
              refine lv_goto (tgt := 81) hx hb dX12_trees_77 (by decide) ?_
              have hbn9 : ((1 : Int32) = 1 ∧ rAll (rTr (zWo f_all 661 j_inns_3) (zLo f_all 661) j_crossings_2.toInt.toNat j_inns_3 (aPo (zWo f_all 661 j_inns_3) i)) (k + 1) = true ∨ (1 : Int32) = 0 ∧ ¬ rAll (rTr (zWo f_all 661 j_inns_3) (zLo f_all 661) j_crossings_2.toInt.toNat j_inns_3 (aPo (zWo f_all 661 j_inns_3) i)) j_crossings_2.toInt.toNat = true) := Or.inl ⟨rfl, rAll_s hb51 (by unfold rTr; first | (have q9 := aWo_0 (f := f_all) (z := 661) (n := j_inns_3) (c := nI k) (by first | with_reducible assumption | assumption) (by omega) (by omega); rw [tn9] at q9; rw [decide_eq_true q9.1]; rfl) | (rw [← hLk9, decide_eq_true (show zBit j_inns_3 _ = 1 from by first | with_reducible assumption | assumption), Bool.or_true]))⟩
              refine lv_istore (lv' := [(5, .int 1), (6, .int (nI k)), (4, .int (nI i)), (3, .int (nI cm)), (2, .int r_59), (0, .ref mo), (1, .int l_)]) hx hb dX12_trees_81 hl (by decide) (zLvf_h rfl) (fun ls hl => ?_)
              refine lv_iinc (v := nI (k + 1)) (lv' := [(6, .int (nI (k + 1))), (5, .int 1), (4, .int (nI i)), (3, .int (nI cm)), (2, .int r_59), (0, .ref mo), (1, .int l_)]) hx hb dX12_trees_83 hl (k := 1) rfl (z_inc k 1) (by decide) (zLvf_h rfl) (fun ls hl => ?_)
              refine lv_goto (tgt := 38) hx hb dX12_trees_86 (by decide) ?_
              have G := G.sub (bs' := [[zAr T 0 m_shut 7 g_shut_7], [zAr T 0 m_here 7 g_here_8], [zO11 mo m_all m_has i_size i_next i_where i_token i_number i_word i_wrong i_farCrossing m_read 661 j_crossings_2 j_inns_3 m_posts m_shut m_here j_steps_4 j_done_5 i_at i_gone m_was m_came m_seenAt m_rowWorth m_farBy m_used i_everywhere i_again0 i_d0 i_never i_firstCame i_longRun i_moved i_crowd i_l0 i_fitMany i_fitLeast i_fitMost m_fitPost m_fitEnd m_keptPosts i_x0], [zAr T 0 m_all 3952 f_all], [zAr T 0 m_posts 7 g_posts_62]]) [0, 1, 3, 4, 2] rfl
              exact ih_38 (k + 1) 1 (show (k + 1) ≤ 7 ∧ ((k + 1) : Int) ≤ j_crossings_2.toInt ∧ (1 = 1 ∧ rAll (rTr (zWo f_all 661 j_inns_3) (zLo f_all 661) j_crossings_2.toInt.toNat j_inns_3 (aPo (zWo f_all 661 j_inns_3) i)) (k + 1) = true ∨ 1 = 0 ∧ ¬ rAll (rTr (zWo f_all 661 j_inns_3) (zLo f_all 661) j_crossings_2.toInt.toNat j_inns_3 (aPo (zWo f_all 661 j_inns_3) i)) j_crossings_2.toInt.toNat = true) from ⟨by omega, by omega, hbn9⟩) (show 7 - (k + 1) < 7 - k from by omega) _ _ ls G (lv_sub hl [0, 1, 2, 3, 4, 5, 6] rfl)
  · have h_23 : (l_.toInt < 0 ∨ (f_all 0).toInt ≤ l_.toInt) := h_23
    refine lv_if_ne (tgt := 10) hx hb dX12_trees_5 (by decide) (fun q => absurd (by decide) q) (fun _ => ?_)
    refine lv_iconst (v := (-1)) hx hb dX12_trees_8 (by decide) ?_
    exact z_back hQz_ (z_iret C hr hlocks G (Nat.le_of_ble_eq_true rfl) (Nat.le_of_ble_eq_true rfl) dX12_trees_9 ⟨j_z0_1, j_crossings_2, j_inns_3, j_steps_4, j_done_5, g_posts_6, g_shut_7, g_here_8, rfl, (Or.inl ⟨by first | with_reducible assumption | assumption, rfl⟩)⟩)
theorem aT_cg {W V L M : Nat → Int32} (h : ∀ j, j < 7 → W j = V j) (hL : zLs W L M) (h4 : ∀ j, j < 7 → (W j).toInt ≤ 4) (n i : Nat) : aT W L n i = aT V M n i := by
  unfold aT
  rw [aN_cg h hL h4]
theorem zTab_cg {cr inn cr' inn' wy pc : Int32} {k1 k2 k3 k1' k2' k3' f1 f2 f5 : Nat → Int32} {n : Nat} (hI : zLI cr k1 k3) (hI' : zLI cr' k1' k3') (hW : ∀ j, j < 7 → aW cr inn k1 j = aW cr' inn' k1' j) (hL : zLs (aW cr inn k1) k2 k2') (h : zTab cr inn k1 k2 wy pc f1 f2 f5 n) : zTab cr' inn' k1' k2' wy pc f1 f2 f5 n := by
  obtain ⟨h1, h2, h3, h4, h5⟩ := h
  have p : ∀ m, aPr (aW cr inn k1) m = aPr (aW cr' inn' k1') m := aPr_cg hW
  have w4 : ∀ j, j < 7 → (aW cr inn k1 j).toInt ≤ 4 := fun j _ => (zWays_le (inn := inn) hI (nI j)).2
  refine ⟨?_, ?_, ⟨fun c hc => ?_, fun c hc => ?_⟩, ?_, fun j hj => ?_⟩
  · rw [h1, zWy_z hI, zWy_z hI', p]
  · rw [h2, zPl_z hI, zPl_z hI', p]
  · rw [h3.1 c hc, aCh_z hI, aCh_z hI', aCh_cg (hW c hc)]
  · rw [h3.2 c hc, aWyN_z hI _ (by omega), aWyN_z hI' _ (by omega), p]
  · rw [← p]
    exact h4
  · rw [← p] at hj
    rw [h5 j hj, aT_cg hW hL w4]
theorem zTb_k {cr inn cr' inn' wy pc md md' : Int32} {k1 k2 k3 k4 k1' k2' k3' k4' f g f1 f2 f5 : Nat → Int32} {n B : Nat} (hB : B = 610 ∨ B = 661) (h : md = 0 ∨ zTab cr inn k1 k2 wy pc f1 f2 f5 n) (hm : md' = 0 ∨ md' = md ∧ ∀ j, j < 51 → g (B + j) = f (B + j)) (a : zLnd cr inn k1 k2 k3 k4 (fun j => f (B + j))) (a' : zLnd cr' inn' k1' k2' k3' k4' (fun j => g (B + j))) (hF : zLF (fun j => f (B + j))) (hI : zLI cr k1 k3) (hI' : zLI cr' k1' k3') : md' = 0 ∨ zTab cr' inn' k1' k2' wy pc f1 f2 f5 n := by
  rcases hm with hm | ⟨hm, hg⟩
  · exact Or.inl hm
  · rcases h with h | h
    · exact Or.inl (hm.trans h)
    · refine Or.inr ?_
      have hz : (nI B).toInt.toNat = B := by
        rw [nI_toInt (by omega)]
        rfl
      have hF' : zLF (fun j => g (B + j)) := zLF_cg (fun j hj => hg j hj) hF
      obtain ⟨b1, b2, -, -, -, -⟩ := zLnd_w a hF hz
      obtain ⟨d1, d2, -, -, -, -⟩ := zLnd_w a' hF' hz
      have e : ∀ j, j < 51 → g ((nI B).toInt.toNat + j) = f ((nI B).toInt.toNat + j) := fun j hj => by
        rw [hz]
        exact hg j hj
      have hp : ∀ j, j < 7 → pW f (nI B) j = pW g (nI B) j := fun j hj => by
        unfold pW zWo zRo
        rw [e 1 (by decide), e (2 + j) (by omega)]
      have hW : ∀ j, j < 7 → aW cr inn k1 j = aW cr' inn' k1' j := fun j hj => (b1 j hj).trans ((hp j hj).trans (d1 j hj).symm)
      have w4 : ∀ j, j < 7 → (aW cr inn k1 j).toInt ≤ 4 := fun j _ => (zWays_le (inn := inn) hI (nI j)).2
      refine zTab_cg hI hI' hW (fun j r hj hr hq => ?_) h
      have x1 : k2 (4 * j + r) = zLo f (nI B) (4 * j + r) := b2 j r hj hr hq
      have hq2 : (r : Int) < (kW cr' inn' k1' j).toInt := by
        have t : aW cr inn k1 j = kW cr' inn' k1' j := hW j hj
        rw [← t]
        exact hq
      have x2 : k2' (4 * j + r) = zLo g (nI B) (4 * j + r) := d2 j r hj hr hq2
      rw [x1, x2]
      exact (e (23 + (4 * j + r)) (by omega)).symm
theorem zText_l {z : pS × (Nat → Int32)} {s : Nat} {at_ r : Int32} {f g : Nat → Int32} (hs : s < 3) (h : zText z s at_ f g r) (hq : r.toInt < 0 ∨ ¬ s = 0) (h0 : 0 ≤ (f s).toInt) : ∀ j, 610 ≤ j → j < 712 → g j = f j := by
  intro j h1 h2
  have hd : ∀ a b, pHd f a b j = f j := fun a b => by
    unfold pHd
    rw [z_ne (by omega), z_ne (by omega), z_ne (by omega)]
  rcases h with ⟨_, _, e⟩ | ⟨_, _, _, e⟩ | ⟨ok, _, er, e⟩
  · rw [e j (by omega), hd]
  · rw [e j (by omega), hd]
  · rw [e j (by omega)]
    have s0 : ¬ s = 0 := by
      rcases hq with q | q
      · exfalso
        rw [er] at q
        unfold pNr at q
        unfold pOkAt at ok
        by_cases c : at_.toInt = -1
        · rw [if_pos c] at q
          omega
        · rw [if_neg c] at q ok
          omega
      · exact q
    have c : ∀ G : Nat → Int32, pCnt s at_ G j = G j := fun G => by
      unfold pCnt
      split
      · exact z_ne (by omega)
      · rfl
    unfold pPut
    rw [if_neg, c, hd]
    intro q
    have q1 := q.1
    unfold pBase at q1
    rw [if_neg s0] at q1
    split at q1 <;> omega

def zKe (D E : zK) : Prop := (∀ j, j < 7 → D.1 j = E.1 j) ∧ (∀ j, j < 7 → D.2.1 j = E.2.1 j) ∧ (∀ j, j < 7 → D.2.2.1 j = E.2.2.1 j) ∧ D.2.2.2 = E.2.2.2
def zOe (W : Nat → Int32) (a b : Option zK) : Prop := (a = none ∧ b = none) ∨ ∃ D E : zK, a = some D ∧ b = some E ∧ zKe D E ∧ zP3 D.1 W
theorem zMvH_cg {H H' : Nat → Int32} (h : ∀ j, j < 7 → H j = H' j) (x y : Int32) : ∀ j, j < 7 → zMvH H x y j = zMvH H' x y j := by
  have g : ∀ j, j < 7 → upd H x.toNatClampNeg (H x.toNatClampNeg - 1) j = upd H' x.toNatClampNeg (H' x.toNatClampNeg - 1) j := by
    intro j hj
    by_cases e : j = x.toNatClampNeg
    · rw [z_eq e, z_eq e, ← e, h j hj]
    · rw [z_ne e, z_ne e, h j hj]
  intro j hj
  unfold zMvH
  by_cases e : j = y.toNatClampNeg
  · rw [z_eq e, z_eq e, ← e, g j hj]
  · rw [z_ne e, z_ne e, g j hj]
theorem zUp_cg {H H' : Nat → Int32} {k : Nat} {v v' : Int32} (h : ∀ j, j < 7 → H j = H' j) (hv : v = v') : ∀ j, j < 7 → upd H k v j = upd H' k v' j := by
  intro j hj
  by_cases e : j = k
  · rw [z_eq e, z_eq e, hv]
  · rw [z_ne e, z_ne e, h j hj]
theorem zKe_i {P P' S S' H H' : Nat → Int32} {a a' b b' : Int32} (p : ∀ j, j < 7 → P j = P' j) (s : ∀ j, j < 7 → S j = S' j) (w : ∀ j, j < 7 → H j = H' j) (e1 : a = a') (e2 : b = b') : zKe (P, S, H, a, b) (P', S', H', a', b') := by
  subst e1
  subst e2
  exact ⟨p, s, w, rfl⟩
theorem zOe_i {W : Nat → Int32} {D E : zK} (h : zKe D E) (h2 : zP3 D.1 W) : zOe W (some D) (some E) := Or.inr ⟨D, E, rfl, rfl, h, h2⟩
section ZCG
variable {cr inn x y : Int32} {W W' L L' Ro Ro' : Nat → Int32} {D E : zK}
theorem zGoF_cg (h3 : ∀ j, j < 7 → W j = W' j) (hl : zLs W L L') (hI : zP3 D.1 W) (h : zKe D E) : zOe W (zGoF cr W L x D) (zGoF cr W' L' x E) := by
  obtain ⟨p, s, w, e⟩ := h
  have eS := zStep_cg hI p s h3 hl x
  unfold zGoF
  by_cases q : (zHas cr x ∧ 1 ≤ (D.2.2.1 x.toNatClampNeg).toInt) ∧ ¬ zStep D.1 D.2.1 W L x = -1
  · have ex := z_clI q.1.1.1
    have eH := w x.toNatClampNeg (by have := q.1.1.2.2; omega)
    rw [if_pos q, if_pos ⟨⟨q.1.1, by rw [← eH]; exact q.1.2⟩, by rw [← eS]; exact q.2⟩]
    exact zOe_i (zKe_i (zPost_cg p s h3 x) s (by rw [← eS]; exact zMvH_cg w x _) (congrArg (fun q => q.1 + 1) e) (congrArg (fun q => q.2) e)) (zPost_I hI x)
  · refine Or.inl ⟨if_neg q, if_neg (fun z => q ?_)⟩
    have ex := z_clI z.1.1.1
    have eH := w x.toNatClampNeg (by have := z.1.1.2.2; omega)
    exact ⟨⟨z.1.1, by rw [eH]; exact z.1.2⟩, by rw [eS]; exact z.2⟩
theorem zRuF_cg (h3 : ∀ j, j < 7 → W j = W' j) (hl : zLs W L L') (hI : zP3 D.1 W) (h : zKe D E) : zOe W (zRuF cr inn W L x D) (zRuF cr inn W' L' x E) := by
  obtain ⟨p, s, w, e⟩ := h
  have eR := zRunN_cg s h3 hl 499 D.1 E.1 x 0 hI p
  by_cases q : zHas cr x ∧ 1 ≤ (D.2.2.1 x.toNatClampNeg).toInt
  · have ex := z_clI q.1.1
    have eH := w x.toNatClampNeg (by have := q.1.2.2; omega)
    have a1 : zRuF cr inn W L x D = some ((zRunN D.2.1 W L 499 D.1 x 0).1, D.2.1, zMvH D.2.2.1 x (zRunN D.2.1 W L 499 D.1 x 0).2.1, D.2.2.2.1 + nI (zRunN D.2.1 W L 499 D.1 x 0).2.2, if zBit inn (zRunN D.2.1 W L 499 D.1 x 0).2.1 = 1 then D.2.2.2.2 else D.2.2.2.2 + 1) := if_pos q
    have a2 : zRuF cr inn W' L' x E = some ((zRunN E.2.1 W' L' 499 E.1 x 0).1, E.2.1, zMvH E.2.2.1 x (zRunN E.2.1 W' L' 499 E.1 x 0).2.1, E.2.2.2.1 + nI (zRunN E.2.1 W' L' 499 E.1 x 0).2.2, if zBit inn (zRunN E.2.1 W' L' 499 E.1 x 0).2.1 = 1 then E.2.2.2.2 else E.2.2.2.2 + 1) := if_pos ⟨q.1, by rw [← eH]; exact q.2⟩
    rw [a1, a2, ← eR.2]
    exact zOe_i (zKe_i eR.1 s (zMvH_cg w x _) (congrArg (fun q => q.1 + nI (zRunN D.2.1 W L 499 D.1 x 0).2.2) e) (congrArg (fun q => if zBit inn (zRunN D.2.1 W L 499 D.1 x 0).2.1 = 1 then q.2 else q.2 + 1) e)) (zRunN_I _ _ _ _ hI)
  · refine Or.inl ⟨if_neg q, if_neg (fun z => q ?_)⟩
    have ex := z_clI z.1.1
    have eH := w x.toNatClampNeg (by have := z.1.2.2; omega)
    exact ⟨z.1, by rw [eH]; exact z.2⟩
theorem zTuF_cg (h3 : ∀ j, j < 7 → W j = W' j) (hI : zP3 D.1 W) (h : zKe D E) : zOe W (zTuF cr W x D) (zTuF cr W' x E) := by
  obtain ⟨p, s, w, e⟩ := h
  have eT := zTurn_cg p s h3 x
  unfold zTuF
  by_cases q : zHas cr x ∧ ¬ zTurn D.1 D.2.1 W x = -1
  · rw [if_pos q, if_pos ⟨q.1, by rw [← eT]; exact q.2⟩]
    exact Or.inr ⟨_, _, rfl, rfl, ⟨zPost_cg p s h3 x, s, w, e⟩, zPost_I hI x⟩
  · refine Or.inl ⟨if_neg q, if_neg (fun z => q ⟨z.1, by rw [eT]; exact z.2⟩)⟩
theorem zAdF_cg (hI : zP3 D.1 W) (h : zKe D E) : zOe W (zAdF cr x D) (zAdF cr x E) := by
  obtain ⟨p, s, w, e⟩ := h
  unfold zAdF
  by_cases q : zHas cr x ∧ (D.2.2.1 x.toNatClampNeg).toInt < 99
  · have ex := z_clI q.1.1
    have eH := w x.toNatClampNeg (by have := q.1.2.2; omega)
    rw [if_pos q, if_pos ⟨q.1, by rw [← eH]; exact q.2⟩]
    exact Or.inr ⟨_, _, rfl, rfl, ⟨p, s, zUp_cg w (by rw [eH]), e⟩, hI⟩
  · refine Or.inl ⟨if_neg q, if_neg (fun z => q ?_)⟩
    have ex := z_clI z.1.1
    have eH := w x.toNatClampNeg (by have := z.1.2.2; omega)
    exact ⟨z.1, by rw [eH]; exact z.2⟩
theorem zShF_cg (hr : ∀ j, j < 7 → Ro j = Ro' j) (hI : zP3 D.1 W) (h : zKe D E) : zOe W (zShF cr Ro x y D) (zShF cr Ro' x y E) := by
  obtain ⟨p, s, w, e⟩ := h
  unfold zShF
  by_cases q : zHas cr x ∧ (0 ≤ y.toInt ∧ y.toInt < (Ro x.toNatClampNeg).toInt ∧ y.toInt < 4) ∧ zBit (D.2.1 x.toNatClampNeg) y = 0
  · have ex := z_clI q.1.1
    have eS := s x.toNatClampNeg (by have := q.1.2.2; omega)
    have eR := hr x.toNatClampNeg (by have := q.1.2.2; omega)
    rw [if_pos q, if_pos ⟨q.1, by rw [← eR]; exact q.2.1, by rw [← eS]; exact q.2.2⟩]
    exact Or.inr ⟨_, _, rfl, rfl, ⟨p, zUp_cg s (by rw [eS]), w, e⟩, hI⟩
  · refine Or.inl ⟨if_neg q, if_neg (fun z => q ?_)⟩
    have ex := z_clI z.1.1
    have eS := s x.toNatClampNeg (by have := z.1.2.2; omega)
    have eR := hr x.toNatClampNeg (by have := z.1.2.2; omega)
    exact ⟨z.1, by rw [eR]; exact z.2.1, by rw [eS]; exact z.2.2⟩
theorem zOpF_cg (hr : ∀ j, j < 7 → Ro j = Ro' j) (hI : zP3 D.1 W) (h : zKe D E) : zOe W (zOpF cr Ro x y D) (zOpF cr Ro' x y E) := by
  obtain ⟨p, s, w, e⟩ := h
  unfold zOpF
  by_cases q : zHas cr x ∧ (0 ≤ y.toInt ∧ y.toInt < (Ro x.toNatClampNeg).toInt ∧ y.toInt < 4) ∧ ¬ zBit (D.2.1 x.toNatClampNeg) y = 0
  · have ex := z_clI q.1.1
    have eS := s x.toNatClampNeg (by have := q.1.2.2; omega)
    have eR := hr x.toNatClampNeg (by have := q.1.2.2; omega)
    rw [if_pos q, if_pos ⟨q.1, by rw [← eR]; exact q.2.1, by rw [← eS]; exact q.2.2⟩]
    exact Or.inr ⟨_, _, rfl, rfl, ⟨p, zUp_cg s (by rw [eS]), w, e⟩, hI⟩
  · refine Or.inl ⟨if_neg q, if_neg (fun z => q ?_)⟩
    have ex := z_clI z.1.1
    have eS := s x.toNatClampNeg (by have := z.1.2.2; omega)
    have eR := hr x.toNatClampNeg (by have := z.1.2.2; omega)
    exact ⟨z.1, by rw [eR]; exact z.2.1, by rw [eS]; exact z.2.2⟩
theorem zDe_cg (h3 : ∀ j, j < 7 → W j = W' j) (hr : ∀ j, j < 7 → Ro j = Ro' j) (hl : zLs W L L') (d : Int32) (hI : zP3 D.1 W) (h : zKe D E) : zOe W (zDe cr inn W Ro L d x y D) (zDe cr inn W' Ro' L' d x y E) := by
  by_cases d0 : d.toInt = 0
  · rw [zDe_k0 d0, zDe_k0 d0]; exact zGoF_cg h3 hl hI h
  by_cases d1 : d.toInt = 1
  · rw [zDe_k1 d1, zDe_k1 d1]; exact zRuF_cg h3 hl hI h
  by_cases d2 : d.toInt = 2
  · rw [zDe_k2 d2, zDe_k2 d2]; exact zTuF_cg h3 hI h
  by_cases d3 : d.toInt = 3
  · rw [zDe_k3 d3, zDe_k3 d3]; exact zAdF_cg hI h
  by_cases d4 : d.toInt = 4
  · rw [zDe_k4 d4, zDe_k4 d4]; exact zShF_cg hr hI h
  by_cases d5 : d.toInt = 5
  · rw [zDe_k5 d5, zDe_k5 d5]; exact zOpF_cg hr hI h
  rw [zDe_kn (by omega), zDe_kn (by omega)]
  exact Or.inl ⟨rfl, rfl⟩
end ZCG
theorem zDayN_cg {W : Nat → Int32} {F F' : Nat → zK → Option zK} : ∀ (n k : Nat) (D E : zK), zP3 D.1 W → zKe D E → (∀ j, k ≤ j → j < k + n → ∀ D E, zP3 D.1 W → zKe D E → zOe W (F j D) (F' j E)) → (zDayN F n k D).1 = (zDayN F' n k E).1 ∧ zKe (zDayN F n k D).2 (zDayN F' n k E).2
  | 0, k, D, E, _, h, _ => ⟨rfl, h⟩
  | n + 1, k, D, E, hI, h, hF => by
    rcases hF k (Nat.le_refl k) (by omega) D E hI h with ⟨a, b⟩ | ⟨D2, E2, a, b, h2, hI2⟩
    · rw [zDayN_n a, zDayN_n b]
      exact ⟨rfl, h⟩
    · rw [zDayN_s a, zDayN_s b]
      exact zDayN_cg n (k + 1) D2 E2 hI2 h2 (fun j h1 h3 => hF j (by omega) (by omega))
/-- what holds of a day's run, told by the class's rows; told by the record's -/
def kDay (cr inn : Int32) (k1 k2 k3 k4 : Nat → Int32) (dd : Int32) (d1 d2 d3 : Nat → Int32) (n : Int32) (Q : Nat × zK → Prop) : Prop := ∃ P0 S0 W0 H0 : Nat → Int32, (zP3 P0 W0 ∧ (∀ j, j < 7 → P0 j = k3 j) ∧ (∀ j, j < 7 → S0 j = 0) ∧ (∀ j, j < 7 → W0 j = zWays cr inn k1 (nI j)) ∧ ∀ j, j < 7 → H0 j = k4 j) ∧ Q (zDayN (fun k D => zDe cr inn W0 k1 k2 (d1 k) (d2 k) (d3 k) D) (min (min n.toInt dd.toInt) 40).toNat 0 (P0, S0, H0, 0, 0))
def pDay9 (f : Nat → Int32) (z : Int32) (d : Nat) (n : Int32) (Q : Nat × zK → Prop) : Prop := ∃ P0 S0 H0 : Nat → Int32, ((∀ j, j < 7 → P0 j = zPo f z j) ∧ (∀ j, j < 7 → S0 j = 0) ∧ ∀ j, j < 7 → H0 j = f (z.toInt.toNat + (16 + j))) ∧ Q (zDayN (fun k D => zDe (f z.toInt.toNat) (f (z.toInt.toNat + 1)) (pW f z) (zRo f z) (zLo f z) (f (d + (1 + 3 * k))) (f (d + (2 + 3 * k))) (f (d + (3 + 3 * k))) D) (min (min n.toInt (f d).toInt) 40).toNat 0 (P0, S0, H0, 0, 0))
theorem kDay_e {cr inn z dd n : Int32} {k1 k2 k3 k4 d1 d2 d3 f : Nat → Int32} {B d : Nat} {Q Q' : Nat × zK → Prop} (h : zLnd cr inn k1 k2 k3 k4 (fun j => f (B + j))) (hF : zLF (fun j => f (B + j))) (hz : z.toInt.toNat = B) (hd : zDyd dd d1 d2 d3 (fun j => f (d + j))) (F1 : kDay cr inn k1 k2 k3 k4 dd d1 d2 d3 n Q) (F2 : pDay9 f z d n Q') : ∃ R R' : Nat × zK, Q R ∧ Q' R' ∧ R.1 = R'.1 ∧ zKe R.2 R'.2 := by
  obtain ⟨a1, a2, a3, a4, a5, a6⟩ := zLnd_w h hF hz
  obtain ⟨-, -, -, hk, -⟩ := h
  obtain ⟨e0, -, e1⟩ := hd
  have e0 : dd = f d := e0
  have e1 : ∀ j : Nat, (j : Int) < (f d).toInt → d1 j = f (d + (1 + 3 * j)) ∧ d2 j = f (d + (2 + 3 * j)) ∧ d3 j = f (d + (3 + 3 * j)) := e1
  obtain ⟨P0, S0, W0, H0, ⟨b0, b1, b2, b3, b4⟩, x⟩ := F1
  obtain ⟨P1, S1, H1, ⟨c1, c2, c4⟩, y⟩ := F2
  refine ⟨_, _, x, y, ?_⟩
  rw [← a5, ← a6, ← e0]
  refine zDayN_cg (W := W0) _ 0 _ _ b0 ⟨fun j hj => (b1 j hj).trans ((a3 j hj).trans (c1 j hj).symm), fun j hj => (b2 j hj).trans (c2 j hj).symm, fun j hj => (b4 j hj).trans ((hk j hj).2.2.trans ?_), rfl⟩ ?_
  · show f (B + (16 + j)) = H1 j
    rw [c4 j hj, hz]
  · intro j _ hj D E hI hDE
    have t := e1 j (by rw [← e0]; omega)
    show zOe W0 (zDe cr inn W0 k1 k2 (d1 j) (d2 j) (d3 j) D) (zDe cr inn (pW f z) (zRo f z) (zLo f z) (f (d + (1 + 3 * j))) (f (d + (2 + 3 * j))) (f (d + (3 + 3 * j))) E)
    rw [t.1, t.2.1, t.2.2]
    refine zDe_cg (fun q hq => (b3 q hq).trans (a1 q hq)) (fun q hq => (hk q hq).1.trans ?_) (zLs_c a2 (fun q hq => b3 q hq)) _ hI hDE
    unfold zRo
    rw [hz]
theorem zA_4 {r r' x y no : Int32} {fk f : Nat → Int32} {A0 A1 A2 A3 B0 B1 B2 B3 : Int32 → Prop} (hk : fk 0 = f 0) (hk1 : fk 1 = f 1) (hq : (f 0).toInt ≤ 2) (hq1 : (f 1).toInt ≤ 2) (F1 : ((x.toInt < 0 ∨ (fk 0).toInt ≤ x.toInt ∨ 2 ≤ x.toInt) ∨ (y.toInt < 0 ∨ (fk 1).toInt ≤ y.toInt ∨ 2 ≤ y.toInt)) ∧ r = no ∨ (x.toInt = 0 ∧ 0 < (fk 0).toInt) ∧ (y.toInt = 0 ∧ 0 < (fk 1).toInt) ∧ A0 r ∨ (x.toInt = 0 ∧ 0 < (fk 0).toInt) ∧ (y.toInt = 1 ∧ 1 < (fk 1).toInt) ∧ A1 r ∨ (x.toInt = 1 ∧ 1 < (fk 0).toInt) ∧ (y.toInt = 0 ∧ 0 < (fk 1).toInt) ∧ A2 r ∨ (x.toInt = 1 ∧ 1 < (fk 0).toInt) ∧ (y.toInt = 1 ∧ 1 < (fk 1).toInt) ∧ A3 r) (F2 : ((x.toInt < 0 ∨ (f 0).toInt ≤ x.toInt) ∨ (y.toInt < 0 ∨ (f 1).toInt ≤ y.toInt)) ∧ r' = no ∨ (x.toInt = 0 ∧ 0 < (f 0).toInt) ∧ (y.toInt = 0 ∧ 0 < (f 1).toInt) ∧ B0 r' ∨ (x.toInt = 0 ∧ 0 < (f 0).toInt) ∧ (y.toInt = 1 ∧ 1 < (f 1).toInt) ∧ B1 r' ∨ (x.toInt = 1 ∧ 1 < (f 0).toInt) ∧ (y.toInt = 0 ∧ 0 < (f 1).toInt) ∧ B2 r' ∨ (x.toInt = 1 ∧ 1 < (f 0).toInt) ∧ (y.toInt = 1 ∧ 1 < (f 1).toInt) ∧ B3 r') (e0 : A0 r → B0 r' → r = r') (e1 : A1 r → B1 r' → r = r') (e2 : A2 r → B2 r' → r = r') (e3 : A3 r → B3 r' → r = r') : r = r' := by
  rw [hk, hk1] at F1
  rcases F1 with ⟨a, b⟩ | ⟨a, b, c⟩ | ⟨a, b, c⟩ | ⟨a, b, c⟩ | ⟨a, b, c⟩ <;> rcases F2 with ⟨d, e⟩ | ⟨d, e, g⟩ | ⟨d, e, g⟩ | ⟨d, e, g⟩ | ⟨d, e, g⟩ <;> first | (exfalso; omega) | (rw [b, e]; done) | exact e0 c g | exact e1 c g | exact e2 c g | exact e3 c g
theorem kStop_e {cr inn z dd n r r' : Int32} {k1 k2 k3 k4 d1 d2 d3 f : Nat → Int32} {B d : Nat} (h : zLnd cr inn k1 k2 k3 k4 (fun j => f (B + j))) (hF : zLF (fun j => f (B + j))) (hz : z.toInt.toNat = B) (hd : zDyd dd d1 d2 d3 (fun j => f (d + j))) (F1 : kDay cr inn k1 k2 k3 k4 dd d1 d2 d3 n (fun R => r = nI R.1)) (F2 : pDay9 f z d n (fun R => r' = nI R.1)) : r = r' := by
  obtain ⟨R, R', x, y, e, -⟩ := kDay_e h hF hz hd F1 F2
  have x : r = nI R.1 := x
  have y : r' = nI R'.1 := y
  rw [x, y, e]
set_option maxHeartbeats 4000000 in
set_option maxRecDepth 100000 in
/-- c_f_stop -/
theorem c_f_stop (l : Launch) (T : zTy) (xo : Nat) (t : Nat) (im : Nat) (mk : Nat) (rd : Nat) (po : Nat) (co : Nat) (tr : Nat) (wa : Nat) (wb_ : Nat) (fi : Nat) (cd : Nat) (l0 : Nat) (l1 : Nat) (d0 : Nat) (d1 : Nat) (g0 : Nat) (g1 : Nat) (ln : Int32) (fl : Int32) (pl : Int32) (ft : Nat → Int32) (fk : Nat → Int32) (wt : va_W) (cr0_ : Int32) (inn0_ : Int32) (k10_ : Nat → Int32) (k20_ : Nat → Int32) (k30_ : Nat → Int32) (k40_ : Nat → Int32) (z0_ : va_W) (cr1_ : Int32) (inn1_ : Int32) (k11_ : Nat → Int32) (k21_ : Nat → Int32) (k31_ : Nat → Int32) (k41_ : Nat → Int32) (z1_ : va_W) (dd0_ : Int32) (p10_ : Nat → Int32) (p20_ : Nat → Int32) (p30_ : Nat → Int32) (wd0_ : va_W) (dd1_ : Int32) (p11_ : Nat → Int32) (p21_ : Nat → Int32) (p31_ : Nat → Int32) (wd1_ : va_W) (cpo : Nat) (cla : Nat) (cfw : Nat → Int32) (v0 : Int32) (v1 : Int32) (v2 : Int32) (v3 : Int32) (v4 : Int32) (v5 : Int32) (v6 : Int32) (v7 : Int32) (wc : va_W) (cpl : Nat) (cf1 : Nat → Int32) (cf2 : Nat → Int32) (cf3 : Nat → Int32) (cst : Int32) (cwh : Int32) (wcp : va_W) (i1 : Int32) (i2 : Int32) (ht : bTold T t l0 l1 d0 d1 g0 g1 ln fl pl ft fk wt) (hK : zKT fk) (hz0_ : bLand T l0 cr0_ inn0_ k10_ k20_ k30_ k40_ z0_) (hI0_ : zLI cr0_ k10_ k30_) (hz1_ : bLand T l1 cr1_ inn1_ k11_ k21_ k31_ k41_ z1_) (hI1_ : zLI cr1_ k11_ k31_) (hd0_ : bDay T d0 dd0_ p10_ p20_ p30_ wd0_) (hd1_ : bDay T d1 dd1_ p11_ p21_ p31_ wd1_) (hc : bCourse T co cpo cla cfw v0 v1 v2 v3 v4 v5 v6 v7 wc) (hcp : bPosts T cpo cpl cf1 cf2 cf3 cst cwh wcp) (hLq0 : zLq cr0_ k10_ k20_) (hLq1 : zLq cr1_ k11_ k21_) : zMi l T yX11_stop cX11_stop 5 (some .int) 8 0 0 [.ref xo, .int i1, .int i2] [[(xo, .inr (10, [.ref t, .ref im, .ref mk, .ref rd, .ref po, .ref co, .ref tr, .ref wa, .ref wb_, .ref fi, .ref cd]))], wt, z0_, z1_, wd0_, wd1_, wc, wcp] (fun (r : Int32) bs => ∃ (cla_2 : Nat) (cfw_2 : Nat → Int32) (v0_2 : Int32) (v1_2 : Int32) (v2_2 : Int32) (v3_2 : Int32) (v4_2 : Int32) (v5_2 : Int32) (v6_2 : Int32) (v7_2 : Int32) (wc_2 : va_W) (cpl_2 : Nat) (cf1_2 : Nat → Int32) (cf2_2 : Nat → Int32) (cf3_2 : Nat → Int32) (cst_2 : Int32) (cwh_2 : Int32) (wcp_2 : va_W), bs = [[(xo, .inr (10, [.ref t, .ref im, .ref mk, .ref rd, .ref po, .ref co, .ref tr, .ref wa, .ref wb_, .ref fi, .ref cd]))], wt, z0_, z1_, wd0_, wd1_, wc_2, wcp_2] ∧ bCourse T co cpo cla_2 cfw_2 v0_2 v1_2 v2_2 v3_2 v4_2 v5_2 v6_2 v7_2 wc_2 ∧ bPosts T cpo cpl_2 cf1_2 cf2_2 cf3_2 cst_2 cwh_2 wcp_2 ∧ (((i1.toInt < 0 ∨ (fk 0).toInt ≤ i1.toInt ∨ 2 ≤ i1.toInt) ∨ (i2.toInt < 0 ∨ (fk 1).toInt ≤ i2.toInt ∨ 2 ≤ i2.toInt)) ∧ r = -1 ∨ (i1.toInt = 0 ∧ 0 < (fk 0).toInt) ∧ (i2.toInt = 0 ∧ 0 < (fk 1).toInt) ∧ kDay cr0_ inn0_ k10_ k20_ k30_ k40_ dd0_ p10_ p20_ p30_ 40 (fun R => r = nI R.1) ∨ (i1.toInt = 0 ∧ 0 < (fk 0).toInt) ∧ (i2.toInt = 1 ∧ 1 < (fk 1).toInt) ∧ kDay cr0_ inn0_ k10_ k20_ k30_ k40_ dd1_ p11_ p21_ p31_ 40 (fun R => r = nI R.1) ∨ (i1.toInt = 1 ∧ 1 < (fk 0).toInt) ∧ (i2.toInt = 0 ∧ 0 < (fk 1).toInt) ∧ kDay cr1_ inn1_ k11_ k21_ k31_ k41_ dd0_ p10_ p20_ p30_ 40 (fun R => r = nI R.1) ∨ (i1.toInt = 1 ∧ 1 < (fk 0).toInt) ∧ (i2.toInt = 1 ∧ 1 < (fk 1).toInt) ∧ kDay cr1_ inn1_ k11_ k21_ k31_ k41_ dd1_ p11_ p21_ p31_ 40 (fun R => r = nI R.1))) := by
  refine zMi_of (own := RX11) (by decide) rfl (Nat.le_of_ble_eq_true rfl) ?_
  intro p e s m args below meth c A ls C hr hlocks hnm hAe G hl
  have hx := C.1
  have hb := C.2.1
  have hl : lv_has ls 5 [(0, .ref xo), (1, .int i1), (2, .int i2)] := hl
  refine lv_aload_n hx hb dX11_stop_0 rfl (lv_at hl 0 rfl) ?_
  refine z_get C G clX11 0 rfl 0 (by decide) m_fl_RX11_10 rfl dX11_stop_1 ?_
  refine lv_iload_n hx hb dX11_stop_4 rfl (lv_at hl 1 rfl) ?_
  refine z_Vq (bc := [wt]) (br := [[(xo, .inr (10, [.ref t, .ref im, .ref mk, .ref rd, .ref po, .ref co, .ref tr, .ref wa, .ref wb_, .ref fi, .ref cd]))], z0_, z1_, wd0_, wd1_, wc, wcp]) (As := [.int i1]) (rest := []) C G (c_landAt l T t l0 l1 d0 d1 g0 g1 ln fl pl ft fk wt i1 ht) (kV_RX11_121 C.2.2.2.2 (Nat.le_of_ble_eq_true rfl) (Nat.le_of_ble_eq_true rfl)) [1] [0, 2, 3, 4, 5, 6, 7] rfl rfl (ci := 8) (qc := (RX9, TX9, 8)) rfl rfl (List.mem_flatten.mpr ⟨_, List.mem_of_getElem? (i := 0) rfl, (bTold_mem ht).choose_spec⟩) rfl rfl hl.1 dX11_stop_5 (Nat.le_of_ble_eq_true rfl) (Nat.le_of_ble_eq_true rfl) (fun r_2 b1 H locs hw G => ?_)
  obtain ⟨rfl, hc_1⟩ := hw
  have G : zS T A s.heap s [[(xo, .inr (10, [.ref t, .ref im, .ref mk, .ref rd, .ref po, .ref co, .ref tr, .ref wa, .ref wb_, .ref fi, .ref cd]))], z0_, z1_, wd0_, wd1_, wc, wcp, wt] _ _ := G
  rcases hc_1 with ⟨rfl, h_3⟩ | ⟨rfl, h_4, h_5⟩ | ⟨rfl, h_6, h_7⟩
  · have h_3 : (i1.toInt < 0 ∨ (fk 0).toInt ≤ i1.toInt ∨ 2 ≤ i1.toInt) := h_3
    refine lv_astore_nN (lv' := [(3, .null), (0, .ref xo), (1, .int i1), (2, .int i2)]) hx hb dX11_stop_8 rfl hl (by decide) rfl (fun ls hl => ?_)
    refine lv_aload_n hx hb dX11_stop_9 rfl (lv_at hl 1 rfl) ?_
    refine z_get C G clX11 0 rfl 0 (by decide) m_fl_RX11_10 rfl dX11_stop_10 ?_
    refine lv_iload_n hx hb dX11_stop_13 rfl (lv_at hl 3 rfl) ?_
    refine z_Vq (bc := [wt]) (br := [[(xo, .inr (10, [.ref t, .ref im, .ref mk, .ref rd, .ref po, .ref co, .ref tr, .ref wa, .ref wb_, .ref fi, .ref cd]))], z0_, z1_, wd0_, wd1_, wc, wcp]) (As := [.int i2]) (rest := []) C G (c_dayAt l T t l0 l1 d0 d1 g0 g1 ln fl pl ft fk wt i2 ht) (kV_RX11_130 C.2.2.2.2 (Nat.le_of_ble_eq_true rfl) (Nat.le_of_ble_eq_true rfl)) [7] [0, 1, 2, 3, 4, 5, 6] rfl rfl (ci := 8) (qc := (RX9, TX9, 8)) rfl rfl (List.mem_flatten.mpr ⟨_, List.mem_of_getElem? (i := 0) rfl, (bTold_mem ht).choose_spec⟩) rfl rfl hl.1 dX11_stop_14 (Nat.le_of_ble_eq_true rfl) (Nat.le_of_ble_eq_true rfl) (fun r_9 b1 H locs hw G => ?_)
    obtain ⟨rfl, hc_8⟩ := hw
    have G : zS T A s.heap s [[(xo, .inr (10, [.ref t, .ref im, .ref mk, .ref rd, .ref po, .ref co, .ref tr, .ref wa, .ref wb_, .ref fi, .ref cd]))], z0_, z1_, wd0_, wd1_, wc, wcp, wt] _ _ := G
    rcases hc_8 with ⟨rfl, h_10⟩ | ⟨rfl, h_11, h_12⟩ | ⟨rfl, h_13, h_14⟩
    · have h_10 : (i2.toInt < 0 ∨ (fk 1).toInt ≤ i2.toInt ∨ 2 ≤ i2.toInt) := h_10
      refine lv_astoreN (lv' := [(4, .null), (3, .null), (0, .ref xo), (1, .int i1), (2, .int i2)]) hx hb dX11_stop_17 hl (by decide) rfl (fun ls hl => ?_)
      refine lv_aload_nN hx hb dX11_stop_19 rfl (lv_at hl 1 rfl) ?_
      refine lv_ifnullN (tgt := 28) hx hb dX11_stop_20 (by decide) ?_
      refine lv_iconst (v := (-1)) hx hb dX11_stop_28 (by decide) ?_
      refine lv_goto (tgt := 44) hx hb dX11_stop_29 (by decide) ?_
      have G := G.sub (bs' := [[(xo, .inr (10, [.ref t, .ref im, .ref mk, .ref rd, .ref po, .ref co, .ref tr, .ref wa, .ref wb_, .ref fi, .ref cd]))], wt, z0_, z1_, wd0_, wd1_, wc, wcp]) [0, 7, 1, 2, 3, 4, 5, 6] rfl
      exact z_iret C hr hlocks G (Nat.le_of_ble_eq_true rfl) (Nat.le_of_ble_eq_true rfl) dX11_stop_44 ⟨cla, cfw, v0, v1, v2, v3, v4, v5, v6, v7, wc, cpl, cf1, cf2, cf3, cst, cwh, wcp, rfl, hc, hcp, (Or.inl ⟨Or.inl (by assumption), rfl⟩)⟩
    · have h_11 : i2.toInt = 0 := h_11
      have h_12 : 0 < (fk 1).toInt := h_12
      refine lv_astore (lv' := [(4, .ref d0), (3, .null), (0, .ref xo), (1, .int i1), (2, .int i2)]) hx hb dX11_stop_17 hl (by decide) rfl (fun ls hl => ?_)
      refine lv_aload_nN hx hb dX11_stop_19 rfl (lv_at hl 1 rfl) ?_
      refine lv_ifnullN (tgt := 28) hx hb dX11_stop_20 (by decide) ?_
      refine lv_iconst (v := (-1)) hx hb dX11_stop_28 (by decide) ?_
      refine lv_goto (tgt := 44) hx hb dX11_stop_29 (by decide) ?_
      have G := G.sub (bs' := [[(xo, .inr (10, [.ref t, .ref im, .ref mk, .ref rd, .ref po, .ref co, .ref tr, .ref wa, .ref wb_, .ref fi, .ref cd]))], wt, z0_, z1_, wd0_, wd1_, wc, wcp]) [0, 7, 1, 2, 3, 4, 5, 6] rfl
      exact z_iret C hr hlocks G (Nat.le_of_ble_eq_true rfl) (Nat.le_of_ble_eq_true rfl) dX11_stop_44 ⟨cla, cfw, v0, v1, v2, v3, v4, v5, v6, v7, wc, cpl, cf1, cf2, cf3, cst, cwh, wcp, rfl, hc, hcp, (Or.inl ⟨Or.inl (by assumption), rfl⟩)⟩
    · have h_13 : i2.toInt = 1 := h_13
      have h_14 : 1 < (fk 1).toInt := h_14
      refine lv_astore (lv' := [(4, .ref d1), (3, .null), (0, .ref xo), (1, .int i1), (2, .int i2)]) hx hb dX11_stop_17 hl (by decide) rfl (fun ls hl => ?_)
      refine lv_aload_nN hx hb dX11_stop_19 rfl (lv_at hl 1 rfl) ?_
      refine lv_ifnullN (tgt := 28) hx hb dX11_stop_20 (by decide) ?_
      refine lv_iconst (v := (-1)) hx hb dX11_stop_28 (by decide) ?_
      refine lv_goto (tgt := 44) hx hb dX11_stop_29 (by decide) ?_
      have G := G.sub (bs' := [[(xo, .inr (10, [.ref t, .ref im, .ref mk, .ref rd, .ref po, .ref co, .ref tr, .ref wa, .ref wb_, .ref fi, .ref cd]))], wt, z0_, z1_, wd0_, wd1_, wc, wcp]) [0, 7, 1, 2, 3, 4, 5, 6] rfl
      exact z_iret C hr hlocks G (Nat.le_of_ble_eq_true rfl) (Nat.le_of_ble_eq_true rfl) dX11_stop_44 ⟨cla, cfw, v0, v1, v2, v3, v4, v5, v6, v7, wc, cpl, cf1, cf2, cf3, cst, cwh, wcp, rfl, hc, hcp, (Or.inl ⟨Or.inl (by assumption), rfl⟩)⟩
  · have h_4 : i1.toInt = 0 := h_4
    have h_5 : 0 < (fk 0).toInt := h_5
    refine lv_astore_n (lv' := [(3, .ref l0), (0, .ref xo), (1, .int i1), (2, .int i2)]) hx hb dX11_stop_8 rfl hl (by decide) rfl (fun ls hl => ?_)
    refine lv_aload_n hx hb dX11_stop_9 rfl (lv_at hl 1 rfl) ?_
    refine z_get C G clX11 0 rfl 0 (by decide) m_fl_RX11_10 rfl dX11_stop_10 ?_
    refine lv_iload_n hx hb dX11_stop_13 rfl (lv_at hl 3 rfl) ?_
    refine z_Vq (bc := [wt]) (br := [[(xo, .inr (10, [.ref t, .ref im, .ref mk, .ref rd, .ref po, .ref co, .ref tr, .ref wa, .ref wb_, .ref fi, .ref cd]))], z0_, z1_, wd0_, wd1_, wc, wcp]) (As := [.int i2]) (rest := []) C G (c_dayAt l T t l0 l1 d0 d1 g0 g1 ln fl pl ft fk wt i2 ht) (kV_RX11_130 C.2.2.2.2 (Nat.le_of_ble_eq_true rfl) (Nat.le_of_ble_eq_true rfl)) [7] [0, 1, 2, 3, 4, 5, 6] rfl rfl (ci := 8) (qc := (RX9, TX9, 8)) rfl rfl (List.mem_flatten.mpr ⟨_, List.mem_of_getElem? (i := 0) rfl, (bTold_mem ht).choose_spec⟩) rfl rfl hl.1 dX11_stop_14 (Nat.le_of_ble_eq_true rfl) (Nat.le_of_ble_eq_true rfl) (fun r_16 b1 H locs hw G => ?_)
    obtain ⟨rfl, hc_15⟩ := hw
    have G : zS T A s.heap s [[(xo, .inr (10, [.ref t, .ref im, .ref mk, .ref rd, .ref po, .ref co, .ref tr, .ref wa, .ref wb_, .ref fi, .ref cd]))], z0_, z1_, wd0_, wd1_, wc, wcp, wt] _ _ := G
    rcases hc_15 with ⟨rfl, h_17⟩ | ⟨rfl, h_18, h_19⟩ | ⟨rfl, h_20, h_21⟩
    · have h_17 : (i2.toInt < 0 ∨ (fk 1).toInt ≤ i2.toInt ∨ 2 ≤ i2.toInt) := h_17
      refine lv_astoreN (lv' := [(4, .null), (3, .ref l0), (0, .ref xo), (1, .int i1), (2, .int i2)]) hx hb dX11_stop_17 hl (by decide) rfl (fun ls hl => ?_)
      refine lv_aload_n hx hb dX11_stop_19 rfl (lv_at hl 1 rfl) ?_
      refine lv_ifnull hx hb dX11_stop_20 ?_
      refine lv_aloadN hx hb dX11_stop_23 (lv_at hl 0 rfl) ?_
      refine lv_ifnonnullN hx hb dX11_stop_25 ?_
      refine lv_iconst (v := (-1)) hx hb dX11_stop_28 (by decide) ?_
      refine lv_goto (tgt := 44) hx hb dX11_stop_29 (by decide) ?_
      have G := G.sub (bs' := [[(xo, .inr (10, [.ref t, .ref im, .ref mk, .ref rd, .ref po, .ref co, .ref tr, .ref wa, .ref wb_, .ref fi, .ref cd]))], wt, z0_, z1_, wd0_, wd1_, wc, wcp]) [0, 7, 1, 2, 3, 4, 5, 6] rfl
      exact z_iret C hr hlocks G (Nat.le_of_ble_eq_true rfl) (Nat.le_of_ble_eq_true rfl) dX11_stop_44 ⟨cla, cfw, v0, v1, v2, v3, v4, v5, v6, v7, wc, cpl, cf1, cf2, cf3, cst, cwh, wcp, rfl, hc, hcp, (Or.inl ⟨Or.inr (by assumption), rfl⟩)⟩
    · have h_18 : i2.toInt = 0 := h_18
      have h_19 : 0 < (fk 1).toInt := h_19
      refine lv_astore (lv' := [(4, .ref d0), (3, .ref l0), (0, .ref xo), (1, .int i1), (2, .int i2)]) hx hb dX11_stop_17 hl (by decide) rfl (fun ls hl => ?_)
      refine lv_aload_n hx hb dX11_stop_19 rfl (lv_at hl 1 rfl) ?_
      refine lv_ifnull hx hb dX11_stop_20 ?_
      refine lv_aload hx hb dX11_stop_23 (lv_at hl 0 rfl) ?_
      refine lv_ifnonnull (tgt := 32) hx hb dX11_stop_25 (by decide) ?_
      refine lv_aload_n hx hb dX11_stop_32 rfl (lv_at hl 2 rfl) ?_
      refine z_get C G clX11 0 rfl 5 (by decide) m_fl_RX11_41 rfl dX11_stop_33 ?_
      refine lv_aload_n hx hb dX11_stop_36 rfl (lv_at hl 1 rfl) ?_
      refine lv_aload hx hb dX11_stop_37 (lv_at hl 0 rfl) ?_
      refine lv_bipush (v := 40) hx hb dX11_stop_39 (by decide) ?_
      refine z_Vi (bc := [wc, wcp, z0_, wd0_]) (br := [[(xo, .inr (10, [.ref t, .ref im, .ref mk, .ref rd, .ref po, .ref co, .ref tr, .ref wa, .ref wb_, .ref fi, .ref cd]))], z1_, wd1_, wt]) (As := [.ref l0, .ref d0, .int 40]) (rest := []) C G (c_f_goThrough l T co cpo cla cfw v0 v1 v2 v3 v4 v5 v6 v7 wc cpl cf1 cf2 cf3 cst cwh wcp l0 cr0_ inn0_ k10_ k20_ k30_ k40_ z0_ d0 dd0_ p10_ p20_ p30_ wd0_ 40 hc hcp hz0_ (by first | assumption | omega | rfl) hd0_ hLq0) (kV_RX11_145 C.2.2.2.2 (Nat.le_of_ble_eq_true rfl) (Nat.le_of_ble_eq_true rfl)) [5, 6, 1, 3] [0, 2, 4, 7] rfl rfl (ci := 1) (qc := (RX1, TX1, 11)) rfl rfl (List.mem_flatten.mpr ⟨_, List.mem_of_getElem? (i := 0) rfl, (bCourse_mem hc).choose_spec⟩) rfl rfl hl.1 dX11_stop_41 (Nat.le_of_ble_eq_true rfl) (Nat.le_of_ble_eq_true rfl) (fun r_42 b1 H locs hw G => ?_)
      obtain ⟨wc2_22, gw_23, u0_24, u1_25, u2_26, u3_27, u4_28, u5_29, u6_30, u7_31, wp2_32, g1_33, g2_34, g3_35, sa_36, wa_37, rfl, h_38, h_39, h_40, h_41⟩ := hw
      have G : zS T A s.heap s [[(xo, .inr (10, [.ref t, .ref im, .ref mk, .ref rd, .ref po, .ref co, .ref tr, .ref wa, .ref wb_, .ref fi, .ref cd]))], z1_, wd1_, wt, wc2_22, wp2_32, z0_, wd0_] _ _ := G
      obtain ⟨P0_, S0_, W0_, H0_, hst, hrr, hdd⟩ := h_41
      have G := G.sub (bs' := [[(xo, .inr (10, [.ref t, .ref im, .ref mk, .ref rd, .ref po, .ref co, .ref tr, .ref wa, .ref wb_, .ref fi, .ref cd]))], wt, z0_, z1_, wd0_, wd1_, wc2_22, wp2_32]) [0, 3, 6, 1, 7, 2, 4, 5] rfl
      exact z_iret C hr hlocks G (Nat.le_of_ble_eq_true rfl) (Nat.le_of_ble_eq_true rfl) dX11_stop_44 ⟨l0, gw_23, u0_24, u1_25, u2_26, u3_27, u4_28, u5_29, u6_30, u7_31, wc2_22, l0, g1_33, g2_34, g3_35, sa_36, wa_37, wp2_32, rfl, h_38, h_39, (Or.inr (Or.inl ⟨⟨by assumption, by assumption⟩, ⟨by assumption, by assumption⟩, ⟨P0_, S0_, W0_, H0_, hst, hrr⟩⟩))⟩
    · have h_20 : i2.toInt = 1 := h_20
      have h_21 : 1 < (fk 1).toInt := h_21
      refine lv_astore (lv' := [(4, .ref d1), (3, .ref l0), (0, .ref xo), (1, .int i1), (2, .int i2)]) hx hb dX11_stop_17 hl (by decide) rfl (fun ls hl => ?_)
      refine lv_aload_n hx hb dX11_stop_19 rfl (lv_at hl 1 rfl) ?_
      refine lv_ifnull hx hb dX11_stop_20 ?_
      refine lv_aload hx hb dX11_stop_23 (lv_at hl 0 rfl) ?_
      refine lv_ifnonnull (tgt := 32) hx hb dX11_stop_25 (by decide) ?_
      refine lv_aload_n hx hb dX11_stop_32 rfl (lv_at hl 2 rfl) ?_
      refine z_get C G clX11 0 rfl 5 (by decide) m_fl_RX11_41 rfl dX11_stop_33 ?_
      refine lv_aload_n hx hb dX11_stop_36 rfl (lv_at hl 1 rfl) ?_
      refine lv_aload hx hb dX11_stop_37 (lv_at hl 0 rfl) ?_
      refine lv_bipush (v := 40) hx hb dX11_stop_39 (by decide) ?_
      refine z_Vi (bc := [wc, wcp, z0_, wd1_]) (br := [[(xo, .inr (10, [.ref t, .ref im, .ref mk, .ref rd, .ref po, .ref co, .ref tr, .ref wa, .ref wb_, .ref fi, .ref cd]))], z1_, wd0_, wt]) (As := [.ref l0, .ref d1, .int 40]) (rest := []) C G (c_f_goThrough l T co cpo cla cfw v0 v1 v2 v3 v4 v5 v6 v7 wc cpl cf1 cf2 cf3 cst cwh wcp l0 cr0_ inn0_ k10_ k20_ k30_ k40_ z0_ d1 dd1_ p11_ p21_ p31_ wd1_ 40 hc hcp hz0_ (by first | assumption | omega | rfl) hd1_ hLq0) (kV_RX11_145 C.2.2.2.2 (Nat.le_of_ble_eq_true rfl) (Nat.le_of_ble_eq_true rfl)) [5, 6, 1, 4] [0, 2, 3, 7] rfl rfl (ci := 1) (qc := (RX1, TX1, 11)) rfl rfl (List.mem_flatten.mpr ⟨_, List.mem_of_getElem? (i := 0) rfl, (bCourse_mem hc).choose_spec⟩) rfl rfl hl.1 dX11_stop_41 (Nat.le_of_ble_eq_true rfl) (Nat.le_of_ble_eq_true rfl) (fun r_63 b1 H locs hw G => ?_)
      obtain ⟨wc2_43, gw_44, u0_45, u1_46, u2_47, u3_48, u4_49, u5_50, u6_51, u7_52, wp2_53, g1_54, g2_55, g3_56, sa_57, wa_58, rfl, h_59, h_60, h_61, h_62⟩ := hw
      have G : zS T A s.heap s [[(xo, .inr (10, [.ref t, .ref im, .ref mk, .ref rd, .ref po, .ref co, .ref tr, .ref wa, .ref wb_, .ref fi, .ref cd]))], z1_, wd0_, wt, wc2_43, wp2_53, z0_, wd1_] _ _ := G
      obtain ⟨P0_, S0_, W0_, H0_, hst, hrr, hdd⟩ := h_62
      have G := G.sub (bs' := [[(xo, .inr (10, [.ref t, .ref im, .ref mk, .ref rd, .ref po, .ref co, .ref tr, .ref wa, .ref wb_, .ref fi, .ref cd]))], wt, z0_, z1_, wd0_, wd1_, wc2_43, wp2_53]) [0, 3, 6, 1, 2, 7, 4, 5] rfl
      exact z_iret C hr hlocks G (Nat.le_of_ble_eq_true rfl) (Nat.le_of_ble_eq_true rfl) dX11_stop_44 ⟨l0, gw_44, u0_45, u1_46, u2_47, u3_48, u4_49, u5_50, u6_51, u7_52, wc2_43, l0, g1_54, g2_55, g3_56, sa_57, wa_58, wp2_53, rfl, h_59, h_60, (Or.inr (Or.inr (Or.inl ⟨⟨by assumption, by assumption⟩, ⟨by assumption, by assumption⟩, ⟨P0_, S0_, W0_, H0_, hst, hrr⟩⟩)))⟩
  · have h_6 : i1.toInt = 1 := h_6
    have h_7 : 1 < (fk 0).toInt := h_7
    refine lv_astore_n (lv' := [(3, .ref l1), (0, .ref xo), (1, .int i1), (2, .int i2)]) hx hb dX11_stop_8 rfl hl (by decide) rfl (fun ls hl => ?_)
    refine lv_aload_n hx hb dX11_stop_9 rfl (lv_at hl 1 rfl) ?_
    refine z_get C G clX11 0 rfl 0 (by decide) m_fl_RX11_10 rfl dX11_stop_10 ?_
    refine lv_iload_n hx hb dX11_stop_13 rfl (lv_at hl 3 rfl) ?_
    refine z_Vq (bc := [wt]) (br := [[(xo, .inr (10, [.ref t, .ref im, .ref mk, .ref rd, .ref po, .ref co, .ref tr, .ref wa, .ref wb_, .ref fi, .ref cd]))], z0_, z1_, wd0_, wd1_, wc, wcp]) (As := [.int i2]) (rest := []) C G (c_dayAt l T t l0 l1 d0 d1 g0 g1 ln fl pl ft fk wt i2 ht) (kV_RX11_130 C.2.2.2.2 (Nat.le_of_ble_eq_true rfl) (Nat.le_of_ble_eq_true rfl)) [7] [0, 1, 2, 3, 4, 5, 6] rfl rfl (ci := 8) (qc := (RX9, TX9, 8)) rfl rfl (List.mem_flatten.mpr ⟨_, List.mem_of_getElem? (i := 0) rfl, (bTold_mem ht).choose_spec⟩) rfl rfl hl.1 dX11_stop_14 (Nat.le_of_ble_eq_true rfl) (Nat.le_of_ble_eq_true rfl) (fun r_65 b1 H locs hw G => ?_)
    obtain ⟨rfl, hc_64⟩ := hw
    have G : zS T A s.heap s [[(xo, .inr (10, [.ref t, .ref im, .ref mk, .ref rd, .ref po, .ref co, .ref tr, .ref wa, .ref wb_, .ref fi, .ref cd]))], z0_, z1_, wd0_, wd1_, wc, wcp, wt] _ _ := G
    rcases hc_64 with ⟨rfl, h_66⟩ | ⟨rfl, h_67, h_68⟩ | ⟨rfl, h_69, h_70⟩
    · have h_66 : (i2.toInt < 0 ∨ (fk 1).toInt ≤ i2.toInt ∨ 2 ≤ i2.toInt) := h_66
      refine lv_astoreN (lv' := [(4, .null), (3, .ref l1), (0, .ref xo), (1, .int i1), (2, .int i2)]) hx hb dX11_stop_17 hl (by decide) rfl (fun ls hl => ?_)
      refine lv_aload_n hx hb dX11_stop_19 rfl (lv_at hl 1 rfl) ?_
      refine lv_ifnull hx hb dX11_stop_20 ?_
      refine lv_aloadN hx hb dX11_stop_23 (lv_at hl 0 rfl) ?_
      refine lv_ifnonnullN hx hb dX11_stop_25 ?_
      refine lv_iconst (v := (-1)) hx hb dX11_stop_28 (by decide) ?_
      refine lv_goto (tgt := 44) hx hb dX11_stop_29 (by decide) ?_
      have G := G.sub (bs' := [[(xo, .inr (10, [.ref t, .ref im, .ref mk, .ref rd, .ref po, .ref co, .ref tr, .ref wa, .ref wb_, .ref fi, .ref cd]))], wt, z0_, z1_, wd0_, wd1_, wc, wcp]) [0, 7, 1, 2, 3, 4, 5, 6] rfl
      exact z_iret C hr hlocks G (Nat.le_of_ble_eq_true rfl) (Nat.le_of_ble_eq_true rfl) dX11_stop_44 ⟨cla, cfw, v0, v1, v2, v3, v4, v5, v6, v7, wc, cpl, cf1, cf2, cf3, cst, cwh, wcp, rfl, hc, hcp, (Or.inl ⟨Or.inr (by assumption), rfl⟩)⟩
    · have h_67 : i2.toInt = 0 := h_67
      have h_68 : 0 < (fk 1).toInt := h_68
      refine lv_astore (lv' := [(4, .ref d0), (3, .ref l1), (0, .ref xo), (1, .int i1), (2, .int i2)]) hx hb dX11_stop_17 hl (by decide) rfl (fun ls hl => ?_)
      refine lv_aload_n hx hb dX11_stop_19 rfl (lv_at hl 1 rfl) ?_
      refine lv_ifnull hx hb dX11_stop_20 ?_
      refine lv_aload hx hb dX11_stop_23 (lv_at hl 0 rfl) ?_
      refine lv_ifnonnull (tgt := 32) hx hb dX11_stop_25 (by decide) ?_
      refine lv_aload_n hx hb dX11_stop_32 rfl (lv_at hl 2 rfl) ?_
      refine z_get C G clX11 0 rfl 5 (by decide) m_fl_RX11_41 rfl dX11_stop_33 ?_
      refine lv_aload_n hx hb dX11_stop_36 rfl (lv_at hl 1 rfl) ?_
      refine lv_aload hx hb dX11_stop_37 (lv_at hl 0 rfl) ?_
      refine lv_bipush (v := 40) hx hb dX11_stop_39 (by decide) ?_
      refine z_Vi (bc := [wc, wcp, z1_, wd0_]) (br := [[(xo, .inr (10, [.ref t, .ref im, .ref mk, .ref rd, .ref po, .ref co, .ref tr, .ref wa, .ref wb_, .ref fi, .ref cd]))], z0_, wd1_, wt]) (As := [.ref l1, .ref d0, .int 40]) (rest := []) C G (c_f_goThrough l T co cpo cla cfw v0 v1 v2 v3 v4 v5 v6 v7 wc cpl cf1 cf2 cf3 cst cwh wcp l1 cr1_ inn1_ k11_ k21_ k31_ k41_ z1_ d0 dd0_ p10_ p20_ p30_ wd0_ 40 hc hcp hz1_ (by first | assumption | omega | rfl) hd0_ hLq1) (kV_RX11_145 C.2.2.2.2 (Nat.le_of_ble_eq_true rfl) (Nat.le_of_ble_eq_true rfl)) [5, 6, 2, 3] [0, 1, 4, 7] rfl rfl (ci := 1) (qc := (RX1, TX1, 11)) rfl rfl (List.mem_flatten.mpr ⟨_, List.mem_of_getElem? (i := 0) rfl, (bCourse_mem hc).choose_spec⟩) rfl rfl hl.1 dX11_stop_41 (Nat.le_of_ble_eq_true rfl) (Nat.le_of_ble_eq_true rfl) (fun r_91 b1 H locs hw G => ?_)
      obtain ⟨wc2_71, gw_72, u0_73, u1_74, u2_75, u3_76, u4_77, u5_78, u6_79, u7_80, wp2_81, g1_82, g2_83, g3_84, sa_85, wa_86, rfl, h_87, h_88, h_89, h_90⟩ := hw
      have G : zS T A s.heap s [[(xo, .inr (10, [.ref t, .ref im, .ref mk, .ref rd, .ref po, .ref co, .ref tr, .ref wa, .ref wb_, .ref fi, .ref cd]))], z0_, wd1_, wt, wc2_71, wp2_81, z1_, wd0_] _ _ := G
      obtain ⟨P0_, S0_, W0_, H0_, hst, hrr, hdd⟩ := h_90
      have G := G.sub (bs' := [[(xo, .inr (10, [.ref t, .ref im, .ref mk, .ref rd, .ref po, .ref co, .ref tr, .ref wa, .ref wb_, .ref fi, .ref cd]))], wt, z0_, z1_, wd0_, wd1_, wc2_71, wp2_81]) [0, 3, 1, 6, 7, 2, 4, 5] rfl
      exact z_iret C hr hlocks G (Nat.le_of_ble_eq_true rfl) (Nat.le_of_ble_eq_true rfl) dX11_stop_44 ⟨l1, gw_72, u0_73, u1_74, u2_75, u3_76, u4_77, u5_78, u6_79, u7_80, wc2_71, l1, g1_82, g2_83, g3_84, sa_85, wa_86, wp2_81, rfl, h_87, h_88, (Or.inr (Or.inr (Or.inr (Or.inl ⟨⟨by assumption, by assumption⟩, ⟨by assumption, by assumption⟩, ⟨P0_, S0_, W0_, H0_, hst, hrr⟩⟩))))⟩
    · have h_69 : i2.toInt = 1 := h_69
      have h_70 : 1 < (fk 1).toInt := h_70
      refine lv_astore (lv' := [(4, .ref d1), (3, .ref l1), (0, .ref xo), (1, .int i1), (2, .int i2)]) hx hb dX11_stop_17 hl (by decide) rfl (fun ls hl => ?_)
      refine lv_aload_n hx hb dX11_stop_19 rfl (lv_at hl 1 rfl) ?_
      refine lv_ifnull hx hb dX11_stop_20 ?_
      refine lv_aload hx hb dX11_stop_23 (lv_at hl 0 rfl) ?_
      refine lv_ifnonnull (tgt := 32) hx hb dX11_stop_25 (by decide) ?_
      refine lv_aload_n hx hb dX11_stop_32 rfl (lv_at hl 2 rfl) ?_
      refine z_get C G clX11 0 rfl 5 (by decide) m_fl_RX11_41 rfl dX11_stop_33 ?_
      refine lv_aload_n hx hb dX11_stop_36 rfl (lv_at hl 1 rfl) ?_
      refine lv_aload hx hb dX11_stop_37 (lv_at hl 0 rfl) ?_
      refine lv_bipush (v := 40) hx hb dX11_stop_39 (by decide) ?_
      refine z_Vi (bc := [wc, wcp, z1_, wd1_]) (br := [[(xo, .inr (10, [.ref t, .ref im, .ref mk, .ref rd, .ref po, .ref co, .ref tr, .ref wa, .ref wb_, .ref fi, .ref cd]))], z0_, wd0_, wt]) (As := [.ref l1, .ref d1, .int 40]) (rest := []) C G (c_f_goThrough l T co cpo cla cfw v0 v1 v2 v3 v4 v5 v6 v7 wc cpl cf1 cf2 cf3 cst cwh wcp l1 cr1_ inn1_ k11_ k21_ k31_ k41_ z1_ d1 dd1_ p11_ p21_ p31_ wd1_ 40 hc hcp hz1_ (by first | assumption | omega | rfl) hd1_ hLq1) (kV_RX11_145 C.2.2.2.2 (Nat.le_of_ble_eq_true rfl) (Nat.le_of_ble_eq_true rfl)) [5, 6, 2, 4] [0, 1, 3, 7] rfl rfl (ci := 1) (qc := (RX1, TX1, 11)) rfl rfl (List.mem_flatten.mpr ⟨_, List.mem_of_getElem? (i := 0) rfl, (bCourse_mem hc).choose_spec⟩) rfl rfl hl.1 dX11_stop_41 (Nat.le_of_ble_eq_true rfl) (Nat.le_of_ble_eq_true rfl) (fun r_112 b1 H locs hw G => ?_)
      obtain ⟨wc2_92, gw_93, u0_94, u1_95, u2_96, u3_97, u4_98, u5_99, u6_100, u7_101, wp2_102, g1_103, g2_104, g3_105, sa_106, wa_107, rfl, h_108, h_109, h_110, h_111⟩ := hw
      have G : zS T A s.heap s [[(xo, .inr (10, [.ref t, .ref im, .ref mk, .ref rd, .ref po, .ref co, .ref tr, .ref wa, .ref wb_, .ref fi, .ref cd]))], z0_, wd0_, wt, wc2_92, wp2_102, z1_, wd1_] _ _ := G
      obtain ⟨P0_, S0_, W0_, H0_, hst, hrr, hdd⟩ := h_111
      have G := G.sub (bs' := [[(xo, .inr (10, [.ref t, .ref im, .ref mk, .ref rd, .ref po, .ref co, .ref tr, .ref wa, .ref wb_, .ref fi, .ref cd]))], wt, z0_, z1_, wd0_, wd1_, wc2_92, wp2_102]) [0, 3, 1, 6, 2, 7, 4, 5] rfl
      exact z_iret C hr hlocks G (Nat.le_of_ble_eq_true rfl) (Nat.le_of_ble_eq_true rfl) dX11_stop_44 ⟨l1, gw_93, u0_94, u1_95, u2_96, u3_97, u4_98, u5_99, u6_100, u7_101, wc2_92, l1, g1_103, g2_104, g3_105, sa_106, wa_107, wp2_102, rfl, h_108, h_109, (Or.inr (Or.inr (Or.inr (Or.inr (⟨⟨by assumption, by assumption⟩, ⟨by assumption, by assumption⟩, ⟨P0_, S0_, W0_, H0_, hst, hrr⟩⟩)))))⟩
theorem zVD_0 {f : Nat → Int32} (h : zVD f) (q : Nat) (hq : q < 2) : zDyv f (712 + 121 * q) := by
  have t := (h 0 q (by decide) hq).1
  intro j hj
  have a := t j
  have e0 : f (988 * 0 + (712 + 121 * q + 0)) = f (712 + 121 * q) := congrArg f (by omega)
  have e1 : f (988 * 0 + (712 + 121 * q + (1 + 3 * j))) = f (712 + 121 * q + (1 + 3 * j)) := congrArg f (by omega)
  have e3 : f (988 * 0 + (712 + 121 * q + (3 + 3 * j))) = f (712 + 121 * q + (3 + 3 * j)) := congrArg f (by omega)
  have a : (j : Int) < (f (988 * 0 + (712 + 121 * q + 0))).toInt → (0 ≤ (f (988 * 0 + (712 + 121 * q + (1 + 3 * j)))).toInt ∧ (f (988 * 0 + (712 + 121 * q + (1 + 3 * j)))).toInt ≤ 5) ∧ (4 ≤ (f (988 * 0 + (712 + 121 * q + (1 + 3 * j)))).toInt → 0 ≤ (f (988 * 0 + (712 + 121 * q + (3 + 3 * j)))).toInt ∧ (f (988 * 0 + (712 + 121 * q + (3 + 3 * j)))).toInt ≤ 3) := a
  rw [e0, e1, e3] at a
  exact a hj
theorem zWk_b {f H : Nat → Int32} {z cr : Int32} (h : zML f z cr) (e : ∀ j, j < 7 → H j = zWk f z j) : zHB 9 H := fun j hj => by
  rw [e j hj]
  exact (h.2.2.2.1 j hj).2.2
theorem zS0_b {S : Nat → Int32} (e : ∀ j, j < 7 → S j = 0) : zS15 S := fun j hj => by
  rw [e j hj]
  decide
set_option maxHeartbeats 4000000 in
set_option maxRecDepth 100000 in
/-- c_fm_stop -/
theorem c_fm_stop (l : Launch) (T : zTy) (mo : Nat) (m_all : Nat) (m_has : Nat) (i_size : Int32) (i_next : Int32) (i_where : Int32) (i_token : Int32) (i_number : Int32) (i_word : Int32) (i_wrong : Int32) (i_farCrossing : Int32) (m_read : Nat) (i_z0 : Int32) (i_crossings : Int32) (i_inns : Int32) (m_posts : Nat) (m_shut : Nat) (m_here : Nat) (i_steps : Int32) (i_done : Int32) (i_at : Int32) (i_gone : Int32) (m_was : Nat) (m_came : Nat) (m_seenAt : Nat) (m_rowWorth : Nat) (m_farBy : Nat) (m_used : Nat) (i_everywhere : Int32) (i_again0 : Int32) (i_d0 : Int32) (i_never : Int32) (i_firstCame : Int32) (i_longRun : Int32) (i_moved : Int32) (i_crowd : Int32) (i_l0 : Int32) (i_fitMany : Int32) (i_fitLeast : Int32) (i_fitMost : Int32) (m_fitPost : Nat) (m_fitEnd : Nat) (m_keptPosts : Nat) (i_x0 : Int32) (f_all : Nat → Int32) (f_posts : Nat → Int32) (f_shut : Nat → Int32) (f_here : Nat → Int32) (f_was : Nat → Int32) (l_ : Int32) (k_ : Int32) (hB : zBI f_all) (hVA : zVA f_all) (hVD : zVD f_all) : zMi l T yX12_stop cX12_stop 3 (some .int) 8 0 0 [.ref mo, .int l_, .int k_] [[(mo, .inr (11, [.ref m_all, .ref m_has, .int i_size, .int i_next, .int i_where, .int i_token, .int i_number, .int i_word, .int i_wrong, .int i_farCrossing, .ref m_read, .int i_z0, .int i_crossings, .int i_inns, .ref m_posts, .ref m_shut, .ref m_here, .int i_steps, .int i_done, .int i_at, .int i_gone, .ref m_was, .ref m_came, .ref m_seenAt, .ref m_rowWorth, .ref m_farBy, .ref m_used, .int i_everywhere, .int i_again0, .int i_d0, .int i_never, .int i_firstCame, .int i_longRun, .int i_moved, .int i_crowd, .int i_l0, .int i_fitMany, .int i_fitLeast, .int i_fitMost, .ref m_fitPost, .ref m_fitEnd, .ref m_keptPosts, .int i_x0]))], [(m_all, .inl (T.2 0, 3952, .inl f_all))], [(m_posts, .inl (T.2 0, 7, .inl f_posts))], [(m_shut, .inl (T.2 0, 7, .inl f_shut))], [(m_here, .inl (T.2 0, 7, .inl f_here))], [(m_was, .inl (T.2 0, 7, .inl f_was))]] (fun (r : Int32) bs => ∃ (j_z0 : Int32) (j_crossings : Int32) (j_inns : Int32) (j_steps : Int32) (j_done : Int32) (j_at : Int32) (j_gone : Int32) (j_d0 : Int32) (j_never : Int32) (j_firstCame : Int32) (j_longRun : Int32) (j_moved : Int32) (j_crowd : Int32) (g_posts : Nat → Int32) (g_shut : Nat → Int32) (g_here : Nat → Int32) (g_was : Nat → Int32), bs = [[(mo, .inr (11, [.ref m_all, .ref m_has, .int i_size, .int i_next, .int i_where, .int i_token, .int i_number, .int i_word, .int i_wrong, .int i_farCrossing, .ref m_read, .int j_z0, .int j_crossings, .int j_inns, .ref m_posts, .ref m_shut, .ref m_here, .int j_steps, .int j_done, .int j_at, .int j_gone, .ref m_was, .ref m_came, .ref m_seenAt, .ref m_rowWorth, .ref m_farBy, .ref m_used, .int i_everywhere, .int i_again0, .int j_d0, .int j_never, .int j_firstCame, .int j_longRun, .int j_moved, .int j_crowd, .int i_l0, .int i_fitMany, .int i_fitLeast, .int i_fitMost, .ref m_fitPost, .ref m_fitEnd, .ref m_keptPosts, .int i_x0]))], [(m_all, .inl (T.2 0, 3952, .inl f_all))], [(m_posts, .inl (T.2 0, 7, .inl g_posts))], [(m_shut, .inl (T.2 0, 7, .inl g_shut))], [(m_here, .inl (T.2 0, 7, .inl g_here))], [(m_was, .inl (T.2 0, 7, .inl g_was))]] ∧ (((l_.toInt < 0 ∨ (f_all 0).toInt ≤ l_.toInt) ∨ (k_.toInt < 0 ∨ (f_all 1).toInt ≤ k_.toInt)) ∧ r = -1 ∨ (l_.toInt = 0 ∧ 0 < (f_all 0).toInt) ∧ (k_.toInt = 0 ∧ 0 < (f_all 1).toInt) ∧ pDay9 f_all 610 712 40 (fun R => r = nI R.1) ∨ (l_.toInt = 0 ∧ 0 < (f_all 0).toInt) ∧ (k_.toInt = 1 ∧ 1 < (f_all 1).toInt) ∧ pDay9 f_all 610 833 40 (fun R => r = nI R.1) ∨ (l_.toInt = 1 ∧ 1 < (f_all 0).toInt) ∧ (k_.toInt = 0 ∧ 0 < (f_all 1).toInt) ∧ pDay9 f_all 661 712 40 (fun R => r = nI R.1) ∨ (l_.toInt = 1 ∧ 1 < (f_all 0).toInt) ∧ (k_.toInt = 1 ∧ 1 < (f_all 1).toInt) ∧ pDay9 f_all 661 833 40 (fun R => r = nI R.1))) := by
  refine zMi_of (own := RX12) (by decide) rfl (Nat.le_of_ble_eq_true rfl) ?_
  intro p e s m args below meth c A ls C hr hlocks hnm hAe G hl
  have hx := C.1
  have hb := C.2.1
  have hl : lv_has ls 3 [(0, .ref mo), (1, .int l_), (2, .int k_)] := hl
  refine lv_aload_n hx hb dX12_stop_0 rfl (lv_at hl 0 rfl) ?_
  refine lv_iload_n hx hb dX12_stop_1 rfl (lv_at hl 1 rfl) ?_
  refine z_Vi (bc := [[(mo, .inr (11, [.ref m_all, .ref m_has, .int i_size, .int i_next, .int i_where, .int i_token, .int i_number, .int i_word, .int i_wrong, .int i_farCrossing, .ref m_read, .int i_z0, .int i_crossings, .int i_inns, .ref m_posts, .ref m_shut, .ref m_here, .int i_steps, .int i_done, .int i_at, .int i_gone, .ref m_was, .ref m_came, .ref m_seenAt, .ref m_rowWorth, .ref m_farBy, .ref m_used, .int i_everywhere, .int i_again0, .int i_d0, .int i_never, .int i_firstCame, .int i_longRun, .int i_moved, .int i_crowd, .int i_l0, .int i_fitMany, .int i_fitLeast, .int i_fitMost, .ref m_fitPost, .ref m_fitEnd, .ref m_keptPosts, .int i_x0]))], [(m_all, .inl (T.2 0, 3952, .inl f_all))], [(m_posts, .inl (T.2 0, 7, .inl f_posts))], [(m_shut, .inl (T.2 0, 7, .inl f_shut))], [(m_here, .inl (T.2 0, 7, .inl f_here))]]) (br := [[(m_was, .inl (T.2 0, 7, .inl f_was))]]) (As := [.int l_]) (rest := []) C G (c_m_isLand l T mo m_all m_has i_size i_next i_where i_token i_number i_word i_wrong i_farCrossing m_read i_z0 i_crossings i_inns m_posts m_shut m_here i_steps i_done i_at i_gone m_was m_came m_seenAt m_rowWorth m_farBy m_used i_everywhere i_again0 i_d0 i_never i_firstCame i_longRun i_moved i_crowd i_l0 i_fitMany i_fitLeast i_fitMost m_fitPost m_fitEnd m_keptPosts i_x0 f_all f_posts f_shut f_here l_ (by first | assumption | omega | rfl)) (kV_RX12_184 C.2.2.2.2 (Nat.le_of_ble_eq_true rfl) (Nat.le_of_ble_eq_true rfl)) [0, 1, 2, 3, 4] [5] rfl rfl (ci := 11) (qc := (RX12, TX12, 43)) rfl rfl (List.mem_flatten.mpr ⟨_, List.mem_of_getElem? (i := 0) rfl, List.mem_cons_self⟩) rfl rfl hl.1 dX12_stop_2 (Nat.le_of_ble_eq_true rfl) (Nat.le_of_ble_eq_true rfl) (fun r_10 b1 H locs hw G => ?_)
  obtain ⟨j_z0_1, j_crossings_2, j_inns_3, j_steps_4, j_done_5, g_posts_6, g_shut_7, g_here_8, rfl, hc_9⟩ := hw
  have G : zS T A s.heap s [[(m_was, .inl (T.2 0, 7, .inl f_was))], [(mo, .inr (11, [.ref m_all, .ref m_has, .int i_size, .int i_next, .int i_where, .int i_token, .int i_number, .int i_word, .int i_wrong, .int i_farCrossing, .ref m_read, .int j_z0_1, .int j_crossings_2, .int j_inns_3, .ref m_posts, .ref m_shut, .ref m_here, .int j_steps_4, .int j_done_5, .int i_at, .int i_gone, .ref m_was, .ref m_came, .ref m_seenAt, .ref m_rowWorth, .ref m_farBy, .ref m_used, .int i_everywhere, .int i_again0, .int i_d0, .int i_never, .int i_firstCame, .int i_longRun, .int i_moved, .int i_crowd, .int i_l0, .int i_fitMany, .int i_fitLeast, .int i_fitMost, .ref m_fitPost, .ref m_fitEnd, .ref m_keptPosts, .int i_x0]))], [(m_all, .inl (T.2 0, 3952, .inl f_all))], [(m_posts, .inl (T.2 0, 7, .inl g_posts_6))], [(m_shut, .inl (T.2 0, 7, .inl g_shut_7))], [(m_here, .inl (T.2 0, 7, .inl g_here_8))]] _ _ := G
  rcases hc_9 with ⟨rfl, h_11, h_12, h_13, h_14, h_15, h_16, h_17, h_18, h_19, h_20, h_21, h_22⟩ | ⟨rfl, h_23⟩
  · have h_11 : 0 ≤ l_.toInt := h_11
    have h_12 : l_.toInt ≤ 1 := h_12
    have h_13 : l_.toInt < (f_all 0).toInt := h_13
    have h_14 : j_z0_1.toInt = 610 + 51 * l_.toInt := h_14
    have h_15 : zML f_all j_z0_1 j_crossings_2 := h_15
    have h_16 : zMP g_posts_6 := h_16
    have h_17 : j_inns_3 = f_all (j_z0_1.toInt.toNat + 1) := h_17
    have h_18 : j_steps_4 = 0 := h_18
    have h_19 : j_done_5 = 0 := h_19
    have h_20 : (∀ j, j < 7 → g_posts_6 j = zPt f_all j_z0_1 (nI j)) := h_20
    have h_21 : (∀ j, j < 7 → g_shut_7 j = 0) := h_21
    have h_22 : (∀ j, j < 7 → g_here_8 j = zWk f_all j_z0_1 j) := h_22
    have hLx := h_15
    have hcr := hLx.cr
    have hzx := hLx.1
    have hPx := h_16
    have hVx : zMV (zRo f_all j_z0_1) g_posts_6 := zVA_z hVA hzx h_20
    refine lv_if_eq (tgt := 16) hx hb dX12_stop_5 (by decide) (fun q => absurd q (by decide)) (fun _ => ?_)
    rcases (show l_.toInt = 0 ∨ l_.toInt = 1 from by have hq9 := hB.2.1 0 (by decide); omega) with hkk | hkk
    · obtain rfl : j_z0_1 = 610 := Int32.toInt_inj.mp (by show j_z0_1.toInt = 610; omega)
      have hcx : j_crossings_2.toInt = (f_all 610).toInt := by rw [hLx.2.1]; rfl
      have hQP : zP3 g_posts_6 (zWo f_all 610 j_inns_3) := zP3_m hLx hPx
      refine lv_aload_n hx hb dX12_stop_8 rfl (lv_at hl 0 rfl) ?_
      refine lv_iload_n hx hb dX12_stop_9 rfl (lv_at hl 2 rfl) ?_
      refine z_Vi (bc := [[(mo, .inr (11, [.ref m_all, .ref m_has, .int i_size, .int i_next, .int i_where, .int i_token, .int i_number, .int i_word, .int i_wrong, .int i_farCrossing, .ref m_read, .int 610, .int j_crossings_2, .int j_inns_3, .ref m_posts, .ref m_shut, .ref m_here, .int j_steps_4, .int j_done_5, .int i_at, .int i_gone, .ref m_was, .ref m_came, .ref m_seenAt, .ref m_rowWorth, .ref m_farBy, .ref m_used, .int i_everywhere, .int i_again0, .int i_d0, .int i_never, .int i_firstCame, .int i_longRun, .int i_moved, .int i_crowd, .int i_l0, .int i_fitMany, .int i_fitLeast, .int i_fitMost, .ref m_fitPost, .ref m_fitEnd, .ref m_keptPosts, .int i_x0]))], [(m_all, .inl (T.2 0, 3952, .inl f_all))]]) (br := [[(m_was, .inl (T.2 0, 7, .inl f_was))], [(m_posts, .inl (T.2 0, 7, .inl g_posts_6))], [(m_shut, .inl (T.2 0, 7, .inl g_shut_7))], [(m_here, .inl (T.2 0, 7, .inl g_here_8))]]) (As := [.int k_]) (rest := []) C G (c_m_isDay l T mo m_all m_has i_size i_next i_where i_token i_number i_word i_wrong i_farCrossing m_read 610 j_crossings_2 j_inns_3 m_posts m_shut m_here j_steps_4 j_done_5 i_at i_gone m_was m_came m_seenAt m_rowWorth m_farBy m_used i_everywhere i_again0 i_d0 i_never i_firstCame i_longRun i_moved i_crowd i_l0 i_fitMany i_fitLeast i_fitMost m_fitPost m_fitEnd m_keptPosts i_x0 f_all k_ (by first | assumption | omega | rfl)) (kV_RX12_305 C.2.2.2.2 (Nat.le_of_ble_eq_true rfl) (Nat.le_of_ble_eq_true rfl)) [1, 2] [0, 3, 4, 5] rfl rfl (ci := 11) (qc := (RX12, TX12, 43)) rfl rfl (List.mem_flatten.mpr ⟨_, List.mem_of_getElem? (i := 0) rfl, List.mem_cons_self⟩) rfl rfl hl.1 dX12_stop_10 (Nat.le_of_ble_eq_true rfl) (Nat.le_of_ble_eq_true rfl) (fun r_26 b1 H locs hw G => ?_)
      obtain ⟨j_d0_24, rfl, hc_25⟩ := hw
      have G : zS T A s.heap s [[(m_was, .inl (T.2 0, 7, .inl f_was))], [(m_posts, .inl (T.2 0, 7, .inl g_posts_6))], [(m_shut, .inl (T.2 0, 7, .inl g_shut_7))], [(m_here, .inl (T.2 0, 7, .inl g_here_8))], [(mo, .inr (11, [.ref m_all, .ref m_has, .int i_size, .int i_next, .int i_where, .int i_token, .int i_number, .int i_word, .int i_wrong, .int i_farCrossing, .ref m_read, .int 610, .int j_crossings_2, .int j_inns_3, .ref m_posts, .ref m_shut, .ref m_here, .int j_steps_4, .int j_done_5, .int i_at, .int i_gone, .ref m_was, .ref m_came, .ref m_seenAt, .ref m_rowWorth, .ref m_farBy, .ref m_used, .int i_everywhere, .int i_again0, .int j_d0_24, .int i_never, .int i_firstCame, .int i_longRun, .int i_moved, .int i_crowd, .int i_l0, .int i_fitMany, .int i_fitLeast, .int i_fitMost, .ref m_fitPost, .ref m_fitEnd, .ref m_keptPosts, .int i_x0]))], [(m_all, .inl (T.2 0, 3952, .inl f_all))]] _ _ := G
      rcases hc_25 with ⟨rfl, h_27, h_28, h_29, h_30⟩ | ⟨rfl, h_31⟩
      · have h_27 : 0 ≤ k_.toInt := h_27
        have h_28 : k_.toInt < (f_all 1).toInt := h_28
        have h_29 : j_d0_24.toInt = 712 + 121 * k_.toInt := h_29
        have h_30 : zMD f_all j_d0_24 := h_30
        have hD := h_30
        have hDa := hD.1
        have hDb := hD.2
        refine lv_if_ne (tgt := 18) hx hb dX12_stop_13 (by decide) (fun _ => ?_) (fun q => absurd q (by decide))
        rcases (show k_.toInt = 0 ∨ k_.toInt = 1 from by have hq9 := hB.2.1 1 (by decide); omega) with hkd | hkd
        · obtain rfl : j_d0_24 = 712 := Int32.toInt_inj.mp (by show j_d0_24.toInt = 712; omega)
          have hDv : zDyv f_all 712 := zVD_0 hVD 0 (by decide)
          refine lv_aload_n hx hb dX12_stop_18 rfl (lv_at hl 0 rfl) ?_
          refine lv_bipush (v := 40) hx hb dX12_stop_19 (by decide) ?_
          refine z_Vv (bc := [[(mo, .inr (11, [.ref m_all, .ref m_has, .int i_size, .int i_next, .int i_where, .int i_token, .int i_number, .int i_word, .int i_wrong, .int i_farCrossing, .ref m_read, .int 610, .int j_crossings_2, .int j_inns_3, .ref m_posts, .ref m_shut, .ref m_here, .int j_steps_4, .int j_done_5, .int i_at, .int i_gone, .ref m_was, .ref m_came, .ref m_seenAt, .ref m_rowWorth, .ref m_farBy, .ref m_used, .int i_everywhere, .int i_again0, .int 712, .int i_never, .int i_firstCame, .int i_longRun, .int i_moved, .int i_crowd, .int i_l0, .int i_fitMany, .int i_fitLeast, .int i_fitMost, .ref m_fitPost, .ref m_fitEnd, .ref m_keptPosts, .int i_x0]))], [(m_all, .inl (T.2 0, 3952, .inl f_all))], [(m_posts, .inl (T.2 0, 7, .inl g_posts_6))], [(m_shut, .inl (T.2 0, 7, .inl g_shut_7))], [(m_here, .inl (T.2 0, 7, .inl g_here_8))], [(m_was, .inl (T.2 0, 7, .inl f_was))]]) (br := []) (As := [.int 40]) (rest := []) C G (c_fm_runs l T mo m_all m_has i_size i_next i_where i_token i_number i_word i_wrong i_farCrossing m_read 610 j_crossings_2 j_inns_3 m_posts m_shut m_here j_steps_4 j_done_5 i_at i_gone m_was m_came m_seenAt m_rowWorth m_farBy m_used i_everywhere i_again0 712 i_never i_firstCame i_longRun i_moved i_crowd i_l0 i_fitMany i_fitLeast i_fitMost m_fitPost m_fitEnd m_keptPosts i_x0 f_all g_posts_6 g_shut_7 g_here_8 f_was 40 (by first | assumption | omega | rfl) (by first | assumption | omega | rfl) hVx hD h_19 (zWk_b hLx h_22) (zS0_b h_21) hDv) (kV_RX12_348 C.2.2.2.2 (Nat.le_of_ble_eq_true rfl) (Nat.le_of_ble_eq_true rfl)) [4, 5, 1, 2, 3, 0] [] rfl rfl (ci := 11) (qc := (RX12, TX12, 43)) rfl rfl (List.mem_flatten.mpr ⟨_, List.mem_of_getElem? (i := 0) rfl, List.mem_cons_self⟩) rfl rfl hl.1 dX12_stop_21 (Nat.le_of_ble_eq_true rfl) (Nat.le_of_ble_eq_true rfl) (fun b1 H locs hw G => ?_)
          obtain ⟨j_at_32, j_gone_33, j_steps_34, j_moved_35, j_firstCame_36, j_never_37, j_longRun_38, j_crowd_39, j_done_40, g_posts_41, g_shut_42, g_here_43, g_was_44, rfl, h_45, h_46, h_47, h_48, h_49⟩ := hw
          have G : zS T A s.heap s [[(mo, .inr (11, [.ref m_all, .ref m_has, .int i_size, .int i_next, .int i_where, .int i_token, .int i_number, .int i_word, .int i_wrong, .int i_farCrossing, .ref m_read, .int 610, .int j_crossings_2, .int j_inns_3, .ref m_posts, .ref m_shut, .ref m_here, .int j_steps_34, .int j_done_40, .int j_at_32, .int j_gone_33, .ref m_was, .ref m_came, .ref m_seenAt, .ref m_rowWorth, .ref m_farBy, .ref m_used, .int i_everywhere, .int i_again0, .int 712, .int j_never_37, .int j_firstCame_36, .int j_longRun_38, .int j_moved_35, .int j_crowd_39, .int i_l0, .int i_fitMany, .int i_fitLeast, .int i_fitMost, .ref m_fitPost, .ref m_fitEnd, .ref m_keptPosts, .int i_x0]))], [(m_all, .inl (T.2 0, 3952, .inl f_all))], [(m_posts, .inl (T.2 0, 7, .inl g_posts_41))], [(m_shut, .inl (T.2 0, 7, .inl g_shut_42))], [(m_here, .inl (T.2 0, 7, .inl g_here_43))], [(m_was, .inl (T.2 0, 7, .inl g_was_44))]] _ _ := G
          refine lv_aload_n hx hb dX12_stop_24 rfl (lv_at hl 0 rfl) ?_
          refine z_get C G clX12 0 rfl 18 (by decide) m_fl_RX12_199 rfl dX12_stop_25 ?_
          exact z_iret C hr hlocks G (Nat.le_of_ble_eq_true rfl) (Nat.le_of_ble_eq_true rfl) dX12_stop_28 ⟨610, j_crossings_2, j_inns_3, j_steps_34, j_done_40, j_at_32, j_gone_33, 712, j_never_37, j_firstCame_36, j_longRun_38, j_moved_35, j_crowd_39, g_posts_41, g_shut_42, g_here_43, g_was_44, rfl, (Or.inr (Or.inl ⟨⟨by assumption, by omega⟩, ⟨by assumption, by omega⟩, ⟨g_posts_6, g_shut_7, g_here_8, ⟨zPt_o h_20, h_21, fun j hj => (h_22 j hj).trans rfl⟩, by rw [show pW f_all 610 = zWo f_all 610 j_inns_3 from congrArg (zWo f_all 610) h_17.symm]; rw [show f_all ((610 : Int32).toInt.toNat) = j_crossings_2 from hLx.2.1.symm, show f_all ((610 : Int32).toInt.toNat + 1) = j_inns_3 from h_17.symm]; have q8 := h_47; rw [h_18] at q8; exact q8⟩⟩))⟩
        · obtain rfl : j_d0_24 = 833 := Int32.toInt_inj.mp (by show j_d0_24.toInt = 833; omega)
          have hDv : zDyv f_all 833 := zVD_0 hVD 1 (by decide)
          refine lv_aload_n hx hb dX12_stop_18 rfl (lv_at hl 0 rfl) ?_
          refine lv_bipush (v := 40) hx hb dX12_stop_19 (by decide) ?_
          refine z_Vv (bc := [[(mo, .inr (11, [.ref m_all, .ref m_has, .int i_size, .int i_next, .int i_where, .int i_token, .int i_number, .int i_word, .int i_wrong, .int i_farCrossing, .ref m_read, .int 610, .int j_crossings_2, .int j_inns_3, .ref m_posts, .ref m_shut, .ref m_here, .int j_steps_4, .int j_done_5, .int i_at, .int i_gone, .ref m_was, .ref m_came, .ref m_seenAt, .ref m_rowWorth, .ref m_farBy, .ref m_used, .int i_everywhere, .int i_again0, .int 833, .int i_never, .int i_firstCame, .int i_longRun, .int i_moved, .int i_crowd, .int i_l0, .int i_fitMany, .int i_fitLeast, .int i_fitMost, .ref m_fitPost, .ref m_fitEnd, .ref m_keptPosts, .int i_x0]))], [(m_all, .inl (T.2 0, 3952, .inl f_all))], [(m_posts, .inl (T.2 0, 7, .inl g_posts_6))], [(m_shut, .inl (T.2 0, 7, .inl g_shut_7))], [(m_here, .inl (T.2 0, 7, .inl g_here_8))], [(m_was, .inl (T.2 0, 7, .inl f_was))]]) (br := []) (As := [.int 40]) (rest := []) C G (c_fm_runs l T mo m_all m_has i_size i_next i_where i_token i_number i_word i_wrong i_farCrossing m_read 610 j_crossings_2 j_inns_3 m_posts m_shut m_here j_steps_4 j_done_5 i_at i_gone m_was m_came m_seenAt m_rowWorth m_farBy m_used i_everywhere i_again0 833 i_never i_firstCame i_longRun i_moved i_crowd i_l0 i_fitMany i_fitLeast i_fitMost m_fitPost m_fitEnd m_keptPosts i_x0 f_all g_posts_6 g_shut_7 g_here_8 f_was 40 (by first | assumption | omega | rfl) (by first | assumption | omega | rfl) hVx hD h_19 (zWk_b hLx h_22) (zS0_b h_21) hDv) (kV_RX12_348 C.2.2.2.2 (Nat.le_of_ble_eq_true rfl) (Nat.le_of_ble_eq_true rfl)) [4, 5, 1, 2, 3, 0] [] rfl rfl (ci := 11) (qc := (RX12, TX12, 43)) rfl rfl (List.mem_flatten.mpr ⟨_, List.mem_of_getElem? (i := 0) rfl, List.mem_cons_self⟩) rfl rfl hl.1 dX12_stop_21 (Nat.le_of_ble_eq_true rfl) (Nat.le_of_ble_eq_true rfl) (fun b1 H locs hw G => ?_)
          obtain ⟨j_at_51, j_gone_52, j_steps_53, j_moved_54, j_firstCame_55, j_never_56, j_longRun_57, j_crowd_58, j_done_59, g_posts_60, g_shut_61, g_here_62, g_was_63, rfl, h_64, h_65, h_66, h_67, h_68⟩ := hw
          have G : zS T A s.heap s [[(mo, .inr (11, [.ref m_all, .ref m_has, .int i_size, .int i_next, .int i_where, .int i_token, .int i_number, .int i_word, .int i_wrong, .int i_farCrossing, .ref m_read, .int 610, .int j_crossings_2, .int j_inns_3, .ref m_posts, .ref m_shut, .ref m_here, .int j_steps_53, .int j_done_59, .int j_at_51, .int j_gone_52, .ref m_was, .ref m_came, .ref m_seenAt, .ref m_rowWorth, .ref m_farBy, .ref m_used, .int i_everywhere, .int i_again0, .int 833, .int j_never_56, .int j_firstCame_55, .int j_longRun_57, .int j_moved_54, .int j_crowd_58, .int i_l0, .int i_fitMany, .int i_fitLeast, .int i_fitMost, .ref m_fitPost, .ref m_fitEnd, .ref m_keptPosts, .int i_x0]))], [(m_all, .inl (T.2 0, 3952, .inl f_all))], [(m_posts, .inl (T.2 0, 7, .inl g_posts_60))], [(m_shut, .inl (T.2 0, 7, .inl g_shut_61))], [(m_here, .inl (T.2 0, 7, .inl g_here_62))], [(m_was, .inl (T.2 0, 7, .inl g_was_63))]] _ _ := G
          refine lv_aload_n hx hb dX12_stop_24 rfl (lv_at hl 0 rfl) ?_
          refine z_get C G clX12 0 rfl 18 (by decide) m_fl_RX12_199 rfl dX12_stop_25 ?_
          exact z_iret C hr hlocks G (Nat.le_of_ble_eq_true rfl) (Nat.le_of_ble_eq_true rfl) dX12_stop_28 ⟨610, j_crossings_2, j_inns_3, j_steps_53, j_done_59, j_at_51, j_gone_52, 833, j_never_56, j_firstCame_55, j_longRun_57, j_moved_54, j_crowd_58, g_posts_60, g_shut_61, g_here_62, g_was_63, rfl, (Or.inr (Or.inr (Or.inl ⟨⟨by assumption, by omega⟩, ⟨by assumption, by omega⟩, ⟨g_posts_6, g_shut_7, g_here_8, ⟨zPt_o h_20, h_21, fun j hj => (h_22 j hj).trans rfl⟩, by rw [show pW f_all 610 = zWo f_all 610 j_inns_3 from congrArg (zWo f_all 610) h_17.symm]; rw [show f_all ((610 : Int32).toInt.toNat) = j_crossings_2 from hLx.2.1.symm, show f_all ((610 : Int32).toInt.toNat + 1) = j_inns_3 from h_17.symm]; have q8 := h_66; rw [h_18] at q8; exact q8⟩⟩)))⟩
      · have h_31 : (k_.toInt < 0 ∨ (f_all 1).toInt ≤ k_.toInt) := h_31
        refine lv_if_ne (tgt := 18) hx hb dX12_stop_13 (by decide) (fun q => absurd (by decide) q) (fun _ => ?_)
        refine lv_iconst (v := (-1)) hx hb dX12_stop_16 (by decide) ?_
        have G := G.sub (bs' := [[(mo, .inr (11, [.ref m_all, .ref m_has, .int i_size, .int i_next, .int i_where, .int i_token, .int i_number, .int i_word, .int i_wrong, .int i_farCrossing, .ref m_read, .int 610, .int j_crossings_2, .int j_inns_3, .ref m_posts, .ref m_shut, .ref m_here, .int j_steps_4, .int j_done_5, .int i_at, .int i_gone, .ref m_was, .ref m_came, .ref m_seenAt, .ref m_rowWorth, .ref m_farBy, .ref m_used, .int i_everywhere, .int i_again0, .int j_d0_24, .int i_never, .int i_firstCame, .int i_longRun, .int i_moved, .int i_crowd, .int i_l0, .int i_fitMany, .int i_fitLeast, .int i_fitMost, .ref m_fitPost, .ref m_fitEnd, .ref m_keptPosts, .int i_x0]))], [(m_all, .inl (T.2 0, 3952, .inl f_all))], [(m_posts, .inl (T.2 0, 7, .inl g_posts_6))], [(m_shut, .inl (T.2 0, 7, .inl g_shut_7))], [(m_here, .inl (T.2 0, 7, .inl g_here_8))], [(m_was, .inl (T.2 0, 7, .inl f_was))]]) [4, 5, 1, 2, 3, 0] rfl
        exact z_iret C hr hlocks G (Nat.le_of_ble_eq_true rfl) (Nat.le_of_ble_eq_true rfl) dX12_stop_17 ⟨610, j_crossings_2, j_inns_3, j_steps_4, j_done_5, i_at, i_gone, j_d0_24, i_never, i_firstCame, i_longRun, i_moved, i_crowd, g_posts_6, g_shut_7, g_here_8, f_was, rfl, (Or.inl ⟨Or.inr (by assumption), rfl⟩)⟩
    · obtain rfl : j_z0_1 = 661 := Int32.toInt_inj.mp (by show j_z0_1.toInt = 661; omega)
      have hcx : j_crossings_2.toInt = (f_all 661).toInt := by rw [hLx.2.1]; rfl
      have hQP : zP3 g_posts_6 (zWo f_all 661 j_inns_3) := zP3_m hLx hPx
      refine lv_aload_n hx hb dX12_stop_8 rfl (lv_at hl 0 rfl) ?_
      refine lv_iload_n hx hb dX12_stop_9 rfl (lv_at hl 2 rfl) ?_
      refine z_Vi (bc := [[(mo, .inr (11, [.ref m_all, .ref m_has, .int i_size, .int i_next, .int i_where, .int i_token, .int i_number, .int i_word, .int i_wrong, .int i_farCrossing, .ref m_read, .int 661, .int j_crossings_2, .int j_inns_3, .ref m_posts, .ref m_shut, .ref m_here, .int j_steps_4, .int j_done_5, .int i_at, .int i_gone, .ref m_was, .ref m_came, .ref m_seenAt, .ref m_rowWorth, .ref m_farBy, .ref m_used, .int i_everywhere, .int i_again0, .int i_d0, .int i_never, .int i_firstCame, .int i_longRun, .int i_moved, .int i_crowd, .int i_l0, .int i_fitMany, .int i_fitLeast, .int i_fitMost, .ref m_fitPost, .ref m_fitEnd, .ref m_keptPosts, .int i_x0]))], [(m_all, .inl (T.2 0, 3952, .inl f_all))]]) (br := [[(m_was, .inl (T.2 0, 7, .inl f_was))], [(m_posts, .inl (T.2 0, 7, .inl g_posts_6))], [(m_shut, .inl (T.2 0, 7, .inl g_shut_7))], [(m_here, .inl (T.2 0, 7, .inl g_here_8))]]) (As := [.int k_]) (rest := []) C G (c_m_isDay l T mo m_all m_has i_size i_next i_where i_token i_number i_word i_wrong i_farCrossing m_read 661 j_crossings_2 j_inns_3 m_posts m_shut m_here j_steps_4 j_done_5 i_at i_gone m_was m_came m_seenAt m_rowWorth m_farBy m_used i_everywhere i_again0 i_d0 i_never i_firstCame i_longRun i_moved i_crowd i_l0 i_fitMany i_fitLeast i_fitMost m_fitPost m_fitEnd m_keptPosts i_x0 f_all k_ (by first | assumption | omega | rfl)) (kV_RX12_305 C.2.2.2.2 (Nat.le_of_ble_eq_true rfl) (Nat.le_of_ble_eq_true rfl)) [1, 2] [0, 3, 4, 5] rfl rfl (ci := 11) (qc := (RX12, TX12, 43)) rfl rfl (List.mem_flatten.mpr ⟨_, List.mem_of_getElem? (i := 0) rfl, List.mem_cons_self⟩) rfl rfl hl.1 dX12_stop_10 (Nat.le_of_ble_eq_true rfl) (Nat.le_of_ble_eq_true rfl) (fun r_72 b1 H locs hw G => ?_)
      obtain ⟨j_d0_70, rfl, hc_71⟩ := hw
      have G : zS T A s.heap s [[(m_was, .inl (T.2 0, 7, .inl f_was))], [(m_posts, .inl (T.2 0, 7, .inl g_posts_6))], [(m_shut, .inl (T.2 0, 7, .inl g_shut_7))], [(m_here, .inl (T.2 0, 7, .inl g_here_8))], [(mo, .inr (11, [.ref m_all, .ref m_has, .int i_size, .int i_next, .int i_where, .int i_token, .int i_number, .int i_word, .int i_wrong, .int i_farCrossing, .ref m_read, .int 661, .int j_crossings_2, .int j_inns_3, .ref m_posts, .ref m_shut, .ref m_here, .int j_steps_4, .int j_done_5, .int i_at, .int i_gone, .ref m_was, .ref m_came, .ref m_seenAt, .ref m_rowWorth, .ref m_farBy, .ref m_used, .int i_everywhere, .int i_again0, .int j_d0_70, .int i_never, .int i_firstCame, .int i_longRun, .int i_moved, .int i_crowd, .int i_l0, .int i_fitMany, .int i_fitLeast, .int i_fitMost, .ref m_fitPost, .ref m_fitEnd, .ref m_keptPosts, .int i_x0]))], [(m_all, .inl (T.2 0, 3952, .inl f_all))]] _ _ := G
      rcases hc_71 with ⟨rfl, h_73, h_74, h_75, h_76⟩ | ⟨rfl, h_77⟩
      · have h_73 : 0 ≤ k_.toInt := h_73
        have h_74 : k_.toInt < (f_all 1).toInt := h_74
        have h_75 : j_d0_70.toInt = 712 + 121 * k_.toInt := h_75
        have h_76 : zMD f_all j_d0_70 := h_76
        have hD := h_76
        have hDa := hD.1
        have hDb := hD.2
        refine lv_if_ne (tgt := 18) hx hb dX12_stop_13 (by decide) (fun _ => ?_) (fun q => absurd q (by decide))
        rcases (show k_.toInt = 0 ∨ k_.toInt = 1 from by have hq9 := hB.2.1 1 (by decide); omega) with hkd | hkd
        · obtain rfl : j_d0_70 = 712 := Int32.toInt_inj.mp (by show j_d0_70.toInt = 712; omega)
          have hDv : zDyv f_all 712 := zVD_0 hVD 0 (by decide)
          refine lv_aload_n hx hb dX12_stop_18 rfl (lv_at hl 0 rfl) ?_
          refine lv_bipush (v := 40) hx hb dX12_stop_19 (by decide) ?_
          refine z_Vv (bc := [[(mo, .inr (11, [.ref m_all, .ref m_has, .int i_size, .int i_next, .int i_where, .int i_token, .int i_number, .int i_word, .int i_wrong, .int i_farCrossing, .ref m_read, .int 661, .int j_crossings_2, .int j_inns_3, .ref m_posts, .ref m_shut, .ref m_here, .int j_steps_4, .int j_done_5, .int i_at, .int i_gone, .ref m_was, .ref m_came, .ref m_seenAt, .ref m_rowWorth, .ref m_farBy, .ref m_used, .int i_everywhere, .int i_again0, .int 712, .int i_never, .int i_firstCame, .int i_longRun, .int i_moved, .int i_crowd, .int i_l0, .int i_fitMany, .int i_fitLeast, .int i_fitMost, .ref m_fitPost, .ref m_fitEnd, .ref m_keptPosts, .int i_x0]))], [(m_all, .inl (T.2 0, 3952, .inl f_all))], [(m_posts, .inl (T.2 0, 7, .inl g_posts_6))], [(m_shut, .inl (T.2 0, 7, .inl g_shut_7))], [(m_here, .inl (T.2 0, 7, .inl g_here_8))], [(m_was, .inl (T.2 0, 7, .inl f_was))]]) (br := []) (As := [.int 40]) (rest := []) C G (c_fm_runs l T mo m_all m_has i_size i_next i_where i_token i_number i_word i_wrong i_farCrossing m_read 661 j_crossings_2 j_inns_3 m_posts m_shut m_here j_steps_4 j_done_5 i_at i_gone m_was m_came m_seenAt m_rowWorth m_farBy m_used i_everywhere i_again0 712 i_never i_firstCame i_longRun i_moved i_crowd i_l0 i_fitMany i_fitLeast i_fitMost m_fitPost m_fitEnd m_keptPosts i_x0 f_all g_posts_6 g_shut_7 g_here_8 f_was 40 (by first | assumption | omega | rfl) (by first | assumption | omega | rfl) hVx hD h_19 (zWk_b hLx h_22) (zS0_b h_21) hDv) (kV_RX12_348 C.2.2.2.2 (Nat.le_of_ble_eq_true rfl) (Nat.le_of_ble_eq_true rfl)) [4, 5, 1, 2, 3, 0] [] rfl rfl (ci := 11) (qc := (RX12, TX12, 43)) rfl rfl (List.mem_flatten.mpr ⟨_, List.mem_of_getElem? (i := 0) rfl, List.mem_cons_self⟩) rfl rfl hl.1 dX12_stop_21 (Nat.le_of_ble_eq_true rfl) (Nat.le_of_ble_eq_true rfl) (fun b1 H locs hw G => ?_)
          obtain ⟨j_at_78, j_gone_79, j_steps_80, j_moved_81, j_firstCame_82, j_never_83, j_longRun_84, j_crowd_85, j_done_86, g_posts_87, g_shut_88, g_here_89, g_was_90, rfl, h_91, h_92, h_93, h_94, h_95⟩ := hw
          have G : zS T A s.heap s [[(mo, .inr (11, [.ref m_all, .ref m_has, .int i_size, .int i_next, .int i_where, .int i_token, .int i_number, .int i_word, .int i_wrong, .int i_farCrossing, .ref m_read, .int 661, .int j_crossings_2, .int j_inns_3, .ref m_posts, .ref m_shut, .ref m_here, .int j_steps_80, .int j_done_86, .int j_at_78, .int j_gone_79, .ref m_was, .ref m_came, .ref m_seenAt, .ref m_rowWorth, .ref m_farBy, .ref m_used, .int i_everywhere, .int i_again0, .int 712, .int j_never_83, .int j_firstCame_82, .int j_longRun_84, .int j_moved_81, .int j_crowd_85, .int i_l0, .int i_fitMany, .int i_fitLeast, .int i_fitMost, .ref m_fitPost, .ref m_fitEnd, .ref m_keptPosts, .int i_x0]))], [(m_all, .inl (T.2 0, 3952, .inl f_all))], [(m_posts, .inl (T.2 0, 7, .inl g_posts_87))], [(m_shut, .inl (T.2 0, 7, .inl g_shut_88))], [(m_here, .inl (T.2 0, 7, .inl g_here_89))], [(m_was, .inl (T.2 0, 7, .inl g_was_90))]] _ _ := G
          refine lv_aload_n hx hb dX12_stop_24 rfl (lv_at hl 0 rfl) ?_
          refine z_get C G clX12 0 rfl 18 (by decide) m_fl_RX12_199 rfl dX12_stop_25 ?_
          exact z_iret C hr hlocks G (Nat.le_of_ble_eq_true rfl) (Nat.le_of_ble_eq_true rfl) dX12_stop_28 ⟨661, j_crossings_2, j_inns_3, j_steps_80, j_done_86, j_at_78, j_gone_79, 712, j_never_83, j_firstCame_82, j_longRun_84, j_moved_81, j_crowd_85, g_posts_87, g_shut_88, g_here_89, g_was_90, rfl, (Or.inr (Or.inr (Or.inr (Or.inl ⟨⟨by assumption, by omega⟩, ⟨by assumption, by omega⟩, ⟨g_posts_6, g_shut_7, g_here_8, ⟨zPt_o h_20, h_21, fun j hj => (h_22 j hj).trans rfl⟩, by rw [show pW f_all 661 = zWo f_all 661 j_inns_3 from congrArg (zWo f_all 661) h_17.symm]; rw [show f_all ((661 : Int32).toInt.toNat) = j_crossings_2 from hLx.2.1.symm, show f_all ((661 : Int32).toInt.toNat + 1) = j_inns_3 from h_17.symm]; have q8 := h_93; rw [h_18] at q8; exact q8⟩⟩))))⟩
        · obtain rfl : j_d0_70 = 833 := Int32.toInt_inj.mp (by show j_d0_70.toInt = 833; omega)
          have hDv : zDyv f_all 833 := zVD_0 hVD 1 (by decide)
          refine lv_aload_n hx hb dX12_stop_18 rfl (lv_at hl 0 rfl) ?_
          refine lv_bipush (v := 40) hx hb dX12_stop_19 (by decide) ?_
          refine z_Vv (bc := [[(mo, .inr (11, [.ref m_all, .ref m_has, .int i_size, .int i_next, .int i_where, .int i_token, .int i_number, .int i_word, .int i_wrong, .int i_farCrossing, .ref m_read, .int 661, .int j_crossings_2, .int j_inns_3, .ref m_posts, .ref m_shut, .ref m_here, .int j_steps_4, .int j_done_5, .int i_at, .int i_gone, .ref m_was, .ref m_came, .ref m_seenAt, .ref m_rowWorth, .ref m_farBy, .ref m_used, .int i_everywhere, .int i_again0, .int 833, .int i_never, .int i_firstCame, .int i_longRun, .int i_moved, .int i_crowd, .int i_l0, .int i_fitMany, .int i_fitLeast, .int i_fitMost, .ref m_fitPost, .ref m_fitEnd, .ref m_keptPosts, .int i_x0]))], [(m_all, .inl (T.2 0, 3952, .inl f_all))], [(m_posts, .inl (T.2 0, 7, .inl g_posts_6))], [(m_shut, .inl (T.2 0, 7, .inl g_shut_7))], [(m_here, .inl (T.2 0, 7, .inl g_here_8))], [(m_was, .inl (T.2 0, 7, .inl f_was))]]) (br := []) (As := [.int 40]) (rest := []) C G (c_fm_runs l T mo m_all m_has i_size i_next i_where i_token i_number i_word i_wrong i_farCrossing m_read 661 j_crossings_2 j_inns_3 m_posts m_shut m_here j_steps_4 j_done_5 i_at i_gone m_was m_came m_seenAt m_rowWorth m_farBy m_used i_everywhere i_again0 833 i_never i_firstCame i_longRun i_moved i_crowd i_l0 i_fitMany i_fitLeast i_fitMost m_fitPost m_fitEnd m_keptPosts i_x0 f_all g_posts_6 g_shut_7 g_here_8 f_was 40 (by first | assumption | omega | rfl) (by first | assumption | omega | rfl) hVx hD h_19 (zWk_b hLx h_22) (zS0_b h_21) hDv) (kV_RX12_348 C.2.2.2.2 (Nat.le_of_ble_eq_true rfl) (Nat.le_of_ble_eq_true rfl)) [4, 5, 1, 2, 3, 0] [] rfl rfl (ci := 11) (qc := (RX12, TX12, 43)) rfl rfl (List.mem_flatten.mpr ⟨_, List.mem_of_getElem? (i := 0) rfl, List.mem_cons_self⟩) rfl rfl hl.1 dX12_stop_21 (Nat.le_of_ble_eq_true rfl) (Nat.le_of_ble_eq_true rfl) (fun b1 H locs hw G => ?_)
          obtain ⟨j_at_97, j_gone_98, j_steps_99, j_moved_100, j_firstCame_101, j_never_102, j_longRun_103, j_crowd_104, j_done_105, g_posts_106, g_shut_107, g_here_108, g_was_109, rfl, h_110, h_111, h_112, h_113, h_114⟩ := hw
          have G : zS T A s.heap s [[(mo, .inr (11, [.ref m_all, .ref m_has, .int i_size, .int i_next, .int i_where, .int i_token, .int i_number, .int i_word, .int i_wrong, .int i_farCrossing, .ref m_read, .int 661, .int j_crossings_2, .int j_inns_3, .ref m_posts, .ref m_shut, .ref m_here, .int j_steps_99, .int j_done_105, .int j_at_97, .int j_gone_98, .ref m_was, .ref m_came, .ref m_seenAt, .ref m_rowWorth, .ref m_farBy, .ref m_used, .int i_everywhere, .int i_again0, .int 833, .int j_never_102, .int j_firstCame_101, .int j_longRun_103, .int j_moved_100, .int j_crowd_104, .int i_l0, .int i_fitMany, .int i_fitLeast, .int i_fitMost, .ref m_fitPost, .ref m_fitEnd, .ref m_keptPosts, .int i_x0]))], [(m_all, .inl (T.2 0, 3952, .inl f_all))], [(m_posts, .inl (T.2 0, 7, .inl g_posts_106))], [(m_shut, .inl (T.2 0, 7, .inl g_shut_107))], [(m_here, .inl (T.2 0, 7, .inl g_here_108))], [(m_was, .inl (T.2 0, 7, .inl g_was_109))]] _ _ := G
          refine lv_aload_n hx hb dX12_stop_24 rfl (lv_at hl 0 rfl) ?_
          refine z_get C G clX12 0 rfl 18 (by decide) m_fl_RX12_199 rfl dX12_stop_25 ?_
          exact z_iret C hr hlocks G (Nat.le_of_ble_eq_true rfl) (Nat.le_of_ble_eq_true rfl) dX12_stop_28 ⟨661, j_crossings_2, j_inns_3, j_steps_99, j_done_105, j_at_97, j_gone_98, 833, j_never_102, j_firstCame_101, j_longRun_103, j_moved_100, j_crowd_104, g_posts_106, g_shut_107, g_here_108, g_was_109, rfl, (Or.inr (Or.inr (Or.inr (Or.inr (⟨⟨by assumption, by omega⟩, ⟨by assumption, by omega⟩, ⟨g_posts_6, g_shut_7, g_here_8, ⟨zPt_o h_20, h_21, fun j hj => (h_22 j hj).trans rfl⟩, by rw [show pW f_all 661 = zWo f_all 661 j_inns_3 from congrArg (zWo f_all 661) h_17.symm]; rw [show f_all ((661 : Int32).toInt.toNat) = j_crossings_2 from hLx.2.1.symm, show f_all ((661 : Int32).toInt.toNat + 1) = j_inns_3 from h_17.symm]; have q8 := h_112; rw [h_18] at q8; exact q8⟩⟩)))))⟩
      · have h_77 : (k_.toInt < 0 ∨ (f_all 1).toInt ≤ k_.toInt) := h_77
        refine lv_if_ne (tgt := 18) hx hb dX12_stop_13 (by decide) (fun q => absurd (by decide) q) (fun _ => ?_)
        refine lv_iconst (v := (-1)) hx hb dX12_stop_16 (by decide) ?_
        have G := G.sub (bs' := [[(mo, .inr (11, [.ref m_all, .ref m_has, .int i_size, .int i_next, .int i_where, .int i_token, .int i_number, .int i_word, .int i_wrong, .int i_farCrossing, .ref m_read, .int 661, .int j_crossings_2, .int j_inns_3, .ref m_posts, .ref m_shut, .ref m_here, .int j_steps_4, .int j_done_5, .int i_at, .int i_gone, .ref m_was, .ref m_came, .ref m_seenAt, .ref m_rowWorth, .ref m_farBy, .ref m_used, .int i_everywhere, .int i_again0, .int j_d0_70, .int i_never, .int i_firstCame, .int i_longRun, .int i_moved, .int i_crowd, .int i_l0, .int i_fitMany, .int i_fitLeast, .int i_fitMost, .ref m_fitPost, .ref m_fitEnd, .ref m_keptPosts, .int i_x0]))], [(m_all, .inl (T.2 0, 3952, .inl f_all))], [(m_posts, .inl (T.2 0, 7, .inl g_posts_6))], [(m_shut, .inl (T.2 0, 7, .inl g_shut_7))], [(m_here, .inl (T.2 0, 7, .inl g_here_8))], [(m_was, .inl (T.2 0, 7, .inl f_was))]]) [4, 5, 1, 2, 3, 0] rfl
        exact z_iret C hr hlocks G (Nat.le_of_ble_eq_true rfl) (Nat.le_of_ble_eq_true rfl) dX12_stop_17 ⟨661, j_crossings_2, j_inns_3, j_steps_4, j_done_5, i_at, i_gone, j_d0_70, i_never, i_firstCame, i_longRun, i_moved, i_crowd, g_posts_6, g_shut_7, g_here_8, f_was, rfl, (Or.inl ⟨Or.inr (by assumption), rfl⟩)⟩
  · have h_23 : (l_.toInt < 0 ∨ (f_all 0).toInt ≤ l_.toInt) := h_23
    refine lv_if_eq (tgt := 16) hx hb dX12_stop_5 (by decide) (fun _ => ?_) (fun q => absurd (by decide) q)
    refine lv_iconst (v := (-1)) hx hb dX12_stop_16 (by decide) ?_
    have G := G.sub (bs' := [[(mo, .inr (11, [.ref m_all, .ref m_has, .int i_size, .int i_next, .int i_where, .int i_token, .int i_number, .int i_word, .int i_wrong, .int i_farCrossing, .ref m_read, .int j_z0_1, .int j_crossings_2, .int j_inns_3, .ref m_posts, .ref m_shut, .ref m_here, .int j_steps_4, .int j_done_5, .int i_at, .int i_gone, .ref m_was, .ref m_came, .ref m_seenAt, .ref m_rowWorth, .ref m_farBy, .ref m_used, .int i_everywhere, .int i_again0, .int i_d0, .int i_never, .int i_firstCame, .int i_longRun, .int i_moved, .int i_crowd, .int i_l0, .int i_fitMany, .int i_fitLeast, .int i_fitMost, .ref m_fitPost, .ref m_fitEnd, .ref m_keptPosts, .int i_x0]))], [(m_all, .inl (T.2 0, 3952, .inl f_all))], [(m_posts, .inl (T.2 0, 7, .inl g_posts_6))], [(m_shut, .inl (T.2 0, 7, .inl g_shut_7))], [(m_here, .inl (T.2 0, 7, .inl g_here_8))], [(m_was, .inl (T.2 0, 7, .inl f_was))]]) [1, 2, 3, 4, 5, 0] rfl
    exact z_iret C hr hlocks G (Nat.le_of_ble_eq_true rfl) (Nat.le_of_ble_eq_true rfl) dX12_stop_17 ⟨j_z0_1, j_crossings_2, j_inns_3, j_steps_4, j_done_5, i_at, i_gone, i_d0, i_never, i_firstCame, i_longRun, i_moved, i_crowd, g_posts_6, g_shut_7, g_here_8, f_was, rfl, (Or.inl ⟨Or.inl (by assumption), rfl⟩)⟩


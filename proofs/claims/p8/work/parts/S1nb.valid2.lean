def zDR (R : Nat → Int32) : Prop := ∀ j : Nat, (j : Int) < (R 0).toInt → (0 ≤ (R (1 + 3 * j)).toInt ∧ (R (1 + 3 * j)).toInt ≤ 5) ∧ (4 ≤ (R (1 + 3 * j)).toInt → 0 ≤ (R (3 + 3 * j)).toInt ∧ (R (3 + 3 * j)).toInt ≤ 3)
theorem zDR_cg {R R' : Nat → Int32} (e : ∀ j, j < 121 → R' j = R j) (h0 : (R 0).toInt ≤ 40) (h : zDR R) : zDR R' := by
  intro j hj
  rw [e 0 (by decide)] at hj
  rw [e _ (by omega), e _ (by omega)]
  exact h j hj
section PZ
variable {k : pT} {a : pS}
theorem pEnds_z (h : pBk a) : ¬ (pEnds k a).2.2.1.toInt = 0 := by
  unfold pEnds
  split
  · show ¬ (1 : Int32).toInt = 0
    decide
  · rename_i q
    exact h q
theorem pAlso_zz {kd w : Int32} (h : pBk a) (hk : ¬ kd.toInt = 0) : ¬ (pAlso kd w a).2.2.1.toInt = 0 := by
  unfold pAlso
  split
  · rename_i q
    intro z
    rcases q with q | q
    · exact h q z
    · exact q.1 z
  · exact hk
theorem pNum_z {lo hi : Int32} (h : pBk a) (q : (pNum k lo hi a).2.2.2.1.toInt = 0) : a.2.2.1.toInt = 0 ∧ lo.toInt ≤ (pNum k lo hi a).1.toInt ∧ (pNum k lo hi a).1.toInt ≤ hi.toInt := by
  unfold pNum at q ⊢
  split at q
  · exact absurd q (pEnds_z h)
  · split at q
    · rename_i c1 c2
      rw [if_neg c1, if_pos c2]
      exact ⟨q, c2.1, c2.2⟩
    · exact absurd q (pAlso_zz (kd := 2) (w := nI (pWh k a.1)) h (by decide))
theorem pWord_z {lo hi : Nat} (h : pBk a) (q : (pWord k lo hi a).2.2.2.1.toInt = 0) : a.2.2.1.toInt = 0 ∧ lo ≤ (pWord k lo hi a).1 ∧ (pWord k lo hi a).1 ≤ hi := by
  unfold pWord at q ⊢
  split at q
  · exact absurd q (pEnds_z h)
  · rename_i c1
    rw [if_neg c1]
    exact ⟨q, by omega⟩
theorem pEndL_z (h : pBk a) (q : (pEndL k a).2.2.1.toInt = 0) : a.2.2.1.toInt = 0 := by
  unfold pEndL at q
  split at q
  · exact q
  · exact absurd q (pEnds_z h)
theorem pDB_z {m : Int} {w : Int32} {f : Nat → Int32} (h : pBk a) (q : (pDB m w f a).2.2.1.toInt = 0) : a.2.2.1.toInt = 0 ∧ (f 0).toInt < m := by
  unfold pDB at q
  split at q
  · exact absurd q (pAlso_zz h (by decide))
  · exact ⟨q, by omega⟩
theorem pBk_dy {d : Nat} (h : pBk a) : pBk (pDY k d a).2 := by
  unfold pDY
  split
  · exact pBk_num h
  · exact h
theorem pBk_day {f : Nat → Int32} (h : pBk a) : pBk (pDay k a f).1 := pBk_endL (pBk_dy (pBk_num (pBk_db (pBk_word h))))
/-- what holds of a day's row while there is no fault -/
def zDJ (a : pS) (f : Nat → Int32) : Prop := a.2.2.1.toInt = 0 → zDR f ∧ 0 ≤ (f 0).toInt ∧ (f 0).toInt ≤ 40
theorem zDJ_day {f : Nat → Int32} (h : pBk a) (hJ : zDJ a f) : zDJ (pDay k a f).1 (pDay k a f).2 := by
  intro q
  have b1 := pBk_word (k := k) (lo := 5) (hi := 10) h
  have b2 := pBk_db (m := 40) (w := nI (pWh k a.1)) (f := f) b1
  have b3 := pBk_num (k := k) (lo := 0) (hi := 6) b2
  have q1 : (pDY k (pWord k 5 10 a).1 (pNum k 0 6 (pDB 40 (nI (pWh k a.1)) f (pWord k 5 10 a).2)).2).2.2.2.1.toInt = 0 := pEndL_z (pBk_dy b3) q
  have q2 : (pNum k 0 6 (pDB 40 (nI (pWh k a.1)) f (pWord k 5 10 a).2)).2.2.2.1.toInt = 0 ∧ (8 < (pWord k 5 10 a).1 → 0 ≤ (pDY k (pWord k 5 10 a).1 (pNum k 0 6 (pDB 40 (nI (pWh k a.1)) f (pWord k 5 10 a).2)).2).1.toInt ∧ (pDY k (pWord k 5 10 a).1 (pNum k 0 6 (pDB 40 (nI (pWh k a.1)) f (pWord k 5 10 a).2)).2).1.toInt ≤ 3) := by
    unfold pDY at q1 ⊢
    by_cases c : 8 < (pWord k 5 10 a).1
    · rw [if_pos c] at q1 ⊢
      have t := pNum_z b3 q1
      exact ⟨t.1, fun _ => ⟨t.2.1, t.2.2⟩⟩
    · rw [if_neg c] at q1
      exact ⟨q1, fun z => absurd z c⟩
  have q3 := pNum_z b2 q2.1
  have q4 := pDB_z b1 q3.1
  have q5 := pWord_z h q4.1
  have hf := hJ q5.1
  have e : (pDay k a f).2 = if (f 0).toInt < 40 then upd (upd (upd (upd f (1 + 3 * (f 0).toInt.toNat) (nI (pWord k 5 10 a).1 - 5)) (2 + 3 * (f 0).toInt.toNat) (pNum k 0 6 (pDB 40 (nI (pWh k a.1)) f (pWord k 5 10 a).2)).1) (3 + 3 * (f 0).toInt.toNat) (pDY k (pWord k 5 10 a).1 (pNum k 0 6 (pDB 40 (nI (pWh k a.1)) f (pWord k 5 10 a).2)).2).1) 0 (f 0 + 1) else f := rfl
  rw [e, if_pos q4.2]
  have e1 : (f 0 + 1).toInt = (f 0).toInt + 1 := (z_iaddI (x := f 0) (y := 1) (by show -2147483648 ≤ (f 0).toInt + 1; omega) (by show (f 0).toInt + 1 < 2147483648; omega))
  have e2 := nI_toInt (n := (pWord k 5 10 a).1) (by omega)
  have e5 : (5 : Int32).toInt = 5 := rfl
  have e3 : (nI (pWord k 5 10 a).1 - 5).toInt = ((pWord k 5 10 a).1 : Int) - 5 := (z_isubI (x := nI (pWord k 5 10 a).1) (y := 5) (by rw [e5, e2]; omega) (by rw [e5, e2]; omega)).trans (by rw [e5, e2])
  refine ⟨fun j hj => ?_, by rw [z_eq rfl, e1]; omega⟩
  rw [z_eq rfl, e1] at hj
  rw [z_ne (show ¬ 1 + 3 * j = 0 by omega), z_ne (show ¬ 1 + 3 * j = 3 + 3 * (f 0).toInt.toNat by omega), z_ne (show ¬ 1 + 3 * j = 2 + 3 * (f 0).toInt.toNat by omega), z_ne (show ¬ 3 + 3 * j = 0 by omega)]
  by_cases t : j = (f 0).toInt.toNat
  · rw [z_eq (show 1 + 3 * j = 1 + 3 * (f 0).toInt.toNat by omega), z_eq (show 3 + 3 * j = 3 + 3 * (f 0).toInt.toNat by omega), e3]
    exact ⟨⟨by omega, by omega⟩, fun z => q2.2 (by omega)⟩
  · rw [z_ne (show ¬ 1 + 3 * j = 1 + 3 * (f 0).toInt.toNat by omega), z_ne (show ¬ 3 + 3 * j = 3 + 3 * (f 0).toInt.toNat by omega), z_ne (show ¬ 3 + 3 * j = 2 + 3 * (f 0).toInt.toNat by omega), z_ne (show ¬ 3 + 3 * j = 1 + 3 * (f 0).toInt.toNat by omega)]
    exact hf.1 j (by omega)
theorem zDJ_lines : ∀ (i : Nat) (a : pS) (f : Nat → Int32), pBk a → zDJ a f → zDJ (pLines k 1 i a f).1 (pLines k 1 i a f).2
  | 0, a, f, _, h => h
  | i + 1, a, f, hb, h => by
    unfold pLines
    split
    · have e : pLine k 1 a f = pDay k a f := by
        unfold pLine
        rw [if_neg (by decide), if_pos rfl]
      refine zDJ_lines i _ _ ?_ ?_
      · rw [e]; exact pBk_day hb
      · rw [e]; exact zDJ_day hb h
    · exact h
end PZ
theorem pRead_D {k : pT} {n : Nat} (h : (pRead k n 1).1.2.2.1.toInt = 0) : zDR (pRead k n 1).2 ∧ (((pRead k n 1).2 0).toInt ≤ 40) := by
  have hJ : zDJ (pLines k 1 601 (0, 0, 0, -1, -1) (fun _ => 0)).1 (pLines k 1 601 (0, 0, 0, -1, -1) (fun _ => 0)).2 := zDJ_lines 601 _ _ (fun q => absurd rfl q) (fun _ => ⟨fun j hj => absurd hj (by show ¬ (j : Int) < (0 : Int32).toInt; have : (0 : Int32).toInt = 0 := rfl; omega), by decide⟩)
  have e4 : ∀ (a : pS) (f : Nat → Int32), pF4 n 1 a f = a := fun a f => by
    unfold pF4
    rw [if_neg (fun z => absurd z.1 (by decide))]
  have e5 : ∀ (a : pS) (f : Nat → Int32), pF5 n 1 a f = a := fun a f => by
    unfold pF5
    rw [if_neg (fun z => absurd z.1 (by decide))]
  have h : (pF5 n 1 (pF4 n 1 (pLines k 1 601 (0, 0, 0, -1, -1) (fun _ => 0)).1 (pLines k 1 601 (0, 0, 0, -1, -1) (fun _ => 0)).2) (pLines k 1 601 (0, 0, 0, -1, -1) (fun _ => 0)).2).2.2.1.toInt = 0 := h
  rw [e4, e5] at h
  exact ⟨(hJ h).1, (hJ h).2.2⟩
/-- so of each day that is kept -/
def zVD (f : Nat → Int32) : Prop := ∀ i k, i < 4 → k < 2 → zDR (fun j => f (988 * i + (712 + 121 * k + j))) ∧ (f (988 * i + (712 + 121 * k))).toInt ≤ 40
theorem zVD_c {f g : Nat → Int32} {a b : Nat} (e : ∀ j, j < 121 → g (b + j) = f (a + j)) (h : zDR (fun j => f (a + j)) ∧ (f a).toInt ≤ 40) : zDR (fun j => g (b + j)) ∧ (g b).toInt ≤ 40 := by
  have e0 := e 0 (by decide)
  refine ⟨zDR_cg (R := fun j => f (a + j)) e h.2 h.1, ?_⟩
  have e0 : g b = f a := e0
  rw [e0]
  exact h.2
theorem zVD_low {f g : Nat → Int32} (hV : zVD f) (e : ∀ j, 610 ≤ j → g j = f j) : zVD g := fun i q hi hq => by
  have h := hV i q hi hq
  have a : ∀ (G : Nat → Int32), (zDR (fun j => G (988 * i + (712 + 121 * q + j))) ∧ (G (988 * i + (712 + 121 * q))).toInt ≤ 40) = (zDR (fun j => G (988 * i + (712 + 121 * q) + j)) ∧ (G (988 * i + (712 + 121 * q))).toInt ≤ 40) := fun G => by
    rw [show (fun j => G (988 * i + (712 + 121 * q + j))) = (fun j => G (988 * i + (712 + 121 * q) + j)) from funext fun j => congrArg G (by omega)]
  rw [a] at h ⊢
  exact zVD_c (fun j _ => e _ (by omega)) h
theorem zVD_a {f : Nat → Int32} (b q : Nat) : (zDR (fun j => f (b + (712 + 121 * q + j))) ∧ (f (b + (712 + 121 * q))).toInt ≤ 40) = (zDR (fun j => f (b + (712 + 121 * q) + j)) ∧ (f (b + (712 + 121 * q))).toInt ≤ 40) := by
  rw [show (fun j => f (b + (712 + 121 * q + j))) = (fun j => f (b + (712 + 121 * q) + j)) from funext fun j => congrArg f (by omega)]
theorem zVD_to {f g : Nat → Int32} {a b q : Nat} (e : ∀ j, j < 121 → g (b + (712 + 121 * q) + j) = f (a + (712 + 121 * q) + j)) (h : zDR (fun j => f (a + (712 + 121 * q + j))) ∧ (f (a + (712 + 121 * q))).toInt ≤ 40) : zDR (fun j => g (b + (712 + 121 * q + j))) ∧ (g (b + (712 + 121 * q))).toInt ≤ 40 := by
  rw [zVD_a] at h ⊢
  exact zVD_c e h
theorem pNr_lt {s : Nat} {at_ : Int32} {f : Nat → Int32} (h : pOkAt s at_ f) (h2 : (f s).toInt ≤ 2) : (pNr s at_ f).toInt.toNat < 2 := by
  unfold pOkAt at h
  unfold pNr
  by_cases q : at_.toInt = -1
  · rw [if_pos q] at h ⊢
    omega
  · rw [if_neg q] at h ⊢
    omega
theorem zVD_text {k : pT} {n s : Nat} {at_ r : Int32} {f g : Nat → Int32} (hV : zVD f) (hs : s < 3) (h2 : ∀ q, q < 3 → (f q).toInt ≤ 2) (F2 : zText (pRead k n s) s at_ f g r) (T2 : ∀ j, 988 ≤ j → g j = f j) : zVD g := by
  have ho : ∀ (a b : Int32) (j : Nat), 7 ≤ j → pHd f a b j = f j := fun a b j hj => by
    unfold pHd
    rw [z_ne (by omega), z_ne (by omega), z_ne (by omega)]
  rcases F2 with ⟨-, -, z⟩ | ⟨-, -, -, z⟩ | ⟨w, y, -, z⟩
  · refine zVD_low hV (fun j hj => ?_)
    by_cases q : j < 988
    · rw [z j q, ho _ _ _ (by omega)]
    · exact T2 j (by omega)
  · refine zVD_low hV (fun j hj => ?_)
    by_cases q : j < 988
    · rw [z j q, ho _ _ _ (by omega)]
    · exact T2 j (by omega)
  · have hc2 : ∀ (G : Nat → Int32) (j : Nat), 7 ≤ j → pCnt s at_ G j = G j := fun G j hj => by
      unfold pCnt
      split
      · exact z_ne (by omega)
      · rfl
    intro i q hi hq
    by_cases e : i = 0
    · by_cases hs0 : s = 1 ∧ (pNr 1 at_ f).toInt.toNat = q
      · obtain ⟨hs0, hn⟩ := hs0
        subst hs0
        have t := pRead_D y
        have hg : ∀ j, j < 121 → g (988 * i + (712 + 121 * q) + j) = (pRead k n 1).2 j := fun j hj => by
          rw [z _ (by omega), hn]
          unfold pPut
          have hp : pBase 1 q = 712 + 121 * q := rfl
          have hz : pSize 1 = 121 := rfl
          rw [hp, hz, if_pos (by omega)]
          exact congrArg _ (by omega)
        rw [zVD_a]
        refine ⟨zDR_cg hg t.2 t.1, ?_⟩
        have h0 : g (988 * i + (712 + 121 * q)) = (pRead k n 1).2 0 := hg 0 (by decide)
        rw [h0]
        exact t.2
      · refine zVD_to (fun j hj => ?_) (hV i q hi hq)
        rw [z _ (by omega)]
        have hx : ¬ (pBase s (pNr s at_ f).toInt.toNat ≤ 988 * i + (712 + 121 * q) + j ∧ 988 * i + (712 + 121 * q) + j < pBase s (pNr s at_ f).toInt.toNat + pSize s) := by
          rcases (show s = 0 ∨ s = 1 ∨ s = 2 by omega) with t | t | t
          · subst t
            have hp : pBase 0 (pNr 0 at_ f).toInt.toNat = 610 + 51 * (pNr 0 at_ f).toInt.toNat := rfl
            have hz : pSize 0 = 51 := rfl
            have hb := pNr_lt w (h2 0 (by decide))
            rw [hp, hz]
            omega
          · subst t
            have hp : pBase 1 (pNr 1 at_ f).toInt.toNat = 712 + 121 * (pNr 1 at_ f).toInt.toNat := rfl
            have hz : pSize 1 = 121 := rfl
            rw [hp, hz]
            have hn : ¬ (pNr 1 at_ f).toInt.toNat = q := fun w => hs0 ⟨rfl, w⟩
            omega
          · subst t
            have hp : pBase 2 (pNr 2 at_ f).toInt.toNat = 954 + 17 * (pNr 2 at_ f).toInt.toNat := rfl
            rw [hp]
            omega
        unfold pPut
        rw [if_neg hx, hc2 _ _ (by omega), ho _ _ _ (by omega)]
    · exact zVD_to (fun j _ => T2 _ (by omega)) (hV i q hi hq)
theorem zVD_feed {p : Nat} {a b c d e r : Int32} {f g : Nat → Int32} (hV : zVD f) (hp6 : p ≤ 600) (F2 : 580 < p ∧ r = -1 ∧ g = f ∨ p ≤ 580 ∧ r = nI (p + 20) ∧ zFeedR p a b c d e f g) : zVD g := by
  rcases F2 with ⟨-, -, y⟩ | ⟨hp5, -, y⟩
  · rw [y]; exact hV
  · obtain ⟨-, -, z3⟩ := y
    exact zVD_low hV (fun j hj => z3 j (by omega) (by omega))
theorem zVD_end {n r : Int32} {f g : Nat → Int32} (hV : zVD f) (F2 : (n.toInt < 0 ∨ (f 4).toInt < n.toInt) ∧ r.toInt = -1 ∧ g = f ∨ (0 ≤ n.toInt ∧ n.toInt ≤ (f 4).toInt) ∧ g = upd f 4 n ∧ r = n) : zVD g := by
  rcases F2 with ⟨-, -, y⟩ | ⟨-, y, -⟩
  · rw [y]; exact hV
  · rw [y]; exact zVD_low hV (fun j hj => z_ne (by omega))
theorem zVD_hd {f g : Nat → Int32} (hV : zVD f) (hg : g = upd (upd (upd f 4 0) 5 0) 6 (-1)) : zVD g := by
  rw [hg]
  exact zVD_low hV (fun j hj => by rw [z_ne (by omega), z_ne (by omega), z_ne (by omega)])
theorem zVD_img {f g : Nat → Int32} {k : Nat} (hk : k < 3) (hV : zVD f) (c1 : ∀ j, j < 988 → g (988 * (k + 1) + j) = f j) (c2 : ∀ j, (j < 988 * (k + 1) ∨ 988 * (k + 1) + 988 ≤ j) → g j = f j) : zVD g := by
  intro i q hi hq
  by_cases e : i = k + 1
  · subst e
    refine zVD_to (a := 988 * 0) (fun j hj => ?_) (hV 0 q (by decide) hq)
    rw [show 988 * (k + 1) + (712 + 121 * q) + j = 988 * (k + 1) + (712 + 121 * q + j) by omega, c1 _ (by omega)]
    exact congrArg f (by omega)
  · have : i < k + 1 ∨ k + 1 < i := by omega
    exact zVD_to (fun j _ => c2 _ (by omega)) (hV i q hi hq)
theorem zVD_ag {K : Nat} {x r' : Int32} {fh f g : Nat → Int32} (hV : zVD f) (hx : x.toInt = (K : Int)) (hK : K < 3) (F2 : r' = 0 ∧ (x.toInt < 0 ∨ 3 ≤ x.toInt ∨ fh x.toNatClampNeg = 0) ∧ g = f ∨ r' = 1 ∧ (0 ≤ x.toInt ∧ x.toInt < 3) ∧ ¬ fh x.toNatClampNeg = 0 ∧ (∀ j, j < 988 → g j = f (988 * (x.toNatClampNeg + 1) + j)) ∧ ∀ j, 988 ≤ j → g j = f j) : zVD g := by
  have e : x.toNatClampNeg = K := by have := z_clI (x := x) (by omega); omega
  rw [e] at F2
  rcases F2 with ⟨-, -, z⟩ | ⟨-, -, -, z, z2⟩
  · rw [z]; exact hV
  · intro i q hi hq
    by_cases e : i = 0
    · refine zVD_to (a := 988 * (K + 1)) (fun j hj => ?_) (hV (K + 1) q (by omega) hq)
      rw [z _ (by omega)]
      exact congrArg f (by omega)
    · exact zVD_to (fun j _ => z2 _ (by omega)) (hV i q hi hq)
theorem zVD_st : zVD (upd (fun _ => 0) 6 (-1)) := fun i q _ _ => by
  have o : ∀ j, ¬ j = 6 → upd (fun _ => (0 : Int32)) 6 (-1) j = 0 := fun j h => if_neg h
  have z0 : (0 : Int32).toInt = 0 := rfl
  refine ⟨fun j hj => ?_, by rw [o _ (by omega), z0]; decide⟩
  have hj : (j : Int) < (upd (fun _ => (0 : Int32)) 6 (-1) (988 * i + (712 + 121 * q + 0))).toInt := hj
  rw [o _ (by omega), z0] at hj
  omega


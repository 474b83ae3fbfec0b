theorem aT_cg {W V L M : Nat → Int32} (h : ∀ j, j < 7 → W j = V j) (hL : zLs W L M) (h4 : ∀ j, j < 7 → (W j).toInt ≤ 4) (n i : Nat) : aT W L n i = aT V M n i := by
  unfold aT
  rw [aN_cg h hL h4]
theorem zTab_cg {cr inn cr' inn' wy pc : Int32} {k1 k2 k3 k1' k2' k3' f1 f2 f5 : Nat → Int32} {n : Nat} (hI : zLI cr k1 k3) (hI' : zLI cr' k1' k3') (hW : ∀ j, j < 7 → aW cr inn k1 j = aW cr' inn' k1' j) (hL : zLs (aW cr inn k1) k2 k2') (h : zTab cr inn k1 k2 wy pc f1 f2 f5 n) : zTab cr' inn' k1' k2' wy pc f1 f2 f5 n := by
  obtain ⟨h1, h2, h3, h4, h5⟩ := h
  have p : ∀ m, aPr (aW cr inn k1) m = aPr (aW cr' inn' k1') m := aPr_cg hW
  have w4 : ∀ j, j < 7 → (aW cr inn k1 j).toInt ≤ 4 := fun j _ => (zWays_le (inn := inn) hI (nI j)).2
  refine ⟨?_, ?_, ⟨fun c hc => ?_, fun c hc => ?_⟩, ?_, fun j hj => ?_⟩
  · rw [h1, zWy_z hI, zWy_z hI', p]
  · rw [h2, zPl_z hI, zPl_z hI', p]
  · rw [h3.1 c hc, aCh_z hI, aCh_z hI', aCh_cg (hW c hc)]
  · rw [h3.2 c hc, aWyN_z hI _ (by omega), aWyN_z hI' _ (by omega), p]
  · rw [← p]
    exact h4
  · rw [← p] at hj
    rw [h5 j hj, aT_cg hW hL w4]
theorem zTb_k {cr inn cr' inn' wy pc md md' : Int32} {k1 k2 k3 k4 k1' k2' k3' k4' f g f1 f2 f5 : Nat → Int32} {n B : Nat} (hB : B = 610 ∨ B = 661) (h : md = 0 ∨ zTab cr inn k1 k2 wy pc f1 f2 f5 n) (hm : md' = 0 ∨ md' = md ∧ ∀ j, j < 51 → g (B + j) = f (B + j)) (a : zLnd cr inn k1 k2 k3 k4 (fun j => f (B + j))) (a' : zLnd cr' inn' k1' k2' k3' k4' (fun j => g (B + j))) (hF : zLF (fun j => f (B + j))) (hI : zLI cr k1 k3) (hI' : zLI cr' k1' k3') : md' = 0 ∨ zTab cr' inn' k1' k2' wy pc f1 f2 f5 n := by
  rcases hm with hm | ⟨hm, hg⟩
  · exact Or.inl hm
  · rcases h with h | h
    · exact Or.inl (hm.trans h)
    · refine Or.inr ?_
      have hz : (nI B).toInt.toNat = B := by
        rw [nI_toInt (by omega)]
        rfl
      have hF' : zLF (fun j => g (B + j)) := zLF_cg (fun j hj => hg j hj) hF
      obtain ⟨b1, b2, -, -, -, -⟩ := zLnd_w a hF hz
      obtain ⟨d1, d2, -, -, -, -⟩ := zLnd_w a' hF' hz
      have e : ∀ j, j < 51 → g ((nI B).toInt.toNat + j) = f ((nI B).toInt.toNat + j) := fun j hj => by
        rw [hz]
        exact hg j hj
      have hp : ∀ j, j < 7 → pW f (nI B) j = pW g (nI B) j := fun j hj => by
        unfold pW zWo zRo
        rw [e 1 (by decide), e (2 + j) (by omega)]
      have hW : ∀ j, j < 7 → aW cr inn k1 j = aW cr' inn' k1' j := fun j hj => (b1 j hj).trans ((hp j hj).trans (d1 j hj).symm)
      have w4 : ∀ j, j < 7 → (aW cr inn k1 j).toInt ≤ 4 := fun j _ => (zWays_le (inn := inn) hI (nI j)).2
      refine zTab_cg hI hI' hW (fun j r hj hr hq => ?_) h
      have x1 : k2 (4 * j + r) = zLo f (nI B) (4 * j + r) := b2 j r hj hr hq
      have hq2 : (r : Int) < (kW cr' inn' k1' j).toInt := by
        have t : aW cr inn k1 j = kW cr' inn' k1' j := hW j hj
        rw [← t]
        exact hq
      have x2 : k2' (4 * j + r) = zLo g (nI B) (4 * j + r) := d2 j r hj hr hq2
      rw [x1, x2]
      exact (e (23 + (4 * j + r)) (by omega)).symm
theorem zText_l {z : pS × (Nat → Int32)} {s : Nat} {at_ r : Int32} {f g : Nat → Int32} (hs : s < 3) (h : zText z s at_ f g r) (hq : r.toInt < 0 ∨ ¬ s = 0) (h0 : 0 ≤ (f s).toInt) : ∀ j, 610 ≤ j → j < 712 → g j = f j := by
  intro j h1 h2
  have hd : ∀ a b, pHd f a b j = f j := fun a b => by
    unfold pHd
    rw [z_ne (by omega), z_ne (by omega), z_ne (by omega)]
  rcases h with ⟨_, _, e⟩ | ⟨_, _, _, e⟩ | ⟨ok, _, er, e⟩
  · rw [e j (by omega), hd]
  · rw [e j (by omega), hd]
  · rw [e j (by omega)]
    have s0 : ¬ s = 0 := by
      rcases hq with q | q
      · exfalso
        rw [er] at q
        unfold pNr at q
        unfold pOkAt at ok
        by_cases c : at_.toInt = -1
        · rw [if_pos c] at q
          omega
        · rw [if_neg c] at q ok
          omega
      · exact q
    have c : ∀ G : Nat → Int32, pCnt s at_ G j = G j := fun G => by
      unfold pCnt
      split
      · exact z_ne (by omega)
      · rfl
    unfold pPut
    rw [if_neg, c, hd]
    intro q
    have q1 := q.1
    unfold pBase at q1
    rw [if_neg s0] at q1
    split at q1 <;> omega


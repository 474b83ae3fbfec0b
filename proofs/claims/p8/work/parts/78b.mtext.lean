def zBI (f : Nat → Int32) : Prop := (0 ≤ (f 4).toInt ∧ (f 4).toInt ≤ 600) ∧ (∀ q, q < 3 → 0 ≤ (f q).toInt ∧ (f q).toInt ≤ 2) ∧ (∀ k, k < 2 → zLF (fun j => f (610 + 51 * k + j))) ∧ (∀ k, k < 2 → zCF 40 (fun j => f (712 + 121 * k + j))) ∧ ∀ k, k < 2 → zCF 8 (fun j => f (954 + 17 * k + j))
theorem zLF_cg {f g : Nat → Int32} (e : ∀ j, j < 51 → g j = f j) (h : zLF f) : zLF g := by
  refine ⟨by rw [e 0 (by decide)]; exact h.1, fun c hc => ?_, fun j hj => ?_⟩
  · rw [e _ (by omega), e _ (by omega), e _ (by omega)]; exact h.2.1 c hc
  · rw [e _ (by omega)]; exact h.2.2 j hj
theorem zCF_cg {m : Int} {f g : Nat → Int32} (e : g 0 = f 0) (h : zCF m f) : zCF m g := by unfold zCF; rw [e]; exact h
theorem zLF_z {f : Nat → Int32} (h : ∀ j, j < 121 → f j = 0) : zLF f := by
  refine ⟨by rw [h 0 (by decide)]; decide, fun c hc => ?_, fun j hj => ?_⟩
  · rw [h _ (by omega), h _ (by omega), h _ (by omega)]; decide
  · rw [h _ (by omega)]; decide
theorem zCF_z {m : Int} (hm : 0 ≤ m) {f : Nat → Int32} (h : ∀ j, j < 121 → f j = 0) : zCF m f := by
  unfold zCF
  rw [h 0 (by decide)]
  exact ⟨by decide, hm⟩
theorem zBI_hd {f g : Nat → Int32} (h : zBI f) (h4 : g 4 = 0) (hq : ∀ q, q < 3 → 0 ≤ (g q).toInt ∧ (g q).toInt ≤ 2) (ho : ∀ j, 7 ≤ j → g j = f j) : zBI g :=
  ⟨by rw [h4]; decide, hq, fun k hk => zLF_cg (fun j _ => ho _ (by omega)) (h.2.2.1 k hk), fun k hk => zCF_cg (ho _ (by omega)) (h.2.2.2.1 k hk), fun k hk => zCF_cg (ho _ (by omega)) (h.2.2.2.2 k hk)⟩
theorem zBI_p0 {f g r : Nat → Int32} (k : Nat) (hk : k < 2) (h : zBI f) (h4 : g 4 = 0) (hq : ∀ q, q < 3 → 0 ≤ (g q).toInt ∧ (g q).toInt ≤ 2) (ho : ∀ j, 7 ≤ j → (j < 610 + 51 * k ∨ 610 + 51 * k + 51 ≤ j) → g j = f j) (hr : zLF r) (hc : ∀ j, j < 51 → g (610 + 51 * k + j) = r j) : zBI g := by
  refine ⟨by rw [h4]; decide, hq, fun a ha => ?_, fun a ha => zCF_cg (ho _ (by omega) (by omega)) (h.2.2.2.1 a ha), fun a ha => zCF_cg (ho _ (by omega) (by omega)) (h.2.2.2.2 a ha)⟩
  by_cases e : a = k
  · subst e
    exact zLF_cg (f := r) hc hr
  · exact zLF_cg (fun j hj => ho _ (by omega) (by omega)) (h.2.2.1 a ha)
theorem zBI_p1 {f g r : Nat → Int32} (k : Nat) (hk : k < 2) (h : zBI f) (h4 : g 4 = 0) (hq : ∀ q, q < 3 → 0 ≤ (g q).toInt ∧ (g q).toInt ≤ 2) (ho : ∀ j, 7 ≤ j → (j < 712 + 121 * k ∨ 712 + 121 * k + 121 ≤ j) → g j = f j) (hr : zCF 40 r) (hc : ∀ j, j < 121 → g (712 + 121 * k + j) = r j) : zBI g := by
  refine ⟨by rw [h4]; decide, hq, fun a ha => zLF_cg (fun j hj => ho _ (by omega) (by omega)) (h.2.2.1 a ha), fun a ha => ?_, fun a ha => zCF_cg (ho _ (by omega) (by omega)) (h.2.2.2.2 a ha)⟩
  by_cases e : a = k
  · subst e
    exact zCF_cg (f := r) (hc 0 (by decide)) hr
  · exact zCF_cg (ho _ (by omega) (by omega)) (h.2.2.2.1 a ha)
theorem zBI_p2 {f g r : Nat → Int32} (k : Nat) (hk : k < 2) (h : zBI f) (h4 : g 4 = 0) (hq : ∀ q, q < 3 → 0 ≤ (g q).toInt ∧ (g q).toInt ≤ 2) (ho : ∀ j, 7 ≤ j → (j < 954 + 17 * k ∨ 954 + 17 * k + 17 ≤ j) → g j = f j) (hr : zCF 8 r) (hc : ∀ j, j < 17 → g (954 + 17 * k + j) = r j) : zBI g := by
  refine ⟨by rw [h4]; decide, hq, fun a ha => zLF_cg (fun j hj => ho _ (by omega) (by omega)) (h.2.2.1 a ha), fun a ha => zCF_cg (ho _ (by omega) (by omega)) (h.2.2.2.1 a ha), fun a ha => ?_⟩
  by_cases e : a = k
  · subst e
    exact zCF_cg (f := r) (hc 0 (by decide)) hr
  · exact zCF_cg (ho _ (by omega) (by omega)) (h.2.2.2.2 a ha)

def zPal (f g : Nat → Int32) : Prop := ∀ j, j ≠ 5 → j ≠ 6 → g j = f j
theorem zPal_rf (f : Nat → Int32) : zPal f f := fun _ _ _ => rfl
theorem zPal.tr {f g h : Nat → Int32} (a : zPal f g) (b : zPal g h) : zPal f h := fun j h1 h2 => (b j h1 h2).trans (a j h1 h2)
theorem zPal_u5 {f g : Nat → Int32} {v : Int32} (a : zPal f g) : zPal f (upd g 5 v) := fun j h1 h2 => (show upd g 5 v j = g j by unfold upd; rw [if_neg h1]).trans (a j h1 h2)
theorem zPal_u6 {f g : Nat → Int32} {v : Int32} (a : zPal f g) : zPal f (upd g 6 v) := fun j h1 h2 => (show upd g 6 v j = g j by unfold upd; rw [if_neg h2]).trans (a j h1 h2)
def zLF (f : Nat → Int32) : Prop := (0 ≤ (f 0).toInt ∧ (f 0).toInt ≤ 7) ∧ (∀ c, c < 7 → (0 ≤ (f (2 + c)).toInt ∧ (f (2 + c)).toInt ≤ 4) ∧ (0 ≤ (f (9 + c)).toInt ∧ (f (9 + c)).toInt ≤ 3) ∧ 0 ≤ (f (16 + c)).toInt ∧ (f (16 + c)).toInt ≤ 9) ∧ ∀ j, j < 28 → 0 ≤ (f (23 + j)).toInt ∧ (f (23 + j)).toInt ≤ 6
def zCF (m : Int) (f : Nat → Int32) : Prop := 0 ≤ (f 0).toInt ∧ (f 0).toInt ≤ m
theorem zLF_upd {f : Nat → Int32} {k : Nat} {v : Int32} (h : zLF f) (c0 : k = 0 → 0 ≤ v.toInt ∧ v.toInt ≤ 7) (c1 : 2 ≤ k ∧ k < 9 → 0 ≤ v.toInt ∧ v.toInt ≤ 4) (c2 : 9 ≤ k ∧ k < 16 → 0 ≤ v.toInt ∧ v.toInt ≤ 3) (c3 : 16 ≤ k ∧ k < 23 → 0 ≤ v.toInt ∧ v.toInt ≤ 9) (c4 : 23 ≤ k ∧ k < 51 → 0 ≤ v.toInt ∧ v.toInt ≤ 6) : zLF (upd f k v) := by
  have g : ∀ (i : Nat) (lo hi : Int), (i = k → lo ≤ v.toInt ∧ v.toInt ≤ hi) → lo ≤ (f i).toInt ∧ (f i).toInt ≤ hi → lo ≤ (upd f k v i).toInt ∧ (upd f k v i).toInt ≤ hi := by
    intro i lo hi a b
    unfold upd
    split
    · exact a (by assumption)
    · exact b
  exact ⟨g 0 0 7 (fun e => c0 e.symm) h.1, fun c hc => ⟨g _ 0 4 (fun e => c1 (by omega)) (h.2.1 c hc).1, g _ 0 3 (fun e => c2 (by omega)) (h.2.1 c hc).2.1, g _ 0 9 (fun e => c3 (by omega)) (h.2.1 c hc).2.2⟩, fun j hj => g _ 0 6 (fun e => c4 (by omega)) (h.2.2 j hj)⟩
theorem zCF_upd {m : Int} {f : Nat → Int32} {k : Nat} {v : Int32} (h : zCF m f) (c0 : k = 0 → 0 ≤ v.toInt ∧ v.toInt ≤ m) : zCF m (upd f k v) := by
  unfold zCF upd
  split
  · exact c0 (by omega)
  · exact h
def zMu (w t n sz : Int32) : Nat := if w.toInt = 0 then (if t.toInt = 0 then 1 else (sz.toInt - n.toInt).toNat + 2) else 0
theorem zMu_lt {w t n w' t' n' sz : Int32} (h1 : w.toInt = 0) (h2 : ¬ t.toInt = 0) (h3 : n'.toInt ≤ sz.toInt) (h4 : ¬ w'.toInt = 0 ∨ n.toInt < n'.toInt ∨ t'.toInt = 0) : zMu w' t' n' sz < zMu w t n sz := by
  have a : zMu w t n sz = (sz.toInt - n.toInt).toNat + 2 := by unfold zMu; rw [if_pos h1, if_neg h2]
  rw [a]
  unfold zMu
  split
  · split
    · omega
    · omega
  · omega

theorem z_p1 {x : Int32} (h0 : -2147483648 ≤ x.toInt) (h : x.toInt < 2147483647) : (x + 1).toInt = x.toInt + 1 := z_iaddI (y := 1) (by show -2147483648 ≤ x.toInt + 1; omega) (by show x.toInt + 1 < 2147483648; omega)
theorem z_min1k {y : Int32} (h : 0 ≤ y.toInt) : 0 ≤ (if (1000 : Int32) < y then 1000 else y).toInt ∧ (if (1000 : Int32) < y then 1000 else y).toInt ≤ 1000 := by
  split
  · exact ⟨by decide, by decide⟩
  · rename_i q
    have q2 : ¬ (1000 : Int) < y.toInt := fun z => q ((fa_lt _ _).mpr z)
    exact ⟨h, by omega⟩
theorem zLI_add {cr : Int32} {f1 f3 : Nat → Int32} (h : zLI cr f1 f3) (x : Int32) : zLI cr (zAddA cr f1 x) f3 := by
  refine ⟨h.1, fun j hj => ?_, h.2.2⟩
  unfold zAddA
  split
  · rename_i q
    unfold upd
    split
    · have e := z_clI q.1
      have g := h.2.1 x.toNatClampNeg (by omega)
      have g2 := z_p1 (x := f1 x.toNatClampNeg) (by omega) (by omega)
      omega
    · exact h.2.1 j hj
  · exact h.2.1 j hj
theorem zLI_post {cr : Int32} {f1 f3 : Nat → Int32} (h : zLI cr f1 f3) (k : Nat) {v : Int32} (hv : 0 ≤ v.toInt ∧ v.toInt ≤ 1000) : zLI cr f1 (upd f3 k v) := by
  refine ⟨h.1, h.2.1, fun j hj => ?_⟩
  unfold upd
  split
  · exact hv
  · exact h.2.2 j hj
theorem zLI_cr {cr cr' : Int32} {f1 f3 : Nat → Int32} (h : zLI cr f1 f3) (hc : 0 ≤ cr'.toInt ∧ cr'.toInt ≤ 7) : zLI cr' f1 f3 := ⟨hc, h.2⟩
theorem zLI_zero {f1 f3 : Nat → Int32} (h1 : ∀ j, j < 7 → f1 j = 0) (h3 : ∀ j, j < 7 → f3 j = 0) : zLI 0 f1 f3 := ⟨by decide, fun j hj => by rw [h1 j hj]; decide, fun j hj => by rw [h3 j hj]; decide⟩

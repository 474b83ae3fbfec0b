section ZL2
variable {p : Program} {l : Launch} {e : Env} {R : Room} {s : State} {m : MethodId} {args : Array Value} {below : List Frame} {meth : Method} {c : Code} {Q : State → Prop}
variable {nL : Nat} {T : zTy} {A : Nat → Prop} {H0 : Heap}
theorem z_loopR {α : Type} (pc : Nat) (Wd : α → List va_W) (Lv : α → List (Nat × Value)) (Cl Sl : α → Nat) (Inv : α → Prop) (mu : α → Nat)
    (step : ∀ a : α, Inv a → (∀ b : α, Inv b → mu b < mu a → ∀ (H : Heap) (locs : List Loc) (ls : Array Slot), zS T A H0 s (Wd b) H locs → lv_has ls nL (Lv b) → W p l e R s m args below meth c H locs (Cl b) (Sl b) Q (F0 m pc ls [])) → ∀ (H : Heap) (locs : List Loc) (ls : Array Slot), zS T A H0 s (Wd a) H locs → lv_has ls nL (Lv a) → W p l e R s m args below meth c H locs (Cl a) (Sl a) Q (F0 m pc ls []))
    (a : α) (ha : Inv a) {H : Heap} {locs : List Loc} {ls : Array Slot} (G : zS T A H0 s (Wd a) H locs) (hl : lv_has ls nL (Lv a)) : W p l e R s m args below meth c H locs (Cl a) (Sl a) Q (F0 m pc ls []) := by
  have key : ∀ (n : Nat) (a : α), mu a < n → Inv a → ∀ (H : Heap) (locs : List Loc) (ls : Array Slot), zS T A H0 s (Wd a) H locs → lv_has ls nL (Lv a) → W p l e R s m args below meth c H locs (Cl a) (Sl a) Q (F0 m pc ls []) := by
    intro n
    induction n with
    | zero => intro a h; exact absurd h (Nat.not_lt_zero _)
    | succ n ih => intro a h ha; exact step a ha (fun b hb hlt => ih b (by omega) hb)
  exact key (mu a + 1) a (Nat.lt_succ_self _) ha H locs ls G hl
end ZL2
def zAI (f : Nat → Int32) : Prop := ∀ i, i < 4 → zBI (fun j => f (988 * i + j))
abbrev zRl (ln lna lnb lnc : Int32) (f : Nat → Int32) : Prop := ln = f 4 ∧ lna = f 992 ∧ lnb = f 1980 ∧ lnc = f 2968
abbrev zHs (fm fh : Nat → Int32) : Prop := ∀ k, k < 3 → (fm k = 0 ↔ fh k = 0)
abbrev zIn6 (x : Int32) : Prop := 0 ≤ x.toInt ∧ x.toInt ≤ 600
theorem zBI_cg {f g : Nat → Int32} (e : ∀ j, j < 988 → g j = f j) (h : zBI f) : zBI g :=
  ⟨by rw [e 4 (by decide)]; exact h.1, fun q hq => by rw [e q (by omega)]; exact h.2.1 q hq, fun k hk => zLF_cg (fun j hj => e _ (by omega)) (h.2.2.1 k hk), fun k hk => zCF_cg (e _ (by omega)) (h.2.2.2.1 k hk), fun k hk => zCF_cg (e _ (by omega)) (h.2.2.2.2 k hk)⟩
theorem zAI_0 {f : Nat → Int32} (h : zAI f) : zBI f := zBI_cg (fun j _ => (congrArg f (by omega)).symm) (h 0 (by decide))
theorem zAI_low {f g : Nat → Int32} (h : zAI f) (h0 : zBI g) (ho : ∀ j, 988 ≤ j → g j = f j) : zAI g := by
  intro i hi
  by_cases e : i = 0
  · subst e
    exact zBI_cg (fun j _ => congrArg g (by omega)) h0
  · exact zBI_cg (fun j _ => ho _ (by omega)) (h i hi)
theorem zRl_in {ln lna lnb lnc : Int32} {f : Nat → Int32} (h : zAI f) (r : zRl ln lna lnb lnc f) : zIn6 ln ∧ zIn6 lna ∧ zIn6 lnb ∧ zIn6 lnc := by
  rw [r.1, r.2.1, r.2.2.1, r.2.2.2]
  exact ⟨(h 0 (by decide)).1, (h 1 (by decide)).1, (h 2 (by decide)).1, (h 3 (by decide)).1⟩
theorem zBI_fd {f g : Nat → Int32} (h : zBI f) (h4 : zIn6 (g 4)) (ho : ∀ j, (j < 10 ∨ 610 ≤ j) → j ≠ 4 → g j = f j) : zBI g :=
  ⟨h4, fun q hq => by rw [ho q (by omega) (by omega)]; exact h.2.1 q hq, fun k hk => zLF_cg (fun j hj => ho _ (by omega) (by omega)) (h.2.2.1 k hk), fun k hk => zCF_cg (ho _ (by omega) (by omega)) (h.2.2.2.1 k hk), fun k hk => zCF_cg (ho _ (by omega) (by omega)) (h.2.2.2.2 k hk)⟩
theorem zL_feed {f g : Nat → Int32} {ln lna lnb lnc u r r' : Int32} (hA : zAI f) (hR : zRl ln lna lnb lnc f) (F1 : r.toInt = -1 ∧ 580 < ln.toInt ∧ u = ln ∨ ln.toInt ≤ 580 ∧ u.toInt = ln.toInt + 20 ∧ r = u) (F2 : r'.toInt = -1 ∧ 580 < (f 4).toInt ∧ g 4 = f 4 ∨ (f 4).toInt ≤ 580 ∧ (g 4).toInt = (f 4).toInt + 20 ∧ r' = g 4) (K : ∀ j, (j < 10 ∨ 610 ≤ j) → j ≠ 4 → g j = f j) : r = r' ∧ zAI g ∧ zRl u lna lnb lnc g ∧ zIn6 u := by
  have b := (zAI_0 hA).1
  obtain ⟨r0, r1, r2, r3⟩ := hR
  subst r0
  have key : r = r' ∧ u = g 4 ∧ zIn6 u := by
    rcases F1 with ⟨a1, a2, a3⟩ | ⟨a1, a2, a3⟩ <;> rcases F2 with ⟨b1, b2, b3⟩ | ⟨b1, b2, b3⟩
    · exact ⟨Int32.toInt_inj.mp (by omega), by rw [a3, b3], by rw [a3]; exact b⟩
    · omega
    · omega
    · have e : u = g 4 := Int32.toInt_inj.mp (by omega)
      exact ⟨by rw [a3, b3, e], e, by constructor <;> omega⟩
  obtain ⟨k1, k2, k3⟩ := key
  exact ⟨k1, zAI_low hA (zBI_fd (zAI_0 hA) (by rw [← k2]; exact k3) K) (fun j hj => K j (by omega) (by omega)), ⟨k2, r1.trans (K _ (by omega) (by omega)).symm, r2.trans (K _ (by omega) (by omega)).symm, r3.trans (K _ (by omega) (by omega)).symm⟩, k3⟩
theorem zL_end {f g : Nat → Int32} {ln lna lnb lnc u n r r' : Int32} (hA : zAI f) (hR : zRl ln lna lnb lnc f) (F1 : (n.toInt < 0 ∨ ln.toInt < n.toInt) ∧ r.toInt = -1 ∧ u = ln ∨ (0 ≤ n.toInt ∧ n.toInt ≤ ln.toInt) ∧ u = n ∧ r = n) (F2 : (n.toInt < 0 ∨ (f 4).toInt < n.toInt) ∧ r'.toInt = -1 ∧ g = f ∨ (0 ≤ n.toInt ∧ n.toInt ≤ (f 4).toInt) ∧ g = upd f 4 n ∧ r' = n) : r = r' ∧ zAI g ∧ zRl u lna lnb lnc g ∧ zIn6 u := by
  have b := (zAI_0 hA).1
  obtain ⟨r0, r1, r2, r3⟩ := hR
  subst r0
  rcases F1 with ⟨a1, a2, a3⟩ | ⟨a1, a2, a3⟩ <;> rcases F2 with ⟨b1, b2, b3⟩ | ⟨b1, b2, b3⟩
  · subst b3
    exact ⟨Int32.toInt_inj.mp (by omega), hA, ⟨a3, r1, r2, r3⟩, by rw [a3]; exact b⟩
  · omega
  · omega
  · have K : ∀ j, j ≠ 4 → g j = f j := fun j hj => by rw [b2]; exact if_neg hj
    have k4 : g 4 = n := by rw [b2]; exact if_pos rfl
    refine ⟨by rw [a3, b3], zAI_low hA (zBI_fd (zAI_0 hA) (by rw [k4]; constructor <;> omega) (fun j _ h => K j h)) (fun j hj => K j (by omega)), ⟨by rw [a2, k4], r1.trans (K _ (by omega)).symm, r2.trans (K _ (by omega)).symm, r3.trans (K _ (by omega)).symm⟩, by rw [a2]; constructor <;> omega⟩
theorem zL_text {f g : Nat → Int32} {ln lna lnb lnc u : Int32} (hA : zAI f) (hR : zRl ln lna lnb lnc f) (e : u = 0) (T0 : zBI g) (T1 : g 4 = 0) (T2 : ∀ j, 988 ≤ j → g j = f j) : zAI g ∧ zRl u lna lnb lnc g ∧ zIn6 u :=
  ⟨zAI_low hA T0 T2, ⟨by rw [e, T1], hR.2.1.trans (T2 _ (by omega)).symm, hR.2.2.1.trans (T2 _ (by omega)).symm, hR.2.2.2.trans (T2 _ (by omega)).symm⟩, by rw [e]; constructor <;> decide⟩
theorem zHs_upd {fm fh : Nat → Int32} (h : zHs fm fh) (k : Nat) : zHs (upd fm k 1) (upd fh k 1) := by
  intro j hj
  unfold upd
  split
  · exact Iff.rfl
  · exact h j hj
theorem zL_image {f g fm fh fm2 gh : Nat → Int32} {ln lna lnb lnc na nb nc k r r' : Int32} (hA : zAI f) (hR : zRl ln lna lnb lnc f) (hh : zHs fm fh)
    (F1 : r = 0 ∧ (k.toInt < 0 ∨ 3 ≤ k.toInt) ∧ fm2 = fm ∨ r = 1 ∧ (0 ≤ k.toInt ∧ k.toInt < 3) ∧ fm2 = upd fm k.toNatClampNeg 1)
    (L : (k.toInt < 0 ∨ 3 ≤ k.toInt) ∧ na = lna ∧ nb = lnb ∧ nc = lnc ∨ k.toInt = 0 ∧ na = ln ∧ nb = lnb ∧ nc = lnc ∨ k.toInt = 1 ∧ na = lna ∧ nb = ln ∧ nc = lnc ∨ k.toInt = 2 ∧ na = lna ∧ nb = lnb ∧ nc = ln)
    (F2 : r' = 0 ∧ (k.toInt < 0 ∨ 3 ≤ k.toInt) ∧ g = f ∧ gh = fh ∨ r' = 1 ∧ (0 ≤ k.toInt ∧ k.toInt < 3) ∧ (∀ j, j < 988 → g (988 * (k.toNatClampNeg + 1) + j) = f j) ∧ (∀ j, (j < 988 * (k.toNatClampNeg + 1) ∨ 988 * (k.toNatClampNeg + 1) + 988 ≤ j) → g j = f j) ∧ gh = upd fh k.toNatClampNeg 1) :
    r = r' ∧ zAI g ∧ zRl ln na nb nc g ∧ zHs fm2 gh ∧ zIn6 na ∧ zIn6 nb ∧ zIn6 nc := by
  have hin := zRl_in hA hR
  rcases F1 with ⟨a1, a2, a3⟩ | ⟨a1, a2, a3⟩ <;> rcases F2 with ⟨b1, b2, b3⟩ | ⟨b1, b2, b3⟩
  · obtain ⟨rfl, rfl⟩ := b3
    have e : na = lna ∧ nb = lnb ∧ nc = lnc := by
      rcases L with q | q | q | q
      · exact q.2
      all_goals omega
    obtain ⟨rfl, rfl, rfl⟩ := e
    exact ⟨by rw [a1, b1], hA, hR, by rw [a3]; exact hh, hin.2⟩
  · omega
  · omega
  · obtain ⟨c1, c2, c3⟩ := b3
    have hcl := z_clI (x := k) (by omega)
    have hAg : zAI g := by
      intro i hi
      by_cases e : i = k.toNatClampNeg + 1
      · subst e
        exact zBI_cg c1 (zAI_0 hA)
      · have : i < k.toNatClampNeg + 1 ∨ k.toNatClampNeg + 1 < i := by omega
        exact zBI_cg (fun j hj => c2 _ (by omega)) (hA i hi)
    have hRg : zRl ln na nb nc g := by
      obtain ⟨r0, r1, r2, r3⟩ := hR
      have e0 : k.toNatClampNeg = 0 ∨ k.toNatClampNeg = 1 ∨ k.toNatClampNeg = 2 := by omega
      refine ⟨r0.trans (c2 4 (by omega)).symm, ?_, ?_, ?_⟩
      · rcases L with q | q | q | q
        · omega
        · rw [q.2.1, r0, ← c1 4 (by decide), show k.toNatClampNeg = 0 by omega]
        · rw [q.2.1, r1, c2 992 (by omega)]
        · rw [q.2.1, r1, c2 992 (by omega)]
      · rcases L with q | q | q | q
        · omega
        · rw [q.2.2.1, r2, c2 1980 (by omega)]
        · rw [q.2.2.1, r0, ← c1 4 (by decide), show k.toNatClampNeg = 1 by omega]
        · rw [q.2.2.1, r2, c2 1980 (by omega)]
      · rcases L with q | q | q | q
        · omega
        · rw [q.2.2.2, r3, c2 2968 (by omega)]
        · rw [q.2.2.2, r3, c2 2968 (by omega)]
        · rw [q.2.2.2, r0, ← c1 4 (by decide), show k.toNatClampNeg = 2 by omega]
    exact ⟨by rw [a1, b1], hAg, hRg, by rw [a3, c3]; exact zHs_upd hh _, (zRl_in hAg hRg).2⟩
theorem zL_again {f g fm fh : Nat → Int32} {ln lna lnb lnc u k r r' : Int32} (hA : zAI f) (hR : zRl ln lna lnb lnc f) (hh : zHs fm fh)
    (F1 : r = 0 ∧ (k.toInt < 0 ∨ 3 ≤ k.toInt ∨ fm k.toNatClampNeg = 0) ∧ u = ln ∨ r = 1 ∧ (0 ≤ k.toInt ∧ k.toInt < 3) ∧ ¬ fm k.toNatClampNeg = 0 ∧ (k.toInt = 0 ∧ u = lna ∨ k.toInt = 1 ∧ u = lnb ∨ k.toInt = 2 ∧ u = lnc))
    (F2 : r' = 0 ∧ (k.toInt < 0 ∨ 3 ≤ k.toInt ∨ fh k.toNatClampNeg = 0) ∧ g = f ∨ r' = 1 ∧ (0 ≤ k.toInt ∧ k.toInt < 3) ∧ ¬ fh k.toNatClampNeg = 0 ∧ (∀ j, j < 988 → g j = f (988 * (k.toNatClampNeg + 1) + j)) ∧ (∀ j, 988 ≤ j → g j = f j)) :
    r = r' ∧ zAI g ∧ zRl u lna lnb lnc g := by
  rcases F1 with ⟨a1, a2, a3⟩ | ⟨a1, a2, a3, a4⟩ <;> rcases F2 with ⟨b1, b2, b3⟩ | ⟨b1, b2, b3, b4, b5⟩
  · subst b3
    exact ⟨by rw [a1, b1], hA, by rw [a3]; exact hR⟩
  · have hcl := z_clI (x := k) (by omega)
    rcases a2 with q | q | q
    · omega
    · omega
    · exact absurd ((hh _ (by omega)).mp q) b3
  · have hcl := z_clI (x := k) (by omega)
    rcases b2 with q | q | q
    · omega
    · omega
    · exact absurd ((hh _ (by omega)).mpr q) a3
  · have hcl := z_clI (x := k) (by omega)
    obtain ⟨r0, r1, r2, r3⟩ := hR
    refine ⟨by rw [a1, b1], zAI_low hA (zBI_cg b4 (hA (k.toNatClampNeg + 1) (by omega))) b5, ?_, r1.trans (b5 _ (by omega)).symm, r2.trans (b5 _ (by omega)).symm, r3.trans (b5 _ (by omega)).symm⟩
    rcases a4 with q | q | q
    · rw [q.2, r1, b4 4 (by decide), show k.toNatClampNeg = 0 by omega]
    · rw [q.2, r2, b4 4 (by decide), show k.toNatClampNeg = 1 by omega]
    · rw [q.2, r3, b4 4 (by decide), show k.toNatClampNeg = 2 by omega]
-- room: the tables and rows never become shorter
theorem zLenN_mono {pl : Int32} : ∀ (f : Nat) (L : Nat), L ≤ zLenN pl f L
  | 0, L => Nat.le_refl _
  | f + 1, L => by
    rw [zLenN]
    split
    · exact Nat.le_trans (by omega) (zLenN_mono f (2 * L))
    · exact Nat.le_refl _
theorem zNA_mono {c : Prop} [Decidable c] {md : Int32} {n : Nat} {cr inn : Int32} {k1 : Nat → Int32} (h : zPw n) : n ≤ zNA c md n (zPl cr inn k1) := by
  unfold zNA zMk zNl
  split
  · split
    · split
      · exact Nat.le_refl _
      · have := zNl_room (pl := zPl cr inn k1) h (zPl_le cr inn k1) (by assumption)
        omega
    · exact Nat.le_refl _
  · exact Nat.le_refl _
theorem zFnN_up {wy : Int32} {n : Nat} (hn : n ≤ 16384) (hw : (n : Int) < wy.toInt) : ∀ (f k : Nat), k ≤ 10 → 11 ≤ f + k → n ≤ zFnN wy f (16 * 2 ^ k)
  | 0, k, h, h2 => by omega
  | f + 1, k, h, h2 => by
    rw [zFnN]
    split
    · rename_i q
      have hk : k < 10 := by
        rcases Nat.lt_or_ge k 10 with z | z
        · exact z
        · have e : k = 10 := by omega
          subst e
          exact absurd q.2 (by decide)
      rw [show 2 * (16 * 2 ^ k) = 16 * 2 ^ (k + 1) by rw [Nat.pow_succ]; omega]
      exact zFnN_up hn hw f (k + 1) (by omega) (by omega)
    · rename_i q
      rcases Nat.lt_or_ge 16383 (16 * 2 ^ k) with z | z
      · omega
      · have : ¬ ((16 * 2 ^ k : Nat) : Int) < wy.toInt := fun y => q ⟨y, z⟩
        omega
theorem zNF_mono {c : Prop} [Decidable c] {n : Nat} {wy : Int32} (h : zFw n) : n ≤ zNF c n wy := by
  unfold zNF zFl
  split
  · split
    · exact Nat.le_refl _
    · have e : (16 * 2 ^ 0 : Nat) = 16 := by decide
      have := zFnN_up (wy := wy) (zFw_le h) (by omega) 11 0 (by decide) (by decide)
      rw [e] at this
      exact this
  · exact Nat.le_refl _
theorem zNF_fw {c : Prop} [Decidable c] {n : Nat} {wy : Int32} (h : zFw n) : zFw (zNF c n wy) := by
  unfold zNF
  split
  · exact zFl_pw h
  · exact h

section ZL2
variable {p : Program} {l : Launch} {e : Env} {R : Room} {s : State} {m : MethodId} {args : Array Value} {below : List Frame} {meth : Method} {c : Code} {Q : State → Prop}
variable {nL : Nat} {T : zTy} {A : Nat → Prop} {H0 : Heap}
theorem z_loopR {α : Type} (pc : Nat) (Wd : α → List va_W) (Lv : α → List (Nat × Value)) (Cl Sl : α → Nat) (Inv : α → Prop) (mu : α → Nat)
    (step : ∀ a : α, Inv a → (∀ b : α, Inv b → mu b < mu a → ∀ (H : Heap) (locs : List Loc) (ls : Array Slot), zS T A H0 s (Wd b) H locs → lv_has ls nL (Lv b) → W p l e R s m args below meth c H locs (Cl b) (Sl b) Q (F0 m pc ls [])) → ∀ (H : Heap) (locs : List Loc) (ls : Array Slot), zS T A H0 s (Wd a) H locs → lv_has ls nL (Lv a) → W p l e R s m args below meth c H locs (Cl a) (Sl a) Q (F0 m pc ls []))
    (a : α) (ha : Inv a) {H : Heap} {locs : List Loc} {ls : Array Slot} (G : zS T A H0 s (Wd a) H locs) (hl : lv_has ls nL (Lv a)) : W p l e R s m args below meth c H locs (Cl a) (Sl a) Q (F0 m pc ls []) := by
  have key : ∀ (n : Nat) (a : α), mu a < n → Inv a → ∀ (H : Heap) (locs : List Loc) (ls : Array Slot), zS T A H0 s (Wd a) H locs → lv_has ls nL (Lv a) → W p l e R s m args below meth c H locs (Cl a) (Sl a) Q (F0 m pc ls []) := by
    intro n
    induction n with
    | zero => intro a h; exact absurd h (Nat.not_lt_zero _)
    | succ n ih => intro a h ha; exact step a ha (fun b hb hlt => ih b (by omega) hb)
  exact key (mu a + 1) a (Nat.lt_succ_self _) ha H locs ls G hl
end ZL2
def zAI (f : Nat → Int32) : Prop := ∀ i, i < 4 → zBI (fun j => f (988 * i + j))
abbrev zHs (fm fh : Nat → Int32) : Prop := ∀ k, k < 3 → (fm k = 0 ↔ fh k = 0)
abbrev zIn6 (x : Int32) : Prop := 0 ≤ x.toInt ∧ x.toInt ≤ 600
theorem zBI_cg {f g : Nat → Int32} (e : ∀ j, j < 988 → g j = f j) (h : zBI f) : zBI g :=
  ⟨by rw [e 4 (by decide)]; exact h.1, fun q hq => by rw [e q (by omega)]; exact h.2.1 q hq, fun k hk => zLF_cg (fun j hj => e _ (by omega)) (h.2.2.1 k hk), fun k hk => zCF_cg (e _ (by omega)) (h.2.2.2.1 k hk), fun k hk => zCF_cg (e _ (by omega)) (h.2.2.2.2 k hk)⟩
theorem zAI_0 {f : Nat → Int32} (h : zAI f) : zBI f := zBI_cg (fun j _ => (congrArg f (by omega)).symm) (h 0 (by decide))
theorem zAI_low {f g : Nat → Int32} (h : zAI f) (h0 : zBI g) (ho : ∀ j, 988 ≤ j → g j = f j) : zAI g := by
  intro i hi
  by_cases e : i = 0
  · subst e
    exact zBI_cg (fun j _ => congrArg g (by omega)) h0
  · exact zBI_cg (fun j _ => ho _ (by omega)) (h i hi)
theorem zBI_fd {f g : Nat → Int32} (h : zBI f) (h4 : zIn6 (g 4)) (ho : ∀ j, (j < 10 ∨ 610 ≤ j) → j ≠ 4 → g j = f j) : zBI g :=
  ⟨h4, fun q hq => by rw [ho q (by omega) (by omega)]; exact h.2.1 q hq, fun k hk => zLF_cg (fun j hj => ho _ (by omega) (by omega)) (h.2.2.1 k hk), fun k hk => zCF_cg (ho _ (by omega) (by omega)) (h.2.2.2.1 k hk), fun k hk => zCF_cg (ho _ (by omega) (by omega)) (h.2.2.2.2 k hk)⟩
theorem zHs_upd {fm fh : Nat → Int32} (h : zHs fm fh) (k : Nat) : zHs (upd fm k 1) (upd fh k 1) := by
  intro j hj
  unfold upd
  split
  · exact Iff.rfl
  · exact h j hj
theorem zNA_mono {c : Prop} [Decidable c] {md : Int32} {n : Nat} {cr inn : Int32} {k1 : Nat → Int32} (h : zPw n) : n ≤ zNA c md n (zPl cr inn k1) := by
  unfold zNA zMk zNl
  split
  · split
    · split
      · exact Nat.le_refl _
      · have := zNl_room (pl := zPl cr inn k1) h (zPl_le cr inn k1) (by assumption)
        omega
    · exact Nat.le_refl _
  · exact Nat.le_refl _
theorem zFnN_up {wy : Int32} {n : Nat} (hn : n ≤ 16384) (hw : (n : Int) < wy.toInt) : ∀ (f k : Nat), k ≤ 10 → 11 ≤ f + k → n ≤ zFnN wy f (16 * 2 ^ k)
  | 0, k, h, h2 => by omega
  | f + 1, k, h, h2 => by
    rw [zFnN]
    split
    · rename_i q
      have hk : k < 10 := by
        rcases Nat.lt_or_ge k 10 with z | z
        · exact z
        · have e : k = 10 := by omega
          subst e
          exact absurd q.2 (by decide)
      rw [show 2 * (16 * 2 ^ k) = 16 * 2 ^ (k + 1) by rw [Nat.pow_succ]; omega]
      exact zFnN_up hn hw f (k + 1) (by omega) (by omega)
    · rename_i q
      rcases Nat.lt_or_ge 16383 (16 * 2 ^ k) with z | z
      · omega
      · have : ¬ ((16 * 2 ^ k : Nat) : Int) < wy.toInt := fun y => q ⟨y, z⟩
        omega
theorem zNF_mono {c : Prop} [Decidable c] {n : Nat} {wy : Int32} (h : zFw n) : n ≤ zNF c n wy := by
  unfold zNF zFl
  split
  · split
    · exact Nat.le_refl _
    · have e : (16 * 2 ^ 0 : Nat) = 16 := by decide
      have := zFnN_up (wy := wy) (zFw_le h) (by omega) 11 0 (by decide) (by decide)
      rw [e] at this
      exact this
  · exact Nat.le_refl _
theorem zNF_fw {c : Prop} [Decidable c] {n : Nat} {wy : Int32} (h : zFw n) : zFw (zNF c n wy) := by
  unfold zNF
  split
  · exact zFl_pw h
  · exact h
/-! THE LAW'S STEPS, with all that is told kept equal -/
theorem zTR_by {ln : Int32} {fl : Int32} {pl : Int32} {ft : Nat → Int32} {fk : Nat → Int32} {cr_L0 : Int32} {inn_L0 : Int32} {k1_L0 : Nat → Int32} {k2_L0 : Nat → Int32} {k3_L0 : Nat → Int32} {k4_L0 : Nat → Int32} {cr_L1 : Int32} {inn_L1 : Int32} {k1_L1 : Nat → Int32} {k2_L1 : Nat → Int32} {k3_L1 : Nat → Int32} {k4_L1 : Nat → Int32} {dd_D0 : Int32} {p1_D0 : Nat → Int32} {p2_D0 : Nat → Int32} {p3_D0 : Nat → Int32} {dd_D1 : Int32} {p1_D1 : Nat → Int32} {p2_D1 : Nat → Int32} {p3_D1 : Nat → Int32} {gg_G0 : Int32} {q1_G0 : Nat → Int32} {q2_G0 : Nat → Int32} {gg_G1 : Int32} {q1_G1 : Nat → Int32} {q2_G1 : Nat → Int32} {G : Nat → Int32} (h : zTR ln fl pl ft fk cr_L0 inn_L0 k1_L0 k2_L0 k3_L0 k4_L0 cr_L1 inn_L1 k1_L1 k2_L1 k3_L1 k4_L1 dd_D0 p1_D0 p2_D0 p3_D0 dd_D1 p1_D1 p2_D1 p3_D1 gg_G0 q1_G0 q2_G0 gg_G1 q1_G1 q2_G1 G) : ∀ j, j < 600 → 0 ≤ (G (10 + j)).toInt := by
  intro j hj
  rcases (h.1.2.2.2.2 j hj).1 with ⟨e, a⟩ | ⟨-, a⟩
  · rw [e]; exact a
  · omega
theorem zTR_tk {ln : Int32} {fl : Int32} {pl : Int32} {ft : Nat → Int32} {fk : Nat → Int32} {cr_L0 : Int32} {inn_L0 : Int32} {k1_L0 : Nat → Int32} {k2_L0 : Nat → Int32} {k3_L0 : Nat → Int32} {k4_L0 : Nat → Int32} {cr_L1 : Int32} {inn_L1 : Int32} {k1_L1 : Nat → Int32} {k2_L1 : Nat → Int32} {k3_L1 : Nat → Int32} {k4_L1 : Nat → Int32} {dd_D0 : Int32} {p1_D0 : Nat → Int32} {p2_D0 : Nat → Int32} {p3_D0 : Nat → Int32} {dd_D1 : Int32} {p1_D1 : Nat → Int32} {p2_D1 : Nat → Int32} {p3_D1 : Nat → Int32} {gg_G0 : Int32} {q1_G0 : Nat → Int32} {q2_G0 : Nat → Int32} {gg_G1 : Int32} {q1_G1 : Nat → Int32} {q2_G1 : Nat → Int32} {G : Nat → Int32} (h : zTR ln fl pl ft fk cr_L0 inn_L0 k1_L0 k2_L0 k3_L0 k4_L0 cr_L1 inn_L1 k1_L1 k2_L1 k3_L1 k4_L1 dd_D0 p1_D0 p2_D0 p3_D0 dd_D1 p1_D1 p2_D1 p3_D1 gg_G0 q1_G0 q2_G0 gg_G1 q1_G1 q2_G1 G) {n : Nat} (hn : n ≤ 600) : tkT ft n = tkT (fun j => G (10 + j)) n := tkT_cg (fun j hj => (h.1.2.2.2.2 j (by omega)).1)
theorem zAI_at {f : Nat → Int32} (h : zAI f) : zIn6 (f 4) := (zAI_0 h).1
theorem zM_feed {ln : Int32} {fl : Int32} {pl : Int32} {ft : Nat → Int32} {fk : Nat → Int32} {cr_L0 : Int32} {inn_L0 : Int32} {k1_L0 : Nat → Int32} {k2_L0 : Nat → Int32} {k3_L0 : Nat → Int32} {k4_L0 : Nat → Int32} {cr_L1 : Int32} {inn_L1 : Int32} {k1_L1 : Nat → Int32} {k2_L1 : Nat → Int32} {k3_L1 : Nat → Int32} {k4_L1 : Nat → Int32} {dd_D0 : Int32} {p1_D0 : Nat → Int32} {p2_D0 : Nat → Int32} {p3_D0 : Nat → Int32} {dd_D1 : Int32} {p1_D1 : Nat → Int32} {p2_D1 : Nat → Int32} {p3_D1 : Nat → Int32} {gg_G0 : Int32} {q1_G0 : Nat → Int32} {q2_G0 : Nat → Int32} {gg_G1 : Int32} {q1_G1 : Nat → Int32} {q2_G1 : Nat → Int32} {p : Nat} {a b c d e u r r' : Int32} {g g' f : Nat → Int32} (hT : zTR ln fl pl ft fk cr_L0 inn_L0 k1_L0 k2_L0 k3_L0 k4_L0 cr_L1 inn_L1 k1_L1 k2_L1 k3_L1 k4_L1 dd_D0 p1_D0 p2_D0 p3_D0 dd_D1 p1_D1 p2_D1 p3_D1 gg_G0 q1_G0 q2_G0 gg_G1 q1_G1 q2_G1 f) (hA : zAI f) (hp : ln = nI p) (hp6 : p ≤ 600) (F1 : 580 < p ∧ r = -1 ∧ u = nI p ∧ g' = ft ∨ p ≤ 580 ∧ r = nI (p + 20) ∧ u = nI (p + 20) ∧ g' = zFeedC p a b c d e ft) (F2 : 580 < p ∧ r' = -1 ∧ g = f ∨ p ≤ 580 ∧ r' = nI (p + 20) ∧ zFeedR p a b c d e f g) : r = r' ∧ zAI g ∧ zTR u fl pl g' fk cr_L0 inn_L0 k1_L0 k2_L0 k3_L0 k4_L0 cr_L1 inn_L1 k1_L1 k2_L1 k3_L1 k4_L1 dd_D0 p1_D0 p2_D0 p3_D0 dd_D1 p1_D1 p2_D1 p3_D1 gg_G0 q1_G0 q2_G0 gg_G1 q1_G1 q2_G1 g ∧ ∀ j, 988 ≤ j → g j = f j := by
  rcases F1 with ⟨x1, x2, x3, x4⟩ | ⟨x1, x2, x3, x4⟩ <;> rcases F2 with ⟨y1, y2, y3⟩ | ⟨y1, y2, y3⟩
  · subst x4
    subst y3
    exact ⟨x2.trans y2.symm, hA, by rw [x3, ← hp]; exact hT, fun _ _ => rfl⟩
  · omega
  · omega
  · obtain ⟨z1, z2, z3⟩ := y3
    obtain ⟨⟨a1, a2, a3, a4, a5⟩, h1, h2, h3, h4, h5, h6⟩ := hT
    have ho : ∀ j, (j < 10 ∨ 610 ≤ j) → ¬ j = 4 → g j = f j := fun j q1 q2 => z3 j (by omega) q2
    have e4 : (nI (p + 20)).toInt = ((p + 20 : Nat) : Int) := nI_toInt (by omega)
    refine ⟨x2.trans y2.symm, zAI_low hA (zBI_fd (zAI_0 hA) (by rw [z1]; exact ⟨by omega, by omega⟩) ho) (fun j hj => ho j (by omega) (by omega)), ⟨⟨x3.trans z1.symm, a2.trans (ho _ (by omega) (by omega)).symm, a3.trans (ho _ (by omega) (by omega)).symm, fun j hj => (a4 j hj).trans (ho _ (by omega) (by omega)).symm, fun j hj => ?_⟩, zLnd_cg h1 (fun j hj => ho _ (by omega) (by omega)), zLnd_cg h2 (fun j hj => ho _ (by omega) (by omega)), zDyd_cg h3 (fun j hj => ho _ (by omega) (by omega)), zDyd_cg h4 (fun j hj => ho _ (by omega) (by omega)), zLgd_cg h5 (fun j hj => ho _ (by omega) (by omega)), zLgd_cg h6 (fun j hj => ho _ (by omega) (by omega))⟩, fun j hj => ho j (by omega) (by omega)⟩
    rw [x4]
    by_cases q : p ≤ j ∧ j < p + 20
    · have e1 := zFeed_be (p := p) (i := j - p) (a := a) (b := b) (c := c) (d := d) (e := e) (f := ft) (by omega)
      have e2 := z2 (j - p) (by omega)
      rw [show p + (j - p) = j by omega] at e1 e2
      rw [e1, e2]
      exact ⟨zBe_b _, by rw [Int8.toInt8_toInt32]⟩
    · rw [zFeedC_o (by omega), z3 _ (by omega) (by omega)]
      exact a5 j hj
theorem zM_end {ln : Int32} {fl : Int32} {pl : Int32} {ft : Nat → Int32} {fk : Nat → Int32} {cr_L0 : Int32} {inn_L0 : Int32} {k1_L0 : Nat → Int32} {k2_L0 : Nat → Int32} {k3_L0 : Nat → Int32} {k4_L0 : Nat → Int32} {cr_L1 : Int32} {inn_L1 : Int32} {k1_L1 : Nat → Int32} {k2_L1 : Nat → Int32} {k3_L1 : Nat → Int32} {k4_L1 : Nat → Int32} {dd_D0 : Int32} {p1_D0 : Nat → Int32} {p2_D0 : Nat → Int32} {p3_D0 : Nat → Int32} {dd_D1 : Int32} {p1_D1 : Nat → Int32} {p2_D1 : Nat → Int32} {p3_D1 : Nat → Int32} {gg_G0 : Int32} {q1_G0 : Nat → Int32} {q2_G0 : Nat → Int32} {gg_G1 : Int32} {q1_G1 : Nat → Int32} {q2_G1 : Nat → Int32} {u n r r' : Int32} {g f : Nat → Int32} (hT : zTR ln fl pl ft fk cr_L0 inn_L0 k1_L0 k2_L0 k3_L0 k4_L0 cr_L1 inn_L1 k1_L1 k2_L1 k3_L1 k4_L1 dd_D0 p1_D0 p2_D0 p3_D0 dd_D1 p1_D1 p2_D1 p3_D1 gg_G0 q1_G0 q2_G0 gg_G1 q1_G1 q2_G1 f) (hA : zAI f) (F1 : (n.toInt < 0 ∨ ln.toInt < n.toInt) ∧ r.toInt = -1 ∧ u = ln ∨ (0 ≤ n.toInt ∧ n.toInt ≤ ln.toInt) ∧ u = n ∧ r = n) (F2 : (n.toInt < 0 ∨ (f 4).toInt < n.toInt) ∧ r'.toInt = -1 ∧ g = f ∨ (0 ≤ n.toInt ∧ n.toInt ≤ (f 4).toInt) ∧ g = upd f 4 n ∧ r' = n) : r = r' ∧ zAI g ∧ zTR u fl pl ft fk cr_L0 inn_L0 k1_L0 k2_L0 k3_L0 k4_L0 cr_L1 inn_L1 k1_L1 k2_L1 k3_L1 k4_L1 dd_D0 p1_D0 p2_D0 p3_D0 dd_D1 p1_D1 p2_D1 p3_D1 gg_G0 q1_G0 q2_G0 gg_G1 q1_G1 q2_G1 g ∧ ∀ j, 988 ≤ j → g j = f j := by
  have b := zAI_at hA
  have e4 : ln = f 4 := hT.1.1
  have e4i : ln.toInt = (f 4).toInt := by rw [e4]
  rcases F1 with ⟨x1, x2, x3⟩ | ⟨x1, x2, x3⟩ <;> rcases F2 with ⟨y1, y2, y3⟩ | ⟨y1, y2, y3⟩
  · subst y3
    exact ⟨Int32.toInt_inj.mp (by omega), hA, by rw [x3]; exact hT, fun _ _ => rfl⟩
  · omega
  · omega
  · obtain ⟨⟨a1, a2, a3, a4, a5⟩, h1, h2, h3, h4, h5, h6⟩ := hT
    have ho : ∀ j, ¬ j = 4 → g j = f j := fun j q => by rw [y2]; exact z_ne q
    have k4 : g 4 = n := by rw [y2]; exact z_eq rfl
    exact ⟨x3.trans y3.symm, zAI_low hA (zBI_fd (zAI_0 hA) (by rw [k4]; exact ⟨by omega, by omega⟩) (fun j _ q => ho j q)) (fun j hj => ho j (by omega)), ⟨⟨x2.trans k4.symm, a2.trans (ho _ (by omega)).symm, a3.trans (ho _ (by omega)).symm, fun j hj => (a4 j hj).trans (ho _ (by omega)).symm, fun j hj => by rw [ho _ (by omega)]; exact a5 j hj⟩, zLnd_cg h1 (fun j hj => ho _ (by omega)), zLnd_cg h2 (fun j hj => ho _ (by omega)), zDyd_cg h3 (fun j hj => ho _ (by omega)), zDyd_cg h4 (fun j hj => ho _ (by omega)), zLgd_cg h5 (fun j hj => ho _ (by omega)), zLgd_cg h6 (fun j hj => ho _ (by omega))⟩, fun j hj => ho j (by omega)⟩
theorem zText_u {z : pS × (Nat → Int32)} {s : Nat} {at_ r r' : Int32} {f G G' : Nat → Int32} (h : zText z s at_ f G r) (h' : zText z s at_ f G' r') : r = r' ∧ ∀ j, j < 988 → G' j = G j := by
  rcases h with ⟨a1, a2, a3⟩ | ⟨a1, a0, a2, a3⟩ | ⟨a1, a0, a2, a3⟩ <;> rcases h' with ⟨b1, b2, b3⟩ | ⟨b1, b0, b2, b3⟩ | ⟨b1, b0, b2, b3⟩
  · exact ⟨a2.trans b2.symm, fun j hj => (b3 j hj).trans (a3 j hj).symm⟩
  · exact absurd b1 a1
  · exact absurd b1 a1
  · exact absurd a1 b1
  · exact ⟨a2.trans b2.symm, fun j hj => (b3 j hj).trans (a3 j hj).symm⟩
  · exact absurd b0 a0
  · exact absurd a1 b1
  · exact absurd a0 b0
  · exact ⟨a2.trans b2.symm, fun j hj => (b3 j hj).trans (a3 j hj).symm⟩
theorem zM_text {ln : Int32} {fl : Int32} {pl : Int32} {ft : Nat → Int32} {fk : Nat → Int32} {cr_L0 : Int32} {inn_L0 : Int32} {k1_L0 : Nat → Int32} {k2_L0 : Nat → Int32} {k3_L0 : Nat → Int32} {k4_L0 : Nat → Int32} {cr_L1 : Int32} {inn_L1 : Int32} {k1_L1 : Nat → Int32} {k2_L1 : Nat → Int32} {k3_L1 : Nat → Int32} {k4_L1 : Nat → Int32} {dd_D0 : Int32} {p1_D0 : Nat → Int32} {p2_D0 : Nat → Int32} {p3_D0 : Nat → Int32} {dd_D1 : Int32} {p1_D1 : Nat → Int32} {p2_D1 : Nat → Int32} {p3_D1 : Nat → Int32} {gg_G0 : Int32} {q1_G0 : Nat → Int32} {q2_G0 : Nat → Int32} {gg_G1 : Int32} {q1_G1 : Nat → Int32} {q2_G1 : Nat → Int32} {z : pS × (Nat → Int32)} {s : Nat} {at_ r r' : Int32} {g f : Nat → Int32} (hA : zAI f) (F1 : ∃ G2, zText z s at_ f G2 r ∧ zTR ln fl pl ft fk cr_L0 inn_L0 k1_L0 k2_L0 k3_L0 k4_L0 cr_L1 inn_L1 k1_L1 k2_L1 k3_L1 k4_L1 dd_D0 p1_D0 p2_D0 p3_D0 dd_D1 p1_D1 p2_D1 p3_D1 gg_G0 q1_G0 q2_G0 gg_G1 q1_G1 q2_G1 G2) (F2 : zText z s at_ f g r') (T0 : zBI g) (T2 : ∀ j, 988 ≤ j → g j = f j) : r = r' ∧ zAI g ∧ zTR ln fl pl ft fk cr_L0 inn_L0 k1_L0 k2_L0 k3_L0 k4_L0 cr_L1 inn_L1 k1_L1 k2_L1 k3_L1 k4_L1 dd_D0 p1_D0 p2_D0 p3_D0 dd_D1 p1_D1 p2_D1 p3_D1 gg_G0 q1_G0 q2_G0 gg_G1 q1_G1 q2_G1 g ∧ ∀ j, 988 ≤ j → g j = f j := by
  obtain ⟨G2, x1, x2⟩ := F1
  have q := zText_u x1 F2
  exact ⟨q.1, zAI_low hA T0 T2, zTR_cg x2 q.2, T2⟩
theorem zM_textN {ln : Int32} {fl : Int32} {pl : Int32} {ft : Nat → Int32} {fk : Nat → Int32} {cr_L0 : Int32} {inn_L0 : Int32} {k1_L0 : Nat → Int32} {k2_L0 : Nat → Int32} {k3_L0 : Nat → Int32} {k4_L0 : Nat → Int32} {cr_L1 : Int32} {inn_L1 : Int32} {k1_L1 : Nat → Int32} {k2_L1 : Nat → Int32} {k3_L1 : Nat → Int32} {k4_L1 : Nat → Int32} {dd_D0 : Int32} {p1_D0 : Nat → Int32} {p2_D0 : Nat → Int32} {p3_D0 : Nat → Int32} {dd_D1 : Int32} {p1_D1 : Nat → Int32} {p2_D1 : Nat → Int32} {p3_D1 : Nat → Int32} {gg_G0 : Int32} {q1_G0 : Nat → Int32} {q2_G0 : Nat → Int32} {gg_G1 : Int32} {q1_G1 : Nat → Int32} {q2_G1 : Nat → Int32} {g f : Nat → Int32} (hT : zTR ln fl pl ft fk cr_L0 inn_L0 k1_L0 k2_L0 k3_L0 k4_L0 cr_L1 inn_L1 k1_L1 k2_L1 k3_L1 k4_L1 dd_D0 p1_D0 p2_D0 p3_D0 dd_D1 p1_D1 p2_D1 p3_D1 gg_G0 q1_G0 q2_G0 gg_G1 q1_G1 q2_G1 f) (hA : zAI f) (hg : g = upd (upd (upd f 4 0) 5 0) 6 (-1)) : zAI g ∧ zTR 0 0 (-1) ft fk cr_L0 inn_L0 k1_L0 k2_L0 k3_L0 k4_L0 cr_L1 inn_L1 k1_L1 k2_L1 k3_L1 k4_L1 dd_D0 p1_D0 p2_D0 p3_D0 dd_D1 p1_D1 p2_D1 p3_D1 gg_G0 q1_G0 q2_G0 gg_G1 q1_G1 q2_G1 g ∧ ∀ j, 988 ≤ j → g j = f j := by
  have ho : ∀ j, 7 ≤ j → g j = f j := fun j q => by rw [hg, z_ne (by omega), z_ne (by omega), z_ne (by omega)]
  refine ⟨zAI_low hA (zBI_hd (zAI_0 hA) (by rw [hg]; rfl) (fun q hq => ?_) ho) (fun j hj => ho j (by omega)), by rw [hg]; exact zTR_hd hT, fun j hj => ho j (by omega)⟩
  rw [hg, z_ne (by omega), z_ne (by omega), z_ne (by omega)]
  exact (zAI_0 hA).2.1 q hq
theorem zM_keep {ln : Int32} {fl : Int32} {pl : Int32} {ft : Nat → Int32} {fk : Nat → Int32} {cr_L0 : Int32} {inn_L0 : Int32} {k1_L0 : Nat → Int32} {k2_L0 : Nat → Int32} {k3_L0 : Nat → Int32} {k4_L0 : Nat → Int32} {cr_L1 : Int32} {inn_L1 : Int32} {k1_L1 : Nat → Int32} {k2_L1 : Nat → Int32} {k3_L1 : Nat → Int32} {k4_L1 : Nat → Int32} {dd_D0 : Int32} {p1_D0 : Nat → Int32} {p2_D0 : Nat → Int32} {p3_D0 : Nat → Int32} {dd_D1 : Int32} {p1_D1 : Nat → Int32} {p2_D1 : Nat → Int32} {p3_D1 : Nat → Int32} {gg_G0 : Int32} {q1_G0 : Nat → Int32} {q2_G0 : Nat → Int32} {gg_G1 : Int32} {q1_G1 : Nat → Int32} {q2_G1 : Nat → Int32} {c : Prop} {b : Nat} {g f : Nat → Int32} (h : c → zTR ln fl pl ft fk cr_L0 inn_L0 k1_L0 k2_L0 k3_L0 k4_L0 cr_L1 inn_L1 k1_L1 k2_L1 k3_L1 k4_L1 dd_D0 p1_D0 p2_D0 p3_D0 dd_D1 p1_D1 p2_D1 p3_D1 gg_G0 q1_G0 q2_G0 gg_G1 q1_G1 q2_G1 (fun j => f (b + j))) (hb : 988 ≤ b) (T2 : ∀ j, 988 ≤ j → g j = f j) : c → zTR ln fl pl ft fk cr_L0 inn_L0 k1_L0 k2_L0 k3_L0 k4_L0 cr_L1 inn_L1 k1_L1 k2_L1 k3_L1 k4_L1 dd_D0 p1_D0 p2_D0 p3_D0 dd_D1 p1_D1 p2_D1 p3_D1 gg_G0 q1_G0 q2_G0 gg_G1 q1_G1 q2_G1 (fun j => g (b + j)) := fun z => zTR_cg (h z) (fun j _ => T2 _ (by omega))
theorem zAI_img {f g : Nat → Int32} {k : Nat} (hk : k < 3) (hA : zAI f) (c1 : ∀ j, j < 988 → g (988 * (k + 1) + j) = f j) (c2 : ∀ j, (j < 988 * (k + 1) ∨ 988 * (k + 1) + 988 ≤ j) → g j = f j) : zAI g := by
  intro i hi
  by_cases e : i = k + 1
  · subst e
    exact zBI_cg c1 (zAI_0 hA)
  · have : i < k + 1 ∨ k + 1 < i := by omega
    exact zBI_cg (fun j hj => c2 _ (by omega)) (hA i hi)
theorem zM_low {ln : Int32} {fl : Int32} {pl : Int32} {ft : Nat → Int32} {fk : Nat → Int32} {cr_L0 : Int32} {inn_L0 : Int32} {k1_L0 : Nat → Int32} {k2_L0 : Nat → Int32} {k3_L0 : Nat → Int32} {k4_L0 : Nat → Int32} {cr_L1 : Int32} {inn_L1 : Int32} {k1_L1 : Nat → Int32} {k2_L1 : Nat → Int32} {k3_L1 : Nat → Int32} {k4_L1 : Nat → Int32} {dd_D0 : Int32} {p1_D0 : Nat → Int32} {p2_D0 : Nat → Int32} {p3_D0 : Nat → Int32} {dd_D1 : Int32} {p1_D1 : Nat → Int32} {p2_D1 : Nat → Int32} {p3_D1 : Nat → Int32} {gg_G0 : Int32} {q1_G0 : Nat → Int32} {q2_G0 : Nat → Int32} {gg_G1 : Int32} {q1_G1 : Nat → Int32} {q2_G1 : Nat → Int32} {g f : Nat → Int32} (h : zTR ln fl pl ft fk cr_L0 inn_L0 k1_L0 k2_L0 k3_L0 k4_L0 cr_L1 inn_L1 k1_L1 k2_L1 k3_L1 k4_L1 dd_D0 p1_D0 p2_D0 p3_D0 dd_D1 p1_D1 p2_D1 p3_D1 gg_G0 q1_G0 q2_G0 gg_G1 q1_G1 q2_G1 f) (c : ∀ j, j < 988 → g j = f j) : zTR ln fl pl ft fk cr_L0 inn_L0 k1_L0 k2_L0 k3_L0 k4_L0 cr_L1 inn_L1 k1_L1 k2_L1 k3_L1 k4_L1 dd_D0 p1_D0 p2_D0 p3_D0 dd_D1 p1_D1 p2_D1 p3_D1 gg_G0 q1_G0 q2_G0 gg_G1 q1_G1 q2_G1 g := zTR_cg h c
theorem zM_imk {ln : Int32} {fl : Int32} {pl : Int32} {ft : Nat → Int32} {fk : Nat → Int32} {cr_L0 : Int32} {inn_L0 : Int32} {k1_L0 : Nat → Int32} {k2_L0 : Nat → Int32} {k3_L0 : Nat → Int32} {k4_L0 : Nat → Int32} {cr_L1 : Int32} {inn_L1 : Int32} {k1_L1 : Nat → Int32} {k2_L1 : Nat → Int32} {k3_L1 : Nat → Int32} {k4_L1 : Nat → Int32} {dd_D0 : Int32} {p1_D0 : Nat → Int32} {p2_D0 : Nat → Int32} {p3_D0 : Nat → Int32} {dd_D1 : Int32} {p1_D1 : Nat → Int32} {p2_D1 : Nat → Int32} {p3_D1 : Nat → Int32} {gg_G0 : Int32} {q1_G0 : Nat → Int32} {q2_G0 : Nat → Int32} {gg_G1 : Int32} {q1_G1 : Nat → Int32} {q2_G1 : Nat → Int32} {fm f g : Nat → Int32} {k b : Nat} (h : zTR ln fl pl ft fk cr_L0 inn_L0 k1_L0 k2_L0 k3_L0 k4_L0 cr_L1 inn_L1 k1_L1 k2_L1 k3_L1 k4_L1 dd_D0 p1_D0 p2_D0 p3_D0 dd_D1 p1_D1 p2_D1 p3_D1 gg_G0 q1_G0 q2_G0 gg_G1 q1_G1 q2_G1 f) (c1 : ∀ j, j < 988 → g (b + j) = f j) : ¬ upd fm k 1 k = 0 → zTR ln fl pl ft fk cr_L0 inn_L0 k1_L0 k2_L0 k3_L0 k4_L0 cr_L1 inn_L1 k1_L1 k2_L1 k3_L1 k4_L1 dd_D0 p1_D0 p2_D0 p3_D0 dd_D1 p1_D1 p2_D1 p3_D1 gg_G0 q1_G0 q2_G0 gg_G1 q1_G1 q2_G1 (fun j => g (b + j)) := fun _ => zTR_cg h c1
theorem zM_imo {ln : Int32} {fl : Int32} {pl : Int32} {ft : Nat → Int32} {fk : Nat → Int32} {cr_L0 : Int32} {inn_L0 : Int32} {k1_L0 : Nat → Int32} {k2_L0 : Nat → Int32} {k3_L0 : Nat → Int32} {k4_L0 : Nat → Int32} {cr_L1 : Int32} {inn_L1 : Int32} {k1_L1 : Nat → Int32} {k2_L1 : Nat → Int32} {k3_L1 : Nat → Int32} {k4_L1 : Nat → Int32} {dd_D0 : Int32} {p1_D0 : Nat → Int32} {p2_D0 : Nat → Int32} {p3_D0 : Nat → Int32} {dd_D1 : Int32} {p1_D1 : Nat → Int32} {p2_D1 : Nat → Int32} {p3_D1 : Nat → Int32} {gg_G0 : Int32} {q1_G0 : Nat → Int32} {q2_G0 : Nat → Int32} {gg_G1 : Int32} {q1_G1 : Nat → Int32} {q2_G1 : Nat → Int32} {fm f g : Nat → Int32} {i k b : Nat} (hik : ¬ i = k) (h : ¬ fm i = 0 → zTR ln fl pl ft fk cr_L0 inn_L0 k1_L0 k2_L0 k3_L0 k4_L0 cr_L1 inn_L1 k1_L1 k2_L1 k3_L1 k4_L1 dd_D0 p1_D0 p2_D0 p3_D0 dd_D1 p1_D1 p2_D1 p3_D1 gg_G0 q1_G0 q2_G0 gg_G1 q1_G1 q2_G1 (fun j => f (b + j))) (c2 : ∀ j, j < 988 → g (b + j) = f (b + j)) : ¬ upd fm k 1 i = 0 → zTR ln fl pl ft fk cr_L0 inn_L0 k1_L0 k2_L0 k3_L0 k4_L0 cr_L1 inn_L1 k1_L1 k2_L1 k3_L1 k4_L1 dd_D0 p1_D0 p2_D0 p3_D0 dd_D1 p1_D1 p2_D1 p3_D1 gg_G0 q1_G0 q2_G0 gg_G1 q1_G1 q2_G1 (fun j => g (b + j)) := fun z => zTR_cg (h (by rw [z_ne hik] at z; exact z)) c2
theorem zM_again {ln : Int32} {fl : Int32} {pl : Int32} {ft : Nat → Int32} {fk : Nat → Int32} {cr_L0 : Int32} {inn_L0 : Int32} {k1_L0 : Nat → Int32} {k2_L0 : Nat → Int32} {k3_L0 : Nat → Int32} {k4_L0 : Nat → Int32} {cr_L1 : Int32} {inn_L1 : Int32} {k1_L1 : Nat → Int32} {k2_L1 : Nat → Int32} {k3_L1 : Nat → Int32} {k4_L1 : Nat → Int32} {dd_D0 : Int32} {p1_D0 : Nat → Int32} {p2_D0 : Nat → Int32} {p3_D0 : Nat → Int32} {dd_D1 : Int32} {p1_D1 : Nat → Int32} {p2_D1 : Nat → Int32} {p3_D1 : Nat → Int32} {gg_G0 : Int32} {q1_G0 : Nat → Int32} {q2_G0 : Nat → Int32} {gg_G1 : Int32} {q1_G1 : Nat → Int32} {q2_G1 : Nat → Int32} {K b : Nat} {x r r' : Int32} {fm fh f g : Nat → Int32} (hA : zAI f) (hH : fm K = 0 ↔ fh K = 0) (hx : x.toInt = (K : Int)) (hK : K < 3) (hb : b = 988 * (K + 1)) (F1 : fm K = 0 ∧ r = 0 ∧ zTR ln fl pl ft fk cr_L0 inn_L0 k1_L0 k2_L0 k3_L0 k4_L0 cr_L1 inn_L1 k1_L1 k2_L1 k3_L1 k4_L1 dd_D0 p1_D0 p2_D0 p3_D0 dd_D1 p1_D1 p2_D1 p3_D1 gg_G0 q1_G0 q2_G0 gg_G1 q1_G1 q2_G1 f ∨ ¬ fm K = 0 ∧ r = 1 ∧ zTR ln fl pl ft fk cr_L0 inn_L0 k1_L0 k2_L0 k3_L0 k4_L0 cr_L1 inn_L1 k1_L1 k2_L1 k3_L1 k4_L1 dd_D0 p1_D0 p2_D0 p3_D0 dd_D1 p1_D1 p2_D1 p3_D1 gg_G0 q1_G0 q2_G0 gg_G1 q1_G1 q2_G1 (fun j => f (b + j))) (F2 : r' = 0 ∧ (x.toInt < 0 ∨ 3 ≤ x.toInt ∨ fh x.toNatClampNeg = 0) ∧ g = f ∨ r' = 1 ∧ (0 ≤ x.toInt ∧ x.toInt < 3) ∧ ¬ fh x.toNatClampNeg = 0 ∧ (∀ j, j < 988 → g j = f (988 * (x.toNatClampNeg + 1) + j)) ∧ ∀ j, 988 ≤ j → g j = f j) : r = r' ∧ zAI g ∧ zTR ln fl pl ft fk cr_L0 inn_L0 k1_L0 k2_L0 k3_L0 k4_L0 cr_L1 inn_L1 k1_L1 k2_L1 k3_L1 k4_L1 dd_D0 p1_D0 p2_D0 p3_D0 dd_D1 p1_D1 p2_D1 p3_D1 gg_G0 q1_G0 q2_G0 gg_G1 q1_G1 q2_G1 g ∧ ∀ j, 988 ≤ j → g j = f j := by
  subst hb
  have e : x.toNatClampNeg = K := by have := z_clI (x := x) (by omega); omega
  rw [e] at F2
  rcases F1 with ⟨a1, a2, a3⟩ | ⟨a1, a2, a3⟩ <;> rcases F2 with ⟨b1, b2, b3⟩ | ⟨b1, b2, b3, b4, b5⟩
  · exact ⟨a2.trans b1.symm, by rw [b3]; exact hA, by rw [b3]; exact a3, fun j _ => by rw [b3]⟩
  · exact absurd (hH.mp a1) b3
  · rcases b2 with q | q | q
    · omega
    · omega
    · exact absurd (hH.mpr q) a1
  · exact ⟨a2.trans b1.symm, zAI_low hA (zBI_cg b4 (hA (K + 1) (by omega))) b5, zTR_cg a3 b4, b5⟩
theorem zM_imr {K : Nat} {x r' : Int32} {fh gh f g : Nat → Int32} (hx : x.toInt = (K : Int)) (hK : K < 3) (F2 : r' = 0 ∧ (x.toInt < 0 ∨ 3 ≤ x.toInt) ∧ g = f ∧ gh = fh ∨ r' = 1 ∧ (0 ≤ x.toInt ∧ x.toInt < 3) ∧ (∀ j, j < 988 → g (988 * (x.toNatClampNeg + 1) + j) = f j) ∧ (∀ j, (j < 988 * (x.toNatClampNeg + 1) ∨ 988 * (x.toNatClampNeg + 1) + 988 ≤ j) → g j = f j) ∧ gh = upd fh x.toNatClampNeg 1) : r' = 1 ∧ (∀ j, j < 988 → g (988 * (K + 1) + j) = f j) ∧ (∀ j, (j < 988 * (K + 1) ∨ 988 * (K + 1) + 988 ≤ j) → g j = f j) ∧ gh = upd fh K 1 := by
  have e : x.toNatClampNeg = K := by have := z_clI (x := x) (by omega); omega
  rw [e] at F2
  rcases F2 with ⟨a, b, -⟩ | ⟨a, -, b, c, d⟩
  · omega
  · exact ⟨a, b, c, d⟩
theorem zM_imN {x r' : Int32} {fh gh f g : Nat → Int32} (hx : x.toInt < 0 ∨ 2 < x.toInt) (F2 : r' = 0 ∧ (x.toInt < 0 ∨ 3 ≤ x.toInt) ∧ g = f ∧ gh = fh ∨ r' = 1 ∧ (0 ≤ x.toInt ∧ x.toInt < 3) ∧ (∀ j, j < 988 → g (988 * (x.toNatClampNeg + 1) + j) = f j) ∧ (∀ j, (j < 988 * (x.toNatClampNeg + 1) ∨ 988 * (x.toNatClampNeg + 1) + 988 ≤ j) → g j = f j) ∧ gh = upd fh x.toNatClampNeg 1) : (0 : Int32) = r' ∧ g = f ∧ gh = fh := by
  rcases F2 with ⟨a, -, b, c⟩ | ⟨-, b, -⟩
  · exact ⟨a.symm, b, c⟩
  · omega
theorem zM_agN {x r' : Int32} {fh f g : Nat → Int32} (hx : x.toInt < 0 ∨ 2 < x.toInt) (F2 : r' = 0 ∧ (x.toInt < 0 ∨ 3 ≤ x.toInt ∨ fh x.toNatClampNeg = 0) ∧ g = f ∨ r' = 1 ∧ (0 ≤ x.toInt ∧ x.toInt < 3) ∧ ¬ fh x.toNatClampNeg = 0 ∧ (∀ j, j < 988 → g j = f (988 * (x.toNatClampNeg + 1) + j)) ∧ ∀ j, 988 ≤ j → g j = f j) : (0 : Int32) = r' ∧ g = f := by
  rcases F2 with ⟨a, -, b⟩ | ⟨-, b, -⟩
  · exact ⟨a.symm, b⟩
  · omega
set_option maxHeartbeats 4000000 in
set_option maxRecDepth 100000 in
/-- c_f_textN -/
theorem c_f_textN (l : Launch) (T : zTy) (xo : Nat) (t : Nat) (im : Nat) (mk : Nat) (rd : Nat) (po : Nat) (co : Nat) (tr : Nat) (wa : Nat) (wb_ : Nat) (fi : Nat) (cd : Nat) (l0 : Nat) (l1 : Nat) (d0 : Nat) (d1 : Nat) (g0 : Nat) (g1 : Nat) (ln : Int32) (fl : Int32) (pl : Int32) (ft : Nat → Int32) (fk : Nat → Int32) (wt : va_W) (i1 : Int32) (at_ : Int32) (ht : bTold T t l0 l1 d0 d1 g0 g1 ln fl pl ft fk wt) (hK : zKT fk) (hso : i1.toInt < 0 ∨ 2 < i1.toInt) : zMi l T yX11_text cX11_text 5 (some .int) 9 0 0 [.ref xo, .int i1, .int at_] [[zO10 xo t im mk rd po co tr wa wb_ fi cd], wt] (fun (r : Int32) bs => ∃ (wt_2 : va_W), bs = [[zO10 xo t im mk rd po co tr wa wb_ fi cd], wt_2] ∧ bTold T t l0 l1 d0 d1 g0 g1 0 0 (-1) ft fk wt_2 ∧ r = -2) := by
  refine zMi_of (own := RX11) (by decide) rfl (Nat.le_of_ble_eq_true rfl) ?_
  intro p e s m args below meth c A ls C hr hlocks hnm hAe G hl
  refine zHide (fun Q9 hQ9 => ?_)
  have hx := C.1
  have hb := C.2.1
  have hl : lv_has ls 5 [(0, .ref xo), (1, .int i1), (2, .int at_)] := hl
  refine lv_aload_n hx hb dX11_text_0 rfl (lv_at hl 0 rfl) ?_
  refine z_get C G clX11 0 rfl 0 (by decide) m_fl_RX11_10 rfl dX11_text_1 ?_
  refine lv_iload_n hx hb dX11_text_4 rfl (lv_at hl 1 rfl) ?_
  refine lv_iload_n hx hb dX11_text_5 rfl (lv_at hl 2 rfl) ?_
  refine z_Vi (bc := [wt]) (br := [[zO10 xo t im mk rd po co tr wa wb_ fi cd]]) (As := [.int i1, .int at_]) (rest := []) C G (c_placeFor l T t l0 l1 d0 d1 g0 g1 ln fl pl ft fk wt i1 at_ ht (by first | with_reducible assumption | with_reducible rfl | omega | assumption | rfl)) (kV_RX11_81 C.2.2.2.2 (Nat.le_of_ble_eq_true rfl) (Nat.le_of_ble_eq_true rfl)) [1] [1] rfl rfl (ci := 8) (qc := (RX9, TX9, 8)) rfl rfl (List.mem_flatten.mpr ⟨_, List.mem_of_getElem? (i := 0) rfl, (bTold_mem ht).choose_spec⟩) rfl rfl hl.1 dX11_text_6 (Nat.le_of_ble_eq_true rfl) (Nat.le_of_ble_eq_true rfl) (fun r_2 b1 H locs hw G => ?_)
  refine zAn2 hw ?_
  intro hbs9 h_1
  clear hw
  subst hbs9
  have G : zS T A s.heap s [[zO10 xo t im mk rd po co tr wa wb_ fi cd], wt] _ _ := G
  have hr9 : r_2.toInt = -2 := by have := h_1; omega
  refine lv_istore_n (lv' := [(3, .int r_2), (0, .ref xo), (1, .int i1), (2, .int at_)]) hx hb dX11_text_9 rfl hl (by decide) (zLvf_h rfl) (fun ls hl => ?_)
  refine lv_aload_n hx hb dX11_text_10 rfl (lv_at hl 1 rfl) ?_
  refine z_get C G clX11 0 rfl 0 (by decide) m_fl_RX11_10 rfl dX11_text_11 ?_
  refine zEx8 ht ?_
  intro a1_3 a2_4 a3_5 a4_6 a5_7 q1_8 q2_9 q3_10
  refine zCu7 ?_
  intro hbs9 h_11 h_12 h_13 h_14 h_15 h_16
  clear ht
  subst hbs9
  have G : zS T A s.heap s [[zO10 xo t im mk rd po co tr wa wb_ fi cd], [zO8 t a1_3 ln fl pl a2_4 a3_5 a4_6 a5_7], [zAr T 1 a1_3 600 ft], [zAr T 0 a2_4 3 fk], [zArq T 3 a3_5 2 q1_8], [zArq T 4 a4_6 2 q2_9], [zArq T 5 a5_7 2 q3_10]] _ _ := G.re rfl
  refine z_get C G clX9 1 rfl 1 (by decide) m_fl_RX11_73 rfl dX11_text_14 ?_
  refine lv_istore (lv' := [(4, .int ln), (3, .int r_2), (0, .ref xo), (1, .int i1), (2, .int at_)]) hx hb dX11_text_17 hl (by decide) (zLvf_h rfl) (fun ls hl => ?_)
  refine lv_aload_n hx hb dX11_text_19 rfl (lv_at hl 2 rfl) ?_
  refine z_get C G clX11 0 rfl 0 (by decide) m_fl_RX11_10 rfl dX11_text_20 ?_
  refine lv_iconst (v := 0) hx hb dX11_text_23 (by decide) ?_
  refine z_put C G clX9 1 rfl 1 (by decide) m_fl_RX11_73 rfl rfl rfl (Nat.le_of_ble_eq_true rfl) dX11_text_24 (fun H locs G => ?_)
  have G : zS T A s.heap s [[zO10 xo t im mk rd po co tr wa wb_ fi cd], [zO8 t a1_3 0 fl pl a2_4 a3_5 a4_6 a5_7], [zAr T 1 a1_3 600 ft], [zAr T 0 a2_4 3 fk], [zArq T 3 a3_5 2 q1_8], [zArq T 4 a4_6 2 q2_9], [zArq T 5 a5_7 2 q3_10]] _ _ := G
  refine lv_aload_n hx hb dX11_text_27 rfl (lv_at hl 2 rfl) ?_
  refine z_get C G clX11 0 rfl 0 (by decide) m_fl_RX11_10 rfl dX11_text_28 ?_
  refine lv_iconst (v := 0) hx hb dX11_text_31 (by decide) ?_
  refine z_put C G clX9 1 rfl 2 (by decide) m_fl_RX11_85 rfl rfl rfl (Nat.le_of_ble_eq_true rfl) dX11_text_32 (fun H locs G => ?_)
  have G : zS T A s.heap s [[zO10 xo t im mk rd po co tr wa wb_ fi cd], [zO8 t a1_3 0 0 pl a2_4 a3_5 a4_6 a5_7], [zAr T 1 a1_3 600 ft], [zAr T 0 a2_4 3 fk], [zArq T 3 a3_5 2 q1_8], [zArq T 4 a4_6 2 q2_9], [zArq T 5 a5_7 2 q3_10]] _ _ := G
  refine lv_aload_n hx hb dX11_text_35 rfl (lv_at hl 2 rfl) ?_
  refine z_get C G clX11 0 rfl 0 (by decide) m_fl_RX11_10 rfl dX11_text_36 ?_
  refine lv_iconst (v := (-1)) hx hb dX11_text_39 (by decide) ?_
  refine z_put C G clX9 1 rfl 3 (by decide) m_fl_RX11_88 rfl rfl rfl (Nat.le_of_ble_eq_true rfl) dX11_text_40 (fun H locs G => ?_)
  have G : zS T A s.heap s [[zO10 xo t im mk rd po co tr wa wb_ fi cd], [zO8 t a1_3 0 0 (-1) a2_4 a3_5 a4_6 a5_7], [zAr T 1 a1_3 600 ft], [zAr T 0 a2_4 3 fk], [zArq T 3 a3_5 2 q1_8], [zArq T 4 a4_6 2 q2_9], [zArq T 5 a5_7 2 q3_10]] _ _ := G
  refine lv_iload_n hx hb dX11_text_43 rfl (lv_at hl 1 rfl) ?_
  refine lv_bipush (v := (-2)) hx hb dX11_text_44 (by decide) ?_
  refine lv_icmp_ne (tgt := 52) hx hb dX11_text_46 (by decide) (fun q => absurd ((fa_eq r_2 ((-2) : Int32)).mpr (by show r_2.toInt = (-2 : Int); omega)) q) (fun _ => ?_)
  refine lv_bipush (v := (-2)) hx hb dX11_text_49 (by decide) ?_
  have hw_17 : bTold T t l0 l1 d0 d1 g0 g1 0 0 (-1) ft fk [zO8 t a1_3 0 0 (-1) a2_4 a3_5 a4_6 a5_7, zAr T 1 a1_3 600 ft, zAr T 0 a2_4 3 fk, zArq T 3 a3_5 2 q1_8, zArq T 4 a4_6 2 q2_9, zArq T 5 a5_7 2 q3_10] := ⟨a1_3, a2_4, a3_5, a4_6, a5_7, q1_8, q2_9, q3_10, rfl, h_11, h_12, h_13, h_14, h_15, h_16⟩
  have G : zS T A s.heap s [[zO10 xo t im mk rd po co tr wa wb_ fi cd], [zO8 t a1_3 0 0 (-1) a2_4 a3_5 a4_6 a5_7, zAr T 1 a1_3 600 ft, zAr T 0 a2_4 3 fk, zArq T 3 a3_5 2 q1_8, zArq T 4 a4_6 2 q2_9, zArq T 5 a5_7 2 q3_10]] _ _ := G.re rfl
  exact z_back hQ9 (z_iret C hr hlocks G (Nat.le_of_ble_eq_true rfl) (Nat.le_of_ble_eq_true rfl) dX11_text_51 ⟨([zO8 t a1_3 0 0 (-1) a2_4 a3_5 a4_6 a5_7, zAr T 1 a1_3 600 ft, zAr T 0 a2_4 3 fk, zArq T 3 a3_5 2 q1_8, zArq T 4 a4_6 2 q2_9, zArq T 5 a5_7 2 q3_10]), rfl, hw_17, rfl⟩)
set_option maxHeartbeats 4000000 in
set_option maxRecDepth 100000 in
/-- c_fm_textN -/
theorem c_fm_textN (l : Launch) (T : zTy) (mo : Nat) (m_all : Nat) (m_has : Nat) (i_size : Int32) (i_next : Int32) (i_where : Int32) (i_token : Int32) (i_number : Int32) (i_word : Int32) (i_wrong : Int32) (i_farCrossing : Int32) (m_read : Nat) (i_z0 : Int32) (i_crossings : Int32) (i_inns : Int32) (m_posts : Nat) (m_shut : Nat) (m_here : Nat) (i_steps : Int32) (i_done : Int32) (i_at : Int32) (i_gone : Int32) (m_was : Nat) (m_came : Nat) (m_seenAt : Nat) (m_rowWorth : Nat) (m_farBy : Nat) (m_used : Nat) (i_everywhere : Int32) (i_again0 : Int32) (i_d0 : Int32) (i_never : Int32) (i_firstCame : Int32) (i_longRun : Int32) (i_moved : Int32) (i_crowd : Int32) (i_l0 : Int32) (i_fitMany : Int32) (i_fitLeast : Int32) (i_fitMost : Int32) (m_fitPost : Nat) (m_fitEnd : Nat) (m_keptPosts : Nat) (i_x0 : Int32) (f_all : Nat → Int32) (f_read : Nat → Int32) (so_ : Int32) (at_ : Int32) (hso : so_.toInt < 0 ∨ 2 < so_.toInt) : zMi l T yX12_text cX12_text 5 (some .int) 9 0 0 [.ref mo, .int so_, .int at_] [[zO11 mo m_all m_has i_size i_next i_where i_token i_number i_word i_wrong i_farCrossing m_read i_z0 i_crossings i_inns m_posts m_shut m_here i_steps i_done i_at i_gone m_was m_came m_seenAt m_rowWorth m_farBy m_used i_everywhere i_again0 i_d0 i_never i_firstCame i_longRun i_moved i_crowd i_l0 i_fitMany i_fitLeast i_fitMost m_fitPost m_fitEnd m_keptPosts i_x0], [zAr T 0 m_all 3952 f_all], [zAr T 0 m_read 121 f_read]] (fun (r : Int32) bs => ∃ (j_size : Int32) (g_all : Nat → Int32), bs = [[zO11 mo m_all m_has j_size i_next i_where i_token i_number i_word i_wrong i_farCrossing m_read i_z0 i_crossings i_inns m_posts m_shut m_here i_steps i_done i_at i_gone m_was m_came m_seenAt m_rowWorth m_farBy m_used i_everywhere i_again0 i_d0 i_never i_firstCame i_longRun i_moved i_crowd i_l0 i_fitMany i_fitLeast i_fitMost m_fitPost m_fitEnd m_keptPosts i_x0], [zAr T 0 m_all 3952 g_all], [zAr T 0 m_read 121 f_read]] ∧ r = -2 ∧ g_all = upd (upd (upd f_all 4 0) 5 0) 6 (-1)) := by
  refine zMi_of (own := RX12) (by decide) rfl (Nat.le_of_ble_eq_true rfl) ?_
  intro p e s m args below meth c A ls C hr hlocks hnm hAe G hl
  refine zHide (fun Q9 hQ9 => ?_)
  have hx := C.1
  have hb := C.2.1
  have hl : lv_has ls 5 [(0, .ref mo), (1, .int so_), (2, .int at_)] := hl
  refine lv_aload_n hx hb dX12_text_0 rfl (lv_at hl 0 rfl) ?_
  refine lv_aload_n hx hb dX12_text_1 rfl (lv_at hl 0 rfl) ?_
  refine z_get C G clX12 0 rfl 0 (by decide) m_fl_RX12_7 rfl dX12_text_2 ?_
  refine lv_iconst (v := 4) hx hb dX12_text_5 (by decide) ?_
  refine z_ild C G 1 rfl (vp_in_nI (n := 4) (by decide) (by decide)) dX12_text_6 ?_
  refine lv_topi (fun v_1 ev_1 => ?_)
  rw [show ((4 : Int32).toNatClampNeg) = 4 from rfl] at ev_1
  subst ev_1
  refine z_put C G clX12 0 rfl 2 (by decide) m_fl_RX12_56 rfl rfl rfl (Nat.le_of_ble_eq_true rfl) dX12_text_7 (fun H locs G => ?_)
  have G : zS T A s.heap s [[zO11 mo m_all m_has (f_all 4) i_next i_where i_token i_number i_word i_wrong i_farCrossing m_read i_z0 i_crossings i_inns m_posts m_shut m_here i_steps i_done i_at i_gone m_was m_came m_seenAt m_rowWorth m_farBy m_used i_everywhere i_again0 i_d0 i_never i_firstCame i_longRun i_moved i_crowd i_l0 i_fitMany i_fitLeast i_fitMost m_fitPost m_fitEnd m_keptPosts i_x0], [zAr T 0 m_all 3952 f_all], [zAr T 0 m_read 121 f_read]] _ _ := G
  refine lv_aload_n hx hb dX12_text_10 rfl (lv_at hl 0 rfl) ?_
  refine z_get C G clX12 0 rfl 0 (by decide) m_fl_RX12_7 rfl dX12_text_11 ?_
  refine lv_iconst (v := 4) hx hb dX12_text_14 (by decide) ?_
  refine lv_iconst (v := 0) hx hb dX12_text_15 (by decide) ?_
  refine z_ist C G 1 rfl (vp_in_nI (n := 4) (by decide) (by decide)) dX12_text_16 (fun H locs G => ?_)
  have G : zS T A s.heap s [[zO11 mo m_all m_has (f_all 4) i_next i_where i_token i_number i_word i_wrong i_farCrossing m_read i_z0 i_crossings i_inns m_posts m_shut m_here i_steps i_done i_at i_gone m_was m_came m_seenAt m_rowWorth m_farBy m_used i_everywhere i_again0 i_d0 i_never i_firstCame i_longRun i_moved i_crowd i_l0 i_fitMany i_fitLeast i_fitMost m_fitPost m_fitEnd m_keptPosts i_x0], [zAr T 0 m_all 3952 (upd f_all 4 0)], [zAr T 0 m_read 121 f_read]] _ _ := G
  refine lv_aload_n hx hb dX12_text_17 rfl (lv_at hl 0 rfl) ?_
  refine z_get C G clX12 0 rfl 0 (by decide) m_fl_RX12_7 rfl dX12_text_18 ?_
  refine lv_iconst (v := 5) hx hb dX12_text_21 (by decide) ?_
  refine lv_iconst (v := 0) hx hb dX12_text_22 (by decide) ?_
  refine z_ist C G 1 rfl (vp_in_nI (n := 5) (by decide) (by decide)) dX12_text_23 (fun H locs G => ?_)
  have G : zS T A s.heap s [[zO11 mo m_all m_has (f_all 4) i_next i_where i_token i_number i_word i_wrong i_farCrossing m_read i_z0 i_crossings i_inns m_posts m_shut m_here i_steps i_done i_at i_gone m_was m_came m_seenAt m_rowWorth m_farBy m_used i_everywhere i_again0 i_d0 i_never i_firstCame i_longRun i_moved i_crowd i_l0 i_fitMany i_fitLeast i_fitMost m_fitPost m_fitEnd m_keptPosts i_x0], [zAr T 0 m_all 3952 (upd (upd f_all 4 0) 5 0)], [zAr T 0 m_read 121 f_read]] _ _ := G
  refine lv_aload_n hx hb dX12_text_24 rfl (lv_at hl 0 rfl) ?_
  refine z_get C G clX12 0 rfl 0 (by decide) m_fl_RX12_7 rfl dX12_text_25 ?_
  refine lv_bipush (v := 6) hx hb dX12_text_28 (by decide) ?_
  refine lv_iconst (v := (-1)) hx hb dX12_text_30 (by decide) ?_
  refine z_ist C G 1 rfl (vp_in_nI (n := 6) (by decide) (by decide)) dX12_text_31 (fun H locs G => ?_)
  have G : zS T A s.heap s [[zO11 mo m_all m_has (f_all 4) i_next i_where i_token i_number i_word i_wrong i_farCrossing m_read i_z0 i_crossings i_inns m_posts m_shut m_here i_steps i_done i_at i_gone m_was m_came m_seenAt m_rowWorth m_farBy m_used i_everywhere i_again0 i_d0 i_never i_firstCame i_longRun i_moved i_crowd i_l0 i_fitMany i_fitLeast i_fitMost m_fitPost m_fitEnd m_keptPosts i_x0], [zAr T 0 m_all 3952 (upd (upd (upd f_all 4 0) 5 0) 6 (-1))], [zAr T 0 m_read 121 f_read]] _ _ := G
  refine lv_iload_n hx hb dX12_text_32 rfl (lv_at hl 1 rfl) ?_
  refine lv_iconst (v := 0) hx hb dX12_text_33 (by decide) ?_
  refine lv_iconst (v := 2) hx hb dX12_text_34 (by decide) ?_
  refine z_Si (bc := []) (br := [[zO11 mo m_all m_has (f_all 4) i_next i_where i_token i_number i_word i_wrong i_farCrossing m_read i_z0 i_crossings i_inns m_posts m_shut m_here i_steps i_done i_at i_gone m_was m_came m_seenAt m_rowWorth m_farBy m_used i_everywhere i_again0 i_d0 i_never i_firstCame i_longRun i_moved i_crowd i_l0 i_fitMany i_fitLeast i_fitMost m_fitPost m_fitEnd m_keptPosts i_x0], [zAr T 0 m_all 3952 (upd (upd (upd f_all 4 0) 5 0) 6 (-1))], [zAr T 0 m_read 121 f_read]]) (As := [.int so_, .int 0, .int 2]) (rest := []) C G (c_m_isIn l T so_ 0 2) (kS_RX12_111 C.2.2.2.2 (Nat.le_of_ble_eq_true rfl) (Nat.le_of_ble_eq_true rfl)) [] [] rfl rfl rfl rfl hl.1 dX12_text_35 (Nat.le_of_ble_eq_true rfl) (Nat.le_of_ble_eq_true rfl) (fun r_3 b1 H locs hw G => ?_)
  refine zAn2 hw ?_
  intro hbs9 hc_2
  clear hw
  subst hbs9
  have G : zS T A s.heap s [[zO11 mo m_all m_has (f_all 4) i_next i_where i_token i_number i_word i_wrong i_farCrossing m_read i_z0 i_crossings i_inns m_posts m_shut m_here i_steps i_done i_at i_gone m_was m_came m_seenAt m_rowWorth m_farBy m_used i_everywhere i_again0 i_d0 i_never i_firstCame i_longRun i_moved i_crowd i_l0 i_fitMany i_fitLeast i_fitMost m_fitPost m_fitEnd m_keptPosts i_x0], [zAr T 0 m_all 3952 (upd (upd (upd f_all 4 0) 5 0) 6 (-1))], [zAr T 0 m_read 121 f_read]] _ _ := G
  rcases hc_2 with ⟨rfl, h_4, h_5⟩ | ⟨rfl, h_6⟩
  · have h_4 : (0 : Int) ≤ so_.toInt := h_4
    have h_5 : so_.toInt ≤ (2 : Int) := h_5
    refine lv_if_eq (tgt := 68) hx hb dX12_text_38 (by decide) (fun q => absurd q (by decide)) (fun _ => ?_)
    exact absurd (show (0 : Int) = 1 by omega) (by decide)
  · have h_6 : (so_.toInt < (0 : Int) ∨ (2 : Int) < so_.toInt) := h_6
    refine lv_if_eq (tgt := 68) hx hb dX12_text_38 (by decide) (fun _ => ?_) (fun q => absurd (by decide) q)
    refine lv_bipush (v := (-2)) hx hb dX12_text_68 (by decide) ?_
    exact z_back hQ9 (z_iret C hr hlocks G (Nat.le_of_ble_eq_true rfl) (Nat.le_of_ble_eq_true rfl) dX12_text_70 ⟨(f_all 4), (upd (upd (upd f_all 4 0) 5 0) 6 (-1)), rfl, rfl, rfl⟩)


/-! TEXT: the record of all that is told, behind a text -/
theorem z_cgA {cA : ClassId} {n : Nat} {f g : Nat → Int32} (e : ∀ j, j < n → f j = g j) : vp_cell cA (n, .inl f) = vp_cell cA (n, .inl g) := by
  rw [vp_cell_i, vp_cell_i]
  unfold arrV
  have : (fun j : Fin n => Value.int (f j.val)) = fun j : Fin n => Value.int (g j.val) := funext fun j => by rw [e j.val j.isLt]
  rw [this]
theorem z_cg {T : zTy} {A : Nat → Prop} {H0 H : Heap} {s : State} {bs : List va_W} {locs : List Loc} (G : zS T A H0 s bs H locs) (i : Nat) {a n : Nat} {cA : ClassId} {f : Nat → Int32} (ha : bs[i]? = some [(a, .inl (cA, n, .inl f))]) (g : Nat → Int32) (e : ∀ j, j < n → f j = g j) : zS T A H0 s (bs.set i [(a, .inl (cA, n, .inl g))]) H locs := by
  obtain ⟨k, hk, hset⟩ := zfl ha
  obtain ⟨g1, g2, g3, g4⟩ := G
  have key : ∀ (m : Nat) (q : Nat × va_E), (bs.flatten.set k (a, .inl (cA, n, .inl g)))[m]? = some q → m = k ∧ q = (a, .inl (cA, n, .inl g)) ∨ ¬ m = k ∧ bs.flatten[m]? = some q := by
    intro m q h
    rw [List.getElem?_set] at h
    by_cases c : k = m
    · rw [if_pos c] at h
      split at h
      · exact Or.inl ⟨c.symm, (Option.some.inj h).symm⟩
      · cases h
    · rw [if_neg c] at h
      exact Or.inr ⟨fun z => c z.symm, h⟩
  refine ⟨g1, ?_, ?_, g4⟩
  · rw [hset]
    intro m q h
    rcases key m q h with ⟨c1, c2⟩ | ⟨c1, c2⟩
    · have h0 := g2 k _ hk
      rw [c2]
      have h1 : H[a]? = some (vp_cell cA (n, .inl f)) := h0
      show H[a]? = some (vp_cell cA (n, .inl g))
      rw [← z_cgA e]
      exact h1
    · exact g2 m q c2
  · rw [hset]
    have ad : ∀ (m : Nat) (q : Nat × va_E), (bs.flatten.set k (a, .inl (cA, n, .inl g)))[m]? = some q → ∃ q', bs.flatten[m]? = some q' ∧ q'.1 = q.1 := by
      intro m q h
      rcases key m q h with ⟨c1, c2⟩ | ⟨c1, c2⟩
      · exact ⟨_, by rw [c1]; exact hk, by rw [c2]⟩
      · exact ⟨q, c2, rfl⟩
    refine ⟨fun i j p q hi hj e => ?_, fun m q h => ?_⟩
    · obtain ⟨p', a1, a2⟩ := ad i p hi
      obtain ⟨q', b1, b2⟩ := ad j q hj
      exact g3.1 i j p' q' a1 b1 (by rw [a2, b2]; exact e)
    · obtain ⟨q', b1, b2⟩ := ad m q h
      rw [← b2]
      exact g3.2 m q' b1
def zGd (f : Nat → Int32) (c : Nat) : Prop := (f (9 + c)).toInt = 0 ∨ (f (9 + c)).toInt < (f (2 + c)).toInt
theorem zGd_s {f : Nat → Int32} {i : Nat} (h : ∀ c, c < i → zGd f c) (hi : zGd f i) : ∀ c, c < i + 1 → zGd f c := by
  intro c hc
  by_cases e : c = i
  · rw [e]; exact hi
  · exact h c (by omega)
theorem zGd_e {f : Nat → Int32} {i : Nat} (h : ∃ c, c < i ∧ ¬ zGd f c) : ∃ c, c < i + 1 ∧ ¬ zGd f c := by
  obtain ⟨c, a, b⟩ := h
  exact ⟨c, by omega, b⟩
theorem zGd_p {f : Nat → Int32} (h : ∀ c, c < 7 → zGd f c) : pPosts f = true := pPosts_t.mpr h
theorem zGd_n {f : Nat → Int32} (h : ∃ c, c < 7 ∧ ¬ zGd f c) : pPosts f = false := by
  obtain ⟨c, a, b⟩ := h
  cases z : pPosts f with
  | false => rfl
  | true => exact absurd (pPosts_t.mp z c a) b
def pHd (G : Nat → Int32) (flt fpl : Int32) : Nat → Int32 := upd (upd (upd G 4 0) 5 flt) 6 fpl
def pOkAt (s : Nat) (at_ : Int32) (G : Nat → Int32) : Prop := if at_.toInt = -1 then (G s).toInt < 2 else 0 ≤ at_.toInt ∧ at_.toInt < (G s).toInt
def pNr (s : Nat) (at_ : Int32) (G : Nat → Int32) : Int32 := if at_.toInt = -1 then G s else at_
def pBase (s nr : Nat) : Nat := if s = 0 then 610 + 51 * nr else if s = 1 then 712 + 121 * nr else 954 + 17 * nr
def pSize (s : Nat) : Nat := if s = 0 then 51 else if s = 1 then 121 else 17
def pPut (s nr : Nat) (row G : Nat → Int32) : Nat → Int32 := fun j => if pBase s nr ≤ j ∧ j < pBase s nr + pSize s then row (j - pBase s nr) else G j
def pCnt (s : Nat) (at_ : Int32) (G : Nat → Int32) : Nat → Int32 := if at_.toInt = -1 then upd G s (G s + 1) else G
def zText (z : pS × (Nat → Int32)) (s : Nat) (at_ : Int32) (G G' : Nat → Int32) (r : Int32) : Prop :=
  (¬ pOkAt s at_ G ∧ r = -2 ∧ ∀ j, j < 988 → G' j = pHd G 0 (-1) j) ∨ (pOkAt s at_ G ∧ ¬ z.1.2.2.1.toInt = 0 ∧ r = -1 ∧ ∀ j, j < 988 → G' j = pHd G z.1.2.2.1 z.1.2.2.2.1 j) ∨ (pOkAt s at_ G ∧ z.1.2.2.1.toInt = 0 ∧ r = pNr s at_ G ∧ ∀ j, j < 988 → G' j = pPut s (pNr s at_ G).toInt.toNat z.2 (pCnt s at_ (pHd G z.1.2.2.1 z.1.2.2.2.1)) j)
theorem zRr_st {k : pT} {n : Nat} {sz nx wh tk nu wo : Int32} {f : Nat → Int32} (hk : k = tkT (fun j => f (10 + j)) n) (hb : ∀ j, j < n → 0 ≤ (f (10 + j)).toInt) (hn : n ≤ 600) (hs : sz = nI n) (hT : zTokR k 0 nx wh tk nu wo) : zRr k n sz nx wh tk nu wo 0 (-1) (upd (upd (upd f 4 0) 5 0) 6 (-1)) (0, 0, 0, -1, -1) := by
  have e : ∀ j, upd (upd (upd f 4 0) 5 0) 6 (-1) (10 + j) = f (10 + j) := fun j => by rw [z_ne (by omega), z_ne (by omega), z_ne (by omega)]
  exact ⟨⟨hk.trans (congrArg (fun q => tkT q n) (funext fun j => (e j).symm)), fun j hj => by rw [e j]; exact hb j hj, hn, hs, Nat.zero_le _⟩, rfl, fun _ => hT, rfl, rfl, rfl⟩
theorem pAlso_w {kd w w' : Int32} {a : pS} (h : a.2.1.toInt = 0 → w = w') : pAlso kd w a = pAlso kd w' a := by
  by_cases c : a.2.1.toInt = 0
  · rw [h c]
  · rw [pAlso_n (Or.inl c), pAlso_n (Or.inl c)]
theorem zHd_all {G g : Nat → Int32} {flt fpl : Int32} (hp : zPal (upd (upd (upd G 4 0) 5 0) 6 (-1)) g) (h5 : g 5 = flt) (h6 : g 6 = fpl) : g = pHd G flt fpl := by
  funext j
  unfold pHd
  by_cases c6 : j = 6
  · rw [c6, z_eq rfl]; exact h6
  · rw [z_ne c6]
    by_cases c5 : j = 5
    · rw [c5, z_eq rfl]; exact h5
    · rw [z_ne c5, hp j c5 c6, z_ne c6, z_ne c5]
theorem zText_b {z : pS × (Nat → Int32)} {s : Nat} {at_ : Int32} {G : Nat → Int32} (h : ¬ pOkAt s at_ G) : zText z s at_ G (upd (upd (upd G 4 0) 5 0) 6 (-1)) (-2) := Or.inl ⟨h, rfl, fun j hj => rfl⟩
theorem zText_f {z : pS × (Nat → Int32)} {s : Nat} {at_ : Int32} {G g : Nat → Int32} (h : pOkAt s at_ G) (hf : ¬ z.1.2.2.1.toInt = 0) (hp : zPal (upd (upd (upd G 4 0) 5 0) 6 (-1)) g) (h5 : g 5 = z.1.2.2.1) (h6 : g 6 = z.1.2.2.2.1) : zText z s at_ G g (-1) := Or.inr (Or.inl ⟨h, hf, rfl, fun j hj => by rw [zHd_all hp h5 h6]⟩)
theorem zText_k {z : pS × (Nat → Int32)} {s kk : Nat} {at_ r : Int32} {G g A x : Nat → Int32} (h : pOkAt s at_ G) (hf : z.1.2.2.1.toInt = 0) (hr : r = pNr s at_ G) (hk : (pNr s at_ G).toInt = (kk : Int)) (hp : zPal (upd (upd (upd G 4 0) 5 0) 6 (-1)) g) (h5 : g 5 = z.1.2.2.1) (h6 : g 6 = z.1.2.2.2.1) (hA : A = pCnt s at_ g) (hS : ∀ j, j < pSize s → x (pBase s kk + j) = z.2 j) (hO : ∀ j, (j < pBase s kk ∨ pBase s kk + pSize s ≤ j) → x j = A j) : zText z s at_ G x r := by
  refine Or.inr (Or.inr ⟨h, hf, hr, fun j hj => ?_⟩)
  have e : (pNr s at_ G).toInt.toNat = kk := by omega
  rw [e]
  unfold pPut
  split
  · rename_i c
    have := hS (j - pBase s kk) (by omega)
    rw [show pBase s kk + (j - pBase s kk) = j by omega] at this
    exact this
  · rename_i c
    rw [hO j (by omega), hA, zHd_all hp h5 h6]
theorem pCnt_y {s : Nat} {at_ : Int32} {g : Nat → Int32} (h : at_.toInt = -1) : pCnt s at_ g = upd g s (g s + 1) := if_pos h
theorem pCnt_n {s : Nat} {at_ : Int32} {g : Nat → Int32} (h : ¬ at_.toInt = -1) : pCnt s at_ g = g := if_neg h
theorem pNr_y {s : Nat} {at_ : Int32} {g : Nat → Int32} (h : at_.toInt = -1) : pNr s at_ g = g s := if_pos h
theorem pNr_n {s : Nat} {at_ : Int32} {g : Nat → Int32} (h : ¬ at_.toInt = -1) : pNr s at_ g = at_ := if_neg h
theorem pOkAt_y {s : Nat} {at_ : Int32} {G : Nat → Int32} (h : at_.toInt = -1) : pOkAt s at_ G ↔ (G s).toInt < 2 := by unfold pOkAt; rw [if_pos h]
theorem pOkAt_n {s : Nat} {at_ : Int32} {G : Nat → Int32} (h : ¬ at_.toInt = -1) : pOkAt s at_ G ↔ (0 ≤ at_.toInt ∧ at_.toInt < (G s).toInt) := by unfold pOkAt; rw [if_neg h]


/-! how many that fit are so -/
def gC (f : Nat → Bool × Nat × Nat) (p : Nat → Nat → Bool) (n : Nat) : Nat := rCn (fun w => (f w).1 && p w (f w).2.1) n
/-- the k-th that fits -/
def gWk (f : Nat → Bool × Nat × Nat) : Nat → Nat → Nat
  | 0, _ => 0
  | n + 1, k => if (f n).1 = true ∧ gN f n = k then n else gWk f n k
theorem gWk_e {f : Nat → Bool × Nat × Nat} {w k : Nat} (hf : (f w).1 = true) (hk : gN f w = k) (n : Nat) (h : w < n) : gWk f n k = w := by
  induction n with
  | zero => omega
  | succ n ih =>
    unfold gWk
    by_cases e : w = n
    · subst e
      exact if_pos ⟨hf, hk⟩
    · have l := gN_mono (f := f) (show w < n by omega) hf
      rw [if_neg (fun q => by have := q.2; omega)]
      exact ih (by omega)
theorem gWk_x {f : Nat → Bool × Nat × Nat} {k : Nat} (n : Nat) (h : k < gN f n) : gWk f n k < n ∧ (f (gWk f n k)).1 = true ∧ gN f (gWk f n k) = k := by
  induction n with
  | zero => exact absurd h (Nat.not_lt_zero _)
  | succ n ih =>
    cases q : (f n).1 with
    | false =>
      rw [gN_f q] at h
      have t := ih h
      have e : gWk f (n + 1) k = gWk f n k := if_neg (fun z => by rw [q] at z; exact absurd z.1 (by decide))
      rw [e]
      exact ⟨by omega, t.2⟩
    | true =>
      by_cases z : gN f n = k
      · have e : gWk f (n + 1) k = n := if_pos ⟨q, z⟩
        rw [e]
        exact ⟨by omega, q, z⟩
      · rw [gN_t q] at h
        have t := ih (by omega)
        have e : gWk f (n + 1) k = gWk f n k := if_neg (fun y => z y.2)
        rw [e]
        exact ⟨by omega, t.2⟩
theorem gC_r {f : Nat → Bool × Nat × Nat} {p : Nat → Nat → Bool} (N n : Nat) (hn : n ≤ N) : rCn (fun i => p (gWk f N i) (f (gWk f N i)).2.1) (gN f n) = gC f p n := by
  induction n with
  | zero => rfl
  | succ n ih =>
    have ih := ih (by omega)
    unfold gC at ih ⊢
    cases q : (f n).1 with
    | false =>
      rw [gN_f q, ih]
      refine (rCn_f (p := fun w => (f w).1 && p w (f w).2.1) ?_).symm
      show ¬ ((f n).1 && p n (f n).2.1) = true
      rw [q]
      exact Bool.false_ne_true
    | true =>
      have e : gWk f N (gN f n) = n := gWk_e q rfl N (by omega)
      rw [gN_t q]
      cases z : p n (f n).2.1 with
      | false =>
        rw [rCn_f (p := fun i => p (gWk f N i) (f (gWk f N i)).2.1) (by show ¬ p (gWk f N (gN f n)) (f (gWk f N (gN f n))).2.1 = true; rw [e, z]; decide), ih]
        refine (rCn_f (p := fun w => (f w).1 && p w (f w).2.1) ?_).symm
        show ¬ ((f n).1 && p n (f n).2.1) = true
        rw [q, z]
        decide
      | true =>
        rw [rCn_t (p := fun i => p (gWk f N i) (f (gWk f N i)).2.1) (by show p (gWk f N (gN f n)) (f (gWk f N (gN f n))).2.1 = true; rw [e, z]), ih]
        refine (rCn_t (p := fun w => (f w).1 && p w (f w).2.1) ?_).symm
        show ((f n).1 && p n (f n).2.1) = true
        rw [q, z]
        rfl
theorem gC_le {f : Nat → Bool × Nat × Nat} {p : Nat → Nat → Bool} (n : Nat) : gC f p n ≤ n := rCn_le n
/-- all rows of a find -/
def gRk (f : Nat → Bool × Nat × Nat) (N M : Nat) (r : Nat → Int32) : Prop := N ≤ 16384 ∧ M ≤ 16384 ∧ gRw f N r ∧ ∀ w, w < N → (f w).2.1 < M
theorem gRk_i {f : Nat → Bool × Nat × Nat} {N M i : Nat} {r : Nat → Int32} (h : gRk f N M r) (hi : i < gN f N) : r i = nI (16384 * (f (gWk f N i)).2.1 + gWk f N i) ∧ gWk f N i < N ∧ (f (gWk f N i)).2.1 < M := by
  obtain ⟨a, b, c⟩ := gWk_x N hi
  have e := h.2.2.1 _ a b
  rw [c] at e
  exact ⟨e, a, h.2.2.2 _ a⟩
theorem zFway_e {f : Nat → Bool × Nat × Nat} {N M i m1 : Nat} {r : Nat → Int32} (h : gRk f N M r) (hi : i < gN f N) (hm : gN f N ≤ m1) : zFway r m1 (nI i) = nI (gWk f N i) := by
  obtain ⟨a, b, c⟩ := gRk_i h hi
  have n1 := h.1
  have n2 := h.2.1
  have g := gN_le (f := f) N
  have t := nI_toInt (n := i) (by omega)
  unfold zFway
  rw [if_pos ⟨by omega, by omega⟩, show (nI i).toNatClampNeg = i from pk_cl i rfl (by omega), a, pk_andN (by omega) 14 (by decide)]
  exact congrArg nI (by omega)
theorem gTh_e {f : Nat → Bool × Nat × Nat} {N M i : Nat} {r : Nat → Int32} (h : gRk f N M r) (hi : i < gN f N) : r i >>> (14 &&& 31) = nI (f (gWk f N i)).2.1 := by
  obtain ⟨a, b, c⟩ := gRk_i h hi
  have n1 := h.1
  have n2 := h.2.1
  rw [a, pk_shrN (by omega) (14 &&& 31) 14 (by decide)]
  exact congrArg nI (by omega)
/-- the most of seven -/
def gMx (g : Nat → Nat) : Nat → Nat
  | 0 => 0
  | k + 1 => if gMx g k < g k then g k else gMx g k
theorem gMx_cg {g h : Nat → Nat} (n : Nat) (e : ∀ k, k < n → g k = h k) : gMx g n = gMx h n := by
  induction n with
  | zero => rfl
  | succ n ih =>
    unfold gMx
    rw [ih (fun k hk => e k (by omega)), e n (by omega)]
theorem gMx_le {g : Nat → Nat} {m : Nat} (n : Nat) (h : ∀ k, k < n → g k ≤ m) : gMx g n ≤ m := by
  induction n with
  | zero => exact Nat.zero_le _
  | succ n ih =>
    have a := ih (fun k hk => h k (by omega))
    have b := h n (by omega)
    unfold gMx
    split <;> omega
theorem gMx_ge {g : Nat → Nat} (n : Nat) : ∀ k, k < n → g k ≤ gMx g n := by
  induction n with
  | zero => intro k hk; omega
  | succ n ih =>
    intro k hk
    unfold gMx
    by_cases e : k = n
    · rw [e]
      split <;> omega
    · have := ih k (by omega)
      split <;> omega
theorem gMx_ex {g : Nat → Nat} (n : Nat) : gMx g n = 0 ∨ ∃ k, k < n ∧ gMx g n = g k := by
  induction n with
  | zero => exact Or.inl rfl
  | succ n ih =>
    unfold gMx
    split
    · exact Or.inr ⟨n, by omega, rfl⟩
    · rcases ih with q | ⟨k, a, b⟩
      · exact Or.inl q
      · exact Or.inr ⟨k, by omega, b⟩
theorem gMx_u {g h : Nat → Nat} {n p : Nat} (hp : p < n) (e : ∀ k, k < n → ¬ k = p → h k = g k) (u : h p = g p + 1) : gMx h n = if gMx g n < h p then h p else gMx g n := by
  have a := gMx_ge (g := h) n p hp
  have b : gMx g n ≤ gMx h n := by
    rcases gMx_ex (g := g) n with q | ⟨k, k1, k2⟩
    · omega
    · rw [k2]
      have := gMx_ge (g := h) n k k1
      by_cases z : k = p
      · rw [z] at this ⊢
        omega
      · rw [e k k1 z] at this
        exact this
  have c : gMx h n ≤ if gMx g n < h p then h p else gMx g n := by
    rcases gMx_ex (g := h) n with q | ⟨k, k1, k2⟩
    · omega
    · rw [k2]
      by_cases z : k = p
      · rw [z]
        split <;> omega
      · have := gMx_ge (g := g) n k k1
        rw [e k k1 z]
        split <;> omega
  split <;> (split at c <;> omega)
def gTo (W L : Nat → Int32) (f : Nat → Bool × Nat × Nat) (N : Nat) (c : Int32) : Nat := gMx (fun k => gC f (fun _ t => decide (rWh W L t c = nI k)) N) 7
def gAsk (W L : Nat → Int32) (inn : Int32) (f : Nat → Bool × Nat × Nat) (N : Nat) : Nat → Int32 × Nat
  | 0 => (-1, 0)
  | c + 1 => if zBit inn (nI c) = 1 then gAsk W L inn f N c else if (gAsk W L inn f N c).1 = -1 ∨ gTo W L f N (nI c) < (gAsk W L inn f N c).2 then (nI c, gTo W L f N (nI c)) else gAsk W L inn f N c
def gSc (W : Nat → Int32) (f : Nat → Bool × Nat × Nat) (N c k : Nat) : Nat := gC f (fun w _ => decide (aRd W w c = k)) N
def gSu (W : Nat → Int32) (f : Nat → Bool × Nat × Nat) (N c : Nat) : Int32 := if gSc W f N c 0 = gN f N then 0 else if gSc W f N c 1 = gN f N then 1 else if gSc W f N c 2 = gN f N then 2 else if gSc W f N c 3 = gN f N then 3 else -1
def gFits (W L : Nat → Int32) (m : Nat) (inn : Int32) (f : Nat → Bool × Nat × Nat) (N : Nat) (q : Int32) : Int32 := if q.toInt < 0 then -2 else if q.toInt = 0 then nI (gN f N) else if q.toInt = 1 then (if gN f N = 0 then -1 else (gAsk W L inn f N m).1) else if q.toInt < 9 then (if gN f N = 0 ∨ ¬ q.toInt - 2 < (m : Int) then -1 else gSu W f N (q.toInt - 2).toNat) else if 10 ≤ q.toInt ∧ q.toInt - 10 < (gN f N : Int) then aNu W (gWk f N (q.toInt - 10).toNat) m else -2
/-- one road alone can be all theirs -/
theorem gSc_u {W : Nat → Int32} {f : Nat → Bool × Nat × Nat} {c k : Nat} (n : Nat) : gSc W f n c k ≤ gN f n ∧ (gSc W f n c k = gN f n ↔ ∀ w, w < n → (f w).1 = true → aRd W w c = k) := by
  induction n with
  | zero => exact ⟨Nat.le_refl _, fun _ w h => absurd h (by omega), fun _ => rfl⟩
  | succ n ih =>
    cases q : (f n).1 with
    | false =>
      have e : gSc W f (n + 1) c k = gSc W f n c k := rCn_f (p := fun w => (f w).1 && decide (aRd W w c = k)) (by show ¬ ((f n).1 && decide (aRd W n c = k)) = true; rw [q]; exact Bool.false_ne_true)
      rw [e, gN_f q]
      refine ⟨ih.1, ih.2.trans ⟨fun h w hw hf => ?_, fun h w hw hf => h w (by omega) hf⟩⟩
      by_cases z : w = n
      · rw [z, q] at hf
        exact absurd hf (by decide)
      · exact h w (by omega) hf
    | true =>
      rw [gN_t q]
      by_cases z : aRd W n c = k
      · have e : gSc W f (n + 1) c k = gSc W f n c k + 1 := rCn_t (p := fun w => (f w).1 && decide (aRd W w c = k)) (by show ((f n).1 && decide (aRd W n c = k)) = true; rw [q, decide_eq_true z]; rfl)
        rw [e]
        refine ⟨by omega, ⟨fun h w hw hf => ?_, fun h => by rw [ih.2.mpr (fun w hw hf => h w (by omega) hf)]⟩⟩
        by_cases y : w = n
        · rw [y]
          exact z
        · exact ih.2.mp (by omega) w (by omega) hf
      · have e : gSc W f (n + 1) c k = gSc W f n c k := rCn_f (p := fun w => (f w).1 && decide (aRd W w c = k)) (by show ¬ ((f n).1 && decide (aRd W n c = k)) = true; rw [q, decide_eq_false z]; exact Bool.false_ne_true)
        rw [e]
        refine ⟨by omega, ⟨fun h => by omega, fun h => absurd (h n (by omega) q) z⟩⟩
theorem gSu_y {W : Nat → Int32} {f : Nat → Bool × Nat × Nat} {N c k w0 : Nat} (hk : k < 4) (hw : w0 < N) (hf : (f w0).1 = true) (h : aRd W w0 c = k) (e : gSc W f N c k = gN f N) : gSu W f N c = nI k := by
  have u : ∀ j, ¬ j = k → ¬ gSc W f N c j = gN f N := fun j hj q => hj (((gSc_u N).2.mp q w0 hw hf).symm.trans h)
  unfold gSu
  rcases (show k = 0 ∨ k = 1 ∨ k = 2 ∨ k = 3 by omega) with q | q | q | q <;> subst q
  · rw [if_pos e]; rfl
  · rw [if_neg (u 0 (by decide)), if_pos e]; rfl
  · rw [if_neg (u 0 (by decide)), if_neg (u 1 (by decide)), if_pos e]; rfl
  · rw [if_neg (u 0 (by decide)), if_neg (u 1 (by decide)), if_neg (u 2 (by decide)), if_pos e]; rfl
theorem gSu_n {W : Nat → Int32} {f : Nat → Bool × Nat × Nat} {N c k w0 : Nat} (hw : w0 < N) (hf : (f w0).1 = true) (h : aRd W w0 c = k) (e : ¬ gSc W f N c k = gN f N) : gSu W f N c = -1 := by
  have u : ∀ j, ¬ gSc W f N c j = gN f N := fun j q => by
    have t := ((gSc_u N).2.mp q w0 hw hf).symm.trans h
    rw [t] at q
    exact e q
  unfold gSu
  rw [if_neg (u 0), if_neg (u 1), if_neg (u 2), if_neg (u 3)]
theorem gTo_le {W L : Nat → Int32} {f : Nat → Bool × Nat × Nat} {N : Nat} {c : Int32} : gTo W L f N c ≤ N := gMx_le 7 (fun k _ => gC_le N)
set_option maxHeartbeats 4000000 in
set_option maxRecDepth 100000 in
/-- c_e_pointing -/
theorem c_e_pointing (l : Launch) (T : zTy) (t : Nat) (e0 : Int32) (e1 : Int32) (e2 : Int32) (e4 : Int32) (e5 : Int32) (r1 : Nat → Int32) (m1 : Nat) (r2 : Nat → Int32) (wf : va_W) (n3 : Nat) (h : Nat) (la : Nat) (md : Int32) (wy : Int32) (pc_ : Int32) (f1 : Nat → Int32) (f2 : Nat → Int32) (f3 : Nat → Int32) (f4 : Nat → Int32) (f5 : Nat → Int32) (f6 : Nat → Int32) (n4 : Nat) (ww : va_W) (cr : Int32) (inn : Int32) (k1 : Nat → Int32) (k2 : Nat → Int32) (k3 : Nat → Int32) (k4 : Nat → Int32) (z : va_W) (F_ : Nat → Bool × Nat × Nat) (N_ : Nat) (x : Int32) (q_ : Nat) (hwf : bFit T t e0 e1 e2 (nI n3) e4 e5 r1 m1 r2 wf) (hww : bWays T h la md wy pc_ f1 f2 f3 f4 f5 f6 n4 ww) (hz : bLand T la cr inn k1 k2 k3 k4 z) (hn : n4 ≤ 131072) (hI : zLI cr k1 k3) (hF : aF cr inn k1 f1 f2) (hGk : gRk F_ N_ (aPr (aW cr inn k1) 7) r1) (h3 : n3 = gN F_ N_) (hm3 : n3 ≤ m1) (hm : m1 ≤ 16384) (hxh : zHas cr x) (hq_ : q_ < 1000) : zMi l T yX3_pointing cX3_pointing 6 (some .int) 3 0 0 [.ref t, .ref h, .int x, .int (nI q_)] [wf, ww, z] (fun (r : Int32) bs => bs = [wf, ww, z] ∧ r = nI (gC F_ (fun w _ => decide (aRd (aW cr inn k1) w x.toInt.toNat = q_)) N_)) := by
  refine zMi_of (own := RX3) (by decide) rfl (Nat.le_of_ble_eq_true rfl) ?_
  intro p e s m args below meth c A ls C hr hlocks hnm hAe G hl
  refine zHide (fun Qz_ hQz_ => ?_)
  have hx := C.1
  have hb := C.2.1
  have hl : lv_has ls 6 [(0, .ref t), (1, .ref h), (2, .int x), (3, .int (nI q_))] := hl
  have hp79 : aPr (aW cr inn k1) 7 ≤ 16384 := aPr_7 hI
  have hcr := hI.1
  have hN9 := hGk.1
  have hgl9 := gN_le (f := F_) N_
  obtain ⟨hxh1, hxh2, hxh3⟩ := hxh
  refine lv_iconst (v := 0) hx hb dX3_pointing_0 (by decide) ?_
  refine lv_istore (lv' := [(4, .int 0), (0, .ref t), (1, .ref h), (2, .int x), (3, .int (nI q_))]) hx hb dX3_pointing_1 hl (by decide) (zLvf_h rfl) (fun ls hl => ?_)
  refine lv_iconst (v := 0) hx hb dX3_pointing_3 (by decide) ?_
  refine lv_istore (lv' := [(5, .int 0), (4, .int 0), (0, .ref t), (1, .ref h), (2, .int x), (3, .int (nI q_))]) hx hb dX3_pointing_4 hl (by decide) (zLvf_h rfl) (fun ls hl => ?_)
  refine zEx2 hwf ?_
  intro a1_1 a2_2 hbs9
  clear hwf
  subst hbs9
  have G : zS T A s.heap s [[zO3 t e0 e1 e2 (nI n3) e4 e5 a1_1 a2_2], [zAr T 0 a1_1 m1 r1], [zAr T 0 a2_2 7 r2], ww, z] _ _ := G.re rfl
  have hw_3 : bFit T t e0 e1 e2 (nI n3) e4 e5 r1 m1 r2 [zO3 t e0 e1 e2 (nI n3) e4 e5 a1_1 a2_2, zAr T 0 a1_1 m1 r1, zAr T 0 a2_2 7 r2] := ⟨a1_1, a2_2, rfl⟩
  have G : zS T A s.heap s [[zO3 t e0 e1 e2 (nI n3) e4 e5 a1_1 a2_2, zAr T 0 a1_1 m1 r1, zAr T 0 a2_2 7 r2], ww, z] _ _ := G.re rfl
  refine z_lp2 (T := T) 6 (fun (i : Nat) (cm : Nat) => [[zO3 t e0 e1 e2 (nI n3) e4 e5 a1_1 a2_2, zAr T 0 a1_1 m1 r1, zAr T 0 a2_2 7 r2], ww, z]) (fun (i : Nat) (cm : Nat) => [(5, .int (nI i)), (4, .int (nI cm)), (0, .ref t), (1, .ref h), (2, .int x), (3, .int (nI q_))]) (fun (i : Nat) (cm : Nat) => i ≤ n3 ∧ cm = rCn (fun jj => decide (aRd (aW cr inn k1) (gWk F_ N_ jj) x.toInt.toNat = q_)) i) (fun (i : Nat) (cm : Nat) => n3 - i) ?_ 0 0 (show 0 ≤ n3 ∧ 0 = rCn (fun jj => decide (aRd (aW cr inn k1) (gWk F_ N_ jj) x.toInt.toNat = q_)) 0 from ⟨by omega, rfl⟩) G (lv_sub hl [0, 1, 2, 3, 4, 5] rfl)
  intro i cm hI9 ih_6 H locs ls G hl
  replace hI9 : i ≤ n3 ∧ cm = rCn (fun jj => decide (aRd (aW cr inn k1) (gWk F_ N_ jj) x.toInt.toNat = q_)) i := hI9
  refine zAn2 hI9 ?_
  intro hi hcm
  clear hI9
  replace G : zS T A s.heap s [[zO3 t e0 e1 e2 (nI n3) e4 e5 a1_1 a2_2, zAr T 0 a1_1 m1 r1, zAr T 0 a2_2 7 r2], ww, z] _ _ := G
  replace hl : lv_has ls 6 [(5, .int (nI i)), (4, .int (nI cm)), (0, .ref t), (1, .ref h), (2, .int x), (3, .int (nI q_))] := hl
  refine lv_iload hx hb dX3_pointing_6 (lv_at hl 0 rfl) ?_
  refine lv_aload_n hx hb dX3_pointing_8 rfl (lv_at hl 2 rfl) ?_
  have G : zS T A s.heap s [[zO3 t e0 e1 e2 (nI n3) e4 e5 a1_1 a2_2], [zAr T 0 a1_1 m1 r1], [zAr T 0 a2_2 7 r2], ww, z] _ _ := G.re rfl
  refine z_get C G clX3 0 rfl 3 (by decide) m_fl_RX3_34 rfl dX3_pointing_9 ?_
  refine lv_icmp_ge (tgt := 39) hx hb dX3_pointing_12 (by decide) (fun c_4 => ?_) (fun c_4 => ?_)
  · have c_4n : n3 ≤ i := (nI_leI (a := n3) (b := i) (by omega) (by omega)).mp c_4
    refine lv_iload hx hb dX3_pointing_39 (lv_at hl 1 rfl) ?_
    have hw_5 : bFit T t e0 e1 e2 (nI n3) e4 e5 r1 m1 r2 [zO3 t e0 e1 e2 (nI n3) e4 e5 a1_1 a2_2, zAr T 0 a1_1 m1 r1, zAr T 0 a2_2 7 r2] := ⟨a1_1, a2_2, rfl⟩
    have G : zS T A s.heap s [[zO3 t e0 e1 e2 (nI n3) e4 e5 a1_1 a2_2, zAr T 0 a1_1 m1 r1, zAr T 0 a2_2 7 r2], ww, z] _ _ := G.re rfl
    exact z_back hQz_ (z_iret C hr hlocks G (Nat.le_of_ble_eq_true rfl) (Nat.le_of_ble_eq_true rfl) dX3_pointing_41 ⟨rfl, (by rw [hcm, show i = gN F_ N_ by omega]; exact congrArg nI (gC_r (p := fun w _ => decide (aRd (aW cr inn k1) w x.toInt.toNat = q_)) N_ N_ (Nat.le_refl _)))⟩)
  · have c_4n : ¬ n3 ≤ i := fun q => c_4 ((nI_leI (a := n3) (b := i) (by omega) (by omega)).mpr q)
    obtain ⟨hri1, hri2, hri3⟩ := gRk_i (i := i) hGk (by omega)
    refine lv_aload_n hx hb dX3_pointing_15 rfl (lv_at hl 3 rfl) ?_
    refine lv_aload_n hx hb dX3_pointing_16 rfl (lv_at hl 2 rfl) ?_
    refine lv_iload hx hb dX3_pointing_17 (lv_at hl 0 rfl) ?_
    have hw_6 : bFit T t e0 e1 e2 (nI n3) e4 e5 r1 m1 r2 [zO3 t e0 e1 e2 (nI n3) e4 e5 a1_1 a2_2, zAr T 0 a1_1 m1 r1, zAr T 0 a2_2 7 r2] := ⟨a1_1, a2_2, rfl⟩
    have G : zS T A s.heap s [[zO3 t e0 e1 e2 (nI n3) e4 e5 a1_1 a2_2, zAr T 0 a1_1 m1 r1, zAr T 0 a2_2 7 r2], ww, z] _ _ := G.re rfl
    refine z_Vi (bc := [[zO3 t e0 e1 e2 (nI n3) e4 e5 a1_1 a2_2, zAr T 0 a1_1 m1 r1, zAr T 0 a2_2 7 r2]]) (br := [ww, z]) (As := [.int (nI i)]) (rest := [.ref h]) C G (c_way l T t e0 e1 e2 (nI n3) e4 e5 r1 m1 r2 ([zO3 t e0 e1 e2 (nI n3) e4 e5 a1_1 a2_2, zAr T 0 a1_1 m1 r1, zAr T 0 a2_2 7 r2]) (nI i) hw_6 (by first | with_reducible assumption | with_reducible rfl | omega | assumption | rfl)) (kV_RX3_92 C.2.2.2.2 (Nat.le_of_ble_eq_true rfl) (Nat.le_of_ble_eq_true rfl)) [0] [0] rfl rfl (ci := 3) (qc := (RX3, TX3, 8)) rfl rfl (List.mem_flatten.mpr ⟨_, List.mem_of_getElem? (i := 0) rfl, (bFit_mem hw_6).choose_spec⟩) rfl rfl hl.1 dX3_pointing_19 (Nat.le_of_ble_eq_true rfl) (Nat.le_of_ble_eq_true rfl) (fun r_8 b1 H locs hw G => ?_)
    refine zAn2 hw ?_
    intro hbs9 h_7
    clear hw
    subst hbs9
    have G : zS T A s.heap s [ww, z, [zO3 t e0 e1 e2 (nI n3) e4 e5 a1_1 a2_2, zAr T 0 a1_1 m1 r1, zAr T 0 a2_2 7 r2]] _ _ := G
    subst h_7
    refine lv_topi (fun y_9 ey_9 => ?_)
    obtain rfl : y_9 = nI (gWk F_ N_ i) := ey_9.trans (zFway_e hGk (by omega) (by omega))
    refine lv_iload_n hx hb dX3_pointing_22 rfl (lv_at hl 4 rfl) ?_
    refine z_Vi (bc := [ww]) (br := [z, [zO3 t e0 e1 e2 (nI n3) e4 e5 a1_1 a2_2, zAr T 0 a1_1 m1 r1, zAr T 0 a2_2 7 r2]]) (As := [.int (nI (gWk F_ N_ i)), .int x]) (rest := []) C G (c_road l T h la md wy pc_ f1 f2 f3 f4 f5 f6 n4 ww (nI (gWk F_ N_ i)) x hww) (kV_RX3_96 C.2.2.2.2 (Nat.le_of_ble_eq_true rfl) (Nat.le_of_ble_eq_true rfl)) [0] [0] rfl rfl (ci := 0) (qc := (RX0, TX0, 10)) rfl rfl (List.mem_flatten.mpr ⟨_, List.mem_of_getElem? (i := 0) rfl, (bWays_mem hww).choose_spec⟩) rfl rfl hl.1 dX3_pointing_23 (Nat.le_of_ble_eq_true rfl) (Nat.le_of_ble_eq_true rfl) (fun r_11 b1 H locs hw G => ?_)
    refine zAn2 hw ?_
    intro hbs9 h_10
    clear hw
    subst hbs9
    have G : zS T A s.heap s [z, [zO3 t e0 e1 e2 (nI n3) e4 e5 a1_1 a2_2, zAr T 0 a1_1 m1 r1, zAr T 0 a2_2 7 r2], ww] _ _ := G
    subst h_10
    refine lv_topi (fun y_12 ey_12 => ?_)
    obtain rfl : y_12 = nI (aRd (aW cr inn k1) (gWk F_ N_ i) x.toInt.toNat) := ey_12.trans ((by have q9 := zRoad_z (w := gWk F_ N_ i) (c := x.toInt.toNat) hI hF (by omega) (by omega); rw [← (z_nI (x := x) (m := x.toInt.toNat) (by omega) (by omega))] at q9; exact q9))
    have hrl9 := aRd_lt (W := (aW cr inn k1)) (w := gWk F_ N_ i) (c := x.toInt.toNat)
    have hrm9 : aCh (aW cr inn k1) x.toInt.toNat ≤ 4 := aCh_4 (inn := inn) hI _
    refine lv_iload_n hx hb dX3_pointing_26 rfl (lv_at hl 5 rfl) ?_
    refine lv_icmp_ne (tgt := 33) hx hb dX3_pointing_27 (by decide) (fun c_13 => ?_) (fun c_13 => ?_)
    · have c_13n : ¬ aRd (aW cr inn k1) (gWk F_ N_ i) x.toInt.toNat = q_ := fun q => c_13 ((nI_eq (a := aRd (aW cr inn k1) (gWk F_ N_ i) x.toInt.toNat) (b := q_) (by omega) (by omega)).mpr q)
      refine lv_iinc (v := nI (i + 1)) (lv' := [(5, .int (nI (i + 1))), (4, .int (nI cm)), (0, .ref t), (1, .ref h), (2, .int x), (3, .int (nI q_))]) hx hb dX3_pointing_33 hl (k := 0) rfl (z_inc i 1) (by decide) (zLvf_h rfl) (fun ls hl => ?_)
      refine lv_goto (tgt := 6) hx hb dX3_pointing_36 (by decide) ?_
      have G := G.sub (bs' := [[zO3 t e0 e1 e2 (nI n3) e4 e5 a1_1 a2_2, zAr T 0 a1_1 m1 r1, zAr T 0 a2_2 7 r2], ww, z]) [1, 2, 0] rfl
      exact ih_6 (i + 1) cm (show (i + 1) ≤ n3 ∧ cm = rCn (fun jj => decide (aRd (aW cr inn k1) (gWk F_ N_ jj) x.toInt.toNat = q_)) (i + 1) from ⟨by omega, (by rw [hcm]; exact (rCn_f (p := (fun jj => decide (aRd (aW cr inn k1) (gWk F_ N_ jj) x.toInt.toNat = q_))) (fun q9 => absurd (of_decide_eq_true q9) (by omega))).symm)⟩) (show n3 - (i + 1) < n3 - i from by omega) _ _ ls G (lv_sub hl [0, 1, 2, 3, 4, 5] rfl)
    · have c_13n : aRd (aW cr inn k1) (gWk F_ N_ i) x.toInt.toNat = q_ := (nI_eq (a := aRd (aW cr inn k1) (gWk F_ N_ i) x.toInt.toNat) (b := q_) (by omega) (by omega)).mp c_13
      refine lv_iinc (v := nI (cm + 1)) (lv' := [(4, .int (nI (cm + 1))), (5, .int (nI i)), (0, .ref t), (1, .ref h), (2, .int x), (3, .int (nI q_))]) hx hb dX3_pointing_30 hl (k := 1) rfl (z_inc cm 1) (by decide) (zLvf_h rfl) (fun ls hl => ?_)
      refine lv_iinc (v := nI (i + 1)) (lv' := [(5, .int (nI (i + 1))), (4, .int (nI (cm + 1))), (0, .ref t), (1, .ref h), (2, .int x), (3, .int (nI q_))]) hx hb dX3_pointing_33 hl (k := 1) rfl (z_inc i 1) (by decide) (zLvf_h rfl) (fun ls hl => ?_)
      refine lv_goto (tgt := 6) hx hb dX3_pointing_36 (by decide) ?_
      have G := G.sub (bs' := [[zO3 t e0 e1 e2 (nI n3) e4 e5 a1_1 a2_2, zAr T 0 a1_1 m1 r1, zAr T 0 a2_2 7 r2], ww, z]) [1, 2, 0] rfl
      exact ih_6 (i + 1) (cm + 1) (show (i + 1) ≤ n3 ∧ (cm + 1) = rCn (fun jj => decide (aRd (aW cr inn k1) (gWk F_ N_ jj) x.toInt.toNat = q_)) (i + 1) from ⟨by omega, (by rw [hcm]; exact (rCn_t (p := (fun jj => decide (aRd (aW cr inn k1) (gWk F_ N_ jj) x.toInt.toNat = q_))) (decide_eq_true (by omega))).symm)⟩) (show n3 - (i + 1) < n3 - i from by omega) _ _ ls G (lv_sub hl [0, 1, 2, 3, 4, 5] rfl)
set_option maxHeartbeats 4000000 in
set_option maxRecDepth 100000 in
/-- c_e_sure -/
theorem c_e_sure (l : Launch) (T : zTy) (t : Nat) (e0 : Int32) (e1 : Int32) (e2 : Int32) (e4 : Int32) (e5 : Int32) (r1 : Nat → Int32) (m1 : Nat) (r2 : Nat → Int32) (wf : va_W) (n3 : Nat) (h : Nat) (la : Nat) (md : Int32) (wy : Int32) (pc_ : Int32) (f1 : Nat → Int32) (f2 : Nat → Int32) (f3 : Nat → Int32) (f4 : Nat → Int32) (f5 : Nat → Int32) (f6 : Nat → Int32) (n4 : Nat) (ww : va_W) (cr : Int32) (inn : Int32) (k1 : Nat → Int32) (k2 : Nat → Int32) (k3 : Nat → Int32) (k4 : Nat → Int32) (z : va_W) (F_ : Nat → Bool × Nat × Nat) (N_ : Nat) (x : Int32) (hwf : bFit T t e0 e1 e2 (nI n3) e4 e5 r1 m1 r2 wf) (hww : bWays T h la md wy pc_ f1 f2 f3 f4 f5 f6 n4 ww) (hz : bLand T la cr inn k1 k2 k3 k4 z) (hn : n4 ≤ 131072) (hI : zLI cr k1 k3) (hF : aF cr inn k1 f1 f2) (hGk : gRk F_ N_ (aPr (aW cr inn k1) 7) r1) (h3 : n3 = gN F_ N_) (hm3 : n3 ≤ m1) (hm : m1 ≤ 16384) : zMi l T yX3_sure cX3_sure 4 (some .int) 4 0 0 [.ref t, .ref h, .int x] [wf, ww, z] (fun (r : Int32) bs => bs = [wf, ww, z] ∧ r = (if gN F_ N_ = 0 ∨ ¬ (0 ≤ x.toInt ∧ x.toInt < cr.toInt) then -1 else gSu (aW cr inn k1) F_ N_ x.toInt.toNat)) := by
  refine zMi_of (own := RX3) (by decide) rfl (Nat.le_of_ble_eq_true rfl) ?_
  intro p e s m args below meth c A ls C hr hlocks hnm hAe G hl
  refine zHide (fun Qz_ hQz_ => ?_)
  have hx := C.1
  have hb := C.2.1
  have hl : lv_has ls 4 [(0, .ref t), (1, .ref h), (2, .int x)] := hl
  have hp79 : aPr (aW cr inn k1) 7 ≤ 16384 := aPr_7 hI
  have hcr := hI.1
  have hN9 := hGk.1
  have hgl9 := gN_le (f := F_) N_
  refine lv_aload_n hx hb dX3_sure_0 rfl (lv_at hl 0 rfl) ?_
  refine zEx2 hwf ?_
  intro a1_1 a2_2 hbs9
  clear hwf
  subst hbs9
  have G : zS T A s.heap s [[zO3 t e0 e1 e2 (nI n3) e4 e5 a1_1 a2_2], [zAr T 0 a1_1 m1 r1], [zAr T 0 a2_2 7 r2], ww, z] _ _ := G.re rfl
  refine z_get C G clX3 0 rfl 3 (by decide) m_fl_RX3_34 rfl dX3_sure_1 ?_
  refine lv_if_eq (tgt := 18) hx hb dX3_sure_4 (by decide) (fun c_3 => ?_) (fun c_3 => ?_)
  · have c_3n : n3 = 0 := (nI_eq (a := n3) (b := 0) (by omega) (by omega)).mp c_3
    refine lv_iconst (v := (-1)) hx hb dX3_sure_18 (by decide) ?_
    have hw_4 : bFit T t e0 e1 e2 (nI n3) e4 e5 r1 m1 r2 [zO3 t e0 e1 e2 (nI n3) e4 e5 a1_1 a2_2, zAr T 0 a1_1 m1 r1, zAr T 0 a2_2 7 r2] := ⟨a1_1, a2_2, rfl⟩
    have G : zS T A s.heap s [[zO3 t e0 e1 e2 (nI n3) e4 e5 a1_1 a2_2, zAr T 0 a1_1 m1 r1, zAr T 0 a2_2 7 r2], ww, z] _ _ := G.re rfl
    exact z_back hQz_ (z_iret C hr hlocks G (Nat.le_of_ble_eq_true rfl) (Nat.le_of_ble_eq_true rfl) dX3_sure_19 ⟨rfl, (by first | exact (by rw [if_pos (by first | exact Or.inl (by omega) | exact Or.inr (by omega))]) | exact (by rw [if_neg (by omega)]; exact (gSu_n hwx1 hwx2 rfl (fun q9 => by have q8 := hsp9.trans (congrArg nI (q9.trans h3.symm)); exact absurd q8 (by first | with_reducible assumption | assumption))).symm))⟩)
  · have c_3n : ¬ n3 = 0 := fun q => c_3 ((nI_eq (a := n3) (b := 0) (by omega) (by omega)).mpr q)
    refine lv_aload_n hx hb dX3_sure_7 rfl (lv_at hl 1 rfl) ?_
    refine zEx6 hww ?_
    intro a1_5 a2_6 a3_7 a4_8 a5_9 a6_10 hbs9
    clear hww
    subst hbs9
    have G : zS T A s.heap s [[zO3 t e0 e1 e2 (nI n3) e4 e5 a1_1 a2_2], [zAr T 0 a1_1 m1 r1], [zAr T 0 a2_2 7 r2], [zO0 h md wy la pc_ a1_5 a2_6 a3_7 a4_8 a5_9 a6_10], [zAr T 0 a1_5 7 f1], [zAr T 0 a2_6 7 f2], [zAr T 0 a3_7 7 f3], [zAr T 0 a4_8 n4 f4], [zAr T 0 a5_9 n4 f5], [zAr T 0 a6_10 n4 f6], z] _ _ := G.re rfl
    refine z_get C G clX0 3 rfl 2 (by decide) m_fl_RX3_55 rfl dX3_sure_8 ?_
    refine lv_iload_n hx hb dX3_sure_11 rfl (lv_at hl 2 rfl) ?_
    refine z_Vi (bc := [z]) (br := [[zO3 t e0 e1 e2 (nI n3) e4 e5 a1_1 a2_2], [zAr T 0 a1_1 m1 r1], [zAr T 0 a2_2 7 r2], [zO0 h md wy la pc_ a1_5 a2_6 a3_7 a4_8 a5_9 a6_10], [zAr T 0 a1_5 7 f1], [zAr T 0 a2_6 7 f2], [zAr T 0 a3_7 7 f3], [zAr T 0 a4_8 n4 f4], [zAr T 0 a5_9 n4 f5], [zAr T 0 a6_10 n4 f6]]) (As := [.int x]) (rest := []) C G (c_has l T la cr inn k1 k2 k3 k4 z x hz) (kV_RX3_58 C.2.2.2.2 (Nat.le_of_ble_eq_true rfl) (Nat.le_of_ble_eq_true rfl)) [10] [10] rfl rfl (ci := 4) (qc := (RX4, TX4, 6)) rfl rfl (List.mem_flatten.mpr ⟨_, List.mem_of_getElem? (i := 0) rfl, (bLand_mem hz).choose_spec⟩) rfl rfl hl.1 dX3_sure_12 (Nat.le_of_ble_eq_true rfl) (Nat.le_of_ble_eq_true rfl) (fun r_12 b1 H locs hw G => ?_)
    refine zAn2 hw ?_
    intro hbs9 hc_11
    clear hw
    subst hbs9
    have G : zS T A s.heap s [[zO3 t e0 e1 e2 (nI n3) e4 e5 a1_1 a2_2], [zAr T 0 a1_1 m1 r1], [zAr T 0 a2_2 7 r2], [zO0 h md wy la pc_ a1_5 a2_6 a3_7 a4_8 a5_9 a6_10], [zAr T 0 a1_5 7 f1], [zAr T 0 a2_6 7 f2], [zAr T 0 a3_7 7 f3], [zAr T 0 a4_8 n4 f4], [zAr T 0 a5_9 n4 f5], [zAr T 0 a6_10 n4 f6], z] _ _ := G
    rcases hc_11 with ⟨rfl, h_13, h_14, h_15⟩ | ⟨rfl, h_16⟩
    · have h_13 : 0 ≤ x.toInt := h_13
      have h_14 : x.toInt < cr.toInt := h_14
      have h_15 : x.toInt < 7 := h_15
      refine lv_if_ne (tgt := 20) hx hb dX3_sure_15 (by decide) (fun _ => ?_) (fun q => absurd q (by decide))
      obtain ⟨hri1, hri2, hri3⟩ := gRk_i (i := 0) hGk (by omega)
      obtain ⟨hwx1, hwx2, hwx3⟩ := gWk_x (f := F_) (k := 0) N_ (by omega)
      refine lv_aload_n hx hb dX3_sure_20 rfl (lv_at hl 1 rfl) ?_
      refine lv_aload_n hx hb dX3_sure_21 rfl (lv_at hl 0 rfl) ?_
      refine lv_iconst (v := 0) hx hb dX3_sure_22 (by decide) ?_
      have hw_17 : bFit T t e0 e1 e2 (nI n3) e4 e5 r1 m1 r2 [zO3 t e0 e1 e2 (nI n3) e4 e5 a1_1 a2_2, zAr T 0 a1_1 m1 r1, zAr T 0 a2_2 7 r2] := ⟨a1_1, a2_2, rfl⟩
      have G : zS T A s.heap s [[zO3 t e0 e1 e2 (nI n3) e4 e5 a1_1 a2_2, zAr T 0 a1_1 m1 r1, zAr T 0 a2_2 7 r2], [zO0 h md wy la pc_ a1_5 a2_6 a3_7 a4_8 a5_9 a6_10], [zAr T 0 a1_5 7 f1], [zAr T 0 a2_6 7 f2], [zAr T 0 a3_7 7 f3], [zAr T 0 a4_8 n4 f4], [zAr T 0 a5_9 n4 f5], [zAr T 0 a6_10 n4 f6], z] _ _ := G.re rfl
      refine z_Vi (bc := [[zO3 t e0 e1 e2 (nI n3) e4 e5 a1_1 a2_2, zAr T 0 a1_1 m1 r1, zAr T 0 a2_2 7 r2]]) (br := [[zO0 h md wy la pc_ a1_5 a2_6 a3_7 a4_8 a5_9 a6_10], [zAr T 0 a1_5 7 f1], [zAr T 0 a2_6 7 f2], [zAr T 0 a3_7 7 f3], [zAr T 0 a4_8 n4 f4], [zAr T 0 a5_9 n4 f5], [zAr T 0 a6_10 n4 f6], z]) (As := [.int 0]) (rest := [.ref h]) C G (c_way l T t e0 e1 e2 (nI n3) e4 e5 r1 m1 r2 ([zO3 t e0 e1 e2 (nI n3) e4 e5 a1_1 a2_2, zAr T 0 a1_1 m1 r1, zAr T 0 a2_2 7 r2]) 0 hw_17 (by first | with_reducible assumption | with_reducible rfl | omega | assumption | rfl)) (kV_RX3_92 C.2.2.2.2 (Nat.le_of_ble_eq_true rfl) (Nat.le_of_ble_eq_true rfl)) [0] [0] rfl rfl (ci := 3) (qc := (RX3, TX3, 8)) rfl rfl (List.mem_flatten.mpr ⟨_, List.mem_of_getElem? (i := 0) rfl, (bFit_mem hw_17).choose_spec⟩) rfl rfl hl.1 dX3_sure_23 (Nat.le_of_ble_eq_true rfl) (Nat.le_of_ble_eq_true rfl) (fun r_19 b1 H locs hw G => ?_)
      refine zAn2 hw ?_
      intro hbs9 h_18
      clear hw
      subst hbs9
      have G : zS T A s.heap s [[zO0 h md wy la pc_ a1_5 a2_6 a3_7 a4_8 a5_9 a6_10], [zAr T 0 a1_5 7 f1], [zAr T 0 a2_6 7 f2], [zAr T 0 a3_7 7 f3], [zAr T 0 a4_8 n4 f4], [zAr T 0 a5_9 n4 f5], [zAr T 0 a6_10 n4 f6], z, [zO3 t e0 e1 e2 (nI n3) e4 e5 a1_1 a2_2, zAr T 0 a1_1 m1 r1, zAr T 0 a2_2 7 r2]] _ _ := G
      subst h_18
      refine lv_topi (fun y_20 ey_20 => ?_)
      obtain rfl : y_20 = nI (gWk F_ N_ 0) := ey_20.trans (zFway_e (i := 0) hGk (by omega) (by omega))
      refine lv_iload_n hx hb dX3_sure_26 rfl (lv_at hl 2 rfl) ?_
      have hw_21 : bWays T h la md wy pc_ f1 f2 f3 f4 f5 f6 n4 [zO0 h md wy la pc_ a1_5 a2_6 a3_7 a4_8 a5_9 a6_10, zAr T 0 a1_5 7 f1, zAr T 0 a2_6 7 f2, zAr T 0 a3_7 7 f3, zAr T 0 a4_8 n4 f4, zAr T 0 a5_9 n4 f5, zAr T 0 a6_10 n4 f6] := ⟨a1_5, a2_6, a3_7, a4_8, a5_9, a6_10, rfl⟩
      have G : zS T A s.heap s [[zO0 h md wy la pc_ a1_5 a2_6 a3_7 a4_8 a5_9 a6_10, zAr T 0 a1_5 7 f1, zAr T 0 a2_6 7 f2, zAr T 0 a3_7 7 f3, zAr T 0 a4_8 n4 f4, zAr T 0 a5_9 n4 f5, zAr T 0 a6_10 n4 f6], z, [zO3 t e0 e1 e2 (nI n3) e4 e5 a1_1 a2_2, zAr T 0 a1_1 m1 r1, zAr T 0 a2_2 7 r2]] _ _ := G.re rfl
      refine z_Vi (bc := [[zO0 h md wy la pc_ a1_5 a2_6 a3_7 a4_8 a5_9 a6_10, zAr T 0 a1_5 7 f1, zAr T 0 a2_6 7 f2, zAr T 0 a3_7 7 f3, zAr T 0 a4_8 n4 f4, zAr T 0 a5_9 n4 f5, zAr T 0 a6_10 n4 f6]]) (br := [z, [zO3 t e0 e1 e2 (nI n3) e4 e5 a1_1 a2_2, zAr T 0 a1_1 m1 r1, zAr T 0 a2_2 7 r2]]) (As := [.int (nI (gWk F_ N_ 0)), .int x]) (rest := []) C G (c_road l T h la md wy pc_ f1 f2 f3 f4 f5 f6 n4 ([zO0 h md wy la pc_ a1_5 a2_6 a3_7 a4_8 a5_9 a6_10, zAr T 0 a1_5 7 f1, zAr T 0 a2_6 7 f2, zAr T 0 a3_7 7 f3, zAr T 0 a4_8 n4 f4, zAr T 0 a5_9 n4 f5, zAr T 0 a6_10 n4 f6]) (nI (gWk F_ N_ 0)) x hw_21) (kV_RX3_96 C.2.2.2.2 (Nat.le_of_ble_eq_true rfl) (Nat.le_of_ble_eq_true rfl)) [0] [0] rfl rfl (ci := 0) (qc := (RX0, TX0, 10)) rfl rfl (List.mem_flatten.mpr ⟨_, List.mem_of_getElem? (i := 0) rfl, (bWays_mem hw_21).choose_spec⟩) rfl rfl hl.1 dX3_sure_27 (Nat.le_of_ble_eq_true rfl) (Nat.le_of_ble_eq_true rfl) (fun r_23 b1 H locs hw G => ?_)
      refine zAn2 hw ?_
      intro hbs9 h_22
      clear hw
      subst hbs9
      have G : zS T A s.heap s [z, [zO3 t e0 e1 e2 (nI n3) e4 e5 a1_1 a2_2, zAr T 0 a1_1 m1 r1, zAr T 0 a2_2 7 r2], [zO0 h md wy la pc_ a1_5 a2_6 a3_7 a4_8 a5_9 a6_10, zAr T 0 a1_5 7 f1, zAr T 0 a2_6 7 f2, zAr T 0 a3_7 7 f3, zAr T 0 a4_8 n4 f4, zAr T 0 a5_9 n4 f5, zAr T 0 a6_10 n4 f6]] _ _ := G
      subst h_22
      refine lv_topi (fun y_24 ey_24 => ?_)
      obtain rfl : y_24 = nI (aRd (aW cr inn k1) (gWk F_ N_ 0) x.toInt.toNat) := ey_24.trans ((by have q9 := zRoad_z (w := (gWk F_ N_ 0)) (c := x.toInt.toNat) hI hF (by omega) (by omega); rw [← (z_nI (x := x) (m := x.toInt.toNat) (by omega) (by omega))] at q9; exact q9))
      have hrl9 := aRd_lt (W := (aW cr inn k1)) (w := (gWk F_ N_ 0)) (c := x.toInt.toNat)
      have hrm9 : aCh (aW cr inn k1) x.toInt.toNat ≤ 4 := aCh_4 (inn := inn) hI _
      refine lv_istore_n (lv' := [(3, .int (nI (aRd (aW cr inn k1) (gWk F_ N_ 0) x.toInt.toNat))), (0, .ref t), (1, .ref h), (2, .int x)]) hx hb dX3_sure_30 rfl hl (by decide) (zLvf_h rfl) (fun ls hl => ?_)
      refine lv_aload_n hx hb dX3_sure_31 rfl (lv_at hl 1 rfl) ?_
      refine lv_aload_n hx hb dX3_sure_32 rfl (lv_at hl 2 rfl) ?_
      refine lv_iload_n hx hb dX3_sure_33 rfl (lv_at hl 3 rfl) ?_
      refine lv_iload_n hx hb dX3_sure_34 rfl (lv_at hl 0 rfl) ?_
      refine z_Vi (bc := [[zO3 t e0 e1 e2 (nI n3) e4 e5 a1_1 a2_2, zAr T 0 a1_1 m1 r1, zAr T 0 a2_2 7 r2], [zO0 h md wy la pc_ a1_5 a2_6 a3_7 a4_8 a5_9 a6_10, zAr T 0 a1_5 7 f1, zAr T 0 a2_6 7 f2, zAr T 0 a3_7 7 f3, zAr T 0 a4_8 n4 f4, zAr T 0 a5_9 n4 f5, zAr T 0 a6_10 n4 f6], z]) (br := []) (As := [.ref h, .int x, .int (nI (aRd (aW cr inn k1) (gWk F_ N_ 0) x.toInt.toNat))]) (rest := []) C G (c_e_pointing l T t e0 e1 e2 e4 e5 r1 m1 r2 ([zO3 t e0 e1 e2 (nI n3) e4 e5 a1_1 a2_2, zAr T 0 a1_1 m1 r1, zAr T 0 a2_2 7 r2]) n3 h la md wy pc_ f1 f2 f3 f4 f5 f6 n4 ([zO0 h md wy la pc_ a1_5 a2_6 a3_7 a4_8 a5_9 a6_10, zAr T 0 a1_5 7 f1, zAr T 0 a2_6 7 f2, zAr T 0 a3_7 7 f3, zAr T 0 a4_8 n4 f4, zAr T 0 a5_9 n4 f5, zAr T 0 a6_10 n4 f6]) cr inn k1 k2 k3 k4 z F_ N_ x (aRd (aW cr inn k1) (gWk F_ N_ 0) x.toInt.toNat) hw_17 hw_21 hz (by first | with_reducible assumption | with_reducible rfl | omega | assumption | rfl) (by first | with_reducible assumption | with_reducible rfl | omega | assumption | rfl) (by first | with_reducible assumption | with_reducible rfl | omega | assumption | rfl) (by first | with_reducible assumption | with_reducible rfl | omega | assumption | rfl) (by first | with_reducible assumption | with_reducible rfl | omega | assumption | rfl) (by first | with_reducible assumption | with_reducible rfl | omega | assumption | rfl) (by first | with_reducible assumption | with_reducible rfl | omega | assumption | rfl) ⟨by omega, by omega, by omega⟩ (by omega)) (kV_RX3_99 C.2.2.2.2 (Nat.le_of_ble_eq_true rfl) (Nat.le_of_ble_eq_true rfl)) [1, 2, 0] [0, 0, 0] rfl rfl (ci := 3) (qc := (RX3, TX3, 8)) rfl rfl (List.mem_flatten.mpr ⟨_, List.mem_of_getElem? (i := 0) rfl, (bFit_mem hw_17).choose_spec⟩) rfl rfl hl.1 dX3_sure_35 (Nat.le_of_ble_eq_true rfl) (Nat.le_of_ble_eq_true rfl) (fun r_26 b1 H locs hw G => ?_)
      refine zAn2 hw ?_
      intro hbs9 h_25
      clear hw
      subst hbs9
      have G : zS T A s.heap s [[zO3 t e0 e1 e2 (nI n3) e4 e5 a1_1 a2_2, zAr T 0 a1_1 m1 r1, zAr T 0 a2_2 7 r2], [zO0 h md wy la pc_ a1_5 a2_6 a3_7 a4_8 a5_9 a6_10, zAr T 0 a1_5 7 f1, zAr T 0 a2_6 7 f2, zAr T 0 a3_7 7 f3, zAr T 0 a4_8 n4 f4, zAr T 0 a5_9 n4 f5, zAr T 0 a6_10 n4 f6], z] _ _ := G
      have hsp9 : r_26 = nI (gSc (aW cr inn k1) F_ N_ x.toInt.toNat (aRd (aW cr inn k1) (gWk F_ N_ 0) x.toInt.toNat)) := h_25
      have hsl9 := gC_le (f := F_) (p := fun w _ => decide (aRd (aW cr inn k1) w x.toInt.toNat = (aRd (aW cr inn k1) (gWk F_ N_ 0) x.toInt.toNat))) N_
      refine lv_aload_n hx hb dX3_sure_38 rfl (lv_at hl 1 rfl) ?_
      have G : zS T A s.heap s [[zO3 t e0 e1 e2 (nI n3) e4 e5 a1_1 a2_2], [zAr T 0 a1_1 m1 r1], [zAr T 0 a2_2 7 r2], [zO0 h md wy la pc_ a1_5 a2_6 a3_7 a4_8 a5_9 a6_10, zAr T 0 a1_5 7 f1, zAr T 0 a2_6 7 f2, zAr T 0 a3_7 7 f3, zAr T 0 a4_8 n4 f4, zAr T 0 a5_9 n4 f5, zAr T 0 a6_10 n4 f6], z] _ _ := G.re rfl
      refine z_get C G clX3 0 rfl 3 (by decide) m_fl_RX3_34 rfl dX3_sure_39 ?_
      refine lv_icmp_ne (tgt := 49) hx hb dX3_sure_42 (by decide) (fun c_27 => ?_) (fun c_27 => ?_)
      · have c_27n : ¬ r_26.toInt = (n3 : Int) := fun q => c_27 ((fa_eq _ _).mpr (by rw [nI_toInt (n := n3) (by omega)]; exact q))
        refine lv_iconst (v := (-1)) hx hb dX3_sure_49 (by decide) ?_
        have hw_28 : bFit T t e0 e1 e2 (nI n3) e4 e5 r1 m1 r2 [zO3 t e0 e1 e2 (nI n3) e4 e5 a1_1 a2_2, zAr T 0 a1_1 m1 r1, zAr T 0 a2_2 7 r2] := ⟨a1_1, a2_2, rfl⟩
        have G : zS T A s.heap s [[zO3 t e0 e1 e2 (nI n3) e4 e5 a1_1 a2_2, zAr T 0 a1_1 m1 r1, zAr T 0 a2_2 7 r2], [zO0 h md wy la pc_ a1_5 a2_6 a3_7 a4_8 a5_9 a6_10, zAr T 0 a1_5 7 f1, zAr T 0 a2_6 7 f2, zAr T 0 a3_7 7 f3, zAr T 0 a4_8 n4 f4, zAr T 0 a5_9 n4 f5, zAr T 0 a6_10 n4 f6], z] _ _ := G.re rfl
        exact z_back hQz_ (z_iret C hr hlocks G (Nat.le_of_ble_eq_true rfl) (Nat.le_of_ble_eq_true rfl) dX3_sure_50 ⟨rfl, (by first | exact (by rw [if_pos (by first | exact Or.inl (by omega) | exact Or.inr (by omega))]) | exact (by rw [if_neg (by omega)]; exact (gSu_n hwx1 hwx2 rfl (fun q9 => by have q8 := hsp9.trans (congrArg nI (q9.trans h3.symm)); exact absurd q8 (by first | with_reducible assumption | assumption))).symm))⟩)
      · have c_27n : r_26.toInt = (n3 : Int) := by have q := (fa_eq _ _).mp c_27; rw [nI_toInt (n := n3) (by omega)] at q; exact q
        refine lv_iload_n hx hb dX3_sure_45 rfl (lv_at hl 0 rfl) ?_
        refine lv_goto (tgt := 50) hx hb dX3_sure_46 (by decide) ?_
        have hw_29 : bFit T t e0 e1 e2 (nI n3) e4 e5 r1 m1 r2 [zO3 t e0 e1 e2 (nI n3) e4 e5 a1_1 a2_2, zAr T 0 a1_1 m1 r1, zAr T 0 a2_2 7 r2] := ⟨a1_1, a2_2, rfl⟩
        have G : zS T A s.heap s [[zO3 t e0 e1 e2 (nI n3) e4 e5 a1_1 a2_2, zAr T 0 a1_1 m1 r1, zAr T 0 a2_2 7 r2], [zO0 h md wy la pc_ a1_5 a2_6 a3_7 a4_8 a5_9 a6_10, zAr T 0 a1_5 7 f1, zAr T 0 a2_6 7 f2, zAr T 0 a3_7 7 f3, zAr T 0 a4_8 n4 f4, zAr T 0 a5_9 n4 f5, zAr T 0 a6_10 n4 f6], z] _ _ := G.re rfl
        exact z_back hQz_ (z_iret C hr hlocks G (Nat.le_of_ble_eq_true rfl) (Nat.le_of_ble_eq_true rfl) dX3_sure_50 ⟨rfl, (by rw [if_neg (by omega)]; exact (gSu_y (by omega) hwx1 hwx2 rfl (by have q9 : nI (gSc (aW cr inn k1) F_ N_ x.toInt.toNat (aRd (aW cr inn k1) (gWk F_ N_ 0) x.toInt.toNat)) = nI n3 := hsp9.symm.trans (by first | with_reducible assumption | assumption); have q8 := congrArg Int32.toInt q9; rw [nI_toInt (by show gC _ _ _ < _; omega), nI_toInt (by omega)] at q8; omega)).symm)⟩)
    · have h_16 : (x.toInt < 0 ∨ cr.toInt ≤ x.toInt ∨ 7 ≤ x.toInt) := h_16
      refine lv_if_ne (tgt := 20) hx hb dX3_sure_15 (by decide) (fun q => absurd (by decide) q) (fun _ => ?_)
      refine lv_iconst (v := (-1)) hx hb dX3_sure_18 (by decide) ?_
      have hw_30 : bFit T t e0 e1 e2 (nI n3) e4 e5 r1 m1 r2 [zO3 t e0 e1 e2 (nI n3) e4 e5 a1_1 a2_2, zAr T 0 a1_1 m1 r1, zAr T 0 a2_2 7 r2] := ⟨a1_1, a2_2, rfl⟩
      have G : zS T A s.heap s [[zO3 t e0 e1 e2 (nI n3) e4 e5 a1_1 a2_2, zAr T 0 a1_1 m1 r1, zAr T 0 a2_2 7 r2], [zO0 h md wy la pc_ a1_5 a2_6 a3_7 a4_8 a5_9 a6_10], [zAr T 0 a1_5 7 f1], [zAr T 0 a2_6 7 f2], [zAr T 0 a3_7 7 f3], [zAr T 0 a4_8 n4 f4], [zAr T 0 a5_9 n4 f5], [zAr T 0 a6_10 n4 f6], z] _ _ := G.re rfl
      have hw_31 : bWays T h la md wy pc_ f1 f2 f3 f4 f5 f6 n4 [zO0 h md wy la pc_ a1_5 a2_6 a3_7 a4_8 a5_9 a6_10, zAr T 0 a1_5 7 f1, zAr T 0 a2_6 7 f2, zAr T 0 a3_7 7 f3, zAr T 0 a4_8 n4 f4, zAr T 0 a5_9 n4 f5, zAr T 0 a6_10 n4 f6] := ⟨a1_5, a2_6, a3_7, a4_8, a5_9, a6_10, rfl⟩
      have G : zS T A s.heap s [[zO3 t e0 e1 e2 (nI n3) e4 e5 a1_1 a2_2, zAr T 0 a1_1 m1 r1, zAr T 0 a2_2 7 r2], [zO0 h md wy la pc_ a1_5 a2_6 a3_7 a4_8 a5_9 a6_10, zAr T 0 a1_5 7 f1, zAr T 0 a2_6 7 f2, zAr T 0 a3_7 7 f3, zAr T 0 a4_8 n4 f4, zAr T 0 a5_9 n4 f5, zAr T 0 a6_10 n4 f6], z] _ _ := G.re rfl
      exact z_back hQz_ (z_iret C hr hlocks G (Nat.le_of_ble_eq_true rfl) (Nat.le_of_ble_eq_true rfl) dX3_sure_19 ⟨rfl, (by first | exact (by rw [if_pos (by first | exact Or.inl (by omega) | exact Or.inr (by omega))]) | exact (by rw [if_neg (by omega)]; exact (gSu_n hwx1 hwx2 rfl (fun q9 => by have q8 := hsp9.trans (congrArg nI (q9.trans h3.symm)); exact absurd q8 (by first | with_reducible assumption | assumption))).symm))⟩)
set_option maxHeartbeats 4000000 in
set_option maxRecDepth 100000 in
/-- c_e_mostTogether -/
theorem c_e_mostTogether (l : Launch) (T : zTy) (t : Nat) (e0 : Int32) (e1 : Int32) (e2 : Int32) (e4 : Int32) (e5 : Int32) (r1 : Nat → Int32) (m1 : Nat) (r2 : Nat → Int32) (wf : va_W) (n3 : Nat) (h : Nat) (la : Nat) (md : Int32) (wy : Int32) (pc_ : Int32) (f1 : Nat → Int32) (f2 : Nat → Int32) (f3 : Nat → Int32) (f4 : Nat → Int32) (f5 : Nat → Int32) (f6 : Nat → Int32) (n4 : Nat) (ww : va_W) (cr : Int32) (inn : Int32) (k1 : Nat → Int32) (k2 : Nat → Int32) (k3 : Nat → Int32) (k4 : Nat → Int32) (z : va_W) (F_ : Nat → Bool × Nat × Nat) (N_ : Nat) (x : Int32) (hwf : bFit T t e0 e1 e2 (nI n3) e4 e5 r1 m1 r2 wf) (hww : bWays T h la md wy pc_ f1 f2 f3 f4 f5 f6 n4 ww) (hz : bLand T la cr inn k1 k2 k3 k4 z) (hn : n4 ≤ 131072) (hI : zLI cr k1 k3) (hTt : zTab cr inn k1 k2 wy pc_ f1 f2 f5 n4) (hLq : zLq cr k1 k2) (hGk : gRk F_ N_ (aPr (aW cr inn k1) 7) r1) (h3 : n3 = gN F_ N_) (hm3 : n3 ≤ m1) (hm : m1 ≤ 16384) (hxh : zHas cr x) : zMi l T yX3_mostTogether cX3_mostTogether 6 (some .int) 3 0 0 [.ref t, .ref h, .int x] [wf, ww, z] (fun (r : Int32) bs => ∃ (w2 : va_W) (g2 : Nat → Int32), bs = [w2, ww, z] ∧ bFit T t e0 e1 e2 (nI n3) e4 e5 r1 m1 g2 w2 ∧ r = nI (gTo (aW cr inn k1) k2 F_ N_ x)) := by
  refine zMi_of (own := RX3) (by decide) rfl (Nat.le_of_ble_eq_true rfl) ?_
  intro p e s m args below meth c A ls C hr hlocks hnm hAe G hl
  refine zHide (fun Qz_ hQz_ => ?_)
  have hx := C.1
  have hb := C.2.1
  have hl : lv_has ls 6 [(0, .ref t), (1, .ref h), (2, .int x)] := hl
  have hp79 : aPr (aW cr inn k1) 7 ≤ 16384 := aPr_7 hI
  have hcr := hI.1
  have hN9 := hGk.1
  have hgl9 := gN_le (f := F_) N_
  have hOk9 := (kaOk (inn := inn) hI hLq).1
  refine lv_iconst (v := 0) hx hb dX3_mostTogether_0 (by decide) ?_
  refine lv_istore_n (lv' := [(3, .int 0), (0, .ref t), (1, .ref h), (2, .int x)]) hx hb dX3_mostTogether_1 rfl hl (by decide) (zLvf_h rfl) (fun ls hl => ?_)
  refine zEx2 hwf ?_
  intro a1_1 a2_2 hbs9
  clear hwf
  subst hbs9
  have G : zS T A s.heap s [[zO3 t e0 e1 e2 (nI n3) e4 e5 a1_1 a2_2], [zAr T 0 a1_1 m1 r1], [zAr T 0 a2_2 7 r2], ww, z] _ _ := G.re rfl
  have hw_3 : bFit T t e0 e1 e2 (nI n3) e4 e5 r1 m1 r2 [zO3 t e0 e1 e2 (nI n3) e4 e5 a1_1 a2_2, zAr T 0 a1_1 m1 r1, zAr T 0 a2_2 7 r2] := ⟨a1_1, a2_2, rfl⟩
  have G : zS T A s.heap s [[zO3 t e0 e1 e2 (nI n3) e4 e5 a1_1 a2_2, zAr T 0 a1_1 m1 r1, zAr T 0 a2_2 7 r2], ww, z] _ _ := G.re rfl
  refine z_lp3 (T := T) 2 (fun (i : Nat) (wt : va_W) (x2 : Nat → Int32) => [wt, ww, z]) (fun (i : Nat) (wt : va_W) (x2 : Nat → Int32) => [(3, .int (nI i)), (0, .ref t), (1, .ref h), (2, .int x)]) (fun (i : Nat) (wt : va_W) (x2 : Nat → Int32) => bFit T t e0 e1 e2 (nI n3) e4 e5 r1 m1 x2 wt ∧ i ≤ 7 ∧ (∀ j, j < i → x2 j = 0)) (fun (i : Nat) (wt : va_W) (x2 : Nat → Int32) => 7 - i) ?_ 0 ([zO3 t e0 e1 e2 (nI n3) e4 e5 a1_1 a2_2, zAr T 0 a1_1 m1 r1, zAr T 0 a2_2 7 r2]) r2 (show bFit T t e0 e1 e2 (nI n3) e4 e5 r1 m1 r2 ([zO3 t e0 e1 e2 (nI n3) e4 e5 a1_1 a2_2, zAr T 0 a1_1 m1 r1, zAr T 0 a2_2 7 r2]) ∧ 0 ≤ 7 ∧ (∀ j, j < 0 → r2 j = 0) from ⟨hw_3, by omega, (fun j hj => absurd hj (by omega))⟩) G (lv_sub hl [0, 1, 2, 3] rfl)
  intro i wt x2 hI9 ih_2 H locs ls G hl
  replace hI9 : bFit T t e0 e1 e2 (nI n3) e4 e5 r1 m1 x2 wt ∧ i ≤ 7 ∧ (∀ j, j < i → x2 j = 0) := hI9
  refine zAn3 hI9 ?_
  intro hwt hi hx20
  clear hI9
  replace G : zS T A s.heap s [wt, ww, z] _ _ := G
  replace hl : lv_has ls 6 [(3, .int (nI i)), (0, .ref t), (1, .ref h), (2, .int x)] := hl
  refine lv_iload_n hx hb dX3_mostTogether_2 rfl (lv_at hl 0 rfl) ?_
  refine lv_bipush (v := 7) hx hb dX3_mostTogether_3 (by decide) ?_
  refine lv_icmp_ge (tgt := 21) hx hb dX3_mostTogether_5 (by decide) (fun c_4 => ?_) (fun c_4 => ?_)
  · have c_4n : 7 ≤ i := (nI_leI (a := 7) (b := i) (by omega) (by omega)).mp c_4
    refine lv_iconst (v := 0) hx hb dX3_mostTogether_21 (by decide) ?_
    refine lv_istore_n (lv' := [(3, .int 0), (0, .ref t), (1, .ref h), (2, .int x)]) hx hb dX3_mostTogether_22 rfl hl (by decide) (zLvf_h rfl) (fun ls hl => ?_)
    refine lv_iconst (v := 0) hx hb dX3_mostTogether_23 (by decide) ?_
    refine lv_istore (lv' := [(4, .int 0), (3, .int 0), (0, .ref t), (1, .ref h), (2, .int x)]) hx hb dX3_mostTogether_24 hl (by decide) (zLvf_h rfl) (fun ls hl => ?_)
    refine zEx2 hwt ?_
    intro a1_5 a2_6 hbs9
    clear hwt
    subst hbs9
    have G : zS T A s.heap s [[zO3 t e0 e1 e2 (nI n3) e4 e5 a1_5 a2_6], [zAr T 0 a1_5 m1 r1], [zAr T 0 a2_6 7 x2], ww, z] _ _ := G.re rfl
    have hw_7 : bFit T t e0 e1 e2 (nI n3) e4 e5 r1 m1 x2 [zO3 t e0 e1 e2 (nI n3) e4 e5 a1_5 a2_6, zAr T 0 a1_5 m1 r1, zAr T 0 a2_6 7 x2] := ⟨a1_5, a2_6, rfl⟩
    have G : zS T A s.heap s [[zO3 t e0 e1 e2 (nI n3) e4 e5 a1_5 a2_6, zAr T 0 a1_5 m1 r1, zAr T 0 a2_6 7 x2], ww, z] _ _ := G.re rfl
    refine z_lp4 (T := T) 26 (fun (i : Nat) (u3 : Int32) (wt2 : va_W) (y2 : Nat → Int32) => [wt2, ww, z]) (fun (i : Nat) (u3 : Int32) (wt2 : va_W) (y2 : Nat → Int32) => [(4, .int (nI i)), (3, .int u3), (0, .ref t), (1, .ref h), (2, .int x)]) (fun (i : Nat) (u3 : Int32) (wt2 : va_W) (y2 : Nat → Int32) => bFit T t e0 e1 e2 (nI n3) e4 e5 r1 m1 y2 wt2 ∧ i ≤ n3 ∧ u3 = nI (gMx (fun k => rCn (fun j => decide (rWh (aW cr inn k1) k2 (F_ (gWk F_ N_ j)).2.1 x = nI k)) i) 7) ∧ (∀ k, k < 7 → y2 k = nI ((fun k => rCn (fun j => decide (rWh (aW cr inn k1) k2 (F_ (gWk F_ N_ j)).2.1 x = nI k)) i) k))) (fun (i : Nat) (u3 : Int32) (wt2 : va_W) (y2 : Nat → Int32) => n3 - i) ?_ 0 0 ([zO3 t e0 e1 e2 (nI n3) e4 e5 a1_5 a2_6, zAr T 0 a1_5 m1 r1, zAr T 0 a2_6 7 x2]) x2 (show bFit T t e0 e1 e2 (nI n3) e4 e5 r1 m1 x2 ([zO3 t e0 e1 e2 (nI n3) e4 e5 a1_5 a2_6, zAr T 0 a1_5 m1 r1, zAr T 0 a2_6 7 x2]) ∧ 0 ≤ n3 ∧ 0 = nI (gMx (fun k => rCn (fun j => decide (rWh (aW cr inn k1) k2 (F_ (gWk F_ N_ j)).2.1 x = nI k)) 0) 7) ∧ (∀ k, k < 7 → x2 k = nI ((fun k => rCn (fun j => decide (rWh (aW cr inn k1) k2 (F_ (gWk F_ N_ j)).2.1 x = nI k)) 0) k)) from ⟨hw_7, by omega, rfl, (fun k hk => (hx20 k (by omega)).trans rfl)⟩) G (lv_sub hl [0, 1, 2, 3, 4] rfl)
    intro i u3 wt2 y2 hI9 ih_26 H locs ls G hl
    replace hI9 : bFit T t e0 e1 e2 (nI n3) e4 e5 r1 m1 y2 wt2 ∧ i ≤ n3 ∧ u3 = nI (gMx (fun k => rCn (fun j => decide (rWh (aW cr inn k1) k2 (F_ (gWk F_ N_ j)).2.1 x = nI k)) i) 7) ∧ (∀ k, k < 7 → y2 k = nI ((fun k => rCn (fun j => decide (rWh (aW cr inn k1) k2 (F_ (gWk F_ N_ j)).2.1 x = nI k)) i) k)) := hI9
    refine zAn4 hI9 ?_
    intro hwt2 hi hto hy2
    clear hI9
    replace G : zS T A s.heap s [wt2, ww, z] _ _ := G
    replace hl : lv_has ls 6 [(4, .int (nI i)), (3, .int u3), (0, .ref t), (1, .ref h), (2, .int x)] := hl
    refine lv_iload hx hb dX3_mostTogether_26 (lv_at hl 0 rfl) ?_
    refine lv_aload_n hx hb dX3_mostTogether_28 rfl (lv_at hl 2 rfl) ?_
    refine zEx2 hwt2 ?_
    intro a1_8 a2_9 hbs9
    clear hwt2
    subst hbs9
    have G : zS T A s.heap s [[zO3 t e0 e1 e2 (nI n3) e4 e5 a1_8 a2_9], [zAr T 0 a1_8 m1 r1], [zAr T 0 a2_9 7 y2], ww, z] _ _ := G.re rfl
    refine z_get C G clX3 0 rfl 3 (by decide) m_fl_RX3_34 rfl dX3_mostTogether_29 ?_
    refine lv_icmp_ge (tgt := 98) hx hb dX3_mostTogether_32 (by decide) (fun c_10 => ?_) (fun c_10 => ?_)
    · have c_10n : n3 ≤ i := (nI_leI (a := n3) (b := i) (by omega) (by omega)).mp c_10
      refine lv_iload_n hx hb dX3_mostTogether_98 rfl (lv_at hl 1 rfl) ?_
      have hw_11 : bFit T t e0 e1 e2 (nI n3) e4 e5 r1 m1 y2 [zO3 t e0 e1 e2 (nI n3) e4 e5 a1_8 a2_9, zAr T 0 a1_8 m1 r1, zAr T 0 a2_9 7 y2] := ⟨a1_8, a2_9, rfl⟩
      have G : zS T A s.heap s [[zO3 t e0 e1 e2 (nI n3) e4 e5 a1_8 a2_9, zAr T 0 a1_8 m1 r1, zAr T 0 a2_9 7 y2], ww, z] _ _ := G.re rfl
      exact z_back hQz_ (z_iret C hr hlocks G (Nat.le_of_ble_eq_true rfl) (Nat.le_of_ble_eq_true rfl) dX3_mostTogether_99 ⟨([zO3 t e0 e1 e2 (nI n3) e4 e5 a1_8 a2_9, zAr T 0 a1_8 m1 r1, zAr T 0 a2_9 7 y2]), y2, rfl, hw_11, (by rw [hto, show i = gN F_ N_ by omega]; exact congrArg nI (gMx_cg 7 (fun k hk => gC_r (p := fun _ t => decide (rWh (aW cr inn k1) k2 t x = nI k)) N_ N_ (Nat.le_refl _))))⟩)
    · have c_10n : ¬ n3 ≤ i := fun q => c_10 ((nI_leI (a := n3) (b := i) (by omega) (by omega)).mpr q)
      refine lv_iload hx hb dX3_mostTogether_35 (lv_at hl 0 rfl) ?_
      refine lv_aload_n hx hb dX3_mostTogether_37 rfl (lv_at hl 2 rfl) ?_
      refine z_get C G clX3 0 rfl 6 (by decide) m_fl_RX3_18 rfl dX3_mostTogether_38 ?_
      refine z_alen C G 1 0 rfl (v := nI m1) rfl rfl dX3_mostTogether_41 ?_
      refine lv_icmp_ge (tgt := 98) hx hb dX3_mostTogether_42 (by decide) (fun c_12 => ?_) (fun c_12 => ?_)
      · have c_12n : m1 ≤ i := (nI_leI (a := m1) (b := i) (by omega) (by omega)).mp c_12
        refine lv_iload_n hx hb dX3_mostTogether_98 rfl (lv_at hl 1 rfl) ?_
        have hw_13 : bFit T t e0 e1 e2 (nI n3) e4 e5 r1 m1 y2 [zO3 t e0 e1 e2 (nI n3) e4 e5 a1_8 a2_9, zAr T 0 a1_8 m1 r1, zAr T 0 a2_9 7 y2] := ⟨a1_8, a2_9, rfl⟩
        have G : zS T A s.heap s [[zO3 t e0 e1 e2 (nI n3) e4 e5 a1_8 a2_9, zAr T 0 a1_8 m1 r1, zAr T 0 a2_9 7 y2], ww, z] _ _ := G.re rfl
        exact z_back hQz_ (z_iret C hr hlocks G (Nat.le_of_ble_eq_true rfl) (Nat.le_of_ble_eq_true rfl) dX3_mostTogether_99 ⟨([zO3 t e0 e1 e2 (nI n3) e4 e5 a1_8 a2_9, zAr T 0 a1_8 m1 r1, zAr T 0 a2_9 7 y2]), y2, rfl, hw_13, (by rw [hto, show i = gN F_ N_ by omega]; exact congrArg nI (gMx_cg 7 (fun k hk => gC_r (p := fun _ t => decide (rWh (aW cr inn k1) k2 t x = nI k)) N_ N_ (Nat.le_refl _))))⟩)
      · have c_12n : ¬ m1 ≤ i := fun q => c_12 ((nI_leI (a := m1) (b := i) (by omega) (by omega)).mpr q)
        obtain ⟨hri1, hri2, hri3⟩ := gRk_i (i := i) hGk (by omega)
        have hE9 := zEnt_w (w := (F_ (gWk F_ N_ i)).2.1) (x := x) hI hOk9 hTt hri3 hxh
        have hB9 := zEnt_b (inn := inn) (w := (F_ (gWk F_ N_ i)).2.1) (x := x) hI hLq hri3 hxh
        obtain ⟨hb91, hb92, _, _⟩ := hB9
        refine lv_aload_n hx hb dX3_mostTogether_45 rfl (lv_at hl 3 rfl) ?_
        refine lv_aload_n hx hb dX3_mostTogether_46 rfl (lv_at hl 2 rfl) ?_
        refine z_get C G clX3 0 rfl 6 (by decide) m_fl_RX3_18 rfl dX3_mostTogether_47 ?_
        refine lv_iload hx hb dX3_mostTogether_50 (lv_at hl 0 rfl) ?_
        refine z_ild C G 1 rfl (vp_in_nI (by omega) (by omega)) dX3_mostTogether_52 ?_
        refine lv_topi (fun v_14 ev_14 => ?_)
        rw [nI_clamp (by omega)] at ev_14
        subst ev_14
        refine lv_bipush (v := 14) hx hb dX3_mostTogether_53 (by decide) ?_
        refine lv_ishr hx hb dX3_mostTogether_55 ?_
        refine lv_topi (fun y_15 ey_15 => ?_)
        obtain rfl : y_15 = nI (F_ (gWk F_ N_ i)).2.1 := ey_15.trans (gTh_e hGk (by omega))
        refine lv_iload_n hx hb dX3_mostTogether_56 rfl (lv_at hl 4 rfl) ?_
        refine z_Vi (bc := [ww]) (br := [[zO3 t e0 e1 e2 (nI n3) e4 e5 a1_8 a2_9], [zAr T 0 a1_8 m1 r1], [zAr T 0 a2_9 7 y2], z]) (As := [.int (nI (F_ (gWk F_ N_ i)).2.1), .int x]) (rest := []) C G (c_where l T h la md wy pc_ f1 f2 f3 f4 f5 f6 n4 ww (nI (F_ (gWk F_ N_ i)).2.1) x hww (by first | with_reducible assumption | with_reducible rfl | omega | assumption | rfl)) (kV_RX3_86 C.2.2.2.2 (Nat.le_of_ble_eq_true rfl) (Nat.le_of_ble_eq_true rfl)) [3] [3] rfl rfl (ci := 0) (qc := (RX0, TX0, 10)) rfl rfl (List.mem_flatten.mpr ⟨_, List.mem_of_getElem? (i := 0) rfl, (bWays_mem hww).choose_spec⟩) rfl rfl hl.1 dX3_mostTogether_57 (Nat.le_of_ble_eq_true rfl) (Nat.le_of_ble_eq_true rfl) (fun r_17 b1 H locs hw G => ?_)
        refine zAn2 hw ?_
        intro hbs9 h_16
        clear hw
        subst hbs9
        have G : zS T A s.heap s [[zO3 t e0 e1 e2 (nI n3) e4 e5 a1_8 a2_9], [zAr T 0 a1_8 m1 r1], [zAr T 0 a2_9 7 y2], z, ww] _ _ := G
        subst h_16
        refine lv_topi (fun y_18 ey_18 => ?_)
        obtain rfl : y_18 = (rWh (aW cr inn k1) k2 (F_ (gWk F_ N_ i)).2.1 x) := ey_18.trans (hE9.1)
        refine lv_istore (lv' := [(5, .int (rWh (aW cr inn k1) k2 (F_ (gWk F_ N_ i)).2.1 x)), (4, .int (nI i)), (3, .int u3), (0, .ref t), (1, .ref h), (2, .int x)]) hx hb dX3_mostTogether_60 hl (by decide) (zLvf_h rfl) (fun ls hl => ?_)
        refine lv_iload hx hb dX3_mostTogether_62 (lv_at hl 0 rfl) ?_
        refine lv_bipush (v := 7) hx hb dX3_mostTogether_64 (by decide) ?_
        refine lv_icmp_ge (tgt := 92) hx hb dX3_mostTogether_66 (by decide) (fun q => absurd q (fun q2 => absurd (show (7 : Int) ≤ (rWh (aW cr inn k1) k2 (F_ (gWk F_ N_ i)).2.1 x).toInt from (fa_le (7 : Int32) (rWh (aW cr inn k1) k2 (F_ (gWk F_ N_ i)).2.1 x)).mp q2) (by omega))) (fun _ => ?_)
        have hpi9 : (rWh (aW cr inn k1) k2 (F_ (gWk F_ N_ i)).2.1 x).toNatClampNeg = (rWh (aW cr inn k1) k2 (F_ (gWk F_ N_ i)).2.1 x).toInt.toNat := rfl
        have hpr9 : (rWh (aW cr inn k1) k2 (F_ (gWk F_ N_ i)).2.1 x) = nI (rWh (aW cr inn k1) k2 (F_ (gWk F_ N_ i)).2.1 x).toInt.toNat := z_nI (by omega) (by omega)
        have hpl9 : y2 (rWh (aW cr inn k1) k2 (F_ (gWk F_ N_ i)).2.1 x).toNatClampNeg = nI ((fun k => rCn (fun j => decide (rWh (aW cr inn k1) k2 (F_ (gWk F_ N_ j)).2.1 x = nI k)) i) (rWh (aW cr inn k1) k2 (F_ (gWk F_ N_ i)).2.1 x).toInt.toNat) := hy2 _ (by omega)
        have hcs9 : (fun k => rCn (fun j => decide (rWh (aW cr inn k1) k2 (F_ (gWk F_ N_ j)).2.1 x = nI k)) (i + 1)) (rWh (aW cr inn k1) k2 (F_ (gWk F_ N_ i)).2.1 x).toInt.toNat = (fun k => rCn (fun j => decide (rWh (aW cr inn k1) k2 (F_ (gWk F_ N_ j)).2.1 x = nI k)) i) (rWh (aW cr inn k1) k2 (F_ (gWk F_ N_ i)).2.1 x).toInt.toNat + 1 := rCn_t (p := fun j => decide (rWh (aW cr inn k1) k2 (F_ (gWk F_ N_ j)).2.1 x = nI (rWh (aW cr inn k1) k2 (F_ (gWk F_ N_ i)).2.1 x).toInt.toNat)) (decide_eq_true hpr9)
        have hcn9 : ∀ k, k < 7 → ¬ k = (rWh (aW cr inn k1) k2 (F_ (gWk F_ N_ i)).2.1 x).toInt.toNat → (fun k => rCn (fun j => decide (rWh (aW cr inn k1) k2 (F_ (gWk F_ N_ j)).2.1 x = nI k)) (i + 1)) k = (fun k => rCn (fun j => decide (rWh (aW cr inn k1) k2 (F_ (gWk F_ N_ j)).2.1 x = nI k)) i) k := fun k hk hn => rCn_f (p := fun j => decide (rWh (aW cr inn k1) k2 (F_ (gWk F_ N_ j)).2.1 x = nI k)) (fun q9 => hn (by have q8 := congrArg Int32.toInt (of_decide_eq_true q9); rw [nI_toInt (by omega)] at q8; omega))
        have hmx9 := gMx_u (g := (fun k => rCn (fun j => decide (rWh (aW cr inn k1) k2 (F_ (gWk F_ N_ j)).2.1 x = nI k)) i)) (h := (fun k => rCn (fun j => decide (rWh (aW cr inn k1) k2 (F_ (gWk F_ N_ j)).2.1 x = nI k)) (i + 1))) (n := 7) (p := (rWh (aW cr inn k1) k2 (F_ (gWk F_ N_ i)).2.1 x).toInt.toNat) (by omega) hcn9 hcs9
        have hcl9 : (fun k => rCn (fun j => decide (rWh (aW cr inn k1) k2 (F_ (gWk F_ N_ j)).2.1 x = nI k)) i) (rWh (aW cr inn k1) k2 (F_ (gWk F_ N_ i)).2.1 x).toInt.toNat ≤ i := rCn_le i
        have hml9 : gMx (fun k => rCn (fun j => decide (rWh (aW cr inn k1) k2 (F_ (gWk F_ N_ j)).2.1 x = nI k)) i) 7 ≤ i := gMx_le 7 (fun k _ => rCn_le i)
        refine lv_aload_n hx hb dX3_mostTogether_69 rfl (lv_at hl 3 rfl) ?_
        refine z_get C G clX3 0 rfl 7 (by decide) m_fl_RX3_22 rfl dX3_mostTogether_70 ?_
        refine lv_iload hx hb dX3_mostTogether_73 (lv_at hl 0 rfl) ?_
        refine lv_dup2_11 hx hb dX3_mostTogether_75 rfl rfl ?_
        refine z_ild C G 2 rfl (vp_in_iff.mpr ⟨by omega, by omega⟩) dX3_mostTogether_76 ?_
        refine lv_topi (fun v_19 ev_19 => ?_)
        subst ev_19
        refine lv_iconst (v := 1) hx hb dX3_mostTogether_77 (by decide) ?_
        refine lv_iadd hx hb dX3_mostTogether_78 ?_
        refine lv_topi (fun y_20 ey_20 => ?_)
        obtain rfl : y_20 = nI ((fun k => rCn (fun j => decide (rWh (aW cr inn k1) k2 (F_ (gWk F_ N_ j)).2.1 x = nI k)) (i + 1)) (rWh (aW cr inn k1) k2 (F_ (gWk F_ N_ i)).2.1 x).toInt.toNat) := ey_20.trans ((by rw [hpl9, hcs9]; exact nI_add _ 1))
        refine z_ist C G 2 rfl (vp_in_iff.mpr ⟨by omega, by omega⟩) dX3_mostTogether_79 (fun H locs G => ?_)
        have G : zS T A s.heap s [[zO3 t e0 e1 e2 (nI n3) e4 e5 a1_8 a2_9], [zAr T 0 a1_8 m1 r1], [zAr T 0 a2_9 7 (upd y2 (rWh (aW cr inn k1) k2 (F_ (gWk F_ N_ i)).2.1 x).toNatClampNeg (nI ((fun k => rCn (fun j => decide (rWh (aW cr inn k1) k2 (F_ (gWk F_ N_ j)).2.1 x = nI k)) (i + 1)) (rWh (aW cr inn k1) k2 (F_ (gWk F_ N_ i)).2.1 x).toInt.toNat)))], z, ww] _ _ := G
        refine lv_iload_n hx hb dX3_mostTogether_80 rfl (lv_at hl 2 rfl) ?_
        refine lv_aload_n hx hb dX3_mostTogether_81 rfl (lv_at hl 3 rfl) ?_
        refine z_get C G clX3 0 rfl 7 (by decide) m_fl_RX3_22 rfl dX3_mostTogether_82 ?_
        refine lv_iload hx hb dX3_mostTogether_85 (lv_at hl 0 rfl) ?_
        refine z_ild C G 2 rfl (vp_in_iff.mpr ⟨by omega, by omega⟩) dX3_mostTogether_87 ?_
        refine lv_topi (fun v_21 ev_21 => ?_)
        subst ev_21
        refine va_mmax hx hb (C.2.2.1.trans hl.1.symm) C.2.2.2.1 (C.2.2.2.2 _ m_ml_RX3_83) (C.2.2.2.2 _ m_st_math_max) (C.2.2.2.2 _ m_ii_math) (C.2.2.2.2 _ m_co_math_max) (Nat.le_of_ble_eq_true rfl) (Nat.le_of_ble_eq_true rfl) (Nat.le_of_ble_eq_true rfl) (Nat.le_of_ble_eq_true rfl) dX3_mostTogether_88 ?_
        refine lv_topi (fun v_22 ev_22 => ?_)
        subst ev_22
        refine lv_topi (fun y_23 ey_23 => ?_)
        obtain rfl : y_23 = nI (gMx (fun k => rCn (fun j => decide (rWh (aW cr inn k1) k2 (F_ (gWk F_ N_ j)).2.1 x = nI k)) (i + 1)) 7) := ey_23.trans ((by rw [hmx9, hto]; by_cases z9 : gMx (fun k => rCn (fun j => decide (rWh (aW cr inn k1) k2 (F_ (gWk F_ N_ j)).2.1 x = nI k)) i) 7 < (fun k => rCn (fun j => decide (rWh (aW cr inn k1) k2 (F_ (gWk F_ N_ j)).2.1 x = nI k)) (i + 1)) (rWh (aW cr inn k1) k2 (F_ (gWk F_ N_ i)).2.1 x).toInt.toNat <;> first | (rw [if_pos z9, if_pos ((fa_lt _ _).mpr (by first | (rw [nI_toInt (by omega)]; omega) | (rw [nI_toInt (by omega), z_eq rfl, nI_toInt (by omega)]; omega) | (rw [nI_toInt (by omega), nI_toInt (by omega)]; omega)))]; first | rfl | exact z_eq rfl) | (rw [if_neg z9, if_neg (fun q8 => by have q7 := (fa_lt _ _).mp q8; first | (rw [nI_toInt (by omega), nI_toInt (by omega)] at q7; omega) | (rw [nI_toInt (by omega), z_eq rfl, nI_toInt (by omega)] at q7; omega))])))
        refine lv_istore_n (lv' := [(3, .int (nI (gMx (fun k => rCn (fun j => decide (rWh (aW cr inn k1) k2 (F_ (gWk F_ N_ j)).2.1 x = nI k)) (i + 1)) 7))), (5, .int (rWh (aW cr inn k1) k2 (F_ (gWk F_ N_ i)).2.1 x)), (4, .int (nI i)), (0, .ref t), (1, .ref h), (2, .int x)]) hx hb dX3_mostTogether_91 rfl hl (by decide) (zLvf_h rfl) (fun ls hl => ?_)
        refine lv_iinc (v := nI (i + 1)) (lv' := [(4, .int (nI (i + 1))), (3, .int (nI (gMx (fun k => rCn (fun j => decide (rWh (aW cr inn k1) k2 (F_ (gWk F_ N_ j)).2.1 x = nI k)) (i + 1)) 7))), (5, .int (rWh (aW cr inn k1) k2 (F_ (gWk F_ N_ i)).2.1 x)), (0, .ref t), (1, .ref h), (2, .int x)]) hx hb dX3_mostTogether_92 hl (k := 2) rfl (z_inc i 1) (by decide) (zLvf_h rfl) (fun ls hl => ?_)
        refine lv_goto (tgt := 26) hx hb dX3_mostTogether_95 (by decide) ?_
        have hw_24 : bFit T t e0 e1 e2 (nI n3) e4 e5 r1 m1 (upd y2 (rWh (aW cr inn k1) k2 (F_ (gWk F_ N_ i)).2.1 x).toNatClampNeg (nI ((fun k => rCn (fun j => decide (rWh (aW cr inn k1) k2 (F_ (gWk F_ N_ j)).2.1 x = nI k)) (i + 1)) (rWh (aW cr inn k1) k2 (F_ (gWk F_ N_ i)).2.1 x).toInt.toNat))) [zO3 t e0 e1 e2 (nI n3) e4 e5 a1_8 a2_9, zAr T 0 a1_8 m1 r1, zAr T 0 a2_9 7 (upd y2 (rWh (aW cr inn k1) k2 (F_ (gWk F_ N_ i)).2.1 x).toNatClampNeg (nI ((fun k => rCn (fun j => decide (rWh (aW cr inn k1) k2 (F_ (gWk F_ N_ j)).2.1 x = nI k)) (i + 1)) (rWh (aW cr inn k1) k2 (F_ (gWk F_ N_ i)).2.1 x).toInt.toNat)))] := ⟨a1_8, a2_9, rfl⟩
        have G : zS T A s.heap s [[zO3 t e0 e1 e2 (nI n3) e4 e5 a1_8 a2_9, zAr T 0 a1_8 m1 r1, zAr T 0 a2_9 7 (upd y2 (rWh (aW cr inn k1) k2 (F_ (gWk F_ N_ i)).2.1 x).toNatClampNeg (nI ((fun k => rCn (fun j => decide (rWh (aW cr inn k1) k2 (F_ (gWk F_ N_ j)).2.1 x = nI k)) (i + 1)) (rWh (aW cr inn k1) k2 (F_ (gWk F_ N_ i)).2.1 x).toInt.toNat)))], z, ww] _ _ := G.re rfl
        have G := G.sub (bs' := [[zO3 t e0 e1 e2 (nI n3) e4 e5 a1_8 a2_9, zAr T 0 a1_8 m1 r1, zAr T 0 a2_9 7 (upd y2 (rWh (aW cr inn k1) k2 (F_ (gWk F_ N_ i)).2.1 x).toNatClampNeg (nI ((fun k => rCn (fun j => decide (rWh (aW cr inn k1) k2 (F_ (gWk F_ N_ j)).2.1 x = nI k)) (i + 1)) (rWh (aW cr inn k1) k2 (F_ (gWk F_ N_ i)).2.1 x).toInt.toNat)))], ww, z]) [0, 2, 1] rfl
        exact ih_26 (i + 1) (nI (gMx (fun k => rCn (fun j => decide (rWh (aW cr inn k1) k2 (F_ (gWk F_ N_ j)).2.1 x = nI k)) (i + 1)) 7)) ([zO3 t e0 e1 e2 (nI n3) e4 e5 a1_8 a2_9, zAr T 0 a1_8 m1 r1, zAr T 0 a2_9 7 (upd y2 (rWh (aW cr inn k1) k2 (F_ (gWk F_ N_ i)).2.1 x).toNatClampNeg (nI ((fun k => rCn (fun j => decide (rWh (aW cr inn k1) k2 (F_ (gWk F_ N_ j)).2.1 x = nI k)) (i + 1)) (rWh (aW cr inn k1) k2 (F_ (gWk F_ N_ i)).2.1 x).toInt.toNat)))]) (upd y2 (rWh (aW cr inn k1) k2 (F_ (gWk F_ N_ i)).2.1 x).toNatClampNeg (nI ((fun k => rCn (fun j => decide (rWh (aW cr inn k1) k2 (F_ (gWk F_ N_ j)).2.1 x = nI k)) (i + 1)) (rWh (aW cr inn k1) k2 (F_ (gWk F_ N_ i)).2.1 x).toInt.toNat))) (show bFit T t e0 e1 e2 (nI n3) e4 e5 r1 m1 (upd y2 (rWh (aW cr inn k1) k2 (F_ (gWk F_ N_ i)).2.1 x).toNatClampNeg (nI ((fun k => rCn (fun j => decide (rWh (aW cr inn k1) k2 (F_ (gWk F_ N_ j)).2.1 x = nI k)) (i + 1)) (rWh (aW cr inn k1) k2 (F_ (gWk F_ N_ i)).2.1 x).toInt.toNat))) ([zO3 t e0 e1 e2 (nI n3) e4 e5 a1_8 a2_9, zAr T 0 a1_8 m1 r1, zAr T 0 a2_9 7 (upd y2 (rWh (aW cr inn k1) k2 (F_ (gWk F_ N_ i)).2.1 x).toNatClampNeg (nI ((fun k => rCn (fun j => decide (rWh (aW cr inn k1) k2 (F_ (gWk F_ N_ j)).2.1 x = nI k)) (i + 1)) (rWh (aW cr inn k1) k2 (F_ (gWk F_ N_ i)).2.1 x).toInt.toNat)))]) ∧ (i + 1) ≤ n3 ∧ (nI (gMx (fun k => rCn (fun j => decide (rWh (aW cr inn k1) k2 (F_ (gWk F_ N_ j)).2.1 x = nI k)) (i + 1)) 7)) = nI (gMx (fun k => rCn (fun j => decide (rWh (aW cr inn k1) k2 (F_ (gWk F_ N_ j)).2.1 x = nI k)) (i + 1)) 7) ∧ (∀ k, k < 7 → (upd y2 (rWh (aW cr inn k1) k2 (F_ (gWk F_ N_ i)).2.1 x).toNatClampNeg (nI ((fun k => rCn (fun j => decide (rWh (aW cr inn k1) k2 (F_ (gWk F_ N_ j)).2.1 x = nI k)) (i + 1)) (rWh (aW cr inn k1) k2 (F_ (gWk F_ N_ i)).2.1 x).toInt.toNat))) k = nI ((fun k => rCn (fun j => decide (rWh (aW cr inn k1) k2 (F_ (gWk F_ N_ j)).2.1 x = nI k)) (i + 1)) k)) from ⟨hw_24, by omega, rfl, (fun k hk => by by_cases z9 : k = (rWh (aW cr inn k1) k2 (F_ (gWk F_ N_ i)).2.1 x).toInt.toNat <;> first | (subst z9; exact z_eq rfl) | (refine (z_ne z9).trans ?_; rw [hcn9 k hk z9]; exact hy2 k hk))⟩) (show n3 - (i + 1) < n3 - i from by omega) _ _ ls G (lv_sub hl [0, 1, 3, 4, 5] rfl)
  · have c_4n : ¬ 7 ≤ i := fun q => c_4 ((nI_leI (a := 7) (b := i) (by omega) (by omega)).mpr q)
    refine lv_aload_n hx hb dX3_mostTogether_8 rfl (lv_at hl 1 rfl) ?_
    refine zEx2 hwt ?_
    intro a1_25 a2_26 hbs9
    clear hwt
    subst hbs9
    have G : zS T A s.heap s [[zO3 t e0 e1 e2 (nI n3) e4 e5 a1_25 a2_26], [zAr T 0 a1_25 m1 r1], [zAr T 0 a2_26 7 x2], ww, z] _ _ := G.re rfl
    refine z_get C G clX3 0 rfl 7 (by decide) m_fl_RX3_22 rfl dX3_mostTogether_9 ?_
    refine lv_iload_n hx hb dX3_mostTogether_12 rfl (lv_at hl 0 rfl) ?_
    refine lv_iconst (v := 0) hx hb dX3_mostTogether_13 (by decide) ?_
    refine z_ist C G 2 rfl (vp_in_nI (by omega) (by decide)) dX3_mostTogether_14 (fun H locs G => ?_)
    rw [nI_clamp (by omega)] at G
    have G : zS T A s.heap s [[zO3 t e0 e1 e2 (nI n3) e4 e5 a1_25 a2_26], [zAr T 0 a1_25 m1 r1], [zAr T 0 a2_26 7 (upd x2 i 0)], ww, z] _ _ := G
    refine lv_iinc (v := nI (i + 1)) (lv' := [(3, .int (nI (i + 1))), (0, .ref t), (1, .ref h), (2, .int x)]) hx hb dX3_mostTogether_15 hl (k := 0) rfl (z_inc i 1) (by decide) (zLvf_h rfl) (fun ls hl => ?_)
    refine lv_goto (tgt := 2) hx hb dX3_mostTogether_18 (by decide) ?_
    have hw_27 : bFit T t e0 e1 e2 (nI n3) e4 e5 r1 m1 (upd x2 i 0) [zO3 t e0 e1 e2 (nI n3) e4 e5 a1_25 a2_26, zAr T 0 a1_25 m1 r1, zAr T 0 a2_26 7 (upd x2 i 0)] := ⟨a1_25, a2_26, rfl⟩
    have G : zS T A s.heap s [[zO3 t e0 e1 e2 (nI n3) e4 e5 a1_25 a2_26, zAr T 0 a1_25 m1 r1, zAr T 0 a2_26 7 (upd x2 i 0)], ww, z] _ _ := G.re rfl
    exact ih_2 (i + 1) ([zO3 t e0 e1 e2 (nI n3) e4 e5 a1_25 a2_26, zAr T 0 a1_25 m1 r1, zAr T 0 a2_26 7 (upd x2 i 0)]) (upd x2 i 0) (show bFit T t e0 e1 e2 (nI n3) e4 e5 r1 m1 (upd x2 i 0) ([zO3 t e0 e1 e2 (nI n3) e4 e5 a1_25 a2_26, zAr T 0 a1_25 m1 r1, zAr T 0 a2_26 7 (upd x2 i 0)]) ∧ (i + 1) ≤ 7 ∧ (∀ j, j < (i + 1) → (upd x2 i 0) j = 0) from ⟨hw_27, by omega, z_upS0 (f := fun _ => 0) hx20 rfl⟩) (show 7 - (i + 1) < 7 - i from by omega) _ _ ls G (lv_sub hl [0, 1, 2, 3] rfl)
section GASK
variable {W L : Nat → Int32} {inn : Int32} {f : Nat → Bool × Nat × Nat} {N c : Nat}
theorem gAsk_i (h : zBit inn (nI c) = 1) : gAsk W L inn f N (c + 1) = gAsk W L inn f N c := if_pos h
theorem gAsk_t (h : ¬ zBit inn (nI c) = 1) (k : (gAsk W L inn f N c).1 = -1 ∨ gTo W L f N (nI c) < (gAsk W L inn f N c).2) : gAsk W L inn f N (c + 1) = (nI c, gTo W L f N (nI c)) := (if_neg h).trans (if_pos k)
theorem gAsk_k (h : ¬ zBit inn (nI c) = 1) (k : ¬ ((gAsk W L inn f N c).1 = -1 ∨ gTo W L f N (nI c) < (gAsk W L inn f N c).2)) : gAsk W L inn f N (c + 1) = gAsk W L inn f N c := (if_neg h).trans (if_neg k)
end GASK
section GFCG
variable {W V L L' : Nat → Int32} {f : Nat → Bool × Nat × Nat} {N : Nat}
theorem gTo_cg (hW : ∀ j, j < 7 → W j = V j) (hL : zLs W L L') (h4 : ∀ j, j < 7 → (W j).toInt ≤ 4) (c : Int32) : gTo W L f N c = gTo V L' f N c := by
  unfold gTo
  refine gMx_cg 7 (fun k _ => ?_)
  unfold gC
  exact rCn_cg N (fun w _ => by
    show ((f w).1 && decide (rWh W L (f w).2.1 c = nI k)) = ((f w).1 && decide (rWh V L' (f w).2.1 c = nI k))
    rw [(rWh_cg hW hL h4 (f w).2.1 c).1])
theorem gAsk_cg (hW : ∀ j, j < 7 → W j = V j) (hL : zLs W L L') (h4 : ∀ j, j < 7 → (W j).toInt ≤ 4) (inn : Int32) (n : Nat) : gAsk W L inn f N n = gAsk V L' inn f N n := by
  induction n with
  | zero => rfl
  | succ n ih =>
    unfold gAsk
    rw [ih, gTo_cg hW hL h4]
theorem gSu_cg (hW : ∀ j, j < 7 → W j = V j) {c : Nat} (hc : c < 7) : gSu W f N c = gSu V f N c := by
  have e : ∀ k, gSc W f N c k = gSc V f N c k := fun k => rCn_cg N (fun w _ => by
    show ((f w).1 && decide (aRd W w c = k)) = ((f w).1 && decide (aRd V w c = k))
    rw [aRd_cg hW hc])
  unfold gSu
  rw [e, e, e, e]
theorem gFits_cg (hW : ∀ j, j < 7 → W j = V j) (hL : zLs W L L') (h4 : ∀ j, j < 7 → (W j).toInt ≤ 4) {m : Nat} (hm : m ≤ 7) (inn q : Int32) : gFits W L m inn f N q = gFits V L' m inn f N q := by
  unfold gFits
  rw [gAsk_cg hW hL h4, aNu_cg hW _ m hm]
  by_cases c : gN f N = 0 ∨ ¬ q.toInt - 2 < (m : Int)
  · rw [if_pos c, if_pos c]
  · rw [if_neg c, if_neg c]
    by_cases d : q.toInt < 9
    · rw [gSu_cg hW (show (q.toInt - 2).toNat < 7 by omega)]
    · rw [if_neg d, if_neg d]
end GFCG
def kFits (cr inn : Int32) (k1 k2 : Nat → Int32) (gg : Int32) (d1 d2 : Nat → Int32) (u : Int32) : Int32 := gFits (kW cr inn k1) k2 cr.toInt.toNat inn (fun w => gF (kW cr inn k1) k2 cr inn d1 d2 w gg.toInt.toNat) (aPr (kW cr inn k1) 7) u
def pFits (f : Nat → Int32) (z d u : Int32) : Int32 := gFits (pW f z) (zLo f z) (f z.toInt.toNat).toInt.toNat (f (z.toInt.toNat + 1)) (pPhi f z d) (aPr (pW f z) 7) u
theorem kFits_e {cr inn z d u gg : Int32} {k1 k2 k3 k4 q1 q2 f : Nat → Int32} {B D : Nat} (h : zLnd cr inn k1 k2 k3 k4 (fun j => f (B + j))) (hF : zLF (fun j => f (B + j))) (hz : z.toInt.toNat = B) (hV : zVR (fun j => f (z.toInt.toNat + j))) (hI : zLI cr k1 k3) (g : zLgd gg q1 q2 (fun j => f (D + j))) (hd : d.toInt.toNat = D) : kFits cr inn k1 k2 gg q1 q2 u = pFits f z d u := by
  obtain ⟨a1, a2, a3, a4, a5, a6⟩ := zLnd_w h hF hz
  obtain ⟨g1, g2, g3⟩ := g
  have g1 : gg = f D := g1
  have g2 : 0 ≤ (f D).toInt ∧ (f D).toInt ≤ 8 := g2
  have g3 : ∀ j : Nat, (j : Int) < (f D).toInt → q1 j = f (D + (1 + 2 * j)) ∧ q2 j = f (D + (2 + 2 * j)) := g3
  have h4 : ∀ j, j < 7 → (kW cr inn k1 j).toInt ≤ 4 := fun j hj => (a4 j hj).1.2
  have h7 := hI.1
  have eg : (fun w => gF (kW cr inn k1) k2 cr inn q1 q2 w gg.toInt.toNat) = pPhi f z d := funext (fun w => by
    unfold pPhi
    rw [← a5, ← a6, hd, ← g1]
    exact gF_cg (g := gg.toInt.toNat) a1 a2 h4 (fun k hk => by
      have e := g3 k (by rw [g1] at hk; omega)
      unfold zGq zGi
      rw [hd]
      exact e) cr inn w _ (Nat.le_refl _))
  unfold kFits pFits
  rw [eg, ← a5, ← a6, aPr_cg a1 7]
  exact gFits_cg a1 a2 h4 (by omega) inn u
set_option maxHeartbeats 4000000 in
set_option maxRecDepth 100000 in
/-- c_e_ask -/
theorem c_e_ask (l : Launch) (T : zTy) (t : Nat) (e0 : Int32) (e1 : Int32) (e2 : Int32) (e4 : Int32) (e5 : Int32) (r1 : Nat → Int32) (m1 : Nat) (r2 : Nat → Int32) (wf : va_W) (n3 : Nat) (h : Nat) (la : Nat) (md : Int32) (wy : Int32) (pc_ : Int32) (f1 : Nat → Int32) (f2 : Nat → Int32) (f3 : Nat → Int32) (f4 : Nat → Int32) (f5 : Nat → Int32) (f6 : Nat → Int32) (n4 : Nat) (ww : va_W) (cr : Int32) (inn : Int32) (k1 : Nat → Int32) (k2 : Nat → Int32) (k3 : Nat → Int32) (k4 : Nat → Int32) (z : va_W) (F_ : Nat → Bool × Nat × Nat) (N_ : Nat) (hwf : bFit T t e0 e1 e2 (nI n3) e4 e5 r1 m1 r2 wf) (hww : bWays T h la md wy pc_ f1 f2 f3 f4 f5 f6 n4 ww) (hz : bLand T la cr inn k1 k2 k3 k4 z) (hn : n4 ≤ 131072) (hI : zLI cr k1 k3) (hTt : zTab cr inn k1 k2 wy pc_ f1 f2 f5 n4) (hLq : zLq cr k1 k2) (hGk : gRk F_ N_ (aPr (aW cr inn k1) 7) r1) (h3 : n3 = gN F_ N_) (hm3 : n3 ≤ m1) (hm : m1 ≤ 16384) : zMi l T yX3_ask cX3_ask 6 (some .int) 4 0 0 [.ref t, .ref h] [wf, ww, z] (fun (r : Int32) bs => ∃ (w2 : va_W) (g2 : Nat → Int32), bs = [w2, ww, z] ∧ bFit T t e0 e1 e2 (nI n3) e4 e5 r1 m1 g2 w2 ∧ r = (if gN F_ N_ = 0 then -1 else (gAsk (aW cr inn k1) k2 inn F_ N_ cr.toInt.toNat).1)) := by
  refine zMi_of (own := RX3) (by decide) rfl (Nat.le_of_ble_eq_true rfl) ?_
  intro p e s m args below meth c A ls C hr hlocks hnm hAe G hl
  refine zHide (fun Qz_ hQz_ => ?_)
  have hx := C.1
  have hb := C.2.1
  have hl : lv_has ls 6 [(0, .ref t), (1, .ref h)] := hl
  have hp79 : aPr (aW cr inn k1) 7 ≤ 16384 := aPr_7 hI
  have hcr := hI.1
  have hN9 := hGk.1
  have hgl9 := gN_le (f := F_) N_
  refine lv_iconst (v := (-1)) hx hb dX3_ask_0 (by decide) ?_
  refine lv_istore_n (lv' := [(2, .int (-1)), (0, .ref t), (1, .ref h)]) hx hb dX3_ask_1 rfl hl (by decide) (zLvf_h rfl) (fun ls hl => ?_)
  refine lv_iconst (v := 0) hx hb dX3_ask_2 (by decide) ?_
  refine lv_istore_n (lv' := [(3, .int 0), (2, .int (-1)), (0, .ref t), (1, .ref h)]) hx hb dX3_ask_3 rfl hl (by decide) (zLvf_h rfl) (fun ls hl => ?_)
  refine lv_iconst (v := 0) hx hb dX3_ask_4 (by decide) ?_
  refine lv_istore (lv' := [(4, .int 0), (3, .int 0), (2, .int (-1)), (0, .ref t), (1, .ref h)]) hx hb dX3_ask_5 hl (by decide) (zLvf_h rfl) (fun ls hl => ?_)
  refine zEx2 hwf ?_
  intro a1_1 a2_2 hbs9
  clear hwf
  subst hbs9
  have G : zS T A s.heap s [[zO3 t e0 e1 e2 (nI n3) e4 e5 a1_1 a2_2], [zAr T 0 a1_1 m1 r1], [zAr T 0 a2_2 7 r2], ww, z] _ _ := G.re rfl
  refine zEx6 hww ?_
  intro a1_3 a2_4 a3_5 a4_6 a5_7 a6_8 hbs9
  clear hww
  subst hbs9
  have G : zS T A s.heap s [[zO3 t e0 e1 e2 (nI n3) e4 e5 a1_1 a2_2], [zAr T 0 a1_1 m1 r1], [zAr T 0 a2_2 7 r2], [zO0 h md wy la pc_ a1_3 a2_4 a3_5 a4_6 a5_7 a6_8], [zAr T 0 a1_3 7 f1], [zAr T 0 a2_4 7 f2], [zAr T 0 a3_5 7 f3], [zAr T 0 a4_6 n4 f4], [zAr T 0 a5_7 n4 f5], [zAr T 0 a6_8 n4 f6], z] _ _ := G.re rfl
  refine zEx4 hz ?_
  intro a1_9 a2_10 a3_11 a4_12 hbs9
  clear hz
  subst hbs9
  have G : zS T A s.heap s [[zO3 t e0 e1 e2 (nI n3) e4 e5 a1_1 a2_2], [zAr T 0 a1_1 m1 r1], [zAr T 0 a2_2 7 r2], [zO0 h md wy la pc_ a1_3 a2_4 a3_5 a4_6 a5_7 a6_8], [zAr T 0 a1_3 7 f1], [zAr T 0 a2_4 7 f2], [zAr T 0 a3_5 7 f3], [zAr T 0 a4_6 n4 f4], [zAr T 0 a5_7 n4 f5], [zAr T 0 a6_8 n4 f6], [zO4 la cr inn a1_9 a2_10 a3_11 a4_12], [zAr T 0 a1_9 7 k1], [zAr T 0 a2_10 28 k2], [zAr T 0 a3_11 7 k3], [zAr T 0 a4_12 7 k4]] _ _ := G.re rfl
  have hw_13 : bFit T t e0 e1 e2 (nI n3) e4 e5 r1 m1 r2 [zO3 t e0 e1 e2 (nI n3) e4 e5 a1_1 a2_2, zAr T 0 a1_1 m1 r1, zAr T 0 a2_2 7 r2] := ⟨a1_1, a2_2, rfl⟩
  have G : zS T A s.heap s [[zO3 t e0 e1 e2 (nI n3) e4 e5 a1_1 a2_2, zAr T 0 a1_1 m1 r1, zAr T 0 a2_2 7 r2], [zO0 h md wy la pc_ a1_3 a2_4 a3_5 a4_6 a5_7 a6_8], [zAr T 0 a1_3 7 f1], [zAr T 0 a2_4 7 f2], [zAr T 0 a3_5 7 f3], [zAr T 0 a4_6 n4 f4], [zAr T 0 a5_7 n4 f5], [zAr T 0 a6_8 n4 f6], [zO4 la cr inn a1_9 a2_10 a3_11 a4_12], [zAr T 0 a1_9 7 k1], [zAr T 0 a2_10 28 k2], [zAr T 0 a3_11 7 k3], [zAr T 0 a4_12 7 k4]] _ _ := G.re rfl
  have hw_14 : bWays T h la md wy pc_ f1 f2 f3 f4 f5 f6 n4 [zO0 h md wy la pc_ a1_3 a2_4 a3_5 a4_6 a5_7 a6_8, zAr T 0 a1_3 7 f1, zAr T 0 a2_4 7 f2, zAr T 0 a3_5 7 f3, zAr T 0 a4_6 n4 f4, zAr T 0 a5_7 n4 f5, zAr T 0 a6_8 n4 f6] := ⟨a1_3, a2_4, a3_5, a4_6, a5_7, a6_8, rfl⟩
  have G : zS T A s.heap s [[zO3 t e0 e1 e2 (nI n3) e4 e5 a1_1 a2_2, zAr T 0 a1_1 m1 r1, zAr T 0 a2_2 7 r2], [zO0 h md wy la pc_ a1_3 a2_4 a3_5 a4_6 a5_7 a6_8, zAr T 0 a1_3 7 f1, zAr T 0 a2_4 7 f2, zAr T 0 a3_5 7 f3, zAr T 0 a4_6 n4 f4, zAr T 0 a5_7 n4 f5, zAr T 0 a6_8 n4 f6], [zO4 la cr inn a1_9 a2_10 a3_11 a4_12], [zAr T 0 a1_9 7 k1], [zAr T 0 a2_10 28 k2], [zAr T 0 a3_11 7 k3], [zAr T 0 a4_12 7 k4]] _ _ := G.re rfl
  have hw_15 : bLand T la cr inn k1 k2 k3 k4 [zO4 la cr inn a1_9 a2_10 a3_11 a4_12, zAr T 0 a1_9 7 k1, zAr T 0 a2_10 28 k2, zAr T 0 a3_11 7 k3, zAr T 0 a4_12 7 k4] := ⟨a1_9, a2_10, a3_11, a4_12, rfl⟩
  have G : zS T A s.heap s [[zO3 t e0 e1 e2 (nI n3) e4 e5 a1_1 a2_2, zAr T 0 a1_1 m1 r1, zAr T 0 a2_2 7 r2], [zO0 h md wy la pc_ a1_3 a2_4 a3_5 a4_6 a5_7 a6_8, zAr T 0 a1_3 7 f1, zAr T 0 a2_4 7 f2, zAr T 0 a3_5 7 f3, zAr T 0 a4_6 n4 f4, zAr T 0 a5_7 n4 f5, zAr T 0 a6_8 n4 f6], [zO4 la cr inn a1_9 a2_10 a3_11 a4_12, zAr T 0 a1_9 7 k1, zAr T 0 a2_10 28 k2, zAr T 0 a3_11 7 k3, zAr T 0 a4_12 7 k4]] _ _ := G.re rfl
  refine z_lp5 (T := T) 7 (fun (i : Nat) (b2 : Int32) (bm : Nat) (wt2 : va_W) (y2 : Nat → Int32) => [wt2, [zO0 h md wy la pc_ a1_3 a2_4 a3_5 a4_6 a5_7 a6_8, zAr T 0 a1_3 7 f1, zAr T 0 a2_4 7 f2, zAr T 0 a3_5 7 f3, zAr T 0 a4_6 n4 f4, zAr T 0 a5_7 n4 f5, zAr T 0 a6_8 n4 f6], [zO4 la cr inn a1_9 a2_10 a3_11 a4_12, zAr T 0 a1_9 7 k1, zAr T 0 a2_10 28 k2, zAr T 0 a3_11 7 k3, zAr T 0 a4_12 7 k4]]) (fun (i : Nat) (b2 : Int32) (bm : Nat) (wt2 : va_W) (y2 : Nat → Int32) => [(4, .int (nI i)), (3, .int (nI bm)), (2, .int b2), (0, .ref t), (1, .ref h)]) (fun (i : Nat) (b2 : Int32) (bm : Nat) (wt2 : va_W) (y2 : Nat → Int32) => bFit T t e0 e1 e2 (nI n3) e4 e5 r1 m1 y2 wt2 ∧ i ≤ cr.toInt.toNat ∧ b2 = (gAsk (aW cr inn k1) k2 inn F_ N_ i).1 ∧ bm = (gAsk (aW cr inn k1) k2 inn F_ N_ i).2 ∧ bm ≤ 16384 ∧ (n3 = 0 → b2 = -1)) (fun (i : Nat) (b2 : Int32) (bm : Nat) (wt2 : va_W) (y2 : Nat → Int32) => cr.toInt.toNat - i) ?_ 0 (-1) 0 ([zO3 t e0 e1 e2 (nI n3) e4 e5 a1_1 a2_2, zAr T 0 a1_1 m1 r1, zAr T 0 a2_2 7 r2]) r2 (show bFit T t e0 e1 e2 (nI n3) e4 e5 r1 m1 r2 ([zO3 t e0 e1 e2 (nI n3) e4 e5 a1_1 a2_2, zAr T 0 a1_1 m1 r1, zAr T 0 a2_2 7 r2]) ∧ 0 ≤ cr.toInt.toNat ∧ (-1) = (gAsk (aW cr inn k1) k2 inn F_ N_ 0).1 ∧ 0 = (gAsk (aW cr inn k1) k2 inn F_ N_ 0).2 ∧ 0 ≤ 16384 ∧ (n3 = 0 → (-1) = -1) from ⟨hw_13, by omega, rfl, rfl, (Nat.zero_le _), (fun _ => rfl)⟩) G (lv_sub hl [0, 1, 2, 3, 4] rfl)
  intro i b2 bm wt2 y2 hI9 ih_7 H locs ls G hl
  replace hI9 : bFit T t e0 e1 e2 (nI n3) e4 e5 r1 m1 y2 wt2 ∧ i ≤ cr.toInt.toNat ∧ b2 = (gAsk (aW cr inn k1) k2 inn F_ N_ i).1 ∧ bm = (gAsk (aW cr inn k1) k2 inn F_ N_ i).2 ∧ bm ≤ 16384 ∧ (n3 = 0 → b2 = -1) := hI9
  refine zAn6 hI9 ?_
  intro hwt2 hi hab ham hbm hz9
  clear hI9
  replace G : zS T A s.heap s [wt2, [zO0 h md wy la pc_ a1_3 a2_4 a3_5 a4_6 a5_7 a6_8, zAr T 0 a1_3 7 f1, zAr T 0 a2_4 7 f2, zAr T 0 a3_5 7 f3, zAr T 0 a4_6 n4 f4, zAr T 0 a5_7 n4 f5, zAr T 0 a6_8 n4 f6], [zO4 la cr inn a1_9 a2_10 a3_11 a4_12, zAr T 0 a1_9 7 k1, zAr T 0 a2_10 28 k2, zAr T 0 a3_11 7 k3, zAr T 0 a4_12 7 k4]] _ _ := G
  replace hl : lv_has ls 6 [(4, .int (nI i)), (3, .int (nI bm)), (2, .int b2), (0, .ref t), (1, .ref h)] := hl
  refine lv_iload hx hb dX3_ask_7 (lv_at hl 0 rfl) ?_
  refine lv_aload_n hx hb dX3_ask_9 rfl (lv_at hl 4 rfl) ?_
  have G : zS T A s.heap s [wt2, [zO0 h md wy la pc_ a1_3 a2_4 a3_5 a4_6 a5_7 a6_8], [zAr T 0 a1_3 7 f1], [zAr T 0 a2_4 7 f2], [zAr T 0 a3_5 7 f3], [zAr T 0 a4_6 n4 f4], [zAr T 0 a5_7 n4 f5], [zAr T 0 a6_8 n4 f6], [zO4 la cr inn a1_9 a2_10 a3_11 a4_12, zAr T 0 a1_9 7 k1, zAr T 0 a2_10 28 k2, zAr T 0 a3_11 7 k3, zAr T 0 a4_12 7 k4]] _ _ := G.re rfl
  refine z_get C G clX0 1 rfl 2 (by decide) m_fl_RX3_55 rfl dX3_ask_10 ?_
  have G : zS T A s.heap s [wt2, [zO0 h md wy la pc_ a1_3 a2_4 a3_5 a4_6 a5_7 a6_8], [zAr T 0 a1_3 7 f1], [zAr T 0 a2_4 7 f2], [zAr T 0 a3_5 7 f3], [zAr T 0 a4_6 n4 f4], [zAr T 0 a5_7 n4 f5], [zAr T 0 a6_8 n4 f6], [zO4 la cr inn a1_9 a2_10 a3_11 a4_12], [zAr T 0 a1_9 7 k1], [zAr T 0 a2_10 28 k2], [zAr T 0 a3_11 7 k3], [zAr T 0 a4_12 7 k4]] _ _ := G.re rfl
  refine z_get C G clX4 8 rfl 0 (by decide) m_fl_RX3_103 rfl dX3_ask_13 ?_
  refine lv_icmp_ge (tgt := 70) hx hb dX3_ask_16 (by decide) (fun c_16 => ?_) (fun c_16 => ?_)
  · have c_16n : cr.toInt ≤ (i : Int) := by have q := (fa_le _ _).mp c_16; rw [nI_toInt (n := i) (by omega)] at q; exact q
    refine lv_iload_n hx hb dX3_ask_70 rfl (lv_at hl 2 rfl) ?_
    have hw_17 : bWays T h la md wy pc_ f1 f2 f3 f4 f5 f6 n4 [zO0 h md wy la pc_ a1_3 a2_4 a3_5 a4_6 a5_7 a6_8, zAr T 0 a1_3 7 f1, zAr T 0 a2_4 7 f2, zAr T 0 a3_5 7 f3, zAr T 0 a4_6 n4 f4, zAr T 0 a5_7 n4 f5, zAr T 0 a6_8 n4 f6] := ⟨a1_3, a2_4, a3_5, a4_6, a5_7, a6_8, rfl⟩
    have G : zS T A s.heap s [wt2, [zO0 h md wy la pc_ a1_3 a2_4 a3_5 a4_6 a5_7 a6_8, zAr T 0 a1_3 7 f1, zAr T 0 a2_4 7 f2, zAr T 0 a3_5 7 f3, zAr T 0 a4_6 n4 f4, zAr T 0 a5_7 n4 f5, zAr T 0 a6_8 n4 f6], [zO4 la cr inn a1_9 a2_10 a3_11 a4_12], [zAr T 0 a1_9 7 k1], [zAr T 0 a2_10 28 k2], [zAr T 0 a3_11 7 k3], [zAr T 0 a4_12 7 k4]] _ _ := G.re rfl
    have hw_18 : bLand T la cr inn k1 k2 k3 k4 [zO4 la cr inn a1_9 a2_10 a3_11 a4_12, zAr T 0 a1_9 7 k1, zAr T 0 a2_10 28 k2, zAr T 0 a3_11 7 k3, zAr T 0 a4_12 7 k4] := ⟨a1_9, a2_10, a3_11, a4_12, rfl⟩
    have G : zS T A s.heap s [wt2, [zO0 h md wy la pc_ a1_3 a2_4 a3_5 a4_6 a5_7 a6_8, zAr T 0 a1_3 7 f1, zAr T 0 a2_4 7 f2, zAr T 0 a3_5 7 f3, zAr T 0 a4_6 n4 f4, zAr T 0 a5_7 n4 f5, zAr T 0 a6_8 n4 f6], [zO4 la cr inn a1_9 a2_10 a3_11 a4_12, zAr T 0 a1_9 7 k1, zAr T 0 a2_10 28 k2, zAr T 0 a3_11 7 k3, zAr T 0 a4_12 7 k4]] _ _ := G.re rfl
    exact z_back hQz_ (z_iret C hr hlocks G (Nat.le_of_ble_eq_true rfl) (Nat.le_of_ble_eq_true rfl) dX3_ask_71 ⟨wt2, y2, rfl, hwt2, (by by_cases z9 : gN F_ N_ = 0 <;> first | (rw [if_pos z9]; exact hz9 (by omega)) | (rw [if_neg z9, hab]; exact congrArg (fun q => (gAsk (aW cr inn k1) k2 inn F_ N_ q).1) (by omega)))⟩)
  · have c_16n : ¬ cr.toInt ≤ (i : Int) := fun q => c_16 ((fa_le _ _).mpr (by rw [nI_toInt (n := i) (by omega)]; exact q))
    refine lv_aload_n hx hb dX3_ask_19 rfl (lv_at hl 3 rfl) ?_
    refine zEx2 hwt2 ?_
    intro a1_19 a2_20 hbs9
    clear hwt2
    subst hbs9
    have G : zS T A s.heap s [[zO3 t e0 e1 e2 (nI n3) e4 e5 a1_19 a2_20], [zAr T 0 a1_19 m1 r1], [zAr T 0 a2_20 7 y2], [zO0 h md wy la pc_ a1_3 a2_4 a3_5 a4_6 a5_7 a6_8], [zAr T 0 a1_3 7 f1], [zAr T 0 a2_4 7 f2], [zAr T 0 a3_5 7 f3], [zAr T 0 a4_6 n4 f4], [zAr T 0 a5_7 n4 f5], [zAr T 0 a6_8 n4 f6], [zO4 la cr inn a1_9 a2_10 a3_11 a4_12], [zAr T 0 a1_9 7 k1], [zAr T 0 a2_10 28 k2], [zAr T 0 a3_11 7 k3], [zAr T 0 a4_12 7 k4]] _ _ := G.re rfl
    refine z_get C G clX3 0 rfl 3 (by decide) m_fl_RX3_34 rfl dX3_ask_20 ?_
    refine lv_if_le (tgt := 70) hx hb dX3_ask_23 (by decide) (fun c_21 => ?_) (fun c_21 => ?_)
    · have c_21n : n3 ≤ 0 := (nI_leI (a := n3) (b := 0) (by omega) (by omega)).mp c_21
      refine lv_iload_n hx hb dX3_ask_70 rfl (lv_at hl 2 rfl) ?_
      have hw_22 : bFit T t e0 e1 e2 (nI n3) e4 e5 r1 m1 y2 [zO3 t e0 e1 e2 (nI n3) e4 e5 a1_19 a2_20, zAr T 0 a1_19 m1 r1, zAr T 0 a2_20 7 y2] := ⟨a1_19, a2_20, rfl⟩
      have G : zS T A s.heap s [[zO3 t e0 e1 e2 (nI n3) e4 e5 a1_19 a2_20, zAr T 0 a1_19 m1 r1, zAr T 0 a2_20 7 y2], [zO0 h md wy la pc_ a1_3 a2_4 a3_5 a4_6 a5_7 a6_8], [zAr T 0 a1_3 7 f1], [zAr T 0 a2_4 7 f2], [zAr T 0 a3_5 7 f3], [zAr T 0 a4_6 n4 f4], [zAr T 0 a5_7 n4 f5], [zAr T 0 a6_8 n4 f6], [zO4 la cr inn a1_9 a2_10 a3_11 a4_12], [zAr T 0 a1_9 7 k1], [zAr T 0 a2_10 28 k2], [zAr T 0 a3_11 7 k3], [zAr T 0 a4_12 7 k4]] _ _ := G.re rfl
      have hw_23 : bWays T h la md wy pc_ f1 f2 f3 f4 f5 f6 n4 [zO0 h md wy la pc_ a1_3 a2_4 a3_5 a4_6 a5_7 a6_8, zAr T 0 a1_3 7 f1, zAr T 0 a2_4 7 f2, zAr T 0 a3_5 7 f3, zAr T 0 a4_6 n4 f4, zAr T 0 a5_7 n4 f5, zAr T 0 a6_8 n4 f6] := ⟨a1_3, a2_4, a3_5, a4_6, a5_7, a6_8, rfl⟩
      have G : zS T A s.heap s [[zO3 t e0 e1 e2 (nI n3) e4 e5 a1_19 a2_20, zAr T 0 a1_19 m1 r1, zAr T 0 a2_20 7 y2], [zO0 h md wy la pc_ a1_3 a2_4 a3_5 a4_6 a5_7 a6_8, zAr T 0 a1_3 7 f1, zAr T 0 a2_4 7 f2, zAr T 0 a3_5 7 f3, zAr T 0 a4_6 n4 f4, zAr T 0 a5_7 n4 f5, zAr T 0 a6_8 n4 f6], [zO4 la cr inn a1_9 a2_10 a3_11 a4_12], [zAr T 0 a1_9 7 k1], [zAr T 0 a2_10 28 k2], [zAr T 0 a3_11 7 k3], [zAr T 0 a4_12 7 k4]] _ _ := G.re rfl
      have hw_24 : bLand T la cr inn k1 k2 k3 k4 [zO4 la cr inn a1_9 a2_10 a3_11 a4_12, zAr T 0 a1_9 7 k1, zAr T 0 a2_10 28 k2, zAr T 0 a3_11 7 k3, zAr T 0 a4_12 7 k4] := ⟨a1_9, a2_10, a3_11, a4_12, rfl⟩
      have G : zS T A s.heap s [[zO3 t e0 e1 e2 (nI n3) e4 e5 a1_19 a2_20, zAr T 0 a1_19 m1 r1, zAr T 0 a2_20 7 y2], [zO0 h md wy la pc_ a1_3 a2_4 a3_5 a4_6 a5_7 a6_8, zAr T 0 a1_3 7 f1, zAr T 0 a2_4 7 f2, zAr T 0 a3_5 7 f3, zAr T 0 a4_6 n4 f4, zAr T 0 a5_7 n4 f5, zAr T 0 a6_8 n4 f6], [zO4 la cr inn a1_9 a2_10 a3_11 a4_12, zAr T 0 a1_9 7 k1, zAr T 0 a2_10 28 k2, zAr T 0 a3_11 7 k3, zAr T 0 a4_12 7 k4]] _ _ := G.re rfl
      exact z_back hQz_ (z_iret C hr hlocks G (Nat.le_of_ble_eq_true rfl) (Nat.le_of_ble_eq_true rfl) dX3_ask_71 ⟨([zO3 t e0 e1 e2 (nI n3) e4 e5 a1_19 a2_20, zAr T 0 a1_19 m1 r1, zAr T 0 a2_20 7 y2]), y2, rfl, hw_22, (by by_cases z9 : gN F_ N_ = 0 <;> first | (rw [if_pos z9]; exact hz9 (by omega)) | (rw [if_neg z9, hab]; exact congrArg (fun q => (gAsk (aW cr inn k1) k2 inn F_ N_ q).1) (by omega)))⟩)
    · have c_21n : ¬ n3 ≤ 0 := fun q => c_21 ((nI_leI (a := n3) (b := 0) (by omega) (by omega)).mpr q)
      refine lv_aload_n hx hb dX3_ask_26 rfl (lv_at hl 4 rfl) ?_
      refine z_get C G clX0 3 rfl 2 (by decide) m_fl_RX3_55 rfl dX3_ask_27 ?_
      refine lv_iload hx hb dX3_ask_30 (lv_at hl 0 rfl) ?_
      have hw_25 : bLand T la cr inn k1 k2 k3 k4 [zO4 la cr inn a1_9 a2_10 a3_11 a4_12, zAr T 0 a1_9 7 k1, zAr T 0 a2_10 28 k2, zAr T 0 a3_11 7 k3, zAr T 0 a4_12 7 k4] := ⟨a1_9, a2_10, a3_11, a4_12, rfl⟩
      have G : zS T A s.heap s [[zO3 t e0 e1 e2 (nI n3) e4 e5 a1_19 a2_20], [zAr T 0 a1_19 m1 r1], [zAr T 0 a2_20 7 y2], [zO0 h md wy la pc_ a1_3 a2_4 a3_5 a4_6 a5_7 a6_8], [zAr T 0 a1_3 7 f1], [zAr T 0 a2_4 7 f2], [zAr T 0 a3_5 7 f3], [zAr T 0 a4_6 n4 f4], [zAr T 0 a5_7 n4 f5], [zAr T 0 a6_8 n4 f6], [zO4 la cr inn a1_9 a2_10 a3_11 a4_12, zAr T 0 a1_9 7 k1, zAr T 0 a2_10 28 k2, zAr T 0 a3_11 7 k3, zAr T 0 a4_12 7 k4]] _ _ := G.re rfl
      refine z_Vi (bc := [[zO4 la cr inn a1_9 a2_10 a3_11 a4_12, zAr T 0 a1_9 7 k1, zAr T 0 a2_10 28 k2, zAr T 0 a3_11 7 k3, zAr T 0 a4_12 7 k4]]) (br := [[zO3 t e0 e1 e2 (nI n3) e4 e5 a1_19 a2_20], [zAr T 0 a1_19 m1 r1], [zAr T 0 a2_20 7 y2], [zO0 h md wy la pc_ a1_3 a2_4 a3_5 a4_6 a5_7 a6_8], [zAr T 0 a1_3 7 f1], [zAr T 0 a2_4 7 f2], [zAr T 0 a3_5 7 f3], [zAr T 0 a4_6 n4 f4], [zAr T 0 a5_7 n4 f5], [zAr T 0 a6_8 n4 f6]]) (As := [.int (nI i)]) (rest := []) C G (c_isInn l T la cr inn k1 k2 k3 k4 ([zO4 la cr inn a1_9 a2_10 a3_11 a4_12, zAr T 0 a1_9 7 k1, zAr T 0 a2_10 28 k2, zAr T 0 a3_11 7 k3, zAr T 0 a4_12 7 k4]) (nI i) hw_25) (kV_RX3_89 C.2.2.2.2 (Nat.le_of_ble_eq_true rfl) (Nat.le_of_ble_eq_true rfl)) [10] [10] rfl rfl (ci := 4) (qc := (RX4, TX4, 6)) rfl rfl (List.mem_flatten.mpr ⟨_, List.mem_of_getElem? (i := 0) rfl, (bLand_mem hw_25).choose_spec⟩) rfl rfl hl.1 dX3_ask_32 (Nat.le_of_ble_eq_true rfl) (Nat.le_of_ble_eq_true rfl) (fun r_27 b1 H locs hw G => ?_)
      refine zAn2 hw ?_
      intro hbs9 hc_26
      clear hw
      subst hbs9
      have G : zS T A s.heap s [[zO3 t e0 e1 e2 (nI n3) e4 e5 a1_19 a2_20], [zAr T 0 a1_19 m1 r1], [zAr T 0 a2_20 7 y2], [zO0 h md wy la pc_ a1_3 a2_4 a3_5 a4_6 a5_7 a6_8], [zAr T 0 a1_3 7 f1], [zAr T 0 a2_4 7 f2], [zAr T 0 a3_5 7 f3], [zAr T 0 a4_6 n4 f4], [zAr T 0 a5_7 n4 f5], [zAr T 0 a6_8 n4 f6], [zO4 la cr inn a1_9 a2_10 a3_11 a4_12, zAr T 0 a1_9 7 k1, zAr T 0 a2_10 28 k2, zAr T 0 a3_11 7 k3, zAr T 0 a4_12 7 k4]] _ _ := G
      rcases hc_26 with ⟨rfl, h_28, h_29, h_30, h_31⟩ | ⟨rfl, h_32⟩
      · have h_28 : 0 ≤ (nI i).toInt := h_28
        have h_29 : (nI i).toInt < cr.toInt := h_29
        have h_30 : (nI i).toInt < 7 := h_30
        have h_31 : ¬ zBit inn (nI i) = 0 := h_31
        have hgk9 : (gAsk (aW cr inn k1) k2 inn F_ N_ (i + 1)) = (gAsk (aW cr inn k1) k2 inn F_ N_ i) := gAsk_i (zBit_p h_31)
        refine lv_if_ne (tgt := 64) hx hb dX3_ask_35 (by decide) (fun _ => ?_) (fun q => absurd q (by decide))
        refine lv_iinc (v := nI (i + 1)) (lv' := [(4, .int (nI (i + 1))), (3, .int (nI bm)), (2, .int b2), (0, .ref t), (1, .ref h)]) hx hb dX3_ask_64 hl (k := 0) rfl (z_inc i 1) (by decide) (zLvf_h rfl) (fun ls hl => ?_)
        refine lv_goto (tgt := 7) hx hb dX3_ask_67 (by decide) ?_
        have hw_33 : bFit T t e0 e1 e2 (nI n3) e4 e5 r1 m1 y2 [zO3 t e0 e1 e2 (nI n3) e4 e5 a1_19 a2_20, zAr T 0 a1_19 m1 r1, zAr T 0 a2_20 7 y2] := ⟨a1_19, a2_20, rfl⟩
        have G : zS T A s.heap s [[zO3 t e0 e1 e2 (nI n3) e4 e5 a1_19 a2_20, zAr T 0 a1_19 m1 r1, zAr T 0 a2_20 7 y2], [zO0 h md wy la pc_ a1_3 a2_4 a3_5 a4_6 a5_7 a6_8], [zAr T 0 a1_3 7 f1], [zAr T 0 a2_4 7 f2], [zAr T 0 a3_5 7 f3], [zAr T 0 a4_6 n4 f4], [zAr T 0 a5_7 n4 f5], [zAr T 0 a6_8 n4 f6], [zO4 la cr inn a1_9 a2_10 a3_11 a4_12, zAr T 0 a1_9 7 k1, zAr T 0 a2_10 28 k2, zAr T 0 a3_11 7 k3, zAr T 0 a4_12 7 k4]] _ _ := G.re rfl
        have hw_34 : bWays T h la md wy pc_ f1 f2 f3 f4 f5 f6 n4 [zO0 h md wy la pc_ a1_3 a2_4 a3_5 a4_6 a5_7 a6_8, zAr T 0 a1_3 7 f1, zAr T 0 a2_4 7 f2, zAr T 0 a3_5 7 f3, zAr T 0 a4_6 n4 f4, zAr T 0 a5_7 n4 f5, zAr T 0 a6_8 n4 f6] := ⟨a1_3, a2_4, a3_5, a4_6, a5_7, a6_8, rfl⟩
        have G : zS T A s.heap s [[zO3 t e0 e1 e2 (nI n3) e4 e5 a1_19 a2_20, zAr T 0 a1_19 m1 r1, zAr T 0 a2_20 7 y2], [zO0 h md wy la pc_ a1_3 a2_4 a3_5 a4_6 a5_7 a6_8, zAr T 0 a1_3 7 f1, zAr T 0 a2_4 7 f2, zAr T 0 a3_5 7 f3, zAr T 0 a4_6 n4 f4, zAr T 0 a5_7 n4 f5, zAr T 0 a6_8 n4 f6], [zO4 la cr inn a1_9 a2_10 a3_11 a4_12, zAr T 0 a1_9 7 k1, zAr T 0 a2_10 28 k2, zAr T 0 a3_11 7 k3, zAr T 0 a4_12 7 k4]] _ _ := G.re rfl
        exact ih_7 (i + 1) b2 bm ([zO3 t e0 e1 e2 (nI n3) e4 e5 a1_19 a2_20, zAr T 0 a1_19 m1 r1, zAr T 0 a2_20 7 y2]) y2 (show bFit T t e0 e1 e2 (nI n3) e4 e5 r1 m1 y2 ([zO3 t e0 e1 e2 (nI n3) e4 e5 a1_19 a2_20, zAr T 0 a1_19 m1 r1, zAr T 0 a2_20 7 y2]) ∧ (i + 1) ≤ cr.toInt.toNat ∧ b2 = (gAsk (aW cr inn k1) k2 inn F_ N_ (i + 1)).1 ∧ bm = (gAsk (aW cr inn k1) k2 inn F_ N_ (i + 1)).2 ∧ bm ≤ 16384 ∧ (n3 = 0 → b2 = -1) from ⟨hw_33, by omega, (by rw [hgk9] <;> (first | rfl | exact hab)), (by rw [hgk9] <;> (first | rfl | exact ham)), (by omega), (fun q9 => by exfalso; omega)⟩) (show cr.toInt.toNat - (i + 1) < cr.toInt.toNat - i from by omega) _ _ ls G (lv_sub hl [0, 1, 2, 3, 4] rfl)
      · have h_32 : ((nI i).toInt < 0 ∨ cr.toInt ≤ (nI i).toInt ∨ 7 ≤ (nI i).toInt ∨ zBit inn (nI i) = 0) := h_32
        have ti9 := nI_toInt (n := i) (by omega)
        have hni9 : ¬ zBit inn (nI i) = 1 := by rcases h_32 with e9 | e9 | e9 | e9 <;> first | (exfalso; omega) | exact fun q9 => zBit_o q9 e9
        have hgt9 := gTo_le (W := (aW cr inn k1)) (L := k2) (f := F_) (N := N_) (c := nI i)
        refine lv_if_ne (tgt := 64) hx hb dX3_ask_35 (by decide) (fun q => absurd (by decide) q) (fun _ => ?_)
        refine lv_aload_n hx hb dX3_ask_38 rfl (lv_at hl 3 rfl) ?_
        refine lv_aload_n hx hb dX3_ask_39 rfl (lv_at hl 4 rfl) ?_
        refine lv_iload hx hb dX3_ask_40 (lv_at hl 0 rfl) ?_
        have hw_35 : bFit T t e0 e1 e2 (nI n3) e4 e5 r1 m1 y2 [zO3 t e0 e1 e2 (nI n3) e4 e5 a1_19 a2_20, zAr T 0 a1_19 m1 r1, zAr T 0 a2_20 7 y2] := ⟨a1_19, a2_20, rfl⟩
        have G : zS T A s.heap s [[zO3 t e0 e1 e2 (nI n3) e4 e5 a1_19 a2_20, zAr T 0 a1_19 m1 r1, zAr T 0 a2_20 7 y2], [zO0 h md wy la pc_ a1_3 a2_4 a3_5 a4_6 a5_7 a6_8], [zAr T 0 a1_3 7 f1], [zAr T 0 a2_4 7 f2], [zAr T 0 a3_5 7 f3], [zAr T 0 a4_6 n4 f4], [zAr T 0 a5_7 n4 f5], [zAr T 0 a6_8 n4 f6], [zO4 la cr inn a1_9 a2_10 a3_11 a4_12, zAr T 0 a1_9 7 k1, zAr T 0 a2_10 28 k2, zAr T 0 a3_11 7 k3, zAr T 0 a4_12 7 k4]] _ _ := G.re rfl
        have hw_36 : bWays T h la md wy pc_ f1 f2 f3 f4 f5 f6 n4 [zO0 h md wy la pc_ a1_3 a2_4 a3_5 a4_6 a5_7 a6_8, zAr T 0 a1_3 7 f1, zAr T 0 a2_4 7 f2, zAr T 0 a3_5 7 f3, zAr T 0 a4_6 n4 f4, zAr T 0 a5_7 n4 f5, zAr T 0 a6_8 n4 f6] := ⟨a1_3, a2_4, a3_5, a4_6, a5_7, a6_8, rfl⟩
        have G : zS T A s.heap s [[zO3 t e0 e1 e2 (nI n3) e4 e5 a1_19 a2_20, zAr T 0 a1_19 m1 r1, zAr T 0 a2_20 7 y2], [zO0 h md wy la pc_ a1_3 a2_4 a3_5 a4_6 a5_7 a6_8, zAr T 0 a1_3 7 f1, zAr T 0 a2_4 7 f2, zAr T 0 a3_5 7 f3, zAr T 0 a4_6 n4 f4, zAr T 0 a5_7 n4 f5, zAr T 0 a6_8 n4 f6], [zO4 la cr inn a1_9 a2_10 a3_11 a4_12, zAr T 0 a1_9 7 k1, zAr T 0 a2_10 28 k2, zAr T 0 a3_11 7 k3, zAr T 0 a4_12 7 k4]] _ _ := G.re rfl
        refine z_Vi (bc := [[zO3 t e0 e1 e2 (nI n3) e4 e5 a1_19 a2_20, zAr T 0 a1_19 m1 r1, zAr T 0 a2_20 7 y2], [zO0 h md wy la pc_ a1_3 a2_4 a3_5 a4_6 a5_7 a6_8, zAr T 0 a1_3 7 f1, zAr T 0 a2_4 7 f2, zAr T 0 a3_5 7 f3, zAr T 0 a4_6 n4 f4, zAr T 0 a5_7 n4 f5, zAr T 0 a6_8 n4 f6], [zO4 la cr inn a1_9 a2_10 a3_11 a4_12, zAr T 0 a1_9 7 k1, zAr T 0 a2_10 28 k2, zAr T 0 a3_11 7 k3, zAr T 0 a4_12 7 k4]]) (br := []) (As := [.ref h, .int (nI i)]) (rest := []) C G (c_e_mostTogether l T t e0 e1 e2 e4 e5 r1 m1 y2 ([zO3 t e0 e1 e2 (nI n3) e4 e5 a1_19 a2_20, zAr T 0 a1_19 m1 r1, zAr T 0 a2_20 7 y2]) n3 h la md wy pc_ f1 f2 f3 f4 f5 f6 n4 ([zO0 h md wy la pc_ a1_3 a2_4 a3_5 a4_6 a5_7 a6_8, zAr T 0 a1_3 7 f1, zAr T 0 a2_4 7 f2, zAr T 0 a3_5 7 f3, zAr T 0 a4_6 n4 f4, zAr T 0 a5_7 n4 f5, zAr T 0 a6_8 n4 f6]) cr inn k1 k2 k3 k4 ([zO4 la cr inn a1_9 a2_10 a3_11 a4_12, zAr T 0 a1_9 7 k1, zAr T 0 a2_10 28 k2, zAr T 0 a3_11 7 k3, zAr T 0 a4_12 7 k4]) F_ N_ (nI i) hw_35 hw_36 hw_25 (by first | with_reducible assumption | with_reducible rfl | omega | assumption | rfl) (by first | with_reducible assumption | with_reducible rfl | omega | assumption | rfl) (by first | with_reducible assumption | with_reducible rfl | omega | assumption | rfl) (by first | with_reducible assumption | with_reducible rfl | omega | assumption | rfl) (by first | with_reducible assumption | with_reducible rfl | omega | assumption | rfl) (by first | with_reducible assumption | with_reducible rfl | omega | assumption | rfl) (by first | with_reducible assumption | with_reducible rfl | omega | assumption | rfl) (by first | with_reducible assumption | with_reducible rfl | omega | assumption | rfl) ⟨by omega, by omega, by omega⟩) (kV_RX3_106 C.2.2.2.2 (Nat.le_of_ble_eq_true rfl) (Nat.le_of_ble_eq_true rfl)) [0, 1, 2] [0, 0, 0] rfl rfl (ci := 3) (qc := (RX3, TX3, 8)) rfl rfl (List.mem_flatten.mpr ⟨_, List.mem_of_getElem? (i := 0) rfl, (bFit_mem hw_35).choose_spec⟩) rfl rfl hl.1 dX3_ask_42 (Nat.le_of_ble_eq_true rfl) (Nat.le_of_ble_eq_true rfl) (fun r_41 b1 H locs hw G => ?_)
        refine zEx2 hw ?_
        intro w2_37 g2_38
        refine zCu3 ?_
        intro hbs9 h_39 h_40
        clear hw
        subst hbs9
        have G : zS T A s.heap s [w2_37, [zO0 h md wy la pc_ a1_3 a2_4 a3_5 a4_6 a5_7 a6_8, zAr T 0 a1_3 7 f1, zAr T 0 a2_4 7 f2, zAr T 0 a3_5 7 f3, zAr T 0 a4_6 n4 f4, zAr T 0 a5_7 n4 f5, zAr T 0 a6_8 n4 f6], [zO4 la cr inn a1_9 a2_10 a3_11 a4_12, zAr T 0 a1_9 7 k1, zAr T 0 a2_10 28 k2, zAr T 0 a3_11 7 k3, zAr T 0 a4_12 7 k4]] _ _ := G
        refine lv_topi (fun y_42 ey_42 => ?_)
        obtain rfl : y_42 = nI (gTo (aW cr inn k1) k2 F_ N_ (nI i)) := ey_42.trans (h_40)
        refine lv_istore (lv' := [(5, .int (nI (gTo (aW cr inn k1) k2 F_ N_ (nI i)))), (4, .int (nI i)), (3, .int (nI bm)), (2, .int b2), (0, .ref t), (1, .ref h)]) hx hb dX3_ask_45 hl (by decide) (zLvf_h rfl) (fun ls hl => ?_)
        refine lv_iload_n hx hb dX3_ask_47 rfl (lv_at hl 3 rfl) ?_
        refine lv_iconst (v := (-1)) hx hb dX3_ask_48 (by decide) ?_
        refine lv_icmp_eq (tgt := 58) hx hb dX3_ask_49 (by decide) (fun c_43 => ?_) (fun c_43 => ?_)
        · have c_43n : b2.toInt = (-1 : Int) := (fa_eq _ _).mp c_43
          refine lv_iload hx hb dX3_ask_58 (lv_at hl 1 rfl) ?_
          refine lv_istore_n (lv' := [(2, .int (nI i)), (5, .int (nI (gTo (aW cr inn k1) k2 F_ N_ (nI i)))), (4, .int (nI i)), (3, .int (nI bm)), (0, .ref t), (1, .ref h)]) hx hb dX3_ask_60 rfl hl (by decide) (zLvf_h rfl) (fun ls hl => ?_)
          refine lv_iload hx hb dX3_ask_61 (lv_at hl 1 rfl) ?_
          refine lv_istore_n (lv' := [(3, .int (nI (gTo (aW cr inn k1) k2 F_ N_ (nI i)))), (2, .int (nI i)), (5, .int (nI (gTo (aW cr inn k1) k2 F_ N_ (nI i)))), (4, .int (nI i)), (0, .ref t), (1, .ref h)]) hx hb dX3_ask_63 rfl hl (by decide) (zLvf_h rfl) (fun ls hl => ?_)
          have hgk9 := gAsk_t (W := (aW cr inn k1)) (L := k2) (f := F_) (N := N_) hni9 (by rw [← hab, ← ham]; first | exact Or.inl (by first | with_reducible assumption | assumption) | exact Or.inr (by omega))
          refine lv_iinc (v := nI (i + 1)) (lv' := [(4, .int (nI (i + 1))), (3, .int (nI (gTo (aW cr inn k1) k2 F_ N_ (nI i)))), (2, .int (nI i)), (5, .int (nI (gTo (aW cr inn k1) k2 F_ N_ (nI i)))), (0, .ref t), (1, .ref h)]) hx hb dX3_ask_64 hl (k := 3) rfl (z_inc i 1) (by decide) (zLvf_h rfl) (fun ls hl => ?_)
          refine lv_goto (tgt := 7) hx hb dX3_ask_67 (by decide) ?_
          exact ih_7 (i + 1) (nI i) (gTo (aW cr inn k1) k2 F_ N_ (nI i)) w2_37 g2_38 (show bFit T t e0 e1 e2 (nI n3) e4 e5 r1 m1 g2_38 w2_37 ∧ (i + 1) ≤ cr.toInt.toNat ∧ (nI i) = (gAsk (aW cr inn k1) k2 inn F_ N_ (i + 1)).1 ∧ (gTo (aW cr inn k1) k2 F_ N_ (nI i)) = (gAsk (aW cr inn k1) k2 inn F_ N_ (i + 1)).2 ∧ (gTo (aW cr inn k1) k2 F_ N_ (nI i)) ≤ 16384 ∧ (n3 = 0 → (nI i) = -1) from ⟨h_39, by omega, (by rw [hgk9] <;> (first | rfl | exact hab)), (by rw [hgk9] <;> (first | rfl | exact ham)), (by omega), (fun q9 => by exfalso; omega)⟩) (show cr.toInt.toNat - (i + 1) < cr.toInt.toNat - i from by omega) _ _ ls G (lv_sub hl [0, 1, 2, 4, 5] rfl)
        · have c_43n : ¬ b2.toInt = (-1 : Int) := fun q => c_43 ((fa_eq _ _).mpr q)
          refine lv_iload hx hb dX3_ask_52 (lv_at hl 0 rfl) ?_
          refine lv_iload_n hx hb dX3_ask_54 rfl (lv_at hl 2 rfl) ?_
          refine lv_icmp_ge (tgt := 64) hx hb dX3_ask_55 (by decide) (fun c_44 => ?_) (fun c_44 => ?_)
          · have c_44n : bm ≤ gTo (aW cr inn k1) k2 F_ N_ (nI i) := (nI_leI (a := bm) (b := gTo (aW cr inn k1) k2 F_ N_ (nI i)) (by omega) (by omega)).mp c_44
            have hgk9 := gAsk_k (W := (aW cr inn k1)) (L := k2) (f := F_) (N := N_) hni9 (by rw [← hab, ← ham]; exact fun q9 => q9.elim (fun q8 => absurd q8 (by first | with_reducible assumption | assumption)) (fun q8 => by omega))
            refine lv_iinc (v := nI (i + 1)) (lv' := [(4, .int (nI (i + 1))), (5, .int (nI (gTo (aW cr inn k1) k2 F_ N_ (nI i)))), (3, .int (nI bm)), (2, .int b2), (0, .ref t), (1, .ref h)]) hx hb dX3_ask_64 hl (k := 1) rfl (z_inc i 1) (by decide) (zLvf_h rfl) (fun ls hl => ?_)
            refine lv_goto (tgt := 7) hx hb dX3_ask_67 (by decide) ?_
            exact ih_7 (i + 1) b2 bm w2_37 g2_38 (show bFit T t e0 e1 e2 (nI n3) e4 e5 r1 m1 g2_38 w2_37 ∧ (i + 1) ≤ cr.toInt.toNat ∧ b2 = (gAsk (aW cr inn k1) k2 inn F_ N_ (i + 1)).1 ∧ bm = (gAsk (aW cr inn k1) k2 inn F_ N_ (i + 1)).2 ∧ bm ≤ 16384 ∧ (n3 = 0 → b2 = -1) from ⟨h_39, by omega, (by rw [hgk9] <;> (first | rfl | exact hab)), (by rw [hgk9] <;> (first | rfl | exact ham)), (by omega), (fun q9 => by exfalso; omega)⟩) (show cr.toInt.toNat - (i + 1) < cr.toInt.toNat - i from by omega) _ _ ls G (lv_sub hl [0, 2, 3, 4, 5] rfl)
          · have c_44n : ¬ bm ≤ gTo (aW cr inn k1) k2 F_ N_ (nI i) := fun q => c_44 ((nI_leI (a := bm) (b := gTo (aW cr inn k1) k2 F_ N_ (nI i)) (by omega) (by omega)).mpr q)
            refine lv_iload hx hb dX3_ask_58 (lv_at hl 1 rfl) ?_
            refine lv_istore_n (lv' := [(2, .int (nI i)), (5, .int (nI (gTo (aW cr inn k1) k2 F_ N_ (nI i)))), (4, .int (nI i)), (3, .int (nI bm)), (0, .ref t), (1, .ref h)]) hx hb dX3_ask_60 rfl hl (by decide) (zLvf_h rfl) (fun ls hl => ?_)
            refine lv_iload hx hb dX3_ask_61 (lv_at hl 1 rfl) ?_
            refine lv_istore_n (lv' := [(3, .int (nI (gTo (aW cr inn k1) k2 F_ N_ (nI i)))), (2, .int (nI i)), (5, .int (nI (gTo (aW cr inn k1) k2 F_ N_ (nI i)))), (4, .int (nI i)), (0, .ref t), (1, .ref h)]) hx hb dX3_ask_63 rfl hl (by decide) (zLvf_h rfl) (fun ls hl => ?_)
            have hgk9 := gAsk_t (W := (aW cr inn k1)) (L := k2) (f := F_) (N := N_) hni9 (by rw [← hab, ← ham]; first | exact Or.inl (by first | with_reducible assumption | assumption) | exact Or.inr (by omega))
            refine lv_iinc (v := nI (i + 1)) (lv' := [(4, .int (nI (i + 1))), (3, .int (nI (gTo (aW cr inn k1) k2 F_ N_ (nI i)))), (2, .int (nI i)), (5, .int (nI (gTo (aW cr inn k1) k2 F_ N_ (nI i)))), (0, .ref t), (1, .ref h)]) hx hb dX3_ask_64 hl (k := 3) rfl (z_inc i 1) (by decide) (zLvf_h rfl) (fun ls hl => ?_)
            refine lv_goto (tgt := 7) hx hb dX3_ask_67 (by decide) ?_
            exact ih_7 (i + 1) (nI i) (gTo (aW cr inn k1) k2 F_ N_ (nI i)) w2_37 g2_38 (show bFit T t e0 e1 e2 (nI n3) e4 e5 r1 m1 g2_38 w2_37 ∧ (i + 1) ≤ cr.toInt.toNat ∧ (nI i) = (gAsk (aW cr inn k1) k2 inn F_ N_ (i + 1)).1 ∧ (gTo (aW cr inn k1) k2 F_ N_ (nI i)) = (gAsk (aW cr inn k1) k2 inn F_ N_ (i + 1)).2 ∧ (gTo (aW cr inn k1) k2 F_ N_ (nI i)) ≤ 16384 ∧ (n3 = 0 → (nI i) = -1) from ⟨h_39, by omega, (by rw [hgk9] <;> (first | rfl | exact hab)), (by rw [hgk9] <;> (first | rfl | exact ham)), (by omega), (fun q9 => by exfalso; omega)⟩) (show cr.toInt.toNat - (i + 1) < cr.toInt.toNat - i from by omega) _ _ ls G (lv_sub hl [0, 1, 2, 4, 5] rfl)
set_option maxHeartbeats 4000000 in
set_option maxRecDepth 100000 in
/-- fits -/
theorem c_f_fits (l : Launch) (T : zTy) (xo : Nat) (t : Nat) (im : Nat) (mk : Nat) (rd : Nat) (po : Nat) (co : Nat) (tr : Nat) (wa : Nat) (wb_ : Nat) (fi : Nat) (cd : Nat) (l0 : Nat) (l1 : Nat) (d0 : Nat) (d1 : Nat) (g0 : Nat) (g1 : Nat) (ln : Int32) (fl : Int32) (pl : Int32) (ft : Nat → Int32) (fk : Nat → Int32) (wt : va_W) (cr0_ : Int32) (inn0_ : Int32) (k10_ : Nat → Int32) (k20_ : Nat → Int32) (k30_ : Nat → Int32) (k40_ : Nat → Int32) (z0_ : va_W) (cr1_ : Int32) (inn1_ : Int32) (k11_ : Nat → Int32) (k21_ : Nat → Int32) (k31_ : Nat → Int32) (k41_ : Nat → Int32) (z1_ : va_W) (gg0_ : Int32) (q10_ : Nat → Int32) (q20_ : Nat → Int32) (wg0_ : va_W) (gg1_ : Int32) (q11_ : Nat → Int32) (q21_ : Nat → Int32) (wg1_ : va_W) (laA : Nat) (mdA : Int32) (wyA : Int32) (pc_A : Int32) (f1A : Nat → Int32) (f2A : Nat → Int32) (f3A : Nat → Int32) (f4A : Nat → Int32) (f5A : Nat → Int32) (f6A : Nat → Int32) (n4A : Nat) (wwA : va_W) (laB : Nat) (mdB : Int32) (wyB : Int32) (pc_B : Int32) (f1B : Nat → Int32) (f2B : Nat → Int32) (f3B : Nat → Int32) (f4B : Nat → Int32) (f5B : Nat → Int32) (f6B : Nat → Int32) (n4B : Nat) (wwB : va_W) (e0f : Int32) (e1f : Int32) (e2f : Int32) (e3f : Int32) (e4f : Int32) (e5f : Int32) (r1f : Nat → Int32) (m1f : Nat) (r2f : Nat → Int32) (wff : va_W) (i1 : Int32) (i2 : Int32) (w_ : Int32) (ht : bTold T t l0 l1 d0 d1 g0 g1 ln fl pl ft fk wt) (hK : zKT fk) (hz0_ : bLand T l0 cr0_ inn0_ k10_ k20_ k30_ k40_ z0_) (hI0_ : zLI cr0_ k10_ k30_) (hz1_ : bLand T l1 cr1_ inn1_ k11_ k21_ k31_ k41_ z1_) (hI1_ : zLI cr1_ k11_ k31_) (hg0_ : bLog T g0 gg0_ q10_ q20_ wg0_) (hg1_ : bLog T g1 gg1_ q11_ q21_ wg1_) (hwwA : bWays T wa laA mdA wyA pc_A f1A f2A f3A f4A f5A f6A n4A wwA) (hpwA : zPw n4A) (hmdA : mdA = 0 ∨ laA = l0) (hwmA : 0 ≤ wyA.toInt ∧ wyA.toInt ≤ 16384) (hTbA : mdA = 0 ∨ zTab cr0_ inn0_ k10_ k20_ wyA pc_A f1A f2A f5A n4A) (hLq0 : zLq cr0_ k10_ k20_) (hwwB : bWays T wb_ laB mdB wyB pc_B f1B f2B f3B f4B f5B f6B n4B wwB) (hpwB : zPw n4B) (hmdB : mdB = 0 ∨ laB = l1) (hwmB : 0 ≤ wyB.toInt ∧ wyB.toInt ≤ 16384) (hTbB : mdB = 0 ∨ zTab cr1_ inn1_ k11_ k21_ wyB pc_B f1B f2B f5B n4B) (hLq1 : zLq cr1_ k11_ k21_) (hwff : bFit T fi e0f e1f e2f e3f e4f e5f r1f m1f r2f wff) (hfw : zFw m1f) (hf3 : 0 ≤ e3f.toInt) (hFI : (¬ e0f = 0 → e1f.toInt = 0 ∧ ¬ mdA = 0 ∨ e1f.toInt = 1 ∧ ¬ mdB = 0)) (hFt00 : (¬ e0f = 0 → e1f.toInt = 0 → e2f.toInt = 0 → gFt (fun w => gF (aW cr0_ inn0_ k10_) k20_ cr0_ inn0_ q10_ q20_ w gg0_.toInt.toNat) (aPr (aW cr0_ inn0_ k10_) 7) e3f e4f e5f r1f m1f)) (hFt01 : (¬ e0f = 0 → e1f.toInt = 0 → e2f.toInt = 1 → gFt (fun w => gF (aW cr0_ inn0_ k10_) k20_ cr0_ inn0_ q11_ q21_ w gg1_.toInt.toNat) (aPr (aW cr0_ inn0_ k10_) 7) e3f e4f e5f r1f m1f)) (hFt10 : (¬ e0f = 0 → e1f.toInt = 1 → e2f.toInt = 0 → gFt (fun w => gF (aW cr1_ inn1_ k11_) k21_ cr1_ inn1_ q10_ q20_ w gg0_.toInt.toNat) (aPr (aW cr1_ inn1_ k11_) 7) e3f e4f e5f r1f m1f)) (hFt11 : (¬ e0f = 0 → e1f.toInt = 1 → e2f.toInt = 1 → gFt (fun w => gF (aW cr1_ inn1_ k11_) k21_ cr1_ inn1_ q11_ q21_ w gg1_.toInt.toNat) (aPr (aW cr1_ inn1_ k11_) 7) e3f e4f e5f r1f m1f)) (hGg0 : 0 ≤ gg0_.toInt ∧ gg0_.toInt ≤ 8) (hGg1 : 0 ≤ gg1_.toInt ∧ gg1_.toInt ≤ 8) : zMi l T yX11_fits cX11_fits 7 (some .int) 8 7 (6 * (zNA (i1.toInt = 0 ∧ 0 < (fk 0).toInt ∧ (0 ≤ i2.toInt ∧ i2.toInt < (fk 2).toInt ∧ i2.toInt < 2) ∧ (e0f.toInt = 0 ∨ ¬ e1f.toInt = i1.toInt ∨ ¬ e2f.toInt = i2.toInt)) mdA n4A (zPl cr0_ inn0_ k10_) - n4A) + 6 * (zNA (i1.toInt = 1 ∧ 1 < (fk 0).toInt ∧ (0 ≤ i2.toInt ∧ i2.toInt < (fk 2).toInt ∧ i2.toInt < 2) ∧ (e0f.toInt = 0 ∨ ¬ e1f.toInt = i1.toInt ∨ ¬ e2f.toInt = i2.toInt)) mdB n4B (zPl cr1_ inn1_ k11_) - n4B) + 2 * (zNF (i1.toInt = 1 ∧ 1 < (fk 0).toInt ∧ (0 ≤ i2.toInt ∧ i2.toInt < (fk 2).toInt ∧ i2.toInt < 2) ∧ (e0f.toInt = 0 ∨ ¬ e1f.toInt = i1.toInt ∨ ¬ e2f.toInt = i2.toInt)) (zNF (i1.toInt = 0 ∧ 0 < (fk 0).toInt ∧ (0 ≤ i2.toInt ∧ i2.toInt < (fk 2).toInt ∧ i2.toInt < 2) ∧ (e0f.toInt = 0 ∨ ¬ e1f.toInt = i1.toInt ∨ ¬ e2f.toInt = i2.toInt)) m1f (zMw mdA wyA cr0_ inn0_ k10_)) (zMw mdB wyB cr1_ inn1_ k11_) - m1f)) [.ref xo, .int i1, .int i2, .int w_] [[zO10 xo t im mk rd po co tr wa wb_ fi cd], wt, z0_, z1_, wg0_, wg1_, wwA, wwB, wff] (fun (r : Int32) bs => ∃ (laA_2 : Nat) (mdA_2 : Int32) (wyA_2 : Int32) (pc_A_2 : Int32) (f1A_2 : Nat → Int32) (f2A_2 : Nat → Int32) (f3A_2 : Nat → Int32) (f4A_2 : Nat → Int32) (f5A_2 : Nat → Int32) (f6A_2 : Nat → Int32) (n4A_2 : Nat) (wwA_2 : va_W) (laB_2 : Nat) (mdB_2 : Int32) (wyB_2 : Int32) (pc_B_2 : Int32) (f1B_2 : Nat → Int32) (f2B_2 : Nat → Int32) (f3B_2 : Nat → Int32) (f4B_2 : Nat → Int32) (f5B_2 : Nat → Int32) (f6B_2 : Nat → Int32) (n4B_2 : Nat) (wwB_2 : va_W) (e0f_2 : Int32) (e1f_2 : Int32) (e2f_2 : Int32) (e3f_2 : Int32) (e4f_2 : Int32) (e5f_2 : Int32) (r1f_2 : Nat → Int32) (m1f_2 : Nat) (r2f_2 : Nat → Int32) (wff_2 : va_W), bs = [[zO10 xo t im mk rd po co tr wa wb_ fi cd], wt, z0_, z1_, wg0_, wg1_, wwA_2, wwB_2, wff_2] ∧ bWays T wa laA_2 mdA_2 wyA_2 pc_A_2 f1A_2 f2A_2 f3A_2 f4A_2 f5A_2 f6A_2 n4A_2 wwA_2 ∧ (mdA_2 = 0 ∨ laA_2 = l0) ∧ (0 ≤ wyA_2.toInt ∧ wyA_2.toInt ≤ 16384) ∧ n4A_2 = zNA (i1.toInt = 0 ∧ 0 < (fk 0).toInt ∧ (0 ≤ i2.toInt ∧ i2.toInt < (fk 2).toInt ∧ i2.toInt < 2) ∧ (e0f.toInt = 0 ∨ ¬ e1f.toInt = i1.toInt ∨ ¬ e2f.toInt = i2.toInt)) mdA n4A (zPl cr0_ inn0_ k10_) ∧ zPw n4A_2 ∧ (¬ mdA = 0 → ¬ mdA_2 = 0) ∧ (mdA_2 = 0 ∨ zTab cr0_ inn0_ k10_ k20_ wyA_2 pc_A_2 f1A_2 f2A_2 f5A_2 n4A_2) ∧ bWays T wb_ laB_2 mdB_2 wyB_2 pc_B_2 f1B_2 f2B_2 f3B_2 f4B_2 f5B_2 f6B_2 n4B_2 wwB_2 ∧ (mdB_2 = 0 ∨ laB_2 = l1) ∧ (0 ≤ wyB_2.toInt ∧ wyB_2.toInt ≤ 16384) ∧ n4B_2 = zNA (i1.toInt = 1 ∧ 1 < (fk 0).toInt ∧ (0 ≤ i2.toInt ∧ i2.toInt < (fk 2).toInt ∧ i2.toInt < 2) ∧ (e0f.toInt = 0 ∨ ¬ e1f.toInt = i1.toInt ∨ ¬ e2f.toInt = i2.toInt)) mdB n4B (zPl cr1_ inn1_ k11_) ∧ zPw n4B_2 ∧ (¬ mdB = 0 → ¬ mdB_2 = 0) ∧ (mdB_2 = 0 ∨ zTab cr1_ inn1_ k11_ k21_ wyB_2 pc_B_2 f1B_2 f2B_2 f5B_2 n4B_2) ∧ bFit T fi e0f_2 e1f_2 e2f_2 e3f_2 e4f_2 e5f_2 r1f_2 m1f_2 r2f_2 wff_2 ∧ m1f_2 = zNF (i1.toInt = 1 ∧ 1 < (fk 0).toInt ∧ (0 ≤ i2.toInt ∧ i2.toInt < (fk 2).toInt ∧ i2.toInt < 2) ∧ (e0f.toInt = 0 ∨ ¬ e1f.toInt = i1.toInt ∨ ¬ e2f.toInt = i2.toInt)) (zNF (i1.toInt = 0 ∧ 0 < (fk 0).toInt ∧ (0 ≤ i2.toInt ∧ i2.toInt < (fk 2).toInt ∧ i2.toInt < 2) ∧ (e0f.toInt = 0 ∨ ¬ e1f.toInt = i1.toInt ∨ ¬ e2f.toInt = i2.toInt)) m1f (zMw mdA wyA cr0_ inn0_ k10_)) (zMw mdB wyB cr1_ inn1_ k11_) ∧ zFw m1f_2 ∧ 0 ≤ e3f_2.toInt ∧ (¬ e0f_2 = 0 → e1f_2.toInt = 0 ∧ ¬ mdA_2 = 0 ∨ e1f_2.toInt = 1 ∧ ¬ mdB_2 = 0) ∧ (¬ e0f_2 = 0 → e1f_2.toInt = 0 → e2f_2.toInt = 0 → gFt (fun w => gF (aW cr0_ inn0_ k10_) k20_ cr0_ inn0_ q10_ q20_ w gg0_.toInt.toNat) (aPr (aW cr0_ inn0_ k10_) 7) e3f_2 e4f_2 e5f_2 r1f_2 m1f_2) ∧ (¬ e0f_2 = 0 → e1f_2.toInt = 0 → e2f_2.toInt = 1 → gFt (fun w => gF (aW cr0_ inn0_ k10_) k20_ cr0_ inn0_ q11_ q21_ w gg1_.toInt.toNat) (aPr (aW cr0_ inn0_ k10_) 7) e3f_2 e4f_2 e5f_2 r1f_2 m1f_2) ∧ (¬ e0f_2 = 0 → e1f_2.toInt = 1 → e2f_2.toInt = 0 → gFt (fun w => gF (aW cr1_ inn1_ k11_) k21_ cr1_ inn1_ q10_ q20_ w gg0_.toInt.toNat) (aPr (aW cr1_ inn1_ k11_) 7) e3f_2 e4f_2 e5f_2 r1f_2 m1f_2) ∧ (¬ e0f_2 = 0 → e1f_2.toInt = 1 → e2f_2.toInt = 1 → gFt (fun w => gF (aW cr1_ inn1_ k11_) k21_ cr1_ inn1_ q11_ q21_ w gg1_.toInt.toNat) (aPr (aW cr1_ inn1_ k11_) 7) e3f_2 e4f_2 e5f_2 r1f_2 m1f_2) ∧ (((i1.toInt < 0 ∨ (fk 0).toInt ≤ i1.toInt ∨ 2 ≤ i1.toInt) ∨ (i2.toInt < 0 ∨ (fk 2).toInt ≤ i2.toInt ∨ 2 ≤ i2.toInt)) ∧ r = -2 ∨ (i1.toInt = 0 ∧ 0 < (fk 0).toInt) ∧ (i2.toInt = 0 ∧ 0 < (fk 2).toInt) ∧ r = kFits cr0_ inn0_ k10_ k20_ gg0_ q10_ q20_ w_ ∨ (i1.toInt = 0 ∧ 0 < (fk 0).toInt) ∧ (i2.toInt = 1 ∧ 1 < (fk 2).toInt) ∧ r = kFits cr0_ inn0_ k10_ k20_ gg1_ q11_ q21_ w_ ∨ (i1.toInt = 1 ∧ 1 < (fk 0).toInt) ∧ (i2.toInt = 0 ∧ 0 < (fk 2).toInt) ∧ r = kFits cr1_ inn1_ k11_ k21_ gg0_ q10_ q20_ w_ ∨ (i1.toInt = 1 ∧ 1 < (fk 0).toInt) ∧ (i2.toInt = 1 ∧ 1 < (fk 2).toInt) ∧ r = kFits cr1_ inn1_ k11_ k21_ gg1_ q11_ q21_ w_)) := by
  refine zMi_of (own := RX11) (by decide) rfl (Nat.le_of_ble_eq_true rfl) ?_
  intro p e s m args below meth c A ls C hr hlocks hnm hAe G hl
  refine zHide (fun Qz_ hQz_ => ?_)
  have hx := C.1
  have hb := C.2.1
  replace hmdA : zHd (mdA = 0 ∨ laA = l0) := hmdA
  replace hTbA : zHd (mdA = 0 ∨ zTab cr0_ inn0_ k10_ k20_ wyA pc_A f1A f2A f5A n4A) := hTbA
  replace hmdB : zHd (mdB = 0 ∨ laB = l1) := hmdB
  replace hTbB : zHd (mdB = 0 ∨ zTab cr1_ inn1_ k11_ k21_ wyB pc_B f1B f2B f5B n4B) := hTbB
  replace hFI : zHd ((¬ e0f = 0 → e1f.toInt = 0 ∧ ¬ mdA = 0 ∨ e1f.toInt = 1 ∧ ¬ mdB = 0)) := hFI
  have hl : lv_has ls 7 [(0, .ref xo), (1, .int i1), (2, .int i2), (3, .int w_)] := hl
  refine lv_aload_n hx hb dX11_fits_0 rfl (lv_at hl 0 rfl) ?_
  refine z_get C G clX11 0 rfl 0 (by decide) m_fl_RX11_10 rfl dX11_fits_1 ?_
  refine lv_iload_n hx hb dX11_fits_4 rfl (lv_at hl 1 rfl) ?_
  refine z_Vq (bc := [wt]) (br := [[zO10 xo t im mk rd po co tr wa wb_ fi cd], z0_, z1_, wg0_, wg1_, wwA, wwB, wff]) (As := [.int i1]) (rest := []) C G (c_landAt l T t l0 l1 d0 d1 g0 g1 ln fl pl ft fk wt i1 ht) (kV_RX11_121 C.2.2.2.2 (Nat.le_of_ble_eq_true rfl) (Nat.le_of_ble_eq_true rfl)) [1] [1] rfl rfl (ci := 8) (qc := (RX9, TX9, 8)) rfl rfl (List.mem_flatten.mpr ⟨_, List.mem_of_getElem? (i := 0) rfl, (bTold_mem ht).choose_spec⟩) rfl rfl hl.1 dX11_fits_5 (Nat.le_of_ble_eq_true rfl) (by show _ + 0 ≤ 6 * (zNA (i1.toInt = 0 ∧ 0 < (fk 0).toInt ∧ (0 ≤ i2.toInt ∧ i2.toInt < (fk 2).toInt ∧ i2.toInt < 2) ∧ (e0f.toInt = 0 ∨ ¬ e1f.toInt = i1.toInt ∨ ¬ e2f.toInt = i2.toInt)) mdA n4A (zPl cr0_ inn0_ k10_) - n4A) + 6 * (zNA (i1.toInt = 1 ∧ 1 < (fk 0).toInt ∧ (0 ≤ i2.toInt ∧ i2.toInt < (fk 2).toInt ∧ i2.toInt < 2) ∧ (e0f.toInt = 0 ∨ ¬ e1f.toInt = i1.toInt ∨ ¬ e2f.toInt = i2.toInt)) mdB n4B (zPl cr1_ inn1_ k11_) - n4B) + 2 * (zNF (i1.toInt = 1 ∧ 1 < (fk 0).toInt ∧ (0 ≤ i2.toInt ∧ i2.toInt < (fk 2).toInt ∧ i2.toInt < 2) ∧ (e0f.toInt = 0 ∨ ¬ e1f.toInt = i1.toInt ∨ ¬ e2f.toInt = i2.toInt)) (zNF (i1.toInt = 0 ∧ 0 < (fk 0).toInt ∧ (0 ≤ i2.toInt ∧ i2.toInt < (fk 2).toInt ∧ i2.toInt < 2) ∧ (e0f.toInt = 0 ∨ ¬ e1f.toInt = i1.toInt ∨ ¬ e2f.toInt = i2.toInt)) m1f (zMw mdA wyA cr0_ inn0_ k10_)) (zMw mdB wyB cr1_ inn1_ k11_) - m1f); omega) (fun r_2 b1 H locs hw G => ?_)
  refine zAn2 hw ?_
  intro hbs9 hc_1
  clear hw
  subst hbs9
  have G : zS T A s.heap s [[zO10 xo t im mk rd po co tr wa wb_ fi cd], z0_, z1_, wg0_, wg1_, wwA, wwB, wff, wt] _ _ := G
  rcases hc_1 with ⟨rfl, h_3⟩ | ⟨rfl, h_4, h_5⟩ | ⟨rfl, h_6, h_7⟩
  · have h_3 : (i1.toInt < 0 ∨ (fk 0).toInt ≤ i1.toInt ∨ 2 ≤ i1.toInt) := h_3
    refine lv_astoreN (lv' := [(4, .null), (0, .ref xo), (1, .int i1), (2, .int i2), (3, .int w_)]) hx hb dX11_fits_8 hl (by decide) (zLvf_h rfl) (fun ls hl => ?_)
    refine lv_aload_n hx hb dX11_fits_10 rfl (lv_at hl 1 rfl) ?_
    refine lv_iload_n hx hb dX11_fits_11 rfl (lv_at hl 2 rfl) ?_
    refine lv_iload_n hx hb dX11_fits_12 rfl (lv_at hl 3 rfl) ?_
    refine z_Vi (bc := [[zO10 xo t im mk rd po co tr wa wb_ fi cd], wt, z0_, z1_, wg0_, wg1_, wwA, wwB, wff]) (br := []) (As := [.int i1, .int i2]) (rest := []) C G (c_e_fit l T xo t im mk rd po co tr wa wb_ fi cd l0 l1 d0 d1 g0 g1 ln fl pl ft fk wt cr0_ inn0_ k10_ k20_ k30_ k40_ z0_ cr1_ inn1_ k11_ k21_ k31_ k41_ z1_ gg0_ q10_ q20_ wg0_ gg1_ q11_ q21_ wg1_ laA mdA wyA pc_A f1A f2A f3A f4A f5A f6A n4A wwA laB mdB wyB pc_B f1B f2B f3B f4B f5B f6B n4B wwB e0f e1f e2f e3f e4f e5f r1f m1f r2f wff i1 i2 ht (by first | with_reducible assumption | with_reducible rfl | omega | assumption | rfl) hz0_ (by first | with_reducible assumption | with_reducible rfl | omega | assumption | rfl) hz1_ (by first | with_reducible assumption | with_reducible rfl | omega | assumption | rfl) hg0_ hg1_ hwwA (by first | with_reducible assumption | with_reducible rfl | omega | assumption | rfl) (by first | with_reducible assumption | with_reducible rfl | omega | assumption | rfl) (by first | with_reducible assumption | with_reducible rfl | omega | assumption | rfl) (by first | with_reducible assumption | with_reducible rfl | omega | assumption | rfl) (by first | with_reducible assumption | with_reducible rfl | omega | assumption | rfl) hwwB (by first | with_reducible assumption | with_reducible rfl | omega | assumption | rfl) (by first | with_reducible assumption | with_reducible rfl | omega | assumption | rfl) (by first | with_reducible assumption | with_reducible rfl | omega | assumption | rfl) (by first | with_reducible assumption | with_reducible rfl | omega | assumption | rfl) (by first | with_reducible assumption | with_reducible rfl | omega | assumption | rfl) hwff hfw hf3 hFI hFt00 hFt01 hFt10 hFt11 hGg0 hGg1) (kV_RX11_302 C.2.2.2.2 (Nat.le_of_ble_eq_true rfl) (Nat.le_of_ble_eq_true rfl)) [0, 8, 1, 2, 3, 4, 5, 6, 7] [0, 0, 0, 0, 0, 0, 0, 0, 0] rfl rfl (ci := 10) (qc := (RX11, TX11, 11)) rfl rfl (List.mem_flatten.mpr ⟨_, List.mem_of_getElem? (i := 0) rfl, List.mem_cons_self⟩) rfl rfl hl.1 dX11_fits_13 (Nat.le_of_ble_eq_true rfl) (by show _ + (6 * (zNA (i1.toInt = 0 ∧ 0 < (fk 0).toInt ∧ (0 ≤ i2.toInt ∧ i2.toInt < (fk 2).toInt ∧ i2.toInt < 2) ∧ (e0f.toInt = 0 ∨ ¬ e1f.toInt = i1.toInt ∨ ¬ e2f.toInt = i2.toInt)) mdA n4A (zPl cr0_ inn0_ k10_) - n4A) + 6 * (zNA (i1.toInt = 1 ∧ 1 < (fk 0).toInt ∧ (0 ≤ i2.toInt ∧ i2.toInt < (fk 2).toInt ∧ i2.toInt < 2) ∧ (e0f.toInt = 0 ∨ ¬ e1f.toInt = i1.toInt ∨ ¬ e2f.toInt = i2.toInt)) mdB n4B (zPl cr1_ inn1_ k11_) - n4B) + 2 * (zNF (i1.toInt = 1 ∧ 1 < (fk 0).toInt ∧ (0 ≤ i2.toInt ∧ i2.toInt < (fk 2).toInt ∧ i2.toInt < 2) ∧ (e0f.toInt = 0 ∨ ¬ e1f.toInt = i1.toInt ∨ ¬ e2f.toInt = i2.toInt)) (zNF (i1.toInt = 0 ∧ 0 < (fk 0).toInt ∧ (0 ≤ i2.toInt ∧ i2.toInt < (fk 2).toInt ∧ i2.toInt < 2) ∧ (e0f.toInt = 0 ∨ ¬ e1f.toInt = i1.toInt ∨ ¬ e2f.toInt = i2.toInt)) m1f (zMw mdA wyA cr0_ inn0_ k10_)) (zMw mdB wyB cr1_ inn1_ k11_) - m1f)) ≤ 6 * (zNA (i1.toInt = 0 ∧ 0 < (fk 0).toInt ∧ (0 ≤ i2.toInt ∧ i2.toInt < (fk 2).toInt ∧ i2.toInt < 2) ∧ (e0f.toInt = 0 ∨ ¬ e1f.toInt = i1.toInt ∨ ¬ e2f.toInt = i2.toInt)) mdA n4A (zPl cr0_ inn0_ k10_) - n4A) + 6 * (zNA (i1.toInt = 1 ∧ 1 < (fk 0).toInt ∧ (0 ≤ i2.toInt ∧ i2.toInt < (fk 2).toInt ∧ i2.toInt < 2) ∧ (e0f.toInt = 0 ∨ ¬ e1f.toInt = i1.toInt ∨ ¬ e2f.toInt = i2.toInt)) mdB n4B (zPl cr1_ inn1_ k11_) - n4B) + 2 * (zNF (i1.toInt = 1 ∧ 1 < (fk 0).toInt ∧ (0 ≤ i2.toInt ∧ i2.toInt < (fk 2).toInt ∧ i2.toInt < 2) ∧ (e0f.toInt = 0 ∨ ¬ e1f.toInt = i1.toInt ∨ ¬ e2f.toInt = i2.toInt)) (zNF (i1.toInt = 0 ∧ 0 < (fk 0).toInt ∧ (0 ≤ i2.toInt ∧ i2.toInt < (fk 2).toInt ∧ i2.toInt < 2) ∧ (e0f.toInt = 0 ∨ ¬ e1f.toInt = i1.toInt ∨ ¬ e2f.toInt = i2.toInt)) m1f (zMw mdA wyA cr0_ inn0_ k10_)) (zMw mdB wyB cr1_ inn1_ k11_) - m1f); omega) (fun r_67 b1 H locs hw G => ?_)
    refine zEx34 hw ?_
    intro laA_8 mdA_9 wyA_10 pc_A_11 f1A_12 f2A_13 f3A_14 f4A_15 f5A_16 f6A_17 n4A_18 wwA_19 laB_20 mdB_21 wyB_22 pc_B_23 f1B_24 f2B_25 f3B_26 f4B_27 f5B_28 f6B_29 n4B_30 wwB_31 e0f_32 e1f_33 e2f_34 e3f_35 e4f_36 e5f_37 r1f_38 m1f_39 r2f_40 wff_41
    refine zCu26 ?_
    intro hbs9 h_42 h_43 h_44 h_45 h_46 h_47 h_48 h_49 h_50 h_51 h_52 h_53 h_54 h_55 h_56 h_57 h_58 h_59 h_60 h_61 h_62 h_63 h_64 h_65 h_66
    clear hw
    subst hbs9
    have G : zS T A s.heap s [[zO10 xo t im mk rd po co tr wa wb_ fi cd], wt, z0_, z1_, wg0_, wg1_, wwA_19, wwB_31, wff_41] _ _ := G
    replace h_43 : zHd ((mdA_9 = 0 ∨ laA_8 = l0)) := h_43
    replace h_47 : zHd ((¬ mdA = 0 → ¬ mdA_9 = 0)) := h_47
    replace h_48 : zHd ((mdA_9 = 0 ∨ zTab cr0_ inn0_ k10_ k20_ wyA_10 pc_A_11 f1A_12 f2A_13 f5A_16 n4A_18)) := h_48
    replace h_50 : zHd ((mdB_21 = 0 ∨ laB_20 = l1)) := h_50
    replace h_54 : zHd ((¬ mdB = 0 → ¬ mdB_21 = 0)) := h_54
    replace h_55 : zHd ((mdB_21 = 0 ∨ zTab cr1_ inn1_ k11_ k21_ wyB_22 pc_B_23 f1B_24 f2B_25 f5B_28 n4B_30)) := h_55
    replace h_61 : zHd ((¬ e0f_32 = 0 → e1f_33.toInt = 0 ∧ ¬ mdA_9 = 0 ∨ e1f_33.toInt = 1 ∧ ¬ mdB_21 = 0)) := h_61
    have hfm9 : m1f_39 ≤ 16384 := zFw_le h_58
    have hwl9 := Int32.toInt_lt w_
    refine lv_if_eq (tgt := 28) hx hb dX11_fits_16 (by decide) (fun c_68 => ?_) (fun c_68 => ?_)
    · have c_68n : r_67.toInt = (0 : Int) := (fa_eq _ _).mp c_68
      refine lv_bipush (v := (-2)) hx hb dX11_fits_28 (by decide) ?_
      exact z_back hQz_ (z_iret C hr hlocks G (Nat.le_of_ble_eq_true rfl) (by omega) dX11_fits_30 ⟨laA_8, mdA_9, wyA_10, pc_A_11, f1A_12, f2A_13, f3A_14, f4A_15, f5A_16, f6A_17, n4A_18, wwA_19, laB_20, mdB_21, wyB_22, pc_B_23, f1B_24, f2B_25, f3B_26, f4B_27, f5B_28, f6B_29, n4B_30, wwB_31, e0f_32, e1f_33, e2f_34, e3f_35, e4f_36, e5f_37, r1f_38, m1f_39, r2f_40, wff_41, rfl, h_42, h_43, h_44, h_45, h_46, h_47, h_48, h_49, h_50, h_51, h_52, h_53, h_54, h_55, h_56, h_57, h_58, h_59, h_61, h_62, h_63, h_64, h_65, (by rcases h_60 with ⟨x0, x1⟩ | ⟨x0, x1, x2, x3⟩ <;> first | (exfalso; first | (exact absurd (congrArg Int32.toInt x0) (by first | with_reducible assumption | assumption)) | (exact absurd x0 (by first | with_reducible assumption | assumption)) | (exact absurd x0 (by decide)) | omega | (have x9 := congrArg Int32.toInt x0; have x8 : (1 : Int32).toInt = 1 := rfl; have x7 : (0 : Int32).toInt = 0 := rfl; omega)) | (exact Or.inl ⟨by first | exact Or.inl (by omega) | exact Or.inr (by omega) | omega, rfl⟩) | (rcases (show (i1.toInt = 0 ∧ i2.toInt = 0) ∨ (i1.toInt = 0 ∧ i2.toInt = 1) ∨ (i1.toInt = 1 ∧ i2.toInt = 0) ∨ (i1.toInt = 1 ∧ i2.toInt = 1) by omega) with z9 | z9 | z9 | z9 <;> first | (exact Or.inr (Or.inl ⟨⟨by omega, by omega⟩, ⟨by omega, by omega⟩, (by unfold kFits gFits; exact (if_pos (by omega)).symm)⟩)) | (exact Or.inr (Or.inr (Or.inl ⟨⟨by omega, by omega⟩, ⟨by omega, by omega⟩, (by unfold kFits gFits; exact (if_pos (by omega)).symm)⟩))) | (exact Or.inr (Or.inr (Or.inr (Or.inl ⟨⟨by omega, by omega⟩, ⟨by omega, by omega⟩, (by unfold kFits gFits; exact (if_pos (by omega)).symm)⟩)))) | (exact Or.inr (Or.inr (Or.inr (Or.inr (⟨⟨by omega, by omega⟩, ⟨by omega, by omega⟩, (by unfold kFits gFits; exact (if_pos (by omega)).symm)⟩)))))))⟩)
    · have c_68n : ¬ r_67.toInt = (0 : Int) := fun q => c_68 ((fa_eq _ _).mpr q)
      refine lv_aloadN hx hb dX11_fits_19 (lv_at hl 0 rfl) ?_
      refine lv_ifnullN (tgt := 28) hx hb dX11_fits_21 (by decide) ?_
      refine lv_bipush (v := (-2)) hx hb dX11_fits_28 (by decide) ?_
      exact z_back hQz_ (z_iret C hr hlocks G (Nat.le_of_ble_eq_true rfl) (by omega) dX11_fits_30 ⟨laA_8, mdA_9, wyA_10, pc_A_11, f1A_12, f2A_13, f3A_14, f4A_15, f5A_16, f6A_17, n4A_18, wwA_19, laB_20, mdB_21, wyB_22, pc_B_23, f1B_24, f2B_25, f3B_26, f4B_27, f5B_28, f6B_29, n4B_30, wwB_31, e0f_32, e1f_33, e2f_34, e3f_35, e4f_36, e5f_37, r1f_38, m1f_39, r2f_40, wff_41, rfl, h_42, h_43, h_44, h_45, h_46, h_47, h_48, h_49, h_50, h_51, h_52, h_53, h_54, h_55, h_56, h_57, h_58, h_59, h_61, h_62, h_63, h_64, h_65, (by rcases h_60 with ⟨x0, x1⟩ | ⟨x0, x1, x2, x3⟩ <;> first | (exfalso; first | (exact absurd (congrArg Int32.toInt x0) (by first | with_reducible assumption | assumption)) | (exact absurd x0 (by first | with_reducible assumption | assumption)) | (exact absurd x0 (by decide)) | omega | (have x9 := congrArg Int32.toInt x0; have x8 : (1 : Int32).toInt = 1 := rfl; have x7 : (0 : Int32).toInt = 0 := rfl; omega)) | (exact Or.inl ⟨by first | exact Or.inl (by omega) | exact Or.inr (by omega) | omega, rfl⟩) | (rcases (show (i1.toInt = 0 ∧ i2.toInt = 0) ∨ (i1.toInt = 0 ∧ i2.toInt = 1) ∨ (i1.toInt = 1 ∧ i2.toInt = 0) ∨ (i1.toInt = 1 ∧ i2.toInt = 1) by omega) with z9 | z9 | z9 | z9 <;> first | (exact Or.inr (Or.inl ⟨⟨by omega, by omega⟩, ⟨by omega, by omega⟩, (by unfold kFits gFits; exact (if_pos (by omega)).symm)⟩)) | (exact Or.inr (Or.inr (Or.inl ⟨⟨by omega, by omega⟩, ⟨by omega, by omega⟩, (by unfold kFits gFits; exact (if_pos (by omega)).symm)⟩))) | (exact Or.inr (Or.inr (Or.inr (Or.inl ⟨⟨by omega, by omega⟩, ⟨by omega, by omega⟩, (by unfold kFits gFits; exact (if_pos (by omega)).symm)⟩)))) | (exact Or.inr (Or.inr (Or.inr (Or.inr (⟨⟨by omega, by omega⟩, ⟨by omega, by omega⟩, (by unfold kFits gFits; exact (if_pos (by omega)).symm)⟩)))))))⟩)
  · have h_4 : i1.toInt = 0 := h_4
    have h_5 : 0 < (fk 0).toInt := h_5
    refine lv_astore (lv' := [(4, .ref l0), (0, .ref xo), (1, .int i1), (2, .int i2), (3, .int w_)]) hx hb dX11_fits_8 hl (by decide) (zLvf_h rfl) (fun ls hl => ?_)
    refine lv_aload_n hx hb dX11_fits_10 rfl (lv_at hl 1 rfl) ?_
    refine lv_iload_n hx hb dX11_fits_11 rfl (lv_at hl 2 rfl) ?_
    refine lv_iload_n hx hb dX11_fits_12 rfl (lv_at hl 3 rfl) ?_
    refine z_Vi (bc := [[zO10 xo t im mk rd po co tr wa wb_ fi cd], wt, z0_, z1_, wg0_, wg1_, wwA, wwB, wff]) (br := []) (As := [.int i1, .int i2]) (rest := []) C G (c_e_fit l T xo t im mk rd po co tr wa wb_ fi cd l0 l1 d0 d1 g0 g1 ln fl pl ft fk wt cr0_ inn0_ k10_ k20_ k30_ k40_ z0_ cr1_ inn1_ k11_ k21_ k31_ k41_ z1_ gg0_ q10_ q20_ wg0_ gg1_ q11_ q21_ wg1_ laA mdA wyA pc_A f1A f2A f3A f4A f5A f6A n4A wwA laB mdB wyB pc_B f1B f2B f3B f4B f5B f6B n4B wwB e0f e1f e2f e3f e4f e5f r1f m1f r2f wff i1 i2 ht (by first | with_reducible assumption | with_reducible rfl | omega | assumption | rfl) hz0_ (by first | with_reducible assumption | with_reducible rfl | omega | assumption | rfl) hz1_ (by first | with_reducible assumption | with_reducible rfl | omega | assumption | rfl) hg0_ hg1_ hwwA (by first | with_reducible assumption | with_reducible rfl | omega | assumption | rfl) (by first | with_reducible assumption | with_reducible rfl | omega | assumption | rfl) (by first | with_reducible assumption | with_reducible rfl | omega | assumption | rfl) (by first | with_reducible assumption | with_reducible rfl | omega | assumption | rfl) (by first | with_reducible assumption | with_reducible rfl | omega | assumption | rfl) hwwB (by first | with_reducible assumption | with_reducible rfl | omega | assumption | rfl) (by first | with_reducible assumption | with_reducible rfl | omega | assumption | rfl) (by first | with_reducible assumption | with_reducible rfl | omega | assumption | rfl) (by first | with_reducible assumption | with_reducible rfl | omega | assumption | rfl) (by first | with_reducible assumption | with_reducible rfl | omega | assumption | rfl) hwff hfw hf3 hFI hFt00 hFt01 hFt10 hFt11 hGg0 hGg1) (kV_RX11_302 C.2.2.2.2 (Nat.le_of_ble_eq_true rfl) (Nat.le_of_ble_eq_true rfl)) [0, 8, 1, 2, 3, 4, 5, 6, 7] [0, 0, 0, 0, 0, 0, 0, 0, 0] rfl rfl (ci := 10) (qc := (RX11, TX11, 11)) rfl rfl (List.mem_flatten.mpr ⟨_, List.mem_of_getElem? (i := 0) rfl, List.mem_cons_self⟩) rfl rfl hl.1 dX11_fits_13 (Nat.le_of_ble_eq_true rfl) (by show _ + (6 * (zNA (i1.toInt = 0 ∧ 0 < (fk 0).toInt ∧ (0 ≤ i2.toInt ∧ i2.toInt < (fk 2).toInt ∧ i2.toInt < 2) ∧ (e0f.toInt = 0 ∨ ¬ e1f.toInt = i1.toInt ∨ ¬ e2f.toInt = i2.toInt)) mdA n4A (zPl cr0_ inn0_ k10_) - n4A) + 6 * (zNA (i1.toInt = 1 ∧ 1 < (fk 0).toInt ∧ (0 ≤ i2.toInt ∧ i2.toInt < (fk 2).toInt ∧ i2.toInt < 2) ∧ (e0f.toInt = 0 ∨ ¬ e1f.toInt = i1.toInt ∨ ¬ e2f.toInt = i2.toInt)) mdB n4B (zPl cr1_ inn1_ k11_) - n4B) + 2 * (zNF (i1.toInt = 1 ∧ 1 < (fk 0).toInt ∧ (0 ≤ i2.toInt ∧ i2.toInt < (fk 2).toInt ∧ i2.toInt < 2) ∧ (e0f.toInt = 0 ∨ ¬ e1f.toInt = i1.toInt ∨ ¬ e2f.toInt = i2.toInt)) (zNF (i1.toInt = 0 ∧ 0 < (fk 0).toInt ∧ (0 ≤ i2.toInt ∧ i2.toInt < (fk 2).toInt ∧ i2.toInt < 2) ∧ (e0f.toInt = 0 ∨ ¬ e1f.toInt = i1.toInt ∨ ¬ e2f.toInt = i2.toInt)) m1f (zMw mdA wyA cr0_ inn0_ k10_)) (zMw mdB wyB cr1_ inn1_ k11_) - m1f)) ≤ 6 * (zNA (i1.toInt = 0 ∧ 0 < (fk 0).toInt ∧ (0 ≤ i2.toInt ∧ i2.toInt < (fk 2).toInt ∧ i2.toInt < 2) ∧ (e0f.toInt = 0 ∨ ¬ e1f.toInt = i1.toInt ∨ ¬ e2f.toInt = i2.toInt)) mdA n4A (zPl cr0_ inn0_ k10_) - n4A) + 6 * (zNA (i1.toInt = 1 ∧ 1 < (fk 0).toInt ∧ (0 ≤ i2.toInt ∧ i2.toInt < (fk 2).toInt ∧ i2.toInt < 2) ∧ (e0f.toInt = 0 ∨ ¬ e1f.toInt = i1.toInt ∨ ¬ e2f.toInt = i2.toInt)) mdB n4B (zPl cr1_ inn1_ k11_) - n4B) + 2 * (zNF (i1.toInt = 1 ∧ 1 < (fk 0).toInt ∧ (0 ≤ i2.toInt ∧ i2.toInt < (fk 2).toInt ∧ i2.toInt < 2) ∧ (e0f.toInt = 0 ∨ ¬ e1f.toInt = i1.toInt ∨ ¬ e2f.toInt = i2.toInt)) (zNF (i1.toInt = 0 ∧ 0 < (fk 0).toInt ∧ (0 ≤ i2.toInt ∧ i2.toInt < (fk 2).toInt ∧ i2.toInt < 2) ∧ (e0f.toInt = 0 ∨ ¬ e1f.toInt = i1.toInt ∨ ¬ e2f.toInt = i2.toInt)) m1f (zMw mdA wyA cr0_ inn0_ k10_)) (zMw mdB wyB cr1_ inn1_ k11_) - m1f); omega) (fun r_128 b1 H locs hw G => ?_)
    refine zEx34 hw ?_
    intro laA_69 mdA_70 wyA_71 pc_A_72 f1A_73 f2A_74 f3A_75 f4A_76 f5A_77 f6A_78 n4A_79 wwA_80 laB_81 mdB_82 wyB_83 pc_B_84 f1B_85 f2B_86 f3B_87 f4B_88 f5B_89 f6B_90 n4B_91 wwB_92 e0f_93 e1f_94 e2f_95 e3f_96 e4f_97 e5f_98 r1f_99 m1f_100 r2f_101 wff_102
    refine zCu26 ?_
    intro hbs9 h_103 h_104 h_105 h_106 h_107 h_108 h_109 h_110 h_111 h_112 h_113 h_114 h_115 h_116 h_117 h_118 h_119 h_120 h_121 h_122 h_123 h_124 h_125 h_126 h_127
    clear hw
    subst hbs9
    have G : zS T A s.heap s [[zO10 xo t im mk rd po co tr wa wb_ fi cd], wt, z0_, z1_, wg0_, wg1_, wwA_80, wwB_92, wff_102] _ _ := G
    replace h_104 : zHd ((mdA_70 = 0 ∨ laA_69 = l0)) := h_104
    replace h_108 : zHd ((¬ mdA = 0 → ¬ mdA_70 = 0)) := h_108
    replace h_109 : zHd ((mdA_70 = 0 ∨ zTab cr0_ inn0_ k10_ k20_ wyA_71 pc_A_72 f1A_73 f2A_74 f5A_77 n4A_79)) := h_109
    replace h_111 : zHd ((mdB_82 = 0 ∨ laB_81 = l1)) := h_111
    replace h_115 : zHd ((¬ mdB = 0 → ¬ mdB_82 = 0)) := h_115
    replace h_116 : zHd ((mdB_82 = 0 ∨ zTab cr1_ inn1_ k11_ k21_ wyB_83 pc_B_84 f1B_85 f2B_86 f5B_89 n4B_91)) := h_116
    replace h_122 : zHd ((¬ e0f_93 = 0 → e1f_94.toInt = 0 ∧ ¬ mdA_70 = 0 ∨ e1f_94.toInt = 1 ∧ ¬ mdB_82 = 0)) := h_122
    have hfm9 : m1f_100 ≤ 16384 := zFw_le h_119
    have hwl9 := Int32.toInt_lt w_
    refine lv_if_eq (tgt := 28) hx hb dX11_fits_16 (by decide) (fun c_129 => ?_) (fun c_129 => ?_)
    · have c_129n : r_128.toInt = (0 : Int) := (fa_eq _ _).mp c_129
      refine lv_bipush (v := (-2)) hx hb dX11_fits_28 (by decide) ?_
      exact z_back hQz_ (z_iret C hr hlocks G (Nat.le_of_ble_eq_true rfl) (by omega) dX11_fits_30 ⟨laA_69, mdA_70, wyA_71, pc_A_72, f1A_73, f2A_74, f3A_75, f4A_76, f5A_77, f6A_78, n4A_79, wwA_80, laB_81, mdB_82, wyB_83, pc_B_84, f1B_85, f2B_86, f3B_87, f4B_88, f5B_89, f6B_90, n4B_91, wwB_92, e0f_93, e1f_94, e2f_95, e3f_96, e4f_97, e5f_98, r1f_99, m1f_100, r2f_101, wff_102, rfl, h_103, h_104, h_105, h_106, h_107, h_108, h_109, h_110, h_111, h_112, h_113, h_114, h_115, h_116, h_117, h_118, h_119, h_120, h_122, h_123, h_124, h_125, h_126, (by rcases h_121 with ⟨x0, x1⟩ | ⟨x0, x1, x2, x3⟩ <;> first | (exfalso; first | (exact absurd (congrArg Int32.toInt x0) (by first | with_reducible assumption | assumption)) | (exact absurd x0 (by first | with_reducible assumption | assumption)) | (exact absurd x0 (by decide)) | omega | (have x9 := congrArg Int32.toInt x0; have x8 : (1 : Int32).toInt = 1 := rfl; have x7 : (0 : Int32).toInt = 0 := rfl; omega)) | (exact Or.inl ⟨by first | exact Or.inl (by omega) | exact Or.inr (by omega) | omega, rfl⟩) | (rcases (show (i1.toInt = 0 ∧ i2.toInt = 0) ∨ (i1.toInt = 0 ∧ i2.toInt = 1) ∨ (i1.toInt = 1 ∧ i2.toInt = 0) ∨ (i1.toInt = 1 ∧ i2.toInt = 1) by omega) with z9 | z9 | z9 | z9 <;> first | (exact Or.inr (Or.inl ⟨⟨by omega, by omega⟩, ⟨by omega, by omega⟩, (by unfold kFits gFits; exact (if_pos (by omega)).symm)⟩)) | (exact Or.inr (Or.inr (Or.inl ⟨⟨by omega, by omega⟩, ⟨by omega, by omega⟩, (by unfold kFits gFits; exact (if_pos (by omega)).symm)⟩))) | (exact Or.inr (Or.inr (Or.inr (Or.inl ⟨⟨by omega, by omega⟩, ⟨by omega, by omega⟩, (by unfold kFits gFits; exact (if_pos (by omega)).symm)⟩)))) | (exact Or.inr (Or.inr (Or.inr (Or.inr (⟨⟨by omega, by omega⟩, ⟨by omega, by omega⟩, (by unfold kFits gFits; exact (if_pos (by omega)).symm)⟩)))))))⟩)
    · have c_129n : ¬ r_128.toInt = (0 : Int) := fun q => c_129 ((fa_eq _ _).mpr q)
      refine lv_aload hx hb dX11_fits_19 (lv_at hl 0 rfl) ?_
      refine lv_ifnull hx hb dX11_fits_21 ?_
      refine lv_iload_n hx hb dX11_fits_24 rfl (lv_at hl 4 rfl) ?_
      refine lv_if_ge (tgt := 31) hx hb dX11_fits_25 (by decide) (fun c_130 => ?_) (fun c_130 => ?_)
      · have c_130n : (0 : Int) ≤ w_.toInt := (fa_le _ _).mp c_130
        have hX := h_121.resolve_left (fun q => absurd (congrArg Int32.toInt q.1) (by show ¬ _ = (0 : Int); omega))
        rcases (show i2.toInt = 0 ∨ i2.toInt = 1 from by have q9 := hX.2.1; omega) with hgi | hgi
        · have hp79 : aPr (aW cr0_ inn0_ k10_) 7 ≤ 16384 := aPr_7 hI0_
          obtain ⟨he39, he49, he59, hrw9, hml9⟩ := h_123 hX.2.2.1 (by have q9 := hX.2.2.2; omega) (by rcases h_127 with q9 | q9 <;> first | (exfalso; have e7 := congrArg Int32.toInt q9; have e6 : (0 : Int32).toInt = 0 := rfl; have e5 : (1 : Int32).toInt = 1 := rfl; omega) | omega)
          subst he39
          have hOk9 := (kaOk (inn := inn0_) hI0_ hLq0).1
          have hGk9 : gRk (fun w => gF (aW cr0_ inn0_ k10_) k20_ cr0_ inn0_ q10_ q20_ w gg0_.toInt.toNat) (aPr (aW cr0_ inn0_ k10_) 7) (aPr (aW cr0_ inn0_ k10_) 7) r1f_99 := ⟨hp79, hp79, hrw9, fun w hw => (gF_b hOk9 (by have q9 := hI0_.1; omega) hw _).1⟩
          have hgN9 := gN_le (f := (fun w => gF (aW cr0_ inn0_ k10_) k20_ cr0_ inn0_ q10_ q20_ w gg0_.toInt.toNat)) (aPr (aW cr0_ inn0_ k10_) 7)
          refine lv_aload_n hx hb dX11_fits_31 rfl (lv_at hl 1 rfl) ?_
          refine lv_iload_n hx hb dX11_fits_32 rfl (lv_at hl 2 rfl) ?_
          refine lv_aload hx hb dX11_fits_33 (lv_at hl 0 rfl) ?_
          have hmk : ¬ mdA_70 = 0 := (h_122 hX.2.2.1).elim (fun q => q.2) (fun q => absurd q.1 (by have := hX.2.2.2; omega))
          have hzk : zMk mdA_70 n4A_79 (zPl cr0_ inn0_ k10_) = n4A_79 := by unfold zMk; rw [if_neg hmk]
          have hn9 : zMk mdA_70 n4A_79 (zPl cr0_ inn0_ k10_) ≤ 131072 := by rw [hzk]; exact zPw_le h_107
          refine z_Vq (bc := [[zO10 xo t im mk rd po co tr wa wb_ fi cd], wwA_80, z0_]) (br := [wt, z1_, wg0_, wg1_, wwB_92, wff_102]) (As := [.int i1, .ref l0]) (rest := []) C G (c_f_waysInA l T xo t im mk rd po co tr wa wb_ fi cd i1 laA_69 mdA_70 wyA_71 pc_A_72 f1A_73 f2A_74 f3A_75 f4A_76 f5A_77 f6A_78 n4A_79 wwA_80 l0 cr0_ inn0_ k10_ k20_ k30_ k40_ z0_ h_103 hz0_ hI0_ h_107 h_104 (kaOk hI0_ hLq0).1 h_109 (by omega)) (kV_RX11_235 C.2.2.2.2 (Nat.le_of_ble_eq_true rfl) (Nat.le_of_ble_eq_true rfl)) [0, 6, 2] [0, 1, 3] rfl rfl (ci := 10) (qc := (RX11, TX11, 11)) rfl rfl (List.mem_flatten.mpr ⟨_, List.mem_of_getElem? (i := 0) rfl, List.mem_cons_self⟩) rfl rfl hl.1 dX11_fits_35 (Nat.le_of_ble_eq_true rfl) (by show _ + (6 * (zMk mdA_70 n4A_79 (zPl cr0_ inn0_ k10_) - n4A_79)) ≤ 6 * (zNA (i1.toInt = 0 ∧ 0 < (fk 0).toInt ∧ (0 ≤ i2.toInt ∧ i2.toInt < (fk 2).toInt ∧ i2.toInt < 2) ∧ (e0f.toInt = 0 ∨ ¬ e1f.toInt = i1.toInt ∨ ¬ e2f.toInt = i2.toInt)) mdA n4A (zPl cr0_ inn0_ k10_) - n4A) + 6 * (zNA (i1.toInt = 1 ∧ 1 < (fk 0).toInt ∧ (0 ≤ i2.toInt ∧ i2.toInt < (fk 2).toInt ∧ i2.toInt < 2) ∧ (e0f.toInt = 0 ∨ ¬ e1f.toInt = i1.toInt ∨ ¬ e2f.toInt = i2.toInt)) mdB n4B (zPl cr1_ inn1_ k11_) - n4B) + 2 * (zNF (i1.toInt = 1 ∧ 1 < (fk 0).toInt ∧ (0 ≤ i2.toInt ∧ i2.toInt < (fk 2).toInt ∧ i2.toInt < 2) ∧ (e0f.toInt = 0 ∨ ¬ e1f.toInt = i1.toInt ∨ ¬ e2f.toInt = i2.toInt)) (zNF (i1.toInt = 0 ∧ 0 < (fk 0).toInt ∧ (0 ≤ i2.toInt ∧ i2.toInt < (fk 2).toInt ∧ i2.toInt < 2) ∧ (e0f.toInt = 0 ∨ ¬ e1f.toInt = i1.toInt ∨ ¬ e2f.toInt = i2.toInt)) m1f (zMw mdA wyA cr0_ inn0_ k10_)) (zMw mdB wyB cr1_ inn1_ k11_) - m1f); omega) (fun r_145 b1 H locs hw G => ?_)
          refine zEx9 hw ?_
          intro w2_131 m2_132 wy2_133 pc2_134 g1_135 g2_136 g4_137 g5_138 g6_139
          refine zCu6 ?_
          intro hbs9 h_140 h_141 h_142 h_143 h_144
          clear hw
          subst hbs9
          have G : zS T A s.heap s [wt, z1_, wg0_, wg1_, wwB_92, wff_102, [zO10 xo t im mk rd po co tr wa wb_ fi cd], w2_131, z0_] _ _ := G
          subst h_140
          have hwy9 : 0 ≤ wy2_133.toInt ∧ wy2_133.toInt ≤ 16384 := by have q9 := zWy_in (inn := inn0_) hI0_; rw [h_142]; exact ⟨by omega, q9.2⟩
          refine lv_astore (lv' := [(5, .ref wa), (4, .ref l0), (0, .ref xo), (1, .int i1), (2, .int i2), (3, .int w_)]) hx hb dX11_fits_38 hl (by decide) (zLvf_h rfl) (fun ls hl => ?_)
          refine lv_iload_n hx hb dX11_fits_40 rfl (lv_at hl 5 rfl) ?_
          refine lv_if_ne (tgt := 52) hx hb dX11_fits_41 (by decide) (fun c_146 => ?_) (fun c_146 => ?_)
          · have c_146n : ¬ w_.toInt = (0 : Int) := fun q => c_146 ((fa_eq _ _).mpr q)
            refine lv_iload_n hx hb dX11_fits_52 rfl (lv_at hl 5 rfl) ?_
            refine lv_iconst (v := 1) hx hb dX11_fits_53 (by decide) ?_
            refine lv_icmp_ne (tgt := 67) hx hb dX11_fits_54 (by decide) (fun c_147 => ?_) (fun c_147 => ?_)
            · have c_147n : ¬ w_.toInt = (1 : Int) := fun q => c_147 ((fa_eq _ _).mpr q)
              refine lv_iload_n hx hb dX11_fits_67 rfl (lv_at hl 5 rfl) ?_
              refine lv_bipush (v := 9) hx hb dX11_fits_68 (by decide) ?_
              refine lv_icmp_ge (tgt := 86) hx hb dX11_fits_70 (by decide) (fun c_148 => ?_) (fun c_148 => ?_)
              · have c_148n : (9 : Int) ≤ w_.toInt := (fa_le _ _).mp c_148
                refine lv_iload_n hx hb dX11_fits_86 rfl (lv_at hl 5 rfl) ?_
                refine lv_bipush (v := 10) hx hb dX11_fits_87 (by decide) ?_
                refine lv_isub hx hb dX11_fits_89 ?_
                refine lv_topi (fun y_149 ey_149 => ?_)
                have ey_149i : y_149.toInt = w_.toInt - (10 : Int) := by rw [ey_149]; exact z_isubI (x := w_) (y := (10 : Int32)) (by show -2147483648 ≤ w_.toInt - (10 : Int); omega) (by show w_.toInt - (10 : Int) < 2147483648; omega)
                refine lv_istore (lv' := [(6, .int y_149), (5, .ref wa), (4, .ref l0), (0, .ref xo), (1, .int i1), (2, .int i2), (3, .int w_)]) hx hb dX11_fits_90 hl (by decide) (zLvf_h rfl) (fun ls hl => ?_)
                refine lv_iload hx hb dX11_fits_92 (lv_at hl 0 rfl) ?_
                refine lv_if_lt (tgt := 126) hx hb dX11_fits_94 (by decide) (fun c_150 => ?_) (fun c_150 => ?_)
                · have c_150n : y_149.toInt < (0 : Int) := (fa_lt _ _).mp c_150
                  refine lv_bipush (v := (-2)) hx hb dX11_fits_126 (by decide) ?_
                  have G := G.sub (bs' := [[zO10 xo t im mk rd po co tr wa wb_ fi cd], wt, z0_, z1_, wg0_, wg1_, w2_131, wwB_92, wff_102]) [6, 0, 8, 1, 2, 3, 7, 4, 5] rfl
                  exact z_back hQz_ (z_iret C hr hlocks G (Nat.le_of_ble_eq_true rfl) (by omega) dX11_fits_128 ⟨l0, m2_132, wy2_133, pc2_134, g1_135, g2_136, f3A_75, g4_137, g5_138, g6_139, (zMk mdA_70 n4A_79 (zPl cr0_ inn0_ k10_)), w2_131, laB_81, mdB_82, wyB_83, pc_B_84, f1B_85, f2B_86, f3B_87, f4B_88, f5B_89, f6B_90, n4B_91, wwB_92, e0f_93, e1f_94, e2f_95, (nI (gN (fun w => gF (aW cr0_ inn0_ k10_) k20_ cr0_ inn0_ q10_ q20_ w gg0_.toInt.toNat) (aPr (aW cr0_ inn0_ k10_) 7))), e4f_97, e5f_98, r1f_99, m1f_100, r2f_101, wff_102, rfl, h_141, (Or.inr rfl), hwy9, (hzk.trans h_106), (by rw [hzk]; exact h_107), (fun _ => h_143), (Or.inr h_144), h_110, h_111, h_112, h_113, h_114, h_115, h_116, h_117, h_118, h_119, h_120, (fun q => (h_122 q).elim (fun w => Or.inl ⟨w.1, h_143⟩) (fun w => Or.inr ⟨w.1, w.2⟩)), h_123, h_124, h_125, h_126, (Or.inr (Or.inl ⟨⟨by omega, by omega⟩, ⟨by omega, by omega⟩, (by unfold kFits gFits; rw [if_neg (show ¬ w_.toInt < 0 by omega), if_neg (by omega), if_neg (by omega), if_neg (by omega), if_neg (by show ¬ (10 ≤ w_.toInt ∧ w_.toInt - 10 < ((gN (fun w => gF (aW cr0_ inn0_ k10_) k20_ cr0_ inn0_ q10_ q20_ w gg0_.toInt.toNat) (aPr (aW cr0_ inn0_ k10_) 7) : Nat) : Int)); omega)])⟩))⟩)
                · have c_150n : ¬ y_149.toInt < (0 : Int) := fun q => c_150 ((fa_lt _ _).mpr q)
                  refine lv_iload hx hb dX11_fits_97 (lv_at hl 0 rfl) ?_
                  refine lv_aload_n hx hb dX11_fits_99 rfl (lv_at hl 3 rfl) ?_
                  refine z_get C G clX11 6 rfl 9 (by decide) m_fl_RX11_65 rfl dX11_fits_100 ?_
                  refine zEx2 h_117 ?_
                  intro a1_151 a2_152 hbs9
                  clear h_117
                  subst hbs9
                  have G : zS T A s.heap s [wt, z1_, wg0_, wg1_, wwB_92, [zO3 fi e0f_93 e1f_94 e2f_95 (nI (gN (fun w => gF (aW cr0_ inn0_ k10_) k20_ cr0_ inn0_ q10_ q20_ w gg0_.toInt.toNat) (aPr (aW cr0_ inn0_ k10_) 7))) e4f_97 e5f_98 a1_151 a2_152], [zAr T 0 a1_151 m1f_100 r1f_99], [zAr T 0 a2_152 7 r2f_101], [zO10 xo t im mk rd po co tr wa wb_ fi cd], w2_131, z0_] _ _ := G.re rfl
                  refine z_get C G clX3 5 rfl 3 (by decide) m_fl_RX11_306 rfl dX11_fits_103 ?_
                  refine lv_icmp_ge (tgt := 126) hx hb dX11_fits_106 (by decide) (fun c_153 => ?_) (fun c_153 => ?_)
                  · have c_153n : ((gN (fun w => gF (aW cr0_ inn0_ k10_) k20_ cr0_ inn0_ q10_ q20_ w gg0_.toInt.toNat) (aPr (aW cr0_ inn0_ k10_) 7)) : Int) ≤ y_149.toInt := by have q := (fa_le _ _).mp c_153; rw [nI_toInt (n := gN (fun w => gF (aW cr0_ inn0_ k10_) k20_ cr0_ inn0_ q10_ q20_ w gg0_.toInt.toNat) (aPr (aW cr0_ inn0_ k10_) 7)) (by omega)] at q; exact q
                    refine lv_bipush (v := (-2)) hx hb dX11_fits_126 (by decide) ?_
                    have hw_154 : bFit T fi e0f_93 e1f_94 e2f_95 (nI (gN (fun w => gF (aW cr0_ inn0_ k10_) k20_ cr0_ inn0_ q10_ q20_ w gg0_.toInt.toNat) (aPr (aW cr0_ inn0_ k10_) 7))) e4f_97 e5f_98 r1f_99 m1f_100 r2f_101 [zO3 fi e0f_93 e1f_94 e2f_95 (nI (gN (fun w => gF (aW cr0_ inn0_ k10_) k20_ cr0_ inn0_ q10_ q20_ w gg0_.toInt.toNat) (aPr (aW cr0_ inn0_ k10_) 7))) e4f_97 e5f_98 a1_151 a2_152, zAr T 0 a1_151 m1f_100 r1f_99, zAr T 0 a2_152 7 r2f_101] := ⟨a1_151, a2_152, rfl⟩
                    have G : zS T A s.heap s [wt, z1_, wg0_, wg1_, wwB_92, [zO3 fi e0f_93 e1f_94 e2f_95 (nI (gN (fun w => gF (aW cr0_ inn0_ k10_) k20_ cr0_ inn0_ q10_ q20_ w gg0_.toInt.toNat) (aPr (aW cr0_ inn0_ k10_) 7))) e4f_97 e5f_98 a1_151 a2_152, zAr T 0 a1_151 m1f_100 r1f_99, zAr T 0 a2_152 7 r2f_101], [zO10 xo t im mk rd po co tr wa wb_ fi cd], w2_131, z0_] _ _ := G.re rfl
                    have G := G.sub (bs' := [[zO10 xo t im mk rd po co tr wa wb_ fi cd], wt, z0_, z1_, wg0_, wg1_, w2_131, wwB_92, [zO3 fi e0f_93 e1f_94 e2f_95 (nI (gN (fun w => gF (aW cr0_ inn0_ k10_) k20_ cr0_ inn0_ q10_ q20_ w gg0_.toInt.toNat) (aPr (aW cr0_ inn0_ k10_) 7))) e4f_97 e5f_98 a1_151 a2_152, zAr T 0 a1_151 m1f_100 r1f_99, zAr T 0 a2_152 7 r2f_101]]) [6, 0, 8, 1, 2, 3, 7, 4, 5] rfl
                    exact z_back hQz_ (z_iret C hr hlocks G (Nat.le_of_ble_eq_true rfl) (by omega) dX11_fits_128 ⟨l0, m2_132, wy2_133, pc2_134, g1_135, g2_136, f3A_75, g4_137, g5_138, g6_139, (zMk mdA_70 n4A_79 (zPl cr0_ inn0_ k10_)), w2_131, laB_81, mdB_82, wyB_83, pc_B_84, f1B_85, f2B_86, f3B_87, f4B_88, f5B_89, f6B_90, n4B_91, wwB_92, e0f_93, e1f_94, e2f_95, (nI (gN (fun w => gF (aW cr0_ inn0_ k10_) k20_ cr0_ inn0_ q10_ q20_ w gg0_.toInt.toNat) (aPr (aW cr0_ inn0_ k10_) 7))), e4f_97, e5f_98, r1f_99, m1f_100, r2f_101, ([zO3 fi e0f_93 e1f_94 e2f_95 (nI (gN (fun w => gF (aW cr0_ inn0_ k10_) k20_ cr0_ inn0_ q10_ q20_ w gg0_.toInt.toNat) (aPr (aW cr0_ inn0_ k10_) 7))) e4f_97 e5f_98 a1_151 a2_152, zAr T 0 a1_151 m1f_100 r1f_99, zAr T 0 a2_152 7 r2f_101]), rfl, h_141, (Or.inr rfl), hwy9, (hzk.trans h_106), (by rw [hzk]; exact h_107), (fun _ => h_143), (Or.inr h_144), h_110, h_111, h_112, h_113, h_114, h_115, h_116, hw_154, h_118, h_119, h_120, (fun q => (h_122 q).elim (fun w => Or.inl ⟨w.1, h_143⟩) (fun w => Or.inr ⟨w.1, w.2⟩)), h_123, h_124, h_125, h_126, (Or.inr (Or.inl ⟨⟨by omega, by omega⟩, ⟨by omega, by omega⟩, (by unfold kFits gFits; rw [if_neg (show ¬ w_.toInt < 0 by omega), if_neg (by omega), if_neg (by omega), if_neg (by omega), if_neg (by show ¬ (10 ≤ w_.toInt ∧ w_.toInt - 10 < ((gN (fun w => gF (aW cr0_ inn0_ k10_) k20_ cr0_ inn0_ q10_ q20_ w gg0_.toInt.toNat) (aPr (aW cr0_ inn0_ k10_) 7) : Nat) : Int)); omega)])⟩))⟩)
                  · have c_153n : ¬ ((gN (fun w => gF (aW cr0_ inn0_ k10_) k20_ cr0_ inn0_ q10_ q20_ w gg0_.toInt.toNat) (aPr (aW cr0_ inn0_ k10_) 7)) : Int) ≤ y_149.toInt := fun q => c_153 ((fa_le _ _).mpr (by rw [nI_toInt (n := gN (fun w => gF (aW cr0_ inn0_ k10_) k20_ cr0_ inn0_ q10_ q20_ w gg0_.toInt.toNat) (aPr (aW cr0_ inn0_ k10_) 7)) (by omega)]; exact q))
                    refine lv_aload hx hb dX11_fits_109 (lv_at hl 1 rfl) ?_
                    refine lv_aload_n hx hb dX11_fits_111 rfl (lv_at hl 3 rfl) ?_
                    refine z_get C G clX11 8 rfl 9 (by decide) m_fl_RX11_65 rfl dX11_fits_112 ?_
                    refine lv_iload hx hb dX11_fits_115 (lv_at hl 0 rfl) ?_
                    have hw_155 : bFit T fi e0f_93 e1f_94 e2f_95 (nI (gN (fun w => gF (aW cr0_ inn0_ k10_) k20_ cr0_ inn0_ q10_ q20_ w gg0_.toInt.toNat) (aPr (aW cr0_ inn0_ k10_) 7))) e4f_97 e5f_98 r1f_99 m1f_100 r2f_101 [zO3 fi e0f_93 e1f_94 e2f_95 (nI (gN (fun w => gF (aW cr0_ inn0_ k10_) k20_ cr0_ inn0_ q10_ q20_ w gg0_.toInt.toNat) (aPr (aW cr0_ inn0_ k10_) 7))) e4f_97 e5f_98 a1_151 a2_152, zAr T 0 a1_151 m1f_100 r1f_99, zAr T 0 a2_152 7 r2f_101] := ⟨a1_151, a2_152, rfl⟩
                    have G : zS T A s.heap s [wt, z1_, wg0_, wg1_, wwB_92, [zO3 fi e0f_93 e1f_94 e2f_95 (nI (gN (fun w => gF (aW cr0_ inn0_ k10_) k20_ cr0_ inn0_ q10_ q20_ w gg0_.toInt.toNat) (aPr (aW cr0_ inn0_ k10_) 7))) e4f_97 e5f_98 a1_151 a2_152, zAr T 0 a1_151 m1f_100 r1f_99, zAr T 0 a2_152 7 r2f_101], [zO10 xo t im mk rd po co tr wa wb_ fi cd], w2_131, z0_] _ _ := G.re rfl
                    refine z_Vi (bc := [[zO3 fi e0f_93 e1f_94 e2f_95 (nI (gN (fun w => gF (aW cr0_ inn0_ k10_) k20_ cr0_ inn0_ q10_ q20_ w gg0_.toInt.toNat) (aPr (aW cr0_ inn0_ k10_) 7))) e4f_97 e5f_98 a1_151 a2_152, zAr T 0 a1_151 m1f_100 r1f_99, zAr T 0 a2_152 7 r2f_101]]) (br := [wt, z1_, wg0_, wg1_, wwB_92, [zO10 xo t im mk rd po co tr wa wb_ fi cd], w2_131, z0_]) (As := [.int y_149]) (rest := [.ref wa]) C G (c_way l T fi e0f_93 e1f_94 e2f_95 (nI (gN (fun w => gF (aW cr0_ inn0_ k10_) k20_ cr0_ inn0_ q10_ q20_ w gg0_.toInt.toNat) (aPr (aW cr0_ inn0_ k10_) 7))) e4f_97 e5f_98 r1f_99 m1f_100 r2f_101 ([zO3 fi e0f_93 e1f_94 e2f_95 (nI (gN (fun w => gF (aW cr0_ inn0_ k10_) k20_ cr0_ inn0_ q10_ q20_ w gg0_.toInt.toNat) (aPr (aW cr0_ inn0_ k10_) 7))) e4f_97 e5f_98 a1_151 a2_152, zAr T 0 a1_151 m1f_100 r1f_99, zAr T 0 a2_152 7 r2f_101]) y_149 hw_155 hfm9) (kV_RX11_317 C.2.2.2.2 (Nat.le_of_ble_eq_true rfl) (Nat.le_of_ble_eq_true rfl)) [5] [5] rfl rfl (ci := 3) (qc := (RX3, TX3, 8)) rfl rfl (List.mem_flatten.mpr ⟨_, List.mem_of_getElem? (i := 0) rfl, (bFit_mem hw_155).choose_spec⟩) rfl rfl hl.1 dX11_fits_117 (Nat.le_of_ble_eq_true rfl) (by show _ + 0 ≤ 6 * (zNA (i1.toInt = 0 ∧ 0 < (fk 0).toInt ∧ (0 ≤ i2.toInt ∧ i2.toInt < (fk 2).toInt ∧ i2.toInt < 2) ∧ (e0f.toInt = 0 ∨ ¬ e1f.toInt = i1.toInt ∨ ¬ e2f.toInt = i2.toInt)) mdA n4A (zPl cr0_ inn0_ k10_) - n4A) + 6 * (zNA (i1.toInt = 1 ∧ 1 < (fk 0).toInt ∧ (0 ≤ i2.toInt ∧ i2.toInt < (fk 2).toInt ∧ i2.toInt < 2) ∧ (e0f.toInt = 0 ∨ ¬ e1f.toInt = i1.toInt ∨ ¬ e2f.toInt = i2.toInt)) mdB n4B (zPl cr1_ inn1_ k11_) - n4B) + 2 * (zNF (i1.toInt = 1 ∧ 1 < (fk 0).toInt ∧ (0 ≤ i2.toInt ∧ i2.toInt < (fk 2).toInt ∧ i2.toInt < 2) ∧ (e0f.toInt = 0 ∨ ¬ e1f.toInt = i1.toInt ∨ ¬ e2f.toInt = i2.toInt)) (zNF (i1.toInt = 0 ∧ 0 < (fk 0).toInt ∧ (0 ≤ i2.toInt ∧ i2.toInt < (fk 2).toInt ∧ i2.toInt < 2) ∧ (e0f.toInt = 0 ∨ ¬ e1f.toInt = i1.toInt ∨ ¬ e2f.toInt = i2.toInt)) m1f (zMw mdA wyA cr0_ inn0_ k10_)) (zMw mdB wyB cr1_ inn1_ k11_) - m1f); omega) (fun r_157 b1 H locs hw G => ?_)
                    refine zAn2 hw ?_
                    intro hbs9 h_156
                    clear hw
                    subst hbs9
                    have G : zS T A s.heap s [wt, z1_, wg0_, wg1_, wwB_92, [zO10 xo t im mk rd po co tr wa wb_ fi cd], w2_131, z0_, [zO3 fi e0f_93 e1f_94 e2f_95 (nI (gN (fun w => gF (aW cr0_ inn0_ k10_) k20_ cr0_ inn0_ q10_ q20_ w gg0_.toInt.toNat) (aPr (aW cr0_ inn0_ k10_) 7))) e4f_97 e5f_98 a1_151 a2_152, zAr T 0 a1_151 m1f_100 r1f_99, zAr T 0 a2_152 7 r2f_101]] _ _ := G
                    subst h_156
                    have hyn9 : y_149 = nI (w_.toInt - 10).toNat := z_nI (by omega) (by omega)
                    have hwx9 := (gWk_x (f := (fun w => gF (aW cr0_ inn0_ k10_) k20_ cr0_ inn0_ q10_ q20_ w gg0_.toInt.toNat)) (k := (w_.toInt - 10).toNat) (aPr (aW cr0_ inn0_ k10_) 7) (by omega)).1
                    refine lv_topi (fun y_158 ey_158 => ?_)
                    obtain rfl : y_158 = nI (gWk (fun w => gF (aW cr0_ inn0_ k10_) k20_ cr0_ inn0_ q10_ q20_ w gg0_.toInt.toNat) (aPr (aW cr0_ inn0_ k10_) 7) (w_.toInt - 10).toNat) := ey_158.trans ((by have q9 := zFway_e (i := (w_.toInt - 10).toNat) hGk9 (by omega) hml9; rw [← hyn9] at q9; exact q9))
                    refine z_Vi (bc := [w2_131, z0_]) (br := [wt, z1_, wg0_, wg1_, wwB_92, [zO10 xo t im mk rd po co tr wa wb_ fi cd], [zO3 fi e0f_93 e1f_94 e2f_95 (nI (gN (fun w => gF (aW cr0_ inn0_ k10_) k20_ cr0_ inn0_ q10_ q20_ w gg0_.toInt.toNat) (aPr (aW cr0_ inn0_ k10_) 7))) e4f_97 e5f_98 a1_151 a2_152, zAr T 0 a1_151 m1f_100 r1f_99, zAr T 0 a2_152 7 r2f_101]]) (As := [.int (nI (gWk (fun w => gF (aW cr0_ inn0_ k10_) k20_ cr0_ inn0_ q10_ q20_ w gg0_.toInt.toNat) (aPr (aW cr0_ inn0_ k10_) 7) (w_.toInt - 10).toNat))]) (rest := []) C G (c_f_number l T wa l0 m2_132 wy2_133 pc2_134 g1_135 g2_136 f3A_75 g4_137 g5_138 g6_139 (zMk mdA_70 n4A_79 (zPl cr0_ inn0_ k10_)) w2_131 cr0_ inn0_ k10_ k20_ k30_ k40_ z0_ (nI (gWk (fun w => gF (aW cr0_ inn0_ k10_) k20_ cr0_ inn0_ q10_ q20_ w gg0_.toInt.toNat) (aPr (aW cr0_ inn0_ k10_) 7) (w_.toInt - 10).toNat)) h_141 hz0_ hI0_ h_144.2.2.1 hOk9 (by rw [nI_toInt (by omega)]; omega)) (kV_RX11_272 C.2.2.2.2 (Nat.le_of_ble_eq_true rfl) (Nat.le_of_ble_eq_true rfl)) [6, 7] [6, 0] rfl rfl (ci := 0) (qc := (RX0, TX0, 10)) rfl rfl (List.mem_flatten.mpr ⟨_, List.mem_of_getElem? (i := 0) rfl, (bWays_mem h_141).choose_spec⟩) rfl rfl hl.1 dX11_fits_120 (Nat.le_of_ble_eq_true rfl) (by show _ + 0 ≤ 6 * (zNA (i1.toInt = 0 ∧ 0 < (fk 0).toInt ∧ (0 ≤ i2.toInt ∧ i2.toInt < (fk 2).toInt ∧ i2.toInt < 2) ∧ (e0f.toInt = 0 ∨ ¬ e1f.toInt = i1.toInt ∨ ¬ e2f.toInt = i2.toInt)) mdA n4A (zPl cr0_ inn0_ k10_) - n4A) + 6 * (zNA (i1.toInt = 1 ∧ 1 < (fk 0).toInt ∧ (0 ≤ i2.toInt ∧ i2.toInt < (fk 2).toInt ∧ i2.toInt < 2) ∧ (e0f.toInt = 0 ∨ ¬ e1f.toInt = i1.toInt ∨ ¬ e2f.toInt = i2.toInt)) mdB n4B (zPl cr1_ inn1_ k11_) - n4B) + 2 * (zNF (i1.toInt = 1 ∧ 1 < (fk 0).toInt ∧ (0 ≤ i2.toInt ∧ i2.toInt < (fk 2).toInt ∧ i2.toInt < 2) ∧ (e0f.toInt = 0 ∨ ¬ e1f.toInt = i1.toInt ∨ ¬ e2f.toInt = i2.toInt)) (zNF (i1.toInt = 0 ∧ 0 < (fk 0).toInt ∧ (0 ≤ i2.toInt ∧ i2.toInt < (fk 2).toInt ∧ i2.toInt < 2) ∧ (e0f.toInt = 0 ∨ ¬ e1f.toInt = i1.toInt ∨ ¬ e2f.toInt = i2.toInt)) m1f (zMw mdA wyA cr0_ inn0_ k10_)) (zMw mdB wyB cr1_ inn1_ k11_) - m1f); omega) (fun r_160 b1 H locs hw G => ?_)
                    refine zAn2 hw ?_
                    intro hbs9 h_159
                    clear hw
                    subst hbs9
                    have G : zS T A s.heap s [wt, z1_, wg0_, wg1_, wwB_92, [zO10 xo t im mk rd po co tr wa wb_ fi cd], [zO3 fi e0f_93 e1f_94 e2f_95 (nI (gN (fun w => gF (aW cr0_ inn0_ k10_) k20_ cr0_ inn0_ q10_ q20_ w gg0_.toInt.toNat) (aPr (aW cr0_ inn0_ k10_) 7))) e4f_97 e5f_98 a1_151 a2_152, zAr T 0 a1_151 m1f_100 r1f_99, zAr T 0 a2_152 7 r2f_101], w2_131, z0_] _ _ := G
                    refine lv_goto (tgt := 128) hx hb dX11_fits_123 (by decide) ?_
                    have G := G.sub (bs' := [[zO10 xo t im mk rd po co tr wa wb_ fi cd], wt, z0_, z1_, wg0_, wg1_, w2_131, wwB_92, [zO3 fi e0f_93 e1f_94 e2f_95 (nI (gN (fun w => gF (aW cr0_ inn0_ k10_) k20_ cr0_ inn0_ q10_ q20_ w gg0_.toInt.toNat) (aPr (aW cr0_ inn0_ k10_) 7))) e4f_97 e5f_98 a1_151 a2_152, zAr T 0 a1_151 m1f_100 r1f_99, zAr T 0 a2_152 7 r2f_101]]) [5, 0, 8, 1, 2, 3, 7, 4, 6] rfl
                    exact z_back hQz_ (z_iret C hr hlocks G (Nat.le_of_ble_eq_true rfl) (by omega) dX11_fits_128 ⟨l0, m2_132, wy2_133, pc2_134, g1_135, g2_136, f3A_75, g4_137, g5_138, g6_139, (zMk mdA_70 n4A_79 (zPl cr0_ inn0_ k10_)), w2_131, laB_81, mdB_82, wyB_83, pc_B_84, f1B_85, f2B_86, f3B_87, f4B_88, f5B_89, f6B_90, n4B_91, wwB_92, e0f_93, e1f_94, e2f_95, (nI (gN (fun w => gF (aW cr0_ inn0_ k10_) k20_ cr0_ inn0_ q10_ q20_ w gg0_.toInt.toNat) (aPr (aW cr0_ inn0_ k10_) 7))), e4f_97, e5f_98, r1f_99, m1f_100, r2f_101, ([zO3 fi e0f_93 e1f_94 e2f_95 (nI (gN (fun w => gF (aW cr0_ inn0_ k10_) k20_ cr0_ inn0_ q10_ q20_ w gg0_.toInt.toNat) (aPr (aW cr0_ inn0_ k10_) 7))) e4f_97 e5f_98 a1_151 a2_152, zAr T 0 a1_151 m1f_100 r1f_99, zAr T 0 a2_152 7 r2f_101]), rfl, h_141, (Or.inr rfl), hwy9, (hzk.trans h_106), (by rw [hzk]; exact h_107), (fun _ => h_143), (Or.inr h_144), h_110, h_111, h_112, h_113, h_114, h_115, h_116, hw_155, h_118, h_119, h_120, (fun q => (h_122 q).elim (fun w => Or.inl ⟨w.1, h_143⟩) (fun w => Or.inr ⟨w.1, w.2⟩)), h_123, h_124, h_125, h_126, (Or.inr (Or.inl ⟨⟨by omega, by omega⟩, ⟨by omega, by omega⟩, (by unfold kFits gFits; first | (rw [if_neg (show ¬ w_.toInt < 0 by omega), if_neg (by omega), if_pos (by omega)]; exact h_159) | (rw [if_neg (show ¬ w_.toInt < 0 by omega), if_neg (by omega), if_neg (by omega), if_pos (by omega)]; refine h_159.trans ?_; rw [show (w_.toInt - 2).toNat = w_.toInt.toNat by omega]; by_cases z9 : gN (fun w => gF (aW cr0_ inn0_ k10_) k20_ cr0_ inn0_ q10_ q20_ w gg0_.toInt.toNat) (aPr (aW cr0_ inn0_ k10_) 7) = 0 ∨ ¬ w_.toInt - 2 < ((cr0_.toInt.toNat : Nat) : Int) <;> first | (rw [if_pos (z9.imp id (fun q9 => by omega))]; exact (if_pos z9).symm) | (rw [if_neg (fun q9 => z9 (q9.imp id (fun q8 => by omega)))]; exact (if_neg z9).symm)) | (rw [if_neg (show ¬ w_.toInt < 0 by omega), if_neg (by omega), if_neg (by omega), if_neg (by omega), if_pos (by show 10 ≤ w_.toInt ∧ w_.toInt - 10 < ((gN (fun w => gF (aW cr0_ inn0_ k10_) k20_ cr0_ inn0_ q10_ q20_ w gg0_.toInt.toNat) (aPr (aW cr0_ inn0_ k10_) 7) : Nat) : Int); omega)]; refine h_159.trans ?_; rw [nI_n (by omega)]; rfl))⟩))⟩)
              · have c_148n : ¬ (9 : Int) ≤ w_.toInt := fun q => c_148 ((fa_le _ _).mpr q)
                refine lv_aload_n hx hb dX11_fits_73 rfl (lv_at hl 2 rfl) ?_
                refine z_get C G clX11 6 rfl 9 (by decide) m_fl_RX11_65 rfl dX11_fits_74 ?_
                refine lv_aload hx hb dX11_fits_77 (lv_at hl 0 rfl) ?_
                refine lv_iload_n hx hb dX11_fits_79 rfl (lv_at hl 5 rfl) ?_
                refine lv_iconst (v := 2) hx hb dX11_fits_80 (by decide) ?_
                refine lv_isub hx hb dX11_fits_81 ?_
                refine lv_topi (fun y_161 ey_161 => ?_)
                have ey_161i : y_161.toInt = w_.toInt - (2 : Int) := by rw [ey_161]; exact z_isubI (x := w_) (y := (2 : Int32)) (by show -2147483648 ≤ w_.toInt - (2 : Int); omega) (by show w_.toInt - (2 : Int) < 2147483648; omega)
                refine z_Vi (bc := [wff_102, w2_131, z0_]) (br := [wt, z1_, wg0_, wg1_, wwB_92, [zO10 xo t im mk rd po co tr wa wb_ fi cd]]) (As := [.ref wa, .int y_161]) (rest := []) C G (c_e_sure l T fi e0f_93 e1f_94 e2f_95 e4f_97 e5f_98 r1f_99 m1f_100 r2f_101 wff_102 (gN (fun w => gF (aW cr0_ inn0_ k10_) k20_ cr0_ inn0_ q10_ q20_ w gg0_.toInt.toNat) (aPr (aW cr0_ inn0_ k10_) 7)) wa l0 m2_132 wy2_133 pc2_134 g1_135 g2_136 f3A_75 g4_137 g5_138 g6_139 (zMk mdA_70 n4A_79 (zPl cr0_ inn0_ k10_)) w2_131 cr0_ inn0_ k10_ k20_ k30_ k40_ z0_ (fun w => gF (aW cr0_ inn0_ k10_) k20_ cr0_ inn0_ q10_ q20_ w gg0_.toInt.toNat) (aPr (aW cr0_ inn0_ k10_) 7) y_161 h_117 h_141 hz0_ hn9 hI0_ h_144.2.2.1 hGk9 rfl hml9 hfm9) (kV_RX11_313 C.2.2.2.2 (Nat.le_of_ble_eq_true rfl) (Nat.le_of_ble_eq_true rfl)) [5, 7, 8] [5, 1, 0] rfl rfl (ci := 3) (qc := (RX3, TX3, 8)) rfl rfl (List.mem_flatten.mpr ⟨_, List.mem_of_getElem? (i := 0) rfl, (bFit_mem h_117).choose_spec⟩) rfl rfl hl.1 dX11_fits_82 (Nat.le_of_ble_eq_true rfl) (by show _ + 0 ≤ 6 * (zNA (i1.toInt = 0 ∧ 0 < (fk 0).toInt ∧ (0 ≤ i2.toInt ∧ i2.toInt < (fk 2).toInt ∧ i2.toInt < 2) ∧ (e0f.toInt = 0 ∨ ¬ e1f.toInt = i1.toInt ∨ ¬ e2f.toInt = i2.toInt)) mdA n4A (zPl cr0_ inn0_ k10_) - n4A) + 6 * (zNA (i1.toInt = 1 ∧ 1 < (fk 0).toInt ∧ (0 ≤ i2.toInt ∧ i2.toInt < (fk 2).toInt ∧ i2.toInt < 2) ∧ (e0f.toInt = 0 ∨ ¬ e1f.toInt = i1.toInt ∨ ¬ e2f.toInt = i2.toInt)) mdB n4B (zPl cr1_ inn1_ k11_) - n4B) + 2 * (zNF (i1.toInt = 1 ∧ 1 < (fk 0).toInt ∧ (0 ≤ i2.toInt ∧ i2.toInt < (fk 2).toInt ∧ i2.toInt < 2) ∧ (e0f.toInt = 0 ∨ ¬ e1f.toInt = i1.toInt ∨ ¬ e2f.toInt = i2.toInt)) (zNF (i1.toInt = 0 ∧ 0 < (fk 0).toInt ∧ (0 ≤ i2.toInt ∧ i2.toInt < (fk 2).toInt ∧ i2.toInt < 2) ∧ (e0f.toInt = 0 ∨ ¬ e1f.toInt = i1.toInt ∨ ¬ e2f.toInt = i2.toInt)) m1f (zMw mdA wyA cr0_ inn0_ k10_)) (zMw mdB wyB cr1_ inn1_ k11_) - m1f); omega) (fun r_163 b1 H locs hw G => ?_)
                refine zAn2 hw ?_
                intro hbs9 h_162
                clear hw
                subst hbs9
                have G : zS T A s.heap s [wt, z1_, wg0_, wg1_, wwB_92, [zO10 xo t im mk rd po co tr wa wb_ fi cd], wff_102, w2_131, z0_] _ _ := G
                have G := G.sub (bs' := [[zO10 xo t im mk rd po co tr wa wb_ fi cd], wt, z0_, z1_, wg0_, wg1_, w2_131, wwB_92, wff_102]) [5, 0, 8, 1, 2, 3, 7, 4, 6] rfl
                exact z_back hQz_ (z_iret C hr hlocks G (Nat.le_of_ble_eq_true rfl) (by omega) dX11_fits_85 ⟨l0, m2_132, wy2_133, pc2_134, g1_135, g2_136, f3A_75, g4_137, g5_138, g6_139, (zMk mdA_70 n4A_79 (zPl cr0_ inn0_ k10_)), w2_131, laB_81, mdB_82, wyB_83, pc_B_84, f1B_85, f2B_86, f3B_87, f4B_88, f5B_89, f6B_90, n4B_91, wwB_92, e0f_93, e1f_94, e2f_95, (nI (gN (fun w => gF (aW cr0_ inn0_ k10_) k20_ cr0_ inn0_ q10_ q20_ w gg0_.toInt.toNat) (aPr (aW cr0_ inn0_ k10_) 7))), e4f_97, e5f_98, r1f_99, m1f_100, r2f_101, wff_102, rfl, h_141, (Or.inr rfl), hwy9, (hzk.trans h_106), (by rw [hzk]; exact h_107), (fun _ => h_143), (Or.inr h_144), h_110, h_111, h_112, h_113, h_114, h_115, h_116, h_117, h_118, h_119, h_120, (fun q => (h_122 q).elim (fun w => Or.inl ⟨w.1, h_143⟩) (fun w => Or.inr ⟨w.1, w.2⟩)), h_123, h_124, h_125, h_126, (Or.inr (Or.inl ⟨⟨by omega, by omega⟩, ⟨by omega, by omega⟩, (by unfold kFits gFits; first | (rw [if_neg (show ¬ w_.toInt < 0 by omega), if_neg (by omega), if_pos (by omega)]; exact h_162) | (rw [if_neg (show ¬ w_.toInt < 0 by omega), if_neg (by omega), if_neg (by omega), if_pos (by omega)]; refine h_162.trans ?_; rw [show (w_.toInt - 2).toNat = y_161.toInt.toNat by omega]; by_cases z9 : gN (fun w => gF (aW cr0_ inn0_ k10_) k20_ cr0_ inn0_ q10_ q20_ w gg0_.toInt.toNat) (aPr (aW cr0_ inn0_ k10_) 7) = 0 ∨ ¬ w_.toInt - 2 < ((cr0_.toInt.toNat : Nat) : Int) <;> first | (rw [if_pos (z9.imp id (fun q9 => by omega))]; exact (if_pos z9).symm) | (rw [if_neg (fun q9 => z9 (q9.imp id (fun q8 => by omega)))]; exact (if_neg z9).symm)) | (rw [if_neg (show ¬ w_.toInt < 0 by omega), if_neg (by omega), if_neg (by omega), if_neg (by omega), if_pos (by show 10 ≤ w_.toInt ∧ w_.toInt - 10 < ((gN (fun w => gF (aW cr0_ inn0_ k10_) k20_ cr0_ inn0_ q10_ q20_ w gg0_.toInt.toNat) (aPr (aW cr0_ inn0_ k10_) 7) : Nat) : Int); omega)]; refine h_162.trans ?_; rw [nI_n (by omega)]; rfl))⟩))⟩)
            · have c_147n : w_.toInt = (1 : Int) := (fa_eq _ _).mp c_147
              refine lv_aload_n hx hb dX11_fits_57 rfl (lv_at hl 2 rfl) ?_
              refine z_get C G clX11 6 rfl 9 (by decide) m_fl_RX11_65 rfl dX11_fits_58 ?_
              refine lv_aload hx hb dX11_fits_61 (lv_at hl 0 rfl) ?_
              refine z_Vi (bc := [wff_102, w2_131, z0_]) (br := [wt, z1_, wg0_, wg1_, wwB_92, [zO10 xo t im mk rd po co tr wa wb_ fi cd]]) (As := [.ref wa]) (rest := []) C G (c_e_ask l T fi e0f_93 e1f_94 e2f_95 e4f_97 e5f_98 r1f_99 m1f_100 r2f_101 wff_102 (gN (fun w => gF (aW cr0_ inn0_ k10_) k20_ cr0_ inn0_ q10_ q20_ w gg0_.toInt.toNat) (aPr (aW cr0_ inn0_ k10_) 7)) wa l0 m2_132 wy2_133 pc2_134 g1_135 g2_136 f3A_75 g4_137 g5_138 g6_139 (zMk mdA_70 n4A_79 (zPl cr0_ inn0_ k10_)) w2_131 cr0_ inn0_ k10_ k20_ k30_ k40_ z0_ (fun w => gF (aW cr0_ inn0_ k10_) k20_ cr0_ inn0_ q10_ q20_ w gg0_.toInt.toNat) (aPr (aW cr0_ inn0_ k10_) 7) h_117 h_141 hz0_ hn9 hI0_ h_144 hLq0 hGk9 rfl hml9 hfm9) (kV_RX11_309 C.2.2.2.2 (Nat.le_of_ble_eq_true rfl) (Nat.le_of_ble_eq_true rfl)) [5, 7, 8] [5, 1, 0] rfl rfl (ci := 3) (qc := (RX3, TX3, 8)) rfl rfl (List.mem_flatten.mpr ⟨_, List.mem_of_getElem? (i := 0) rfl, (bFit_mem h_117).choose_spec⟩) rfl rfl hl.1 dX11_fits_63 (Nat.le_of_ble_eq_true rfl) (by show _ + 0 ≤ 6 * (zNA (i1.toInt = 0 ∧ 0 < (fk 0).toInt ∧ (0 ≤ i2.toInt ∧ i2.toInt < (fk 2).toInt ∧ i2.toInt < 2) ∧ (e0f.toInt = 0 ∨ ¬ e1f.toInt = i1.toInt ∨ ¬ e2f.toInt = i2.toInt)) mdA n4A (zPl cr0_ inn0_ k10_) - n4A) + 6 * (zNA (i1.toInt = 1 ∧ 1 < (fk 0).toInt ∧ (0 ≤ i2.toInt ∧ i2.toInt < (fk 2).toInt ∧ i2.toInt < 2) ∧ (e0f.toInt = 0 ∨ ¬ e1f.toInt = i1.toInt ∨ ¬ e2f.toInt = i2.toInt)) mdB n4B (zPl cr1_ inn1_ k11_) - n4B) + 2 * (zNF (i1.toInt = 1 ∧ 1 < (fk 0).toInt ∧ (0 ≤ i2.toInt ∧ i2.toInt < (fk 2).toInt ∧ i2.toInt < 2) ∧ (e0f.toInt = 0 ∨ ¬ e1f.toInt = i1.toInt ∨ ¬ e2f.toInt = i2.toInt)) (zNF (i1.toInt = 0 ∧ 0 < (fk 0).toInt ∧ (0 ≤ i2.toInt ∧ i2.toInt < (fk 2).toInt ∧ i2.toInt < 2) ∧ (e0f.toInt = 0 ∨ ¬ e1f.toInt = i1.toInt ∨ ¬ e2f.toInt = i2.toInt)) m1f (zMw mdA wyA cr0_ inn0_ k10_)) (zMw mdB wyB cr1_ inn1_ k11_) - m1f); omega) (fun r_168 b1 H locs hw G => ?_)
              refine zEx2 hw ?_
              intro w2_164 g2_165
              refine zCu3 ?_
              intro hbs9 h_166 h_167
              clear hw
              subst hbs9
              have G : zS T A s.heap s [wt, z1_, wg0_, wg1_, wwB_92, [zO10 xo t im mk rd po co tr wa wb_ fi cd], w2_164, w2_131, z0_] _ _ := G
              have G := G.sub (bs' := [[zO10 xo t im mk rd po co tr wa wb_ fi cd], wt, z0_, z1_, wg0_, wg1_, w2_131, wwB_92, w2_164]) [5, 0, 8, 1, 2, 3, 7, 4, 6] rfl
              exact z_back hQz_ (z_iret C hr hlocks G (Nat.le_of_ble_eq_true rfl) (by omega) dX11_fits_66 ⟨l0, m2_132, wy2_133, pc2_134, g1_135, g2_136, f3A_75, g4_137, g5_138, g6_139, (zMk mdA_70 n4A_79 (zPl cr0_ inn0_ k10_)), w2_131, laB_81, mdB_82, wyB_83, pc_B_84, f1B_85, f2B_86, f3B_87, f4B_88, f5B_89, f6B_90, n4B_91, wwB_92, e0f_93, e1f_94, e2f_95, (nI (gN (fun w => gF (aW cr0_ inn0_ k10_) k20_ cr0_ inn0_ q10_ q20_ w gg0_.toInt.toNat) (aPr (aW cr0_ inn0_ k10_) 7))), e4f_97, e5f_98, r1f_99, m1f_100, g2_165, w2_164, rfl, h_141, (Or.inr rfl), hwy9, (hzk.trans h_106), (by rw [hzk]; exact h_107), (fun _ => h_143), (Or.inr h_144), h_110, h_111, h_112, h_113, h_114, h_115, h_116, h_166, h_118, h_119, h_120, (fun q => (h_122 q).elim (fun w => Or.inl ⟨w.1, h_143⟩) (fun w => Or.inr ⟨w.1, w.2⟩)), h_123, h_124, h_125, h_126, (Or.inr (Or.inl ⟨⟨by omega, by omega⟩, ⟨by omega, by omega⟩, (by unfold kFits gFits; first | (rw [if_neg (show ¬ w_.toInt < 0 by omega), if_neg (by omega), if_pos (by omega)]; exact h_167) | (rw [if_neg (show ¬ w_.toInt < 0 by omega), if_neg (by omega), if_neg (by omega), if_pos (by omega)]; refine h_167.trans ?_; rw [show (w_.toInt - 2).toNat = y_161.toInt.toNat by omega]; by_cases z9 : gN (fun w => gF (aW cr0_ inn0_ k10_) k20_ cr0_ inn0_ q10_ q20_ w gg0_.toInt.toNat) (aPr (aW cr0_ inn0_ k10_) 7) = 0 ∨ ¬ w_.toInt - 2 < ((cr0_.toInt.toNat : Nat) : Int) <;> first | (rw [if_pos (z9.imp id (fun q9 => by omega))]; exact (if_pos z9).symm) | (rw [if_neg (fun q9 => z9 (q9.imp id (fun q8 => by omega)))]; exact (if_neg z9).symm)) | (rw [if_neg (show ¬ w_.toInt < 0 by omega), if_neg (by omega), if_neg (by omega), if_neg (by omega), if_pos (by show 10 ≤ w_.toInt ∧ w_.toInt - 10 < ((gN (fun w => gF (aW cr0_ inn0_ k10_) k20_ cr0_ inn0_ q10_ q20_ w gg0_.toInt.toNat) (aPr (aW cr0_ inn0_ k10_) 7) : Nat) : Int); omega)]; refine h_167.trans ?_; rw [nI_n (by omega)]; rfl))⟩))⟩)
          · have c_146n : w_.toInt = (0 : Int) := (fa_eq _ _).mp c_146
            refine lv_aload_n hx hb dX11_fits_44 rfl (lv_at hl 2 rfl) ?_
            refine z_get C G clX11 6 rfl 9 (by decide) m_fl_RX11_65 rfl dX11_fits_45 ?_
            refine zEx2 h_117 ?_
            intro a1_169 a2_170 hbs9
            clear h_117
            subst hbs9
            have G : zS T A s.heap s [wt, z1_, wg0_, wg1_, wwB_92, [zO3 fi e0f_93 e1f_94 e2f_95 (nI (gN (fun w => gF (aW cr0_ inn0_ k10_) k20_ cr0_ inn0_ q10_ q20_ w gg0_.toInt.toNat) (aPr (aW cr0_ inn0_ k10_) 7))) e4f_97 e5f_98 a1_169 a2_170], [zAr T 0 a1_169 m1f_100 r1f_99], [zAr T 0 a2_170 7 r2f_101], [zO10 xo t im mk rd po co tr wa wb_ fi cd], w2_131, z0_] _ _ := G.re rfl
            refine z_get C G clX3 5 rfl 3 (by decide) m_fl_RX11_306 rfl dX11_fits_48 ?_
            have hw_171 : bFit T fi e0f_93 e1f_94 e2f_95 (nI (gN (fun w => gF (aW cr0_ inn0_ k10_) k20_ cr0_ inn0_ q10_ q20_ w gg0_.toInt.toNat) (aPr (aW cr0_ inn0_ k10_) 7))) e4f_97 e5f_98 r1f_99 m1f_100 r2f_101 [zO3 fi e0f_93 e1f_94 e2f_95 (nI (gN (fun w => gF (aW cr0_ inn0_ k10_) k20_ cr0_ inn0_ q10_ q20_ w gg0_.toInt.toNat) (aPr (aW cr0_ inn0_ k10_) 7))) e4f_97 e5f_98 a1_169 a2_170, zAr T 0 a1_169 m1f_100 r1f_99, zAr T 0 a2_170 7 r2f_101] := ⟨a1_169, a2_170, rfl⟩
            have G : zS T A s.heap s [wt, z1_, wg0_, wg1_, wwB_92, [zO3 fi e0f_93 e1f_94 e2f_95 (nI (gN (fun w => gF (aW cr0_ inn0_ k10_) k20_ cr0_ inn0_ q10_ q20_ w gg0_.toInt.toNat) (aPr (aW cr0_ inn0_ k10_) 7))) e4f_97 e5f_98 a1_169 a2_170, zAr T 0 a1_169 m1f_100 r1f_99, zAr T 0 a2_170 7 r2f_101], [zO10 xo t im mk rd po co tr wa wb_ fi cd], w2_131, z0_] _ _ := G.re rfl
            have G := G.sub (bs' := [[zO10 xo t im mk rd po co tr wa wb_ fi cd], wt, z0_, z1_, wg0_, wg1_, w2_131, wwB_92, [zO3 fi e0f_93 e1f_94 e2f_95 (nI (gN (fun w => gF (aW cr0_ inn0_ k10_) k20_ cr0_ inn0_ q10_ q20_ w gg0_.toInt.toNat) (aPr (aW cr0_ inn0_ k10_) 7))) e4f_97 e5f_98 a1_169 a2_170, zAr T 0 a1_169 m1f_100 r1f_99, zAr T 0 a2_170 7 r2f_101]]) [6, 0, 8, 1, 2, 3, 7, 4, 5] rfl
            exact z_back hQz_ (z_iret C hr hlocks G (Nat.le_of_ble_eq_true rfl) (by omega) dX11_fits_51 ⟨l0, m2_132, wy2_133, pc2_134, g1_135, g2_136, f3A_75, g4_137, g5_138, g6_139, (zMk mdA_70 n4A_79 (zPl cr0_ inn0_ k10_)), w2_131, laB_81, mdB_82, wyB_83, pc_B_84, f1B_85, f2B_86, f3B_87, f4B_88, f5B_89, f6B_90, n4B_91, wwB_92, e0f_93, e1f_94, e2f_95, (nI (gN (fun w => gF (aW cr0_ inn0_ k10_) k20_ cr0_ inn0_ q10_ q20_ w gg0_.toInt.toNat) (aPr (aW cr0_ inn0_ k10_) 7))), e4f_97, e5f_98, r1f_99, m1f_100, r2f_101, ([zO3 fi e0f_93 e1f_94 e2f_95 (nI (gN (fun w => gF (aW cr0_ inn0_ k10_) k20_ cr0_ inn0_ q10_ q20_ w gg0_.toInt.toNat) (aPr (aW cr0_ inn0_ k10_) 7))) e4f_97 e5f_98 a1_169 a2_170, zAr T 0 a1_169 m1f_100 r1f_99, zAr T 0 a2_170 7 r2f_101]), rfl, h_141, (Or.inr rfl), hwy9, (hzk.trans h_106), (by rw [hzk]; exact h_107), (fun _ => h_143), (Or.inr h_144), h_110, h_111, h_112, h_113, h_114, h_115, h_116, hw_171, h_118, h_119, h_120, (fun q => (h_122 q).elim (fun w => Or.inl ⟨w.1, h_143⟩) (fun w => Or.inr ⟨w.1, w.2⟩)), h_123, h_124, h_125, h_126, (Or.inr (Or.inl ⟨⟨by omega, by omega⟩, ⟨by omega, by omega⟩, (by unfold kFits gFits; rw [if_neg (show ¬ w_.toInt < 0 by omega), if_pos (by omega)]; rfl)⟩))⟩)
        · have hp79 : aPr (aW cr0_ inn0_ k10_) 7 ≤ 16384 := aPr_7 hI0_
          obtain ⟨he39, he49, he59, hrw9, hml9⟩ := h_124 hX.2.2.1 (by have q9 := hX.2.2.2; omega) (by rcases h_127 with q9 | q9 <;> first | (exfalso; have e7 := congrArg Int32.toInt q9; have e6 : (0 : Int32).toInt = 0 := rfl; have e5 : (1 : Int32).toInt = 1 := rfl; omega) | omega)
          subst he39
          have hOk9 := (kaOk (inn := inn0_) hI0_ hLq0).1
          have hGk9 : gRk (fun w => gF (aW cr0_ inn0_ k10_) k20_ cr0_ inn0_ q11_ q21_ w gg1_.toInt.toNat) (aPr (aW cr0_ inn0_ k10_) 7) (aPr (aW cr0_ inn0_ k10_) 7) r1f_99 := ⟨hp79, hp79, hrw9, fun w hw => (gF_b hOk9 (by have q9 := hI0_.1; omega) hw _).1⟩
          have hgN9 := gN_le (f := (fun w => gF (aW cr0_ inn0_ k10_) k20_ cr0_ inn0_ q11_ q21_ w gg1_.toInt.toNat)) (aPr (aW cr0_ inn0_ k10_) 7)
          refine lv_aload_n hx hb dX11_fits_31 rfl (lv_at hl 1 rfl) ?_
          refine lv_iload_n hx hb dX11_fits_32 rfl (lv_at hl 2 rfl) ?_
          refine lv_aload hx hb dX11_fits_33 (lv_at hl 0 rfl) ?_
          have hmk : ¬ mdA_70 = 0 := (h_122 hX.2.2.1).elim (fun q => q.2) (fun q => absurd q.1 (by have := hX.2.2.2; omega))
          have hzk : zMk mdA_70 n4A_79 (zPl cr0_ inn0_ k10_) = n4A_79 := by unfold zMk; rw [if_neg hmk]
          have hn9 : zMk mdA_70 n4A_79 (zPl cr0_ inn0_ k10_) ≤ 131072 := by rw [hzk]; exact zPw_le h_107
          refine z_Vq (bc := [[zO10 xo t im mk rd po co tr wa wb_ fi cd], wwA_80, z0_]) (br := [wt, z1_, wg0_, wg1_, wwB_92, wff_102]) (As := [.int i1, .ref l0]) (rest := []) C G (c_f_waysInA l T xo t im mk rd po co tr wa wb_ fi cd i1 laA_69 mdA_70 wyA_71 pc_A_72 f1A_73 f2A_74 f3A_75 f4A_76 f5A_77 f6A_78 n4A_79 wwA_80 l0 cr0_ inn0_ k10_ k20_ k30_ k40_ z0_ h_103 hz0_ hI0_ h_107 h_104 (kaOk hI0_ hLq0).1 h_109 (by omega)) (kV_RX11_235 C.2.2.2.2 (Nat.le_of_ble_eq_true rfl) (Nat.le_of_ble_eq_true rfl)) [0, 6, 2] [0, 1, 3] rfl rfl (ci := 10) (qc := (RX11, TX11, 11)) rfl rfl (List.mem_flatten.mpr ⟨_, List.mem_of_getElem? (i := 0) rfl, List.mem_cons_self⟩) rfl rfl hl.1 dX11_fits_35 (Nat.le_of_ble_eq_true rfl) (by show _ + (6 * (zMk mdA_70 n4A_79 (zPl cr0_ inn0_ k10_) - n4A_79)) ≤ 6 * (zNA (i1.toInt = 0 ∧ 0 < (fk 0).toInt ∧ (0 ≤ i2.toInt ∧ i2.toInt < (fk 2).toInt ∧ i2.toInt < 2) ∧ (e0f.toInt = 0 ∨ ¬ e1f.toInt = i1.toInt ∨ ¬ e2f.toInt = i2.toInt)) mdA n4A (zPl cr0_ inn0_ k10_) - n4A) + 6 * (zNA (i1.toInt = 1 ∧ 1 < (fk 0).toInt ∧ (0 ≤ i2.toInt ∧ i2.toInt < (fk 2).toInt ∧ i2.toInt < 2) ∧ (e0f.toInt = 0 ∨ ¬ e1f.toInt = i1.toInt ∨ ¬ e2f.toInt = i2.toInt)) mdB n4B (zPl cr1_ inn1_ k11_) - n4B) + 2 * (zNF (i1.toInt = 1 ∧ 1 < (fk 0).toInt ∧ (0 ≤ i2.toInt ∧ i2.toInt < (fk 2).toInt ∧ i2.toInt < 2) ∧ (e0f.toInt = 0 ∨ ¬ e1f.toInt = i1.toInt ∨ ¬ e2f.toInt = i2.toInt)) (zNF (i1.toInt = 0 ∧ 0 < (fk 0).toInt ∧ (0 ≤ i2.toInt ∧ i2.toInt < (fk 2).toInt ∧ i2.toInt < 2) ∧ (e0f.toInt = 0 ∨ ¬ e1f.toInt = i1.toInt ∨ ¬ e2f.toInt = i2.toInt)) m1f (zMw mdA wyA cr0_ inn0_ k10_)) (zMw mdB wyB cr1_ inn1_ k11_) - m1f); omega) (fun r_186 b1 H locs hw G => ?_)
          refine zEx9 hw ?_
          intro w2_172 m2_173 wy2_174 pc2_175 g1_176 g2_177 g4_178 g5_179 g6_180
          refine zCu6 ?_
          intro hbs9 h_181 h_182 h_183 h_184 h_185
          clear hw
          subst hbs9
          have G : zS T A s.heap s [wt, z1_, wg0_, wg1_, wwB_92, wff_102, [zO10 xo t im mk rd po co tr wa wb_ fi cd], w2_172, z0_] _ _ := G
          subst h_181
          have hwy9 : 0 ≤ wy2_174.toInt ∧ wy2_174.toInt ≤ 16384 := by have q9 := zWy_in (inn := inn0_) hI0_; rw [h_183]; exact ⟨by omega, q9.2⟩
          refine lv_astore (lv' := [(5, .ref wa), (4, .ref l0), (0, .ref xo), (1, .int i1), (2, .int i2), (3, .int w_)]) hx hb dX11_fits_38 hl (by decide) (zLvf_h rfl) (fun ls hl => ?_)
          refine lv_iload_n hx hb dX11_fits_40 rfl (lv_at hl 5 rfl) ?_
          refine lv_if_ne (tgt := 52) hx hb dX11_fits_41 (by decide) (fun c_187 => ?_) (fun c_187 => ?_)
          · have c_187n : ¬ w_.toInt = (0 : Int) := fun q => c_187 ((fa_eq _ _).mpr q)
            refine lv_iload_n hx hb dX11_fits_52 rfl (lv_at hl 5 rfl) ?_
            refine lv_iconst (v := 1) hx hb dX11_fits_53 (by decide) ?_
            refine lv_icmp_ne (tgt := 67) hx hb dX11_fits_54 (by decide) (fun c_188 => ?_) (fun c_188 => ?_)
            · have c_188n : ¬ w_.toInt = (1 : Int) := fun q => c_188 ((fa_eq _ _).mpr q)
              refine lv_iload_n hx hb dX11_fits_67 rfl (lv_at hl 5 rfl) ?_
              refine lv_bipush (v := 9) hx hb dX11_fits_68 (by decide) ?_
              refine lv_icmp_ge (tgt := 86) hx hb dX11_fits_70 (by decide) (fun c_189 => ?_) (fun c_189 => ?_)
              · have c_189n : (9 : Int) ≤ w_.toInt := (fa_le _ _).mp c_189
                refine lv_iload_n hx hb dX11_fits_86 rfl (lv_at hl 5 rfl) ?_
                refine lv_bipush (v := 10) hx hb dX11_fits_87 (by decide) ?_
                refine lv_isub hx hb dX11_fits_89 ?_
                refine lv_topi (fun y_190 ey_190 => ?_)
                have ey_190i : y_190.toInt = w_.toInt - (10 : Int) := by rw [ey_190]; exact z_isubI (x := w_) (y := (10 : Int32)) (by show -2147483648 ≤ w_.toInt - (10 : Int); omega) (by show w_.toInt - (10 : Int) < 2147483648; omega)
                refine lv_istore (lv' := [(6, .int y_190), (5, .ref wa), (4, .ref l0), (0, .ref xo), (1, .int i1), (2, .int i2), (3, .int w_)]) hx hb dX11_fits_90 hl (by decide) (zLvf_h rfl) (fun ls hl => ?_)
                refine lv_iload hx hb dX11_fits_92 (lv_at hl 0 rfl) ?_
                refine lv_if_lt (tgt := 126) hx hb dX11_fits_94 (by decide) (fun c_191 => ?_) (fun c_191 => ?_)
                · have c_191n : y_190.toInt < (0 : Int) := (fa_lt _ _).mp c_191
                  refine lv_bipush (v := (-2)) hx hb dX11_fits_126 (by decide) ?_
                  have G := G.sub (bs' := [[zO10 xo t im mk rd po co tr wa wb_ fi cd], wt, z0_, z1_, wg0_, wg1_, w2_172, wwB_92, wff_102]) [6, 0, 8, 1, 2, 3, 7, 4, 5] rfl
                  exact z_back hQz_ (z_iret C hr hlocks G (Nat.le_of_ble_eq_true rfl) (by omega) dX11_fits_128 ⟨l0, m2_173, wy2_174, pc2_175, g1_176, g2_177, f3A_75, g4_178, g5_179, g6_180, (zMk mdA_70 n4A_79 (zPl cr0_ inn0_ k10_)), w2_172, laB_81, mdB_82, wyB_83, pc_B_84, f1B_85, f2B_86, f3B_87, f4B_88, f5B_89, f6B_90, n4B_91, wwB_92, e0f_93, e1f_94, e2f_95, (nI (gN (fun w => gF (aW cr0_ inn0_ k10_) k20_ cr0_ inn0_ q11_ q21_ w gg1_.toInt.toNat) (aPr (aW cr0_ inn0_ k10_) 7))), e4f_97, e5f_98, r1f_99, m1f_100, r2f_101, wff_102, rfl, h_182, (Or.inr rfl), hwy9, (hzk.trans h_106), (by rw [hzk]; exact h_107), (fun _ => h_184), (Or.inr h_185), h_110, h_111, h_112, h_113, h_114, h_115, h_116, h_117, h_118, h_119, h_120, (fun q => (h_122 q).elim (fun w => Or.inl ⟨w.1, h_184⟩) (fun w => Or.inr ⟨w.1, w.2⟩)), h_123, h_124, h_125, h_126, (Or.inr (Or.inr (Or.inl ⟨⟨by omega, by omega⟩, ⟨by omega, by omega⟩, (by unfold kFits gFits; rw [if_neg (show ¬ w_.toInt < 0 by omega), if_neg (by omega), if_neg (by omega), if_neg (by omega), if_neg (by show ¬ (10 ≤ w_.toInt ∧ w_.toInt - 10 < ((gN (fun w => gF (aW cr0_ inn0_ k10_) k20_ cr0_ inn0_ q11_ q21_ w gg1_.toInt.toNat) (aPr (aW cr0_ inn0_ k10_) 7) : Nat) : Int)); omega)])⟩)))⟩)
                · have c_191n : ¬ y_190.toInt < (0 : Int) := fun q => c_191 ((fa_lt _ _).mpr q)
                  refine lv_iload hx hb dX11_fits_97 (lv_at hl 0 rfl) ?_
                  refine lv_aload_n hx hb dX11_fits_99 rfl (lv_at hl 3 rfl) ?_
                  refine z_get C G clX11 6 rfl 9 (by decide) m_fl_RX11_65 rfl dX11_fits_100 ?_
                  refine zEx2 h_117 ?_
                  intro a1_192 a2_193 hbs9
                  clear h_117
                  subst hbs9
                  have G : zS T A s.heap s [wt, z1_, wg0_, wg1_, wwB_92, [zO3 fi e0f_93 e1f_94 e2f_95 (nI (gN (fun w => gF (aW cr0_ inn0_ k10_) k20_ cr0_ inn0_ q11_ q21_ w gg1_.toInt.toNat) (aPr (aW cr0_ inn0_ k10_) 7))) e4f_97 e5f_98 a1_192 a2_193], [zAr T 0 a1_192 m1f_100 r1f_99], [zAr T 0 a2_193 7 r2f_101], [zO10 xo t im mk rd po co tr wa wb_ fi cd], w2_172, z0_] _ _ := G.re rfl
                  refine z_get C G clX3 5 rfl 3 (by decide) m_fl_RX11_306 rfl dX11_fits_103 ?_
                  refine lv_icmp_ge (tgt := 126) hx hb dX11_fits_106 (by decide) (fun c_194 => ?_) (fun c_194 => ?_)
                  · have c_194n : ((gN (fun w => gF (aW cr0_ inn0_ k10_) k20_ cr0_ inn0_ q11_ q21_ w gg1_.toInt.toNat) (aPr (aW cr0_ inn0_ k10_) 7)) : Int) ≤ y_190.toInt := by have q := (fa_le _ _).mp c_194; rw [nI_toInt (n := gN (fun w => gF (aW cr0_ inn0_ k10_) k20_ cr0_ inn0_ q11_ q21_ w gg1_.toInt.toNat) (aPr (aW cr0_ inn0_ k10_) 7)) (by omega)] at q; exact q
                    refine lv_bipush (v := (-2)) hx hb dX11_fits_126 (by decide) ?_
                    have hw_195 : bFit T fi e0f_93 e1f_94 e2f_95 (nI (gN (fun w => gF (aW cr0_ inn0_ k10_) k20_ cr0_ inn0_ q11_ q21_ w gg1_.toInt.toNat) (aPr (aW cr0_ inn0_ k10_) 7))) e4f_97 e5f_98 r1f_99 m1f_100 r2f_101 [zO3 fi e0f_93 e1f_94 e2f_95 (nI (gN (fun w => gF (aW cr0_ inn0_ k10_) k20_ cr0_ inn0_ q11_ q21_ w gg1_.toInt.toNat) (aPr (aW cr0_ inn0_ k10_) 7))) e4f_97 e5f_98 a1_192 a2_193, zAr T 0 a1_192 m1f_100 r1f_99, zAr T 0 a2_193 7 r2f_101] := ⟨a1_192, a2_193, rfl⟩
                    have G : zS T A s.heap s [wt, z1_, wg0_, wg1_, wwB_92, [zO3 fi e0f_93 e1f_94 e2f_95 (nI (gN (fun w => gF (aW cr0_ inn0_ k10_) k20_ cr0_ inn0_ q11_ q21_ w gg1_.toInt.toNat) (aPr (aW cr0_ inn0_ k10_) 7))) e4f_97 e5f_98 a1_192 a2_193, zAr T 0 a1_192 m1f_100 r1f_99, zAr T 0 a2_193 7 r2f_101], [zO10 xo t im mk rd po co tr wa wb_ fi cd], w2_172, z0_] _ _ := G.re rfl
                    have G := G.sub (bs' := [[zO10 xo t im mk rd po co tr wa wb_ fi cd], wt, z0_, z1_, wg0_, wg1_, w2_172, wwB_92, [zO3 fi e0f_93 e1f_94 e2f_95 (nI (gN (fun w => gF (aW cr0_ inn0_ k10_) k20_ cr0_ inn0_ q11_ q21_ w gg1_.toInt.toNat) (aPr (aW cr0_ inn0_ k10_) 7))) e4f_97 e5f_98 a1_192 a2_193, zAr T 0 a1_192 m1f_100 r1f_99, zAr T 0 a2_193 7 r2f_101]]) [6, 0, 8, 1, 2, 3, 7, 4, 5] rfl
                    exact z_back hQz_ (z_iret C hr hlocks G (Nat.le_of_ble_eq_true rfl) (by omega) dX11_fits_128 ⟨l0, m2_173, wy2_174, pc2_175, g1_176, g2_177, f3A_75, g4_178, g5_179, g6_180, (zMk mdA_70 n4A_79 (zPl cr0_ inn0_ k10_)), w2_172, laB_81, mdB_82, wyB_83, pc_B_84, f1B_85, f2B_86, f3B_87, f4B_88, f5B_89, f6B_90, n4B_91, wwB_92, e0f_93, e1f_94, e2f_95, (nI (gN (fun w => gF (aW cr0_ inn0_ k10_) k20_ cr0_ inn0_ q11_ q21_ w gg1_.toInt.toNat) (aPr (aW cr0_ inn0_ k10_) 7))), e4f_97, e5f_98, r1f_99, m1f_100, r2f_101, ([zO3 fi e0f_93 e1f_94 e2f_95 (nI (gN (fun w => gF (aW cr0_ inn0_ k10_) k20_ cr0_ inn0_ q11_ q21_ w gg1_.toInt.toNat) (aPr (aW cr0_ inn0_ k10_) 7))) e4f_97 e5f_98 a1_192 a2_193, zAr T 0 a1_192 m1f_100 r1f_99, zAr T 0 a2_193 7 r2f_101]), rfl, h_182, (Or.inr rfl), hwy9, (hzk.trans h_106), (by rw [hzk]; exact h_107), (fun _ => h_184), (Or.inr h_185), h_110, h_111, h_112, h_113, h_114, h_115, h_116, hw_195, h_118, h_119, h_120, (fun q => (h_122 q).elim (fun w => Or.inl ⟨w.1, h_184⟩) (fun w => Or.inr ⟨w.1, w.2⟩)), h_123, h_124, h_125, h_126, (Or.inr (Or.inr (Or.inl ⟨⟨by omega, by omega⟩, ⟨by omega, by omega⟩, (by unfold kFits gFits; rw [if_neg (show ¬ w_.toInt < 0 by omega), if_neg (by omega), if_neg (by omega), if_neg (by omega), if_neg (by show ¬ (10 ≤ w_.toInt ∧ w_.toInt - 10 < ((gN (fun w => gF (aW cr0_ inn0_ k10_) k20_ cr0_ inn0_ q11_ q21_ w gg1_.toInt.toNat) (aPr (aW cr0_ inn0_ k10_) 7) : Nat) : Int)); omega)])⟩)))⟩)
                  · have c_194n : ¬ ((gN (fun w => gF (aW cr0_ inn0_ k10_) k20_ cr0_ inn0_ q11_ q21_ w gg1_.toInt.toNat) (aPr (aW cr0_ inn0_ k10_) 7)) : Int) ≤ y_190.toInt := fun q => c_194 ((fa_le _ _).mpr (by rw [nI_toInt (n := gN (fun w => gF (aW cr0_ inn0_ k10_) k20_ cr0_ inn0_ q11_ q21_ w gg1_.toInt.toNat) (aPr (aW cr0_ inn0_ k10_) 7)) (by omega)]; exact q))
                    refine lv_aload hx hb dX11_fits_109 (lv_at hl 1 rfl) ?_
                    refine lv_aload_n hx hb dX11_fits_111 rfl (lv_at hl 3 rfl) ?_
                    refine z_get C G clX11 8 rfl 9 (by decide) m_fl_RX11_65 rfl dX11_fits_112 ?_
                    refine lv_iload hx hb dX11_fits_115 (lv_at hl 0 rfl) ?_
                    have hw_196 : bFit T fi e0f_93 e1f_94 e2f_95 (nI (gN (fun w => gF (aW cr0_ inn0_ k10_) k20_ cr0_ inn0_ q11_ q21_ w gg1_.toInt.toNat) (aPr (aW cr0_ inn0_ k10_) 7))) e4f_97 e5f_98 r1f_99 m1f_100 r2f_101 [zO3 fi e0f_93 e1f_94 e2f_95 (nI (gN (fun w => gF (aW cr0_ inn0_ k10_) k20_ cr0_ inn0_ q11_ q21_ w gg1_.toInt.toNat) (aPr (aW cr0_ inn0_ k10_) 7))) e4f_97 e5f_98 a1_192 a2_193, zAr T 0 a1_192 m1f_100 r1f_99, zAr T 0 a2_193 7 r2f_101] := ⟨a1_192, a2_193, rfl⟩
                    have G : zS T A s.heap s [wt, z1_, wg0_, wg1_, wwB_92, [zO3 fi e0f_93 e1f_94 e2f_95 (nI (gN (fun w => gF (aW cr0_ inn0_ k10_) k20_ cr0_ inn0_ q11_ q21_ w gg1_.toInt.toNat) (aPr (aW cr0_ inn0_ k10_) 7))) e4f_97 e5f_98 a1_192 a2_193, zAr T 0 a1_192 m1f_100 r1f_99, zAr T 0 a2_193 7 r2f_101], [zO10 xo t im mk rd po co tr wa wb_ fi cd], w2_172, z0_] _ _ := G.re rfl
                    refine z_Vi (bc := [[zO3 fi e0f_93 e1f_94 e2f_95 (nI (gN (fun w => gF (aW cr0_ inn0_ k10_) k20_ cr0_ inn0_ q11_ q21_ w gg1_.toInt.toNat) (aPr (aW cr0_ inn0_ k10_) 7))) e4f_97 e5f_98 a1_192 a2_193, zAr T 0 a1_192 m1f_100 r1f_99, zAr T 0 a2_193 7 r2f_101]]) (br := [wt, z1_, wg0_, wg1_, wwB_92, [zO10 xo t im mk rd po co tr wa wb_ fi cd], w2_172, z0_]) (As := [.int y_190]) (rest := [.ref wa]) C G (c_way l T fi e0f_93 e1f_94 e2f_95 (nI (gN (fun w => gF (aW cr0_ inn0_ k10_) k20_ cr0_ inn0_ q11_ q21_ w gg1_.toInt.toNat) (aPr (aW cr0_ inn0_ k10_) 7))) e4f_97 e5f_98 r1f_99 m1f_100 r2f_101 ([zO3 fi e0f_93 e1f_94 e2f_95 (nI (gN (fun w => gF (aW cr0_ inn0_ k10_) k20_ cr0_ inn0_ q11_ q21_ w gg1_.toInt.toNat) (aPr (aW cr0_ inn0_ k10_) 7))) e4f_97 e5f_98 a1_192 a2_193, zAr T 0 a1_192 m1f_100 r1f_99, zAr T 0 a2_193 7 r2f_101]) y_190 hw_196 hfm9) (kV_RX11_317 C.2.2.2.2 (Nat.le_of_ble_eq_true rfl) (Nat.le_of_ble_eq_true rfl)) [5] [5] rfl rfl (ci := 3) (qc := (RX3, TX3, 8)) rfl rfl (List.mem_flatten.mpr ⟨_, List.mem_of_getElem? (i := 0) rfl, (bFit_mem hw_196).choose_spec⟩) rfl rfl hl.1 dX11_fits_117 (Nat.le_of_ble_eq_true rfl) (by show _ + 0 ≤ 6 * (zNA (i1.toInt = 0 ∧ 0 < (fk 0).toInt ∧ (0 ≤ i2.toInt ∧ i2.toInt < (fk 2).toInt ∧ i2.toInt < 2) ∧ (e0f.toInt = 0 ∨ ¬ e1f.toInt = i1.toInt ∨ ¬ e2f.toInt = i2.toInt)) mdA n4A (zPl cr0_ inn0_ k10_) - n4A) + 6 * (zNA (i1.toInt = 1 ∧ 1 < (fk 0).toInt ∧ (0 ≤ i2.toInt ∧ i2.toInt < (fk 2).toInt ∧ i2.toInt < 2) ∧ (e0f.toInt = 0 ∨ ¬ e1f.toInt = i1.toInt ∨ ¬ e2f.toInt = i2.toInt)) mdB n4B (zPl cr1_ inn1_ k11_) - n4B) + 2 * (zNF (i1.toInt = 1 ∧ 1 < (fk 0).toInt ∧ (0 ≤ i2.toInt ∧ i2.toInt < (fk 2).toInt ∧ i2.toInt < 2) ∧ (e0f.toInt = 0 ∨ ¬ e1f.toInt = i1.toInt ∨ ¬ e2f.toInt = i2.toInt)) (zNF (i1.toInt = 0 ∧ 0 < (fk 0).toInt ∧ (0 ≤ i2.toInt ∧ i2.toInt < (fk 2).toInt ∧ i2.toInt < 2) ∧ (e0f.toInt = 0 ∨ ¬ e1f.toInt = i1.toInt ∨ ¬ e2f.toInt = i2.toInt)) m1f (zMw mdA wyA cr0_ inn0_ k10_)) (zMw mdB wyB cr1_ inn1_ k11_) - m1f); omega) (fun r_198 b1 H locs hw G => ?_)
                    refine zAn2 hw ?_
                    intro hbs9 h_197
                    clear hw
                    subst hbs9
                    have G : zS T A s.heap s [wt, z1_, wg0_, wg1_, wwB_92, [zO10 xo t im mk rd po co tr wa wb_ fi cd], w2_172, z0_, [zO3 fi e0f_93 e1f_94 e2f_95 (nI (gN (fun w => gF (aW cr0_ inn0_ k10_) k20_ cr0_ inn0_ q11_ q21_ w gg1_.toInt.toNat) (aPr (aW cr0_ inn0_ k10_) 7))) e4f_97 e5f_98 a1_192 a2_193, zAr T 0 a1_192 m1f_100 r1f_99, zAr T 0 a2_193 7 r2f_101]] _ _ := G
                    subst h_197
                    have hyn9 : y_190 = nI (w_.toInt - 10).toNat := z_nI (by omega) (by omega)
                    have hwx9 := (gWk_x (f := (fun w => gF (aW cr0_ inn0_ k10_) k20_ cr0_ inn0_ q11_ q21_ w gg1_.toInt.toNat)) (k := (w_.toInt - 10).toNat) (aPr (aW cr0_ inn0_ k10_) 7) (by omega)).1
                    refine lv_topi (fun y_199 ey_199 => ?_)
                    obtain rfl : y_199 = nI (gWk (fun w => gF (aW cr0_ inn0_ k10_) k20_ cr0_ inn0_ q11_ q21_ w gg1_.toInt.toNat) (aPr (aW cr0_ inn0_ k10_) 7) (w_.toInt - 10).toNat) := ey_199.trans ((by have q9 := zFway_e (i := (w_.toInt - 10).toNat) hGk9 (by omega) hml9; rw [← hyn9] at q9; exact q9))
                    refine z_Vi (bc := [w2_172, z0_]) (br := [wt, z1_, wg0_, wg1_, wwB_92, [zO10 xo t im mk rd po co tr wa wb_ fi cd], [zO3 fi e0f_93 e1f_94 e2f_95 (nI (gN (fun w => gF (aW cr0_ inn0_ k10_) k20_ cr0_ inn0_ q11_ q21_ w gg1_.toInt.toNat) (aPr (aW cr0_ inn0_ k10_) 7))) e4f_97 e5f_98 a1_192 a2_193, zAr T 0 a1_192 m1f_100 r1f_99, zAr T 0 a2_193 7 r2f_101]]) (As := [.int (nI (gWk (fun w => gF (aW cr0_ inn0_ k10_) k20_ cr0_ inn0_ q11_ q21_ w gg1_.toInt.toNat) (aPr (aW cr0_ inn0_ k10_) 7) (w_.toInt - 10).toNat))]) (rest := []) C G (c_f_number l T wa l0 m2_173 wy2_174 pc2_175 g1_176 g2_177 f3A_75 g4_178 g5_179 g6_180 (zMk mdA_70 n4A_79 (zPl cr0_ inn0_ k10_)) w2_172 cr0_ inn0_ k10_ k20_ k30_ k40_ z0_ (nI (gWk (fun w => gF (aW cr0_ inn0_ k10_) k20_ cr0_ inn0_ q11_ q21_ w gg1_.toInt.toNat) (aPr (aW cr0_ inn0_ k10_) 7) (w_.toInt - 10).toNat)) h_182 hz0_ hI0_ h_185.2.2.1 hOk9 (by rw [nI_toInt (by omega)]; omega)) (kV_RX11_272 C.2.2.2.2 (Nat.le_of_ble_eq_true rfl) (Nat.le_of_ble_eq_true rfl)) [6, 7] [6, 0] rfl rfl (ci := 0) (qc := (RX0, TX0, 10)) rfl rfl (List.mem_flatten.mpr ⟨_, List.mem_of_getElem? (i := 0) rfl, (bWays_mem h_182).choose_spec⟩) rfl rfl hl.1 dX11_fits_120 (Nat.le_of_ble_eq_true rfl) (by show _ + 0 ≤ 6 * (zNA (i1.toInt = 0 ∧ 0 < (fk 0).toInt ∧ (0 ≤ i2.toInt ∧ i2.toInt < (fk 2).toInt ∧ i2.toInt < 2) ∧ (e0f.toInt = 0 ∨ ¬ e1f.toInt = i1.toInt ∨ ¬ e2f.toInt = i2.toInt)) mdA n4A (zPl cr0_ inn0_ k10_) - n4A) + 6 * (zNA (i1.toInt = 1 ∧ 1 < (fk 0).toInt ∧ (0 ≤ i2.toInt ∧ i2.toInt < (fk 2).toInt ∧ i2.toInt < 2) ∧ (e0f.toInt = 0 ∨ ¬ e1f.toInt = i1.toInt ∨ ¬ e2f.toInt = i2.toInt)) mdB n4B (zPl cr1_ inn1_ k11_) - n4B) + 2 * (zNF (i1.toInt = 1 ∧ 1 < (fk 0).toInt ∧ (0 ≤ i2.toInt ∧ i2.toInt < (fk 2).toInt ∧ i2.toInt < 2) ∧ (e0f.toInt = 0 ∨ ¬ e1f.toInt = i1.toInt ∨ ¬ e2f.toInt = i2.toInt)) (zNF (i1.toInt = 0 ∧ 0 < (fk 0).toInt ∧ (0 ≤ i2.toInt ∧ i2.toInt < (fk 2).toInt ∧ i2.toInt < 2) ∧ (e0f.toInt = 0 ∨ ¬ e1f.toInt = i1.toInt ∨ ¬ e2f.toInt = i2.toInt)) m1f (zMw mdA wyA cr0_ inn0_ k10_)) (zMw mdB wyB cr1_ inn1_ k11_) - m1f); omega) (fun r_201 b1 H locs hw G => ?_)
                    refine zAn2 hw ?_
                    intro hbs9 h_200
                    clear hw
                    subst hbs9
                    have G : zS T A s.heap s [wt, z1_, wg0_, wg1_, wwB_92, [zO10 xo t im mk rd po co tr wa wb_ fi cd], [zO3 fi e0f_93 e1f_94 e2f_95 (nI (gN (fun w => gF (aW cr0_ inn0_ k10_) k20_ cr0_ inn0_ q11_ q21_ w gg1_.toInt.toNat) (aPr (aW cr0_ inn0_ k10_) 7))) e4f_97 e5f_98 a1_192 a2_193, zAr T 0 a1_192 m1f_100 r1f_99, zAr T 0 a2_193 7 r2f_101], w2_172, z0_] _ _ := G
                    refine lv_goto (tgt := 128) hx hb dX11_fits_123 (by decide) ?_
                    have G := G.sub (bs' := [[zO10 xo t im mk rd po co tr wa wb_ fi cd], wt, z0_, z1_, wg0_, wg1_, w2_172, wwB_92, [zO3 fi e0f_93 e1f_94 e2f_95 (nI (gN (fun w => gF (aW cr0_ inn0_ k10_) k20_ cr0_ inn0_ q11_ q21_ w gg1_.toInt.toNat) (aPr (aW cr0_ inn0_ k10_) 7))) e4f_97 e5f_98 a1_192 a2_193, zAr T 0 a1_192 m1f_100 r1f_99, zAr T 0 a2_193 7 r2f_101]]) [5, 0, 8, 1, 2, 3, 7, 4, 6] rfl
                    exact z_back hQz_ (z_iret C hr hlocks G (Nat.le_of_ble_eq_true rfl) (by omega) dX11_fits_128 ⟨l0, m2_173, wy2_174, pc2_175, g1_176, g2_177, f3A_75, g4_178, g5_179, g6_180, (zMk mdA_70 n4A_79 (zPl cr0_ inn0_ k10_)), w2_172, laB_81, mdB_82, wyB_83, pc_B_84, f1B_85, f2B_86, f3B_87, f4B_88, f5B_89, f6B_90, n4B_91, wwB_92, e0f_93, e1f_94, e2f_95, (nI (gN (fun w => gF (aW cr0_ inn0_ k10_) k20_ cr0_ inn0_ q11_ q21_ w gg1_.toInt.toNat) (aPr (aW cr0_ inn0_ k10_) 7))), e4f_97, e5f_98, r1f_99, m1f_100, r2f_101, ([zO3 fi e0f_93 e1f_94 e2f_95 (nI (gN (fun w => gF (aW cr0_ inn0_ k10_) k20_ cr0_ inn0_ q11_ q21_ w gg1_.toInt.toNat) (aPr (aW cr0_ inn0_ k10_) 7))) e4f_97 e5f_98 a1_192 a2_193, zAr T 0 a1_192 m1f_100 r1f_99, zAr T 0 a2_193 7 r2f_101]), rfl, h_182, (Or.inr rfl), hwy9, (hzk.trans h_106), (by rw [hzk]; exact h_107), (fun _ => h_184), (Or.inr h_185), h_110, h_111, h_112, h_113, h_114, h_115, h_116, hw_196, h_118, h_119, h_120, (fun q => (h_122 q).elim (fun w => Or.inl ⟨w.1, h_184⟩) (fun w => Or.inr ⟨w.1, w.2⟩)), h_123, h_124, h_125, h_126, (Or.inr (Or.inr (Or.inl ⟨⟨by omega, by omega⟩, ⟨by omega, by omega⟩, (by unfold kFits gFits; first | (rw [if_neg (show ¬ w_.toInt < 0 by omega), if_neg (by omega), if_pos (by omega)]; exact h_200) | (rw [if_neg (show ¬ w_.toInt < 0 by omega), if_neg (by omega), if_neg (by omega), if_pos (by omega)]; refine h_200.trans ?_; rw [show (w_.toInt - 2).toNat = y_161.toInt.toNat by omega]; by_cases z9 : gN (fun w => gF (aW cr0_ inn0_ k10_) k20_ cr0_ inn0_ q11_ q21_ w gg1_.toInt.toNat) (aPr (aW cr0_ inn0_ k10_) 7) = 0 ∨ ¬ w_.toInt - 2 < ((cr0_.toInt.toNat : Nat) : Int) <;> first | (rw [if_pos (z9.imp id (fun q9 => by omega))]; exact (if_pos z9).symm) | (rw [if_neg (fun q9 => z9 (q9.imp id (fun q8 => by omega)))]; exact (if_neg z9).symm)) | (rw [if_neg (show ¬ w_.toInt < 0 by omega), if_neg (by omega), if_neg (by omega), if_neg (by omega), if_pos (by show 10 ≤ w_.toInt ∧ w_.toInt - 10 < ((gN (fun w => gF (aW cr0_ inn0_ k10_) k20_ cr0_ inn0_ q11_ q21_ w gg1_.toInt.toNat) (aPr (aW cr0_ inn0_ k10_) 7) : Nat) : Int); omega)]; refine h_200.trans ?_; rw [nI_n (by omega)]; rfl))⟩)))⟩)
              · have c_189n : ¬ (9 : Int) ≤ w_.toInt := fun q => c_189 ((fa_le _ _).mpr q)
                refine lv_aload_n hx hb dX11_fits_73 rfl (lv_at hl 2 rfl) ?_
                refine z_get C G clX11 6 rfl 9 (by decide) m_fl_RX11_65 rfl dX11_fits_74 ?_
                refine lv_aload hx hb dX11_fits_77 (lv_at hl 0 rfl) ?_
                refine lv_iload_n hx hb dX11_fits_79 rfl (lv_at hl 5 rfl) ?_
                refine lv_iconst (v := 2) hx hb dX11_fits_80 (by decide) ?_
                refine lv_isub hx hb dX11_fits_81 ?_
                refine lv_topi (fun y_202 ey_202 => ?_)
                have ey_202i : y_202.toInt = w_.toInt - (2 : Int) := by rw [ey_202]; exact z_isubI (x := w_) (y := (2 : Int32)) (by show -2147483648 ≤ w_.toInt - (2 : Int); omega) (by show w_.toInt - (2 : Int) < 2147483648; omega)
                refine z_Vi (bc := [wff_102, w2_172, z0_]) (br := [wt, z1_, wg0_, wg1_, wwB_92, [zO10 xo t im mk rd po co tr wa wb_ fi cd]]) (As := [.ref wa, .int y_202]) (rest := []) C G (c_e_sure l T fi e0f_93 e1f_94 e2f_95 e4f_97 e5f_98 r1f_99 m1f_100 r2f_101 wff_102 (gN (fun w => gF (aW cr0_ inn0_ k10_) k20_ cr0_ inn0_ q11_ q21_ w gg1_.toInt.toNat) (aPr (aW cr0_ inn0_ k10_) 7)) wa l0 m2_173 wy2_174 pc2_175 g1_176 g2_177 f3A_75 g4_178 g5_179 g6_180 (zMk mdA_70 n4A_79 (zPl cr0_ inn0_ k10_)) w2_172 cr0_ inn0_ k10_ k20_ k30_ k40_ z0_ (fun w => gF (aW cr0_ inn0_ k10_) k20_ cr0_ inn0_ q11_ q21_ w gg1_.toInt.toNat) (aPr (aW cr0_ inn0_ k10_) 7) y_202 h_117 h_182 hz0_ hn9 hI0_ h_185.2.2.1 hGk9 rfl hml9 hfm9) (kV_RX11_313 C.2.2.2.2 (Nat.le_of_ble_eq_true rfl) (Nat.le_of_ble_eq_true rfl)) [5, 7, 8] [5, 1, 0] rfl rfl (ci := 3) (qc := (RX3, TX3, 8)) rfl rfl (List.mem_flatten.mpr ⟨_, List.mem_of_getElem? (i := 0) rfl, (bFit_mem h_117).choose_spec⟩) rfl rfl hl.1 dX11_fits_82 (Nat.le_of_ble_eq_true rfl) (by show _ + 0 ≤ 6 * (zNA (i1.toInt = 0 ∧ 0 < (fk 0).toInt ∧ (0 ≤ i2.toInt ∧ i2.toInt < (fk 2).toInt ∧ i2.toInt < 2) ∧ (e0f.toInt = 0 ∨ ¬ e1f.toInt = i1.toInt ∨ ¬ e2f.toInt = i2.toInt)) mdA n4A (zPl cr0_ inn0_ k10_) - n4A) + 6 * (zNA (i1.toInt = 1 ∧ 1 < (fk 0).toInt ∧ (0 ≤ i2.toInt ∧ i2.toInt < (fk 2).toInt ∧ i2.toInt < 2) ∧ (e0f.toInt = 0 ∨ ¬ e1f.toInt = i1.toInt ∨ ¬ e2f.toInt = i2.toInt)) mdB n4B (zPl cr1_ inn1_ k11_) - n4B) + 2 * (zNF (i1.toInt = 1 ∧ 1 < (fk 0).toInt ∧ (0 ≤ i2.toInt ∧ i2.toInt < (fk 2).toInt ∧ i2.toInt < 2) ∧ (e0f.toInt = 0 ∨ ¬ e1f.toInt = i1.toInt ∨ ¬ e2f.toInt = i2.toInt)) (zNF (i1.toInt = 0 ∧ 0 < (fk 0).toInt ∧ (0 ≤ i2.toInt ∧ i2.toInt < (fk 2).toInt ∧ i2.toInt < 2) ∧ (e0f.toInt = 0 ∨ ¬ e1f.toInt = i1.toInt ∨ ¬ e2f.toInt = i2.toInt)) m1f (zMw mdA wyA cr0_ inn0_ k10_)) (zMw mdB wyB cr1_ inn1_ k11_) - m1f); omega) (fun r_204 b1 H locs hw G => ?_)
                refine zAn2 hw ?_
                intro hbs9 h_203
                clear hw
                subst hbs9
                have G : zS T A s.heap s [wt, z1_, wg0_, wg1_, wwB_92, [zO10 xo t im mk rd po co tr wa wb_ fi cd], wff_102, w2_172, z0_] _ _ := G
                have G := G.sub (bs' := [[zO10 xo t im mk rd po co tr wa wb_ fi cd], wt, z0_, z1_, wg0_, wg1_, w2_172, wwB_92, wff_102]) [5, 0, 8, 1, 2, 3, 7, 4, 6] rfl
                exact z_back hQz_ (z_iret C hr hlocks G (Nat.le_of_ble_eq_true rfl) (by omega) dX11_fits_85 ⟨l0, m2_173, wy2_174, pc2_175, g1_176, g2_177, f3A_75, g4_178, g5_179, g6_180, (zMk mdA_70 n4A_79 (zPl cr0_ inn0_ k10_)), w2_172, laB_81, mdB_82, wyB_83, pc_B_84, f1B_85, f2B_86, f3B_87, f4B_88, f5B_89, f6B_90, n4B_91, wwB_92, e0f_93, e1f_94, e2f_95, (nI (gN (fun w => gF (aW cr0_ inn0_ k10_) k20_ cr0_ inn0_ q11_ q21_ w gg1_.toInt.toNat) (aPr (aW cr0_ inn0_ k10_) 7))), e4f_97, e5f_98, r1f_99, m1f_100, r2f_101, wff_102, rfl, h_182, (Or.inr rfl), hwy9, (hzk.trans h_106), (by rw [hzk]; exact h_107), (fun _ => h_184), (Or.inr h_185), h_110, h_111, h_112, h_113, h_114, h_115, h_116, h_117, h_118, h_119, h_120, (fun q => (h_122 q).elim (fun w => Or.inl ⟨w.1, h_184⟩) (fun w => Or.inr ⟨w.1, w.2⟩)), h_123, h_124, h_125, h_126, (Or.inr (Or.inr (Or.inl ⟨⟨by omega, by omega⟩, ⟨by omega, by omega⟩, (by unfold kFits gFits; first | (rw [if_neg (show ¬ w_.toInt < 0 by omega), if_neg (by omega), if_pos (by omega)]; exact h_203) | (rw [if_neg (show ¬ w_.toInt < 0 by omega), if_neg (by omega), if_neg (by omega), if_pos (by omega)]; refine h_203.trans ?_; rw [show (w_.toInt - 2).toNat = y_202.toInt.toNat by omega]; by_cases z9 : gN (fun w => gF (aW cr0_ inn0_ k10_) k20_ cr0_ inn0_ q11_ q21_ w gg1_.toInt.toNat) (aPr (aW cr0_ inn0_ k10_) 7) = 0 ∨ ¬ w_.toInt - 2 < ((cr0_.toInt.toNat : Nat) : Int) <;> first | (rw [if_pos (z9.imp id (fun q9 => by omega))]; exact (if_pos z9).symm) | (rw [if_neg (fun q9 => z9 (q9.imp id (fun q8 => by omega)))]; exact (if_neg z9).symm)) | (rw [if_neg (show ¬ w_.toInt < 0 by omega), if_neg (by omega), if_neg (by omega), if_neg (by omega), if_pos (by show 10 ≤ w_.toInt ∧ w_.toInt - 10 < ((gN (fun w => gF (aW cr0_ inn0_ k10_) k20_ cr0_ inn0_ q11_ q21_ w gg1_.toInt.toNat) (aPr (aW cr0_ inn0_ k10_) 7) : Nat) : Int); omega)]; refine h_203.trans ?_; rw [nI_n (by omega)]; rfl))⟩)))⟩)
            · have c_188n : w_.toInt = (1 : Int) := (fa_eq _ _).mp c_188
              refine lv_aload_n hx hb dX11_fits_57 rfl (lv_at hl 2 rfl) ?_
              refine z_get C G clX11 6 rfl 9 (by decide) m_fl_RX11_65 rfl dX11_fits_58 ?_
              refine lv_aload hx hb dX11_fits_61 (lv_at hl 0 rfl) ?_
              refine z_Vi (bc := [wff_102, w2_172, z0_]) (br := [wt, z1_, wg0_, wg1_, wwB_92, [zO10 xo t im mk rd po co tr wa wb_ fi cd]]) (As := [.ref wa]) (rest := []) C G (c_e_ask l T fi e0f_93 e1f_94 e2f_95 e4f_97 e5f_98 r1f_99 m1f_100 r2f_101 wff_102 (gN (fun w => gF (aW cr0_ inn0_ k10_) k20_ cr0_ inn0_ q11_ q21_ w gg1_.toInt.toNat) (aPr (aW cr0_ inn0_ k10_) 7)) wa l0 m2_173 wy2_174 pc2_175 g1_176 g2_177 f3A_75 g4_178 g5_179 g6_180 (zMk mdA_70 n4A_79 (zPl cr0_ inn0_ k10_)) w2_172 cr0_ inn0_ k10_ k20_ k30_ k40_ z0_ (fun w => gF (aW cr0_ inn0_ k10_) k20_ cr0_ inn0_ q11_ q21_ w gg1_.toInt.toNat) (aPr (aW cr0_ inn0_ k10_) 7) h_117 h_182 hz0_ hn9 hI0_ h_185 hLq0 hGk9 rfl hml9 hfm9) (kV_RX11_309 C.2.2.2.2 (Nat.le_of_ble_eq_true rfl) (Nat.le_of_ble_eq_true rfl)) [5, 7, 8] [5, 1, 0] rfl rfl (ci := 3) (qc := (RX3, TX3, 8)) rfl rfl (List.mem_flatten.mpr ⟨_, List.mem_of_getElem? (i := 0) rfl, (bFit_mem h_117).choose_spec⟩) rfl rfl hl.1 dX11_fits_63 (Nat.le_of_ble_eq_true rfl) (by show _ + 0 ≤ 6 * (zNA (i1.toInt = 0 ∧ 0 < (fk 0).toInt ∧ (0 ≤ i2.toInt ∧ i2.toInt < (fk 2).toInt ∧ i2.toInt < 2) ∧ (e0f.toInt = 0 ∨ ¬ e1f.toInt = i1.toInt ∨ ¬ e2f.toInt = i2.toInt)) mdA n4A (zPl cr0_ inn0_ k10_) - n4A) + 6 * (zNA (i1.toInt = 1 ∧ 1 < (fk 0).toInt ∧ (0 ≤ i2.toInt ∧ i2.toInt < (fk 2).toInt ∧ i2.toInt < 2) ∧ (e0f.toInt = 0 ∨ ¬ e1f.toInt = i1.toInt ∨ ¬ e2f.toInt = i2.toInt)) mdB n4B (zPl cr1_ inn1_ k11_) - n4B) + 2 * (zNF (i1.toInt = 1 ∧ 1 < (fk 0).toInt ∧ (0 ≤ i2.toInt ∧ i2.toInt < (fk 2).toInt ∧ i2.toInt < 2) ∧ (e0f.toInt = 0 ∨ ¬ e1f.toInt = i1.toInt ∨ ¬ e2f.toInt = i2.toInt)) (zNF (i1.toInt = 0 ∧ 0 < (fk 0).toInt ∧ (0 ≤ i2.toInt ∧ i2.toInt < (fk 2).toInt ∧ i2.toInt < 2) ∧ (e0f.toInt = 0 ∨ ¬ e1f.toInt = i1.toInt ∨ ¬ e2f.toInt = i2.toInt)) m1f (zMw mdA wyA cr0_ inn0_ k10_)) (zMw mdB wyB cr1_ inn1_ k11_) - m1f); omega) (fun r_209 b1 H locs hw G => ?_)
              refine zEx2 hw ?_
              intro w2_205 g2_206
              refine zCu3 ?_
              intro hbs9 h_207 h_208
              clear hw
              subst hbs9
              have G : zS T A s.heap s [wt, z1_, wg0_, wg1_, wwB_92, [zO10 xo t im mk rd po co tr wa wb_ fi cd], w2_205, w2_172, z0_] _ _ := G
              have G := G.sub (bs' := [[zO10 xo t im mk rd po co tr wa wb_ fi cd], wt, z0_, z1_, wg0_, wg1_, w2_172, wwB_92, w2_205]) [5, 0, 8, 1, 2, 3, 7, 4, 6] rfl
              exact z_back hQz_ (z_iret C hr hlocks G (Nat.le_of_ble_eq_true rfl) (by omega) dX11_fits_66 ⟨l0, m2_173, wy2_174, pc2_175, g1_176, g2_177, f3A_75, g4_178, g5_179, g6_180, (zMk mdA_70 n4A_79 (zPl cr0_ inn0_ k10_)), w2_172, laB_81, mdB_82, wyB_83, pc_B_84, f1B_85, f2B_86, f3B_87, f4B_88, f5B_89, f6B_90, n4B_91, wwB_92, e0f_93, e1f_94, e2f_95, (nI (gN (fun w => gF (aW cr0_ inn0_ k10_) k20_ cr0_ inn0_ q11_ q21_ w gg1_.toInt.toNat) (aPr (aW cr0_ inn0_ k10_) 7))), e4f_97, e5f_98, r1f_99, m1f_100, g2_206, w2_205, rfl, h_182, (Or.inr rfl), hwy9, (hzk.trans h_106), (by rw [hzk]; exact h_107), (fun _ => h_184), (Or.inr h_185), h_110, h_111, h_112, h_113, h_114, h_115, h_116, h_207, h_118, h_119, h_120, (fun q => (h_122 q).elim (fun w => Or.inl ⟨w.1, h_184⟩) (fun w => Or.inr ⟨w.1, w.2⟩)), h_123, h_124, h_125, h_126, (Or.inr (Or.inr (Or.inl ⟨⟨by omega, by omega⟩, ⟨by omega, by omega⟩, (by unfold kFits gFits; first | (rw [if_neg (show ¬ w_.toInt < 0 by omega), if_neg (by omega), if_pos (by omega)]; exact h_208) | (rw [if_neg (show ¬ w_.toInt < 0 by omega), if_neg (by omega), if_neg (by omega), if_pos (by omega)]; refine h_208.trans ?_; rw [show (w_.toInt - 2).toNat = y_202.toInt.toNat by omega]; by_cases z9 : gN (fun w => gF (aW cr0_ inn0_ k10_) k20_ cr0_ inn0_ q11_ q21_ w gg1_.toInt.toNat) (aPr (aW cr0_ inn0_ k10_) 7) = 0 ∨ ¬ w_.toInt - 2 < ((cr0_.toInt.toNat : Nat) : Int) <;> first | (rw [if_pos (z9.imp id (fun q9 => by omega))]; exact (if_pos z9).symm) | (rw [if_neg (fun q9 => z9 (q9.imp id (fun q8 => by omega)))]; exact (if_neg z9).symm)) | (rw [if_neg (show ¬ w_.toInt < 0 by omega), if_neg (by omega), if_neg (by omega), if_neg (by omega), if_pos (by show 10 ≤ w_.toInt ∧ w_.toInt - 10 < ((gN (fun w => gF (aW cr0_ inn0_ k10_) k20_ cr0_ inn0_ q11_ q21_ w gg1_.toInt.toNat) (aPr (aW cr0_ inn0_ k10_) 7) : Nat) : Int); omega)]; refine h_208.trans ?_; rw [nI_n (by omega)]; rfl))⟩)))⟩)
          · have c_187n : w_.toInt = (0 : Int) := (fa_eq _ _).mp c_187
            refine lv_aload_n hx hb dX11_fits_44 rfl (lv_at hl 2 rfl) ?_
            refine z_get C G clX11 6 rfl 9 (by decide) m_fl_RX11_65 rfl dX11_fits_45 ?_
            refine zEx2 h_117 ?_
            intro a1_210 a2_211 hbs9
            clear h_117
            subst hbs9
            have G : zS T A s.heap s [wt, z1_, wg0_, wg1_, wwB_92, [zO3 fi e0f_93 e1f_94 e2f_95 (nI (gN (fun w => gF (aW cr0_ inn0_ k10_) k20_ cr0_ inn0_ q11_ q21_ w gg1_.toInt.toNat) (aPr (aW cr0_ inn0_ k10_) 7))) e4f_97 e5f_98 a1_210 a2_211], [zAr T 0 a1_210 m1f_100 r1f_99], [zAr T 0 a2_211 7 r2f_101], [zO10 xo t im mk rd po co tr wa wb_ fi cd], w2_172, z0_] _ _ := G.re rfl
            refine z_get C G clX3 5 rfl 3 (by decide) m_fl_RX11_306 rfl dX11_fits_48 ?_
            have hw_212 : bFit T fi e0f_93 e1f_94 e2f_95 (nI (gN (fun w => gF (aW cr0_ inn0_ k10_) k20_ cr0_ inn0_ q11_ q21_ w gg1_.toInt.toNat) (aPr (aW cr0_ inn0_ k10_) 7))) e4f_97 e5f_98 r1f_99 m1f_100 r2f_101 [zO3 fi e0f_93 e1f_94 e2f_95 (nI (gN (fun w => gF (aW cr0_ inn0_ k10_) k20_ cr0_ inn0_ q11_ q21_ w gg1_.toInt.toNat) (aPr (aW cr0_ inn0_ k10_) 7))) e4f_97 e5f_98 a1_210 a2_211, zAr T 0 a1_210 m1f_100 r1f_99, zAr T 0 a2_211 7 r2f_101] := ⟨a1_210, a2_211, rfl⟩
            have G : zS T A s.heap s [wt, z1_, wg0_, wg1_, wwB_92, [zO3 fi e0f_93 e1f_94 e2f_95 (nI (gN (fun w => gF (aW cr0_ inn0_ k10_) k20_ cr0_ inn0_ q11_ q21_ w gg1_.toInt.toNat) (aPr (aW cr0_ inn0_ k10_) 7))) e4f_97 e5f_98 a1_210 a2_211, zAr T 0 a1_210 m1f_100 r1f_99, zAr T 0 a2_211 7 r2f_101], [zO10 xo t im mk rd po co tr wa wb_ fi cd], w2_172, z0_] _ _ := G.re rfl
            have G := G.sub (bs' := [[zO10 xo t im mk rd po co tr wa wb_ fi cd], wt, z0_, z1_, wg0_, wg1_, w2_172, wwB_92, [zO3 fi e0f_93 e1f_94 e2f_95 (nI (gN (fun w => gF (aW cr0_ inn0_ k10_) k20_ cr0_ inn0_ q11_ q21_ w gg1_.toInt.toNat) (aPr (aW cr0_ inn0_ k10_) 7))) e4f_97 e5f_98 a1_210 a2_211, zAr T 0 a1_210 m1f_100 r1f_99, zAr T 0 a2_211 7 r2f_101]]) [6, 0, 8, 1, 2, 3, 7, 4, 5] rfl
            exact z_back hQz_ (z_iret C hr hlocks G (Nat.le_of_ble_eq_true rfl) (by omega) dX11_fits_51 ⟨l0, m2_173, wy2_174, pc2_175, g1_176, g2_177, f3A_75, g4_178, g5_179, g6_180, (zMk mdA_70 n4A_79 (zPl cr0_ inn0_ k10_)), w2_172, laB_81, mdB_82, wyB_83, pc_B_84, f1B_85, f2B_86, f3B_87, f4B_88, f5B_89, f6B_90, n4B_91, wwB_92, e0f_93, e1f_94, e2f_95, (nI (gN (fun w => gF (aW cr0_ inn0_ k10_) k20_ cr0_ inn0_ q11_ q21_ w gg1_.toInt.toNat) (aPr (aW cr0_ inn0_ k10_) 7))), e4f_97, e5f_98, r1f_99, m1f_100, r2f_101, ([zO3 fi e0f_93 e1f_94 e2f_95 (nI (gN (fun w => gF (aW cr0_ inn0_ k10_) k20_ cr0_ inn0_ q11_ q21_ w gg1_.toInt.toNat) (aPr (aW cr0_ inn0_ k10_) 7))) e4f_97 e5f_98 a1_210 a2_211, zAr T 0 a1_210 m1f_100 r1f_99, zAr T 0 a2_211 7 r2f_101]), rfl, h_182, (Or.inr rfl), hwy9, (hzk.trans h_106), (by rw [hzk]; exact h_107), (fun _ => h_184), (Or.inr h_185), h_110, h_111, h_112, h_113, h_114, h_115, h_116, hw_212, h_118, h_119, h_120, (fun q => (h_122 q).elim (fun w => Or.inl ⟨w.1, h_184⟩) (fun w => Or.inr ⟨w.1, w.2⟩)), h_123, h_124, h_125, h_126, (Or.inr (Or.inr (Or.inl ⟨⟨by omega, by omega⟩, ⟨by omega, by omega⟩, (by unfold kFits gFits; rw [if_neg (show ¬ w_.toInt < 0 by omega), if_pos (by omega)]; rfl)⟩)))⟩)
      · have c_130n : ¬ (0 : Int) ≤ w_.toInt := fun q => c_130 ((fa_le _ _).mpr q)
        refine lv_bipush (v := (-2)) hx hb dX11_fits_28 (by decide) ?_
        exact z_back hQz_ (z_iret C hr hlocks G (Nat.le_of_ble_eq_true rfl) (by omega) dX11_fits_30 ⟨laA_69, mdA_70, wyA_71, pc_A_72, f1A_73, f2A_74, f3A_75, f4A_76, f5A_77, f6A_78, n4A_79, wwA_80, laB_81, mdB_82, wyB_83, pc_B_84, f1B_85, f2B_86, f3B_87, f4B_88, f5B_89, f6B_90, n4B_91, wwB_92, e0f_93, e1f_94, e2f_95, e3f_96, e4f_97, e5f_98, r1f_99, m1f_100, r2f_101, wff_102, rfl, h_103, h_104, h_105, h_106, h_107, h_108, h_109, h_110, h_111, h_112, h_113, h_114, h_115, h_116, h_117, h_118, h_119, h_120, h_122, h_123, h_124, h_125, h_126, (by rcases h_121 with ⟨x0, x1⟩ | ⟨x0, x1, x2, x3⟩ <;> first | (exfalso; first | (exact absurd (congrArg Int32.toInt x0) (by first | with_reducible assumption | assumption)) | (exact absurd x0 (by first | with_reducible assumption | assumption)) | (exact absurd x0 (by decide)) | omega | (have x9 := congrArg Int32.toInt x0; have x8 : (1 : Int32).toInt = 1 := rfl; have x7 : (0 : Int32).toInt = 0 := rfl; omega)) | (exact Or.inl ⟨by first | exact Or.inl (by omega) | exact Or.inr (by omega) | omega, rfl⟩) | (rcases (show (i1.toInt = 0 ∧ i2.toInt = 0) ∨ (i1.toInt = 0 ∧ i2.toInt = 1) ∨ (i1.toInt = 1 ∧ i2.toInt = 0) ∨ (i1.toInt = 1 ∧ i2.toInt = 1) by omega) with z9 | z9 | z9 | z9 <;> first | (exact Or.inr (Or.inl ⟨⟨by omega, by omega⟩, ⟨by omega, by omega⟩, (by unfold kFits gFits; exact (if_pos (by omega)).symm)⟩)) | (exact Or.inr (Or.inr (Or.inl ⟨⟨by omega, by omega⟩, ⟨by omega, by omega⟩, (by unfold kFits gFits; exact (if_pos (by omega)).symm)⟩))) | (exact Or.inr (Or.inr (Or.inr (Or.inl ⟨⟨by omega, by omega⟩, ⟨by omega, by omega⟩, (by unfold kFits gFits; exact (if_pos (by omega)).symm)⟩)))) | (exact Or.inr (Or.inr (Or.inr (Or.inr (⟨⟨by omega, by omega⟩, ⟨by omega, by omega⟩, (by unfold kFits gFits; exact (if_pos (by omega)).symm)⟩)))))))⟩)
  · have h_6 : i1.toInt = 1 := h_6
    have h_7 : 1 < (fk 0).toInt := h_7
    refine lv_astore (lv' := [(4, .ref l1), (0, .ref xo), (1, .int i1), (2, .int i2), (3, .int w_)]) hx hb dX11_fits_8 hl (by decide) (zLvf_h rfl) (fun ls hl => ?_)
    refine lv_aload_n hx hb dX11_fits_10 rfl (lv_at hl 1 rfl) ?_
    refine lv_iload_n hx hb dX11_fits_11 rfl (lv_at hl 2 rfl) ?_
    refine lv_iload_n hx hb dX11_fits_12 rfl (lv_at hl 3 rfl) ?_
    refine z_Vi (bc := [[zO10 xo t im mk rd po co tr wa wb_ fi cd], wt, z0_, z1_, wg0_, wg1_, wwA, wwB, wff]) (br := []) (As := [.int i1, .int i2]) (rest := []) C G (c_e_fit l T xo t im mk rd po co tr wa wb_ fi cd l0 l1 d0 d1 g0 g1 ln fl pl ft fk wt cr0_ inn0_ k10_ k20_ k30_ k40_ z0_ cr1_ inn1_ k11_ k21_ k31_ k41_ z1_ gg0_ q10_ q20_ wg0_ gg1_ q11_ q21_ wg1_ laA mdA wyA pc_A f1A f2A f3A f4A f5A f6A n4A wwA laB mdB wyB pc_B f1B f2B f3B f4B f5B f6B n4B wwB e0f e1f e2f e3f e4f e5f r1f m1f r2f wff i1 i2 ht (by first | with_reducible assumption | with_reducible rfl | omega | assumption | rfl) hz0_ (by first | with_reducible assumption | with_reducible rfl | omega | assumption | rfl) hz1_ (by first | with_reducible assumption | with_reducible rfl | omega | assumption | rfl) hg0_ hg1_ hwwA (by first | with_reducible assumption | with_reducible rfl | omega | assumption | rfl) (by first | with_reducible assumption | with_reducible rfl | omega | assumption | rfl) (by first | with_reducible assumption | with_reducible rfl | omega | assumption | rfl) (by first | with_reducible assumption | with_reducible rfl | omega | assumption | rfl) (by first | with_reducible assumption | with_reducible rfl | omega | assumption | rfl) hwwB (by first | with_reducible assumption | with_reducible rfl | omega | assumption | rfl) (by first | with_reducible assumption | with_reducible rfl | omega | assumption | rfl) (by first | with_reducible assumption | with_reducible rfl | omega | assumption | rfl) (by first | with_reducible assumption | with_reducible rfl | omega | assumption | rfl) (by first | with_reducible assumption | with_reducible rfl | omega | assumption | rfl) hwff hfw hf3 hFI hFt00 hFt01 hFt10 hFt11 hGg0 hGg1) (kV_RX11_302 C.2.2.2.2 (Nat.le_of_ble_eq_true rfl) (Nat.le_of_ble_eq_true rfl)) [0, 8, 1, 2, 3, 4, 5, 6, 7] [0, 0, 0, 0, 0, 0, 0, 0, 0] rfl rfl (ci := 10) (qc := (RX11, TX11, 11)) rfl rfl (List.mem_flatten.mpr ⟨_, List.mem_of_getElem? (i := 0) rfl, List.mem_cons_self⟩) rfl rfl hl.1 dX11_fits_13 (Nat.le_of_ble_eq_true rfl) (by show _ + (6 * (zNA (i1.toInt = 0 ∧ 0 < (fk 0).toInt ∧ (0 ≤ i2.toInt ∧ i2.toInt < (fk 2).toInt ∧ i2.toInt < 2) ∧ (e0f.toInt = 0 ∨ ¬ e1f.toInt = i1.toInt ∨ ¬ e2f.toInt = i2.toInt)) mdA n4A (zPl cr0_ inn0_ k10_) - n4A) + 6 * (zNA (i1.toInt = 1 ∧ 1 < (fk 0).toInt ∧ (0 ≤ i2.toInt ∧ i2.toInt < (fk 2).toInt ∧ i2.toInt < 2) ∧ (e0f.toInt = 0 ∨ ¬ e1f.toInt = i1.toInt ∨ ¬ e2f.toInt = i2.toInt)) mdB n4B (zPl cr1_ inn1_ k11_) - n4B) + 2 * (zNF (i1.toInt = 1 ∧ 1 < (fk 0).toInt ∧ (0 ≤ i2.toInt ∧ i2.toInt < (fk 2).toInt ∧ i2.toInt < 2) ∧ (e0f.toInt = 0 ∨ ¬ e1f.toInt = i1.toInt ∨ ¬ e2f.toInt = i2.toInt)) (zNF (i1.toInt = 0 ∧ 0 < (fk 0).toInt ∧ (0 ≤ i2.toInt ∧ i2.toInt < (fk 2).toInt ∧ i2.toInt < 2) ∧ (e0f.toInt = 0 ∨ ¬ e1f.toInt = i1.toInt ∨ ¬ e2f.toInt = i2.toInt)) m1f (zMw mdA wyA cr0_ inn0_ k10_)) (zMw mdB wyB cr1_ inn1_ k11_) - m1f)) ≤ 6 * (zNA (i1.toInt = 0 ∧ 0 < (fk 0).toInt ∧ (0 ≤ i2.toInt ∧ i2.toInt < (fk 2).toInt ∧ i2.toInt < 2) ∧ (e0f.toInt = 0 ∨ ¬ e1f.toInt = i1.toInt ∨ ¬ e2f.toInt = i2.toInt)) mdA n4A (zPl cr0_ inn0_ k10_) - n4A) + 6 * (zNA (i1.toInt = 1 ∧ 1 < (fk 0).toInt ∧ (0 ≤ i2.toInt ∧ i2.toInt < (fk 2).toInt ∧ i2.toInt < 2) ∧ (e0f.toInt = 0 ∨ ¬ e1f.toInt = i1.toInt ∨ ¬ e2f.toInt = i2.toInt)) mdB n4B (zPl cr1_ inn1_ k11_) - n4B) + 2 * (zNF (i1.toInt = 1 ∧ 1 < (fk 0).toInt ∧ (0 ≤ i2.toInt ∧ i2.toInt < (fk 2).toInt ∧ i2.toInt < 2) ∧ (e0f.toInt = 0 ∨ ¬ e1f.toInt = i1.toInt ∨ ¬ e2f.toInt = i2.toInt)) (zNF (i1.toInt = 0 ∧ 0 < (fk 0).toInt ∧ (0 ≤ i2.toInt ∧ i2.toInt < (fk 2).toInt ∧ i2.toInt < 2) ∧ (e0f.toInt = 0 ∨ ¬ e1f.toInt = i1.toInt ∨ ¬ e2f.toInt = i2.toInt)) m1f (zMw mdA wyA cr0_ inn0_ k10_)) (zMw mdB wyB cr1_ inn1_ k11_) - m1f); omega) (fun r_272 b1 H locs hw G => ?_)
    refine zEx34 hw ?_
    intro laA_213 mdA_214 wyA_215 pc_A_216 f1A_217 f2A_218 f3A_219 f4A_220 f5A_221 f6A_222 n4A_223 wwA_224 laB_225 mdB_226 wyB_227 pc_B_228 f1B_229 f2B_230 f3B_231 f4B_232 f5B_233 f6B_234 n4B_235 wwB_236 e0f_237 e1f_238 e2f_239 e3f_240 e4f_241 e5f_242 r1f_243 m1f_244 r2f_245 wff_246
    refine zCu26 ?_
    intro hbs9 h_247 h_248 h_249 h_250 h_251 h_252 h_253 h_254 h_255 h_256 h_257 h_258 h_259 h_260 h_261 h_262 h_263 h_264 h_265 h_266 h_267 h_268 h_269 h_270 h_271
    clear hw
    subst hbs9
    have G : zS T A s.heap s [[zO10 xo t im mk rd po co tr wa wb_ fi cd], wt, z0_, z1_, wg0_, wg1_, wwA_224, wwB_236, wff_246] _ _ := G
    replace h_248 : zHd ((mdA_214 = 0 ∨ laA_213 = l0)) := h_248
    replace h_252 : zHd ((¬ mdA = 0 → ¬ mdA_214 = 0)) := h_252
    replace h_253 : zHd ((mdA_214 = 0 ∨ zTab cr0_ inn0_ k10_ k20_ wyA_215 pc_A_216 f1A_217 f2A_218 f5A_221 n4A_223)) := h_253
    replace h_255 : zHd ((mdB_226 = 0 ∨ laB_225 = l1)) := h_255
    replace h_259 : zHd ((¬ mdB = 0 → ¬ mdB_226 = 0)) := h_259
    replace h_260 : zHd ((mdB_226 = 0 ∨ zTab cr1_ inn1_ k11_ k21_ wyB_227 pc_B_228 f1B_229 f2B_230 f5B_233 n4B_235)) := h_260
    replace h_266 : zHd ((¬ e0f_237 = 0 → e1f_238.toInt = 0 ∧ ¬ mdA_214 = 0 ∨ e1f_238.toInt = 1 ∧ ¬ mdB_226 = 0)) := h_266
    have hfm9 : m1f_244 ≤ 16384 := zFw_le h_263
    have hwl9 := Int32.toInt_lt w_
    refine lv_if_eq (tgt := 28) hx hb dX11_fits_16 (by decide) (fun c_273 => ?_) (fun c_273 => ?_)
    · have c_273n : r_272.toInt = (0 : Int) := (fa_eq _ _).mp c_273
      refine lv_bipush (v := (-2)) hx hb dX11_fits_28 (by decide) ?_
      exact z_back hQz_ (z_iret C hr hlocks G (Nat.le_of_ble_eq_true rfl) (by omega) dX11_fits_30 ⟨laA_213, mdA_214, wyA_215, pc_A_216, f1A_217, f2A_218, f3A_219, f4A_220, f5A_221, f6A_222, n4A_223, wwA_224, laB_225, mdB_226, wyB_227, pc_B_228, f1B_229, f2B_230, f3B_231, f4B_232, f5B_233, f6B_234, n4B_235, wwB_236, e0f_237, e1f_238, e2f_239, e3f_240, e4f_241, e5f_242, r1f_243, m1f_244, r2f_245, wff_246, rfl, h_247, h_248, h_249, h_250, h_251, h_252, h_253, h_254, h_255, h_256, h_257, h_258, h_259, h_260, h_261, h_262, h_263, h_264, h_266, h_267, h_268, h_269, h_270, (by rcases h_265 with ⟨x0, x1⟩ | ⟨x0, x1, x2, x3⟩ <;> first | (exfalso; first | (exact absurd (congrArg Int32.toInt x0) (by first | with_reducible assumption | assumption)) | (exact absurd x0 (by first | with_reducible assumption | assumption)) | (exact absurd x0 (by decide)) | omega | (have x9 := congrArg Int32.toInt x0; have x8 : (1 : Int32).toInt = 1 := rfl; have x7 : (0 : Int32).toInt = 0 := rfl; omega)) | (exact Or.inl ⟨by first | exact Or.inl (by omega) | exact Or.inr (by omega) | omega, rfl⟩) | (rcases (show (i1.toInt = 0 ∧ i2.toInt = 0) ∨ (i1.toInt = 0 ∧ i2.toInt = 1) ∨ (i1.toInt = 1 ∧ i2.toInt = 0) ∨ (i1.toInt = 1 ∧ i2.toInt = 1) by omega) with z9 | z9 | z9 | z9 <;> first | (exact Or.inr (Or.inl ⟨⟨by omega, by omega⟩, ⟨by omega, by omega⟩, (by unfold kFits gFits; exact (if_pos (by omega)).symm)⟩)) | (exact Or.inr (Or.inr (Or.inl ⟨⟨by omega, by omega⟩, ⟨by omega, by omega⟩, (by unfold kFits gFits; exact (if_pos (by omega)).symm)⟩))) | (exact Or.inr (Or.inr (Or.inr (Or.inl ⟨⟨by omega, by omega⟩, ⟨by omega, by omega⟩, (by unfold kFits gFits; exact (if_pos (by omega)).symm)⟩)))) | (exact Or.inr (Or.inr (Or.inr (Or.inr (⟨⟨by omega, by omega⟩, ⟨by omega, by omega⟩, (by unfold kFits gFits; exact (if_pos (by omega)).symm)⟩)))))))⟩)
    · have c_273n : ¬ r_272.toInt = (0 : Int) := fun q => c_273 ((fa_eq _ _).mpr q)
      refine lv_aload hx hb dX11_fits_19 (lv_at hl 0 rfl) ?_
      refine lv_ifnull hx hb dX11_fits_21 ?_
      refine lv_iload_n hx hb dX11_fits_24 rfl (lv_at hl 4 rfl) ?_
      refine lv_if_ge (tgt := 31) hx hb dX11_fits_25 (by decide) (fun c_274 => ?_) (fun c_274 => ?_)
      · have c_274n : (0 : Int) ≤ w_.toInt := (fa_le _ _).mp c_274
        have hX := h_265.resolve_left (fun q => absurd (congrArg Int32.toInt q.1) (by show ¬ _ = (0 : Int); omega))
        rcases (show i2.toInt = 0 ∨ i2.toInt = 1 from by have q9 := hX.2.1; omega) with hgi | hgi
        · have hp79 : aPr (aW cr1_ inn1_ k11_) 7 ≤ 16384 := aPr_7 hI1_
          obtain ⟨he39, he49, he59, hrw9, hml9⟩ := h_269 hX.2.2.1 (by have q9 := hX.2.2.2; omega) (by rcases h_271 with q9 | q9 <;> first | (exfalso; have e7 := congrArg Int32.toInt q9; have e6 : (0 : Int32).toInt = 0 := rfl; have e5 : (1 : Int32).toInt = 1 := rfl; omega) | omega)
          subst he39
          have hOk9 := (kaOk (inn := inn1_) hI1_ hLq1).1
          have hGk9 : gRk (fun w => gF (aW cr1_ inn1_ k11_) k21_ cr1_ inn1_ q10_ q20_ w gg0_.toInt.toNat) (aPr (aW cr1_ inn1_ k11_) 7) (aPr (aW cr1_ inn1_ k11_) 7) r1f_243 := ⟨hp79, hp79, hrw9, fun w hw => (gF_b hOk9 (by have q9 := hI1_.1; omega) hw _).1⟩
          have hgN9 := gN_le (f := (fun w => gF (aW cr1_ inn1_ k11_) k21_ cr1_ inn1_ q10_ q20_ w gg0_.toInt.toNat)) (aPr (aW cr1_ inn1_ k11_) 7)
          refine lv_aload_n hx hb dX11_fits_31 rfl (lv_at hl 1 rfl) ?_
          refine lv_iload_n hx hb dX11_fits_32 rfl (lv_at hl 2 rfl) ?_
          refine lv_aload hx hb dX11_fits_33 (lv_at hl 0 rfl) ?_
          have hmk : ¬ mdB_226 = 0 := (h_266 hX.2.2.1).elim (fun q => absurd q.1 (by have := hX.2.2.2; omega)) (fun q => q.2)
          have hzk : zMk mdB_226 n4B_235 (zPl cr1_ inn1_ k11_) = n4B_235 := by unfold zMk; rw [if_neg hmk]
          have hn9 : zMk mdB_226 n4B_235 (zPl cr1_ inn1_ k11_) ≤ 131072 := by rw [hzk]; exact zPw_le h_258
          refine z_Vq (bc := [[zO10 xo t im mk rd po co tr wa wb_ fi cd], wwB_236, z1_]) (br := [wt, z0_, wg0_, wg1_, wwA_224, wff_246]) (As := [.int i1, .ref l1]) (rest := []) C G (c_f_waysInB l T xo t im mk rd po co tr wa wb_ fi cd i1 laB_225 mdB_226 wyB_227 pc_B_228 f1B_229 f2B_230 f3B_231 f4B_232 f5B_233 f6B_234 n4B_235 wwB_236 l1 cr1_ inn1_ k11_ k21_ k31_ k41_ z1_ h_254 hz1_ hI1_ h_258 h_255 (kaOk hI1_ hLq1).1 h_260 (by omega)) (kV_RX11_235 C.2.2.2.2 (Nat.le_of_ble_eq_true rfl) (Nat.le_of_ble_eq_true rfl)) [0, 7, 3] [0, 2, 3] rfl rfl (ci := 10) (qc := (RX11, TX11, 11)) rfl rfl (List.mem_flatten.mpr ⟨_, List.mem_of_getElem? (i := 0) rfl, List.mem_cons_self⟩) rfl rfl hl.1 dX11_fits_35 (Nat.le_of_ble_eq_true rfl) (by show _ + (6 * (zMk mdB_226 n4B_235 (zPl cr1_ inn1_ k11_) - n4B_235)) ≤ 6 * (zNA (i1.toInt = 0 ∧ 0 < (fk 0).toInt ∧ (0 ≤ i2.toInt ∧ i2.toInt < (fk 2).toInt ∧ i2.toInt < 2) ∧ (e0f.toInt = 0 ∨ ¬ e1f.toInt = i1.toInt ∨ ¬ e2f.toInt = i2.toInt)) mdA n4A (zPl cr0_ inn0_ k10_) - n4A) + 6 * (zNA (i1.toInt = 1 ∧ 1 < (fk 0).toInt ∧ (0 ≤ i2.toInt ∧ i2.toInt < (fk 2).toInt ∧ i2.toInt < 2) ∧ (e0f.toInt = 0 ∨ ¬ e1f.toInt = i1.toInt ∨ ¬ e2f.toInt = i2.toInt)) mdB n4B (zPl cr1_ inn1_ k11_) - n4B) + 2 * (zNF (i1.toInt = 1 ∧ 1 < (fk 0).toInt ∧ (0 ≤ i2.toInt ∧ i2.toInt < (fk 2).toInt ∧ i2.toInt < 2) ∧ (e0f.toInt = 0 ∨ ¬ e1f.toInt = i1.toInt ∨ ¬ e2f.toInt = i2.toInt)) (zNF (i1.toInt = 0 ∧ 0 < (fk 0).toInt ∧ (0 ≤ i2.toInt ∧ i2.toInt < (fk 2).toInt ∧ i2.toInt < 2) ∧ (e0f.toInt = 0 ∨ ¬ e1f.toInt = i1.toInt ∨ ¬ e2f.toInt = i2.toInt)) m1f (zMw mdA wyA cr0_ inn0_ k10_)) (zMw mdB wyB cr1_ inn1_ k11_) - m1f); omega) (fun r_289 b1 H locs hw G => ?_)
          refine zEx9 hw ?_
          intro w2_275 m2_276 wy2_277 pc2_278 g1_279 g2_280 g4_281 g5_282 g6_283
          refine zCu6 ?_
          intro hbs9 h_284 h_285 h_286 h_287 h_288
          clear hw
          subst hbs9
          have G : zS T A s.heap s [wt, z0_, wg0_, wg1_, wwA_224, wff_246, [zO10 xo t im mk rd po co tr wa wb_ fi cd], w2_275, z1_] _ _ := G
          subst h_284
          have hwy9 : 0 ≤ wy2_277.toInt ∧ wy2_277.toInt ≤ 16384 := by have q9 := zWy_in (inn := inn1_) hI1_; rw [h_286]; exact ⟨by omega, q9.2⟩
          refine lv_astore (lv' := [(5, .ref wb_), (4, .ref l1), (0, .ref xo), (1, .int i1), (2, .int i2), (3, .int w_)]) hx hb dX11_fits_38 hl (by decide) (zLvf_h rfl) (fun ls hl => ?_)
          refine lv_iload_n hx hb dX11_fits_40 rfl (lv_at hl 5 rfl) ?_
          refine lv_if_ne (tgt := 52) hx hb dX11_fits_41 (by decide) (fun c_290 => ?_) (fun c_290 => ?_)
          · have c_290n : ¬ w_.toInt = (0 : Int) := fun q => c_290 ((fa_eq _ _).mpr q)
            refine lv_iload_n hx hb dX11_fits_52 rfl (lv_at hl 5 rfl) ?_
            refine lv_iconst (v := 1) hx hb dX11_fits_53 (by decide) ?_
            refine lv_icmp_ne (tgt := 67) hx hb dX11_fits_54 (by decide) (fun c_291 => ?_) (fun c_291 => ?_)
            · have c_291n : ¬ w_.toInt = (1 : Int) := fun q => c_291 ((fa_eq _ _).mpr q)
              refine lv_iload_n hx hb dX11_fits_67 rfl (lv_at hl 5 rfl) ?_
              refine lv_bipush (v := 9) hx hb dX11_fits_68 (by decide) ?_
              refine lv_icmp_ge (tgt := 86) hx hb dX11_fits_70 (by decide) (fun c_292 => ?_) (fun c_292 => ?_)
              · have c_292n : (9 : Int) ≤ w_.toInt := (fa_le _ _).mp c_292
                refine lv_iload_n hx hb dX11_fits_86 rfl (lv_at hl 5 rfl) ?_
                refine lv_bipush (v := 10) hx hb dX11_fits_87 (by decide) ?_
                refine lv_isub hx hb dX11_fits_89 ?_
                refine lv_topi (fun y_293 ey_293 => ?_)
                have ey_293i : y_293.toInt = w_.toInt - (10 : Int) := by rw [ey_293]; exact z_isubI (x := w_) (y := (10 : Int32)) (by show -2147483648 ≤ w_.toInt - (10 : Int); omega) (by show w_.toInt - (10 : Int) < 2147483648; omega)
                refine lv_istore (lv' := [(6, .int y_293), (5, .ref wb_), (4, .ref l1), (0, .ref xo), (1, .int i1), (2, .int i2), (3, .int w_)]) hx hb dX11_fits_90 hl (by decide) (zLvf_h rfl) (fun ls hl => ?_)
                refine lv_iload hx hb dX11_fits_92 (lv_at hl 0 rfl) ?_
                refine lv_if_lt (tgt := 126) hx hb dX11_fits_94 (by decide) (fun c_294 => ?_) (fun c_294 => ?_)
                · have c_294n : y_293.toInt < (0 : Int) := (fa_lt _ _).mp c_294
                  refine lv_bipush (v := (-2)) hx hb dX11_fits_126 (by decide) ?_
                  have G := G.sub (bs' := [[zO10 xo t im mk rd po co tr wa wb_ fi cd], wt, z0_, z1_, wg0_, wg1_, wwA_224, w2_275, wff_246]) [6, 0, 1, 8, 2, 3, 4, 7, 5] rfl
                  exact z_back hQz_ (z_iret C hr hlocks G (Nat.le_of_ble_eq_true rfl) (by omega) dX11_fits_128 ⟨laA_213, mdA_214, wyA_215, pc_A_216, f1A_217, f2A_218, f3A_219, f4A_220, f5A_221, f6A_222, n4A_223, wwA_224, l1, m2_276, wy2_277, pc2_278, g1_279, g2_280, f3B_231, g4_281, g5_282, g6_283, (zMk mdB_226 n4B_235 (zPl cr1_ inn1_ k11_)), w2_275, e0f_237, e1f_238, e2f_239, (nI (gN (fun w => gF (aW cr1_ inn1_ k11_) k21_ cr1_ inn1_ q10_ q20_ w gg0_.toInt.toNat) (aPr (aW cr1_ inn1_ k11_) 7))), e4f_241, e5f_242, r1f_243, m1f_244, r2f_245, wff_246, rfl, h_247, h_248, h_249, h_250, h_251, h_252, h_253, h_285, (Or.inr rfl), hwy9, (hzk.trans h_257), (by rw [hzk]; exact h_258), (fun _ => h_287), (Or.inr h_288), h_261, h_262, h_263, h_264, (fun q => (h_266 q).elim (fun w => Or.inl ⟨w.1, w.2⟩) (fun w => Or.inr ⟨w.1, h_287⟩)), h_267, h_268, h_269, h_270, (Or.inr (Or.inr (Or.inr (Or.inl ⟨⟨by omega, by omega⟩, ⟨by omega, by omega⟩, (by unfold kFits gFits; rw [if_neg (show ¬ w_.toInt < 0 by omega), if_neg (by omega), if_neg (by omega), if_neg (by omega), if_neg (by show ¬ (10 ≤ w_.toInt ∧ w_.toInt - 10 < ((gN (fun w => gF (aW cr1_ inn1_ k11_) k21_ cr1_ inn1_ q10_ q20_ w gg0_.toInt.toNat) (aPr (aW cr1_ inn1_ k11_) 7) : Nat) : Int)); omega)])⟩))))⟩)
                · have c_294n : ¬ y_293.toInt < (0 : Int) := fun q => c_294 ((fa_lt _ _).mpr q)
                  refine lv_iload hx hb dX11_fits_97 (lv_at hl 0 rfl) ?_
                  refine lv_aload_n hx hb dX11_fits_99 rfl (lv_at hl 3 rfl) ?_
                  refine z_get C G clX11 6 rfl 9 (by decide) m_fl_RX11_65 rfl dX11_fits_100 ?_
                  refine zEx2 h_261 ?_
                  intro a1_295 a2_296 hbs9
                  clear h_261
                  subst hbs9
                  have G : zS T A s.heap s [wt, z0_, wg0_, wg1_, wwA_224, [zO3 fi e0f_237 e1f_238 e2f_239 (nI (gN (fun w => gF (aW cr1_ inn1_ k11_) k21_ cr1_ inn1_ q10_ q20_ w gg0_.toInt.toNat) (aPr (aW cr1_ inn1_ k11_) 7))) e4f_241 e5f_242 a1_295 a2_296], [zAr T 0 a1_295 m1f_244 r1f_243], [zAr T 0 a2_296 7 r2f_245], [zO10 xo t im mk rd po co tr wa wb_ fi cd], w2_275, z1_] _ _ := G.re rfl
                  refine z_get C G clX3 5 rfl 3 (by decide) m_fl_RX11_306 rfl dX11_fits_103 ?_
                  refine lv_icmp_ge (tgt := 126) hx hb dX11_fits_106 (by decide) (fun c_297 => ?_) (fun c_297 => ?_)
                  · have c_297n : ((gN (fun w => gF (aW cr1_ inn1_ k11_) k21_ cr1_ inn1_ q10_ q20_ w gg0_.toInt.toNat) (aPr (aW cr1_ inn1_ k11_) 7)) : Int) ≤ y_293.toInt := by have q := (fa_le _ _).mp c_297; rw [nI_toInt (n := gN (fun w => gF (aW cr1_ inn1_ k11_) k21_ cr1_ inn1_ q10_ q20_ w gg0_.toInt.toNat) (aPr (aW cr1_ inn1_ k11_) 7)) (by omega)] at q; exact q
                    refine lv_bipush (v := (-2)) hx hb dX11_fits_126 (by decide) ?_
                    have hw_298 : bFit T fi e0f_237 e1f_238 e2f_239 (nI (gN (fun w => gF (aW cr1_ inn1_ k11_) k21_ cr1_ inn1_ q10_ q20_ w gg0_.toInt.toNat) (aPr (aW cr1_ inn1_ k11_) 7))) e4f_241 e5f_242 r1f_243 m1f_244 r2f_245 [zO3 fi e0f_237 e1f_238 e2f_239 (nI (gN (fun w => gF (aW cr1_ inn1_ k11_) k21_ cr1_ inn1_ q10_ q20_ w gg0_.toInt.toNat) (aPr (aW cr1_ inn1_ k11_) 7))) e4f_241 e5f_242 a1_295 a2_296, zAr T 0 a1_295 m1f_244 r1f_243, zAr T 0 a2_296 7 r2f_245] := ⟨a1_295, a2_296, rfl⟩
                    have G : zS T A s.heap s [wt, z0_, wg0_, wg1_, wwA_224, [zO3 fi e0f_237 e1f_238 e2f_239 (nI (gN (fun w => gF (aW cr1_ inn1_ k11_) k21_ cr1_ inn1_ q10_ q20_ w gg0_.toInt.toNat) (aPr (aW cr1_ inn1_ k11_) 7))) e4f_241 e5f_242 a1_295 a2_296, zAr T 0 a1_295 m1f_244 r1f_243, zAr T 0 a2_296 7 r2f_245], [zO10 xo t im mk rd po co tr wa wb_ fi cd], w2_275, z1_] _ _ := G.re rfl
                    have G := G.sub (bs' := [[zO10 xo t im mk rd po co tr wa wb_ fi cd], wt, z0_, z1_, wg0_, wg1_, wwA_224, w2_275, [zO3 fi e0f_237 e1f_238 e2f_239 (nI (gN (fun w => gF (aW cr1_ inn1_ k11_) k21_ cr1_ inn1_ q10_ q20_ w gg0_.toInt.toNat) (aPr (aW cr1_ inn1_ k11_) 7))) e4f_241 e5f_242 a1_295 a2_296, zAr T 0 a1_295 m1f_244 r1f_243, zAr T 0 a2_296 7 r2f_245]]) [6, 0, 1, 8, 2, 3, 4, 7, 5] rfl
                    exact z_back hQz_ (z_iret C hr hlocks G (Nat.le_of_ble_eq_true rfl) (by omega) dX11_fits_128 ⟨laA_213, mdA_214, wyA_215, pc_A_216, f1A_217, f2A_218, f3A_219, f4A_220, f5A_221, f6A_222, n4A_223, wwA_224, l1, m2_276, wy2_277, pc2_278, g1_279, g2_280, f3B_231, g4_281, g5_282, g6_283, (zMk mdB_226 n4B_235 (zPl cr1_ inn1_ k11_)), w2_275, e0f_237, e1f_238, e2f_239, (nI (gN (fun w => gF (aW cr1_ inn1_ k11_) k21_ cr1_ inn1_ q10_ q20_ w gg0_.toInt.toNat) (aPr (aW cr1_ inn1_ k11_) 7))), e4f_241, e5f_242, r1f_243, m1f_244, r2f_245, ([zO3 fi e0f_237 e1f_238 e2f_239 (nI (gN (fun w => gF (aW cr1_ inn1_ k11_) k21_ cr1_ inn1_ q10_ q20_ w gg0_.toInt.toNat) (aPr (aW cr1_ inn1_ k11_) 7))) e4f_241 e5f_242 a1_295 a2_296, zAr T 0 a1_295 m1f_244 r1f_243, zAr T 0 a2_296 7 r2f_245]), rfl, h_247, h_248, h_249, h_250, h_251, h_252, h_253, h_285, (Or.inr rfl), hwy9, (hzk.trans h_257), (by rw [hzk]; exact h_258), (fun _ => h_287), (Or.inr h_288), hw_298, h_262, h_263, h_264, (fun q => (h_266 q).elim (fun w => Or.inl ⟨w.1, w.2⟩) (fun w => Or.inr ⟨w.1, h_287⟩)), h_267, h_268, h_269, h_270, (Or.inr (Or.inr (Or.inr (Or.inl ⟨⟨by omega, by omega⟩, ⟨by omega, by omega⟩, (by unfold kFits gFits; rw [if_neg (show ¬ w_.toInt < 0 by omega), if_neg (by omega), if_neg (by omega), if_neg (by omega), if_neg (by show ¬ (10 ≤ w_.toInt ∧ w_.toInt - 10 < ((gN (fun w => gF (aW cr1_ inn1_ k11_) k21_ cr1_ inn1_ q10_ q20_ w gg0_.toInt.toNat) (aPr (aW cr1_ inn1_ k11_) 7) : Nat) : Int)); omega)])⟩))))⟩)
                  · have c_297n : ¬ ((gN (fun w => gF (aW cr1_ inn1_ k11_) k21_ cr1_ inn1_ q10_ q20_ w gg0_.toInt.toNat) (aPr (aW cr1_ inn1_ k11_) 7)) : Int) ≤ y_293.toInt := fun q => c_297 ((fa_le _ _).mpr (by rw [nI_toInt (n := gN (fun w => gF (aW cr1_ inn1_ k11_) k21_ cr1_ inn1_ q10_ q20_ w gg0_.toInt.toNat) (aPr (aW cr1_ inn1_ k11_) 7)) (by omega)]; exact q))
                    refine lv_aload hx hb dX11_fits_109 (lv_at hl 1 rfl) ?_
                    refine lv_aload_n hx hb dX11_fits_111 rfl (lv_at hl 3 rfl) ?_
                    refine z_get C G clX11 8 rfl 9 (by decide) m_fl_RX11_65 rfl dX11_fits_112 ?_
                    refine lv_iload hx hb dX11_fits_115 (lv_at hl 0 rfl) ?_
                    have hw_299 : bFit T fi e0f_237 e1f_238 e2f_239 (nI (gN (fun w => gF (aW cr1_ inn1_ k11_) k21_ cr1_ inn1_ q10_ q20_ w gg0_.toInt.toNat) (aPr (aW cr1_ inn1_ k11_) 7))) e4f_241 e5f_242 r1f_243 m1f_244 r2f_245 [zO3 fi e0f_237 e1f_238 e2f_239 (nI (gN (fun w => gF (aW cr1_ inn1_ k11_) k21_ cr1_ inn1_ q10_ q20_ w gg0_.toInt.toNat) (aPr (aW cr1_ inn1_ k11_) 7))) e4f_241 e5f_242 a1_295 a2_296, zAr T 0 a1_295 m1f_244 r1f_243, zAr T 0 a2_296 7 r2f_245] := ⟨a1_295, a2_296, rfl⟩
                    have G : zS T A s.heap s [wt, z0_, wg0_, wg1_, wwA_224, [zO3 fi e0f_237 e1f_238 e2f_239 (nI (gN (fun w => gF (aW cr1_ inn1_ k11_) k21_ cr1_ inn1_ q10_ q20_ w gg0_.toInt.toNat) (aPr (aW cr1_ inn1_ k11_) 7))) e4f_241 e5f_242 a1_295 a2_296, zAr T 0 a1_295 m1f_244 r1f_243, zAr T 0 a2_296 7 r2f_245], [zO10 xo t im mk rd po co tr wa wb_ fi cd], w2_275, z1_] _ _ := G.re rfl
                    refine z_Vi (bc := [[zO3 fi e0f_237 e1f_238 e2f_239 (nI (gN (fun w => gF (aW cr1_ inn1_ k11_) k21_ cr1_ inn1_ q10_ q20_ w gg0_.toInt.toNat) (aPr (aW cr1_ inn1_ k11_) 7))) e4f_241 e5f_242 a1_295 a2_296, zAr T 0 a1_295 m1f_244 r1f_243, zAr T 0 a2_296 7 r2f_245]]) (br := [wt, z0_, wg0_, wg1_, wwA_224, [zO10 xo t im mk rd po co tr wa wb_ fi cd], w2_275, z1_]) (As := [.int y_293]) (rest := [.ref wb_]) C G (c_way l T fi e0f_237 e1f_238 e2f_239 (nI (gN (fun w => gF (aW cr1_ inn1_ k11_) k21_ cr1_ inn1_ q10_ q20_ w gg0_.toInt.toNat) (aPr (aW cr1_ inn1_ k11_) 7))) e4f_241 e5f_242 r1f_243 m1f_244 r2f_245 ([zO3 fi e0f_237 e1f_238 e2f_239 (nI (gN (fun w => gF (aW cr1_ inn1_ k11_) k21_ cr1_ inn1_ q10_ q20_ w gg0_.toInt.toNat) (aPr (aW cr1_ inn1_ k11_) 7))) e4f_241 e5f_242 a1_295 a2_296, zAr T 0 a1_295 m1f_244 r1f_243, zAr T 0 a2_296 7 r2f_245]) y_293 hw_299 hfm9) (kV_RX11_317 C.2.2.2.2 (Nat.le_of_ble_eq_true rfl) (Nat.le_of_ble_eq_true rfl)) [5] [5] rfl rfl (ci := 3) (qc := (RX3, TX3, 8)) rfl rfl (List.mem_flatten.mpr ⟨_, List.mem_of_getElem? (i := 0) rfl, (bFit_mem hw_299).choose_spec⟩) rfl rfl hl.1 dX11_fits_117 (Nat.le_of_ble_eq_true rfl) (by show _ + 0 ≤ 6 * (zNA (i1.toInt = 0 ∧ 0 < (fk 0).toInt ∧ (0 ≤ i2.toInt ∧ i2.toInt < (fk 2).toInt ∧ i2.toInt < 2) ∧ (e0f.toInt = 0 ∨ ¬ e1f.toInt = i1.toInt ∨ ¬ e2f.toInt = i2.toInt)) mdA n4A (zPl cr0_ inn0_ k10_) - n4A) + 6 * (zNA (i1.toInt = 1 ∧ 1 < (fk 0).toInt ∧ (0 ≤ i2.toInt ∧ i2.toInt < (fk 2).toInt ∧ i2.toInt < 2) ∧ (e0f.toInt = 0 ∨ ¬ e1f.toInt = i1.toInt ∨ ¬ e2f.toInt = i2.toInt)) mdB n4B (zPl cr1_ inn1_ k11_) - n4B) + 2 * (zNF (i1.toInt = 1 ∧ 1 < (fk 0).toInt ∧ (0 ≤ i2.toInt ∧ i2.toInt < (fk 2).toInt ∧ i2.toInt < 2) ∧ (e0f.toInt = 0 ∨ ¬ e1f.toInt = i1.toInt ∨ ¬ e2f.toInt = i2.toInt)) (zNF (i1.toInt = 0 ∧ 0 < (fk 0).toInt ∧ (0 ≤ i2.toInt ∧ i2.toInt < (fk 2).toInt ∧ i2.toInt < 2) ∧ (e0f.toInt = 0 ∨ ¬ e1f.toInt = i1.toInt ∨ ¬ e2f.toInt = i2.toInt)) m1f (zMw mdA wyA cr0_ inn0_ k10_)) (zMw mdB wyB cr1_ inn1_ k11_) - m1f); omega) (fun r_301 b1 H locs hw G => ?_)
                    refine zAn2 hw ?_
                    intro hbs9 h_300
                    clear hw
                    subst hbs9
                    have G : zS T A s.heap s [wt, z0_, wg0_, wg1_, wwA_224, [zO10 xo t im mk rd po co tr wa wb_ fi cd], w2_275, z1_, [zO3 fi e0f_237 e1f_238 e2f_239 (nI (gN (fun w => gF (aW cr1_ inn1_ k11_) k21_ cr1_ inn1_ q10_ q20_ w gg0_.toInt.toNat) (aPr (aW cr1_ inn1_ k11_) 7))) e4f_241 e5f_242 a1_295 a2_296, zAr T 0 a1_295 m1f_244 r1f_243, zAr T 0 a2_296 7 r2f_245]] _ _ := G
                    subst h_300
                    have hyn9 : y_293 = nI (w_.toInt - 10).toNat := z_nI (by omega) (by omega)
                    have hwx9 := (gWk_x (f := (fun w => gF (aW cr1_ inn1_ k11_) k21_ cr1_ inn1_ q10_ q20_ w gg0_.toInt.toNat)) (k := (w_.toInt - 10).toNat) (aPr (aW cr1_ inn1_ k11_) 7) (by omega)).1
                    refine lv_topi (fun y_302 ey_302 => ?_)
                    obtain rfl : y_302 = nI (gWk (fun w => gF (aW cr1_ inn1_ k11_) k21_ cr1_ inn1_ q10_ q20_ w gg0_.toInt.toNat) (aPr (aW cr1_ inn1_ k11_) 7) (w_.toInt - 10).toNat) := ey_302.trans ((by have q9 := zFway_e (i := (w_.toInt - 10).toNat) hGk9 (by omega) hml9; rw [← hyn9] at q9; exact q9))
                    refine z_Vi (bc := [w2_275, z1_]) (br := [wt, z0_, wg0_, wg1_, wwA_224, [zO10 xo t im mk rd po co tr wa wb_ fi cd], [zO3 fi e0f_237 e1f_238 e2f_239 (nI (gN (fun w => gF (aW cr1_ inn1_ k11_) k21_ cr1_ inn1_ q10_ q20_ w gg0_.toInt.toNat) (aPr (aW cr1_ inn1_ k11_) 7))) e4f_241 e5f_242 a1_295 a2_296, zAr T 0 a1_295 m1f_244 r1f_243, zAr T 0 a2_296 7 r2f_245]]) (As := [.int (nI (gWk (fun w => gF (aW cr1_ inn1_ k11_) k21_ cr1_ inn1_ q10_ q20_ w gg0_.toInt.toNat) (aPr (aW cr1_ inn1_ k11_) 7) (w_.toInt - 10).toNat))]) (rest := []) C G (c_f_number l T wb_ l1 m2_276 wy2_277 pc2_278 g1_279 g2_280 f3B_231 g4_281 g5_282 g6_283 (zMk mdB_226 n4B_235 (zPl cr1_ inn1_ k11_)) w2_275 cr1_ inn1_ k11_ k21_ k31_ k41_ z1_ (nI (gWk (fun w => gF (aW cr1_ inn1_ k11_) k21_ cr1_ inn1_ q10_ q20_ w gg0_.toInt.toNat) (aPr (aW cr1_ inn1_ k11_) 7) (w_.toInt - 10).toNat)) h_285 hz1_ hI1_ h_288.2.2.1 hOk9 (by rw [nI_toInt (by omega)]; omega)) (kV_RX11_272 C.2.2.2.2 (Nat.le_of_ble_eq_true rfl) (Nat.le_of_ble_eq_true rfl)) [6, 7] [6, 0] rfl rfl (ci := 0) (qc := (RX0, TX0, 10)) rfl rfl (List.mem_flatten.mpr ⟨_, List.mem_of_getElem? (i := 0) rfl, (bWays_mem h_285).choose_spec⟩) rfl rfl hl.1 dX11_fits_120 (Nat.le_of_ble_eq_true rfl) (by show _ + 0 ≤ 6 * (zNA (i1.toInt = 0 ∧ 0 < (fk 0).toInt ∧ (0 ≤ i2.toInt ∧ i2.toInt < (fk 2).toInt ∧ i2.toInt < 2) ∧ (e0f.toInt = 0 ∨ ¬ e1f.toInt = i1.toInt ∨ ¬ e2f.toInt = i2.toInt)) mdA n4A (zPl cr0_ inn0_ k10_) - n4A) + 6 * (zNA (i1.toInt = 1 ∧ 1 < (fk 0).toInt ∧ (0 ≤ i2.toInt ∧ i2.toInt < (fk 2).toInt ∧ i2.toInt < 2) ∧ (e0f.toInt = 0 ∨ ¬ e1f.toInt = i1.toInt ∨ ¬ e2f.toInt = i2.toInt)) mdB n4B (zPl cr1_ inn1_ k11_) - n4B) + 2 * (zNF (i1.toInt = 1 ∧ 1 < (fk 0).toInt ∧ (0 ≤ i2.toInt ∧ i2.toInt < (fk 2).toInt ∧ i2.toInt < 2) ∧ (e0f.toInt = 0 ∨ ¬ e1f.toInt = i1.toInt ∨ ¬ e2f.toInt = i2.toInt)) (zNF (i1.toInt = 0 ∧ 0 < (fk 0).toInt ∧ (0 ≤ i2.toInt ∧ i2.toInt < (fk 2).toInt ∧ i2.toInt < 2) ∧ (e0f.toInt = 0 ∨ ¬ e1f.toInt = i1.toInt ∨ ¬ e2f.toInt = i2.toInt)) m1f (zMw mdA wyA cr0_ inn0_ k10_)) (zMw mdB wyB cr1_ inn1_ k11_) - m1f); omega) (fun r_304 b1 H locs hw G => ?_)
                    refine zAn2 hw ?_
                    intro hbs9 h_303
                    clear hw
                    subst hbs9
                    have G : zS T A s.heap s [wt, z0_, wg0_, wg1_, wwA_224, [zO10 xo t im mk rd po co tr wa wb_ fi cd], [zO3 fi e0f_237 e1f_238 e2f_239 (nI (gN (fun w => gF (aW cr1_ inn1_ k11_) k21_ cr1_ inn1_ q10_ q20_ w gg0_.toInt.toNat) (aPr (aW cr1_ inn1_ k11_) 7))) e4f_241 e5f_242 a1_295 a2_296, zAr T 0 a1_295 m1f_244 r1f_243, zAr T 0 a2_296 7 r2f_245], w2_275, z1_] _ _ := G
                    refine lv_goto (tgt := 128) hx hb dX11_fits_123 (by decide) ?_
                    have G := G.sub (bs' := [[zO10 xo t im mk rd po co tr wa wb_ fi cd], wt, z0_, z1_, wg0_, wg1_, wwA_224, w2_275, [zO3 fi e0f_237 e1f_238 e2f_239 (nI (gN (fun w => gF (aW cr1_ inn1_ k11_) k21_ cr1_ inn1_ q10_ q20_ w gg0_.toInt.toNat) (aPr (aW cr1_ inn1_ k11_) 7))) e4f_241 e5f_242 a1_295 a2_296, zAr T 0 a1_295 m1f_244 r1f_243, zAr T 0 a2_296 7 r2f_245]]) [5, 0, 1, 8, 2, 3, 4, 7, 6] rfl
                    exact z_back hQz_ (z_iret C hr hlocks G (Nat.le_of_ble_eq_true rfl) (by omega) dX11_fits_128 ⟨laA_213, mdA_214, wyA_215, pc_A_216, f1A_217, f2A_218, f3A_219, f4A_220, f5A_221, f6A_222, n4A_223, wwA_224, l1, m2_276, wy2_277, pc2_278, g1_279, g2_280, f3B_231, g4_281, g5_282, g6_283, (zMk mdB_226 n4B_235 (zPl cr1_ inn1_ k11_)), w2_275, e0f_237, e1f_238, e2f_239, (nI (gN (fun w => gF (aW cr1_ inn1_ k11_) k21_ cr1_ inn1_ q10_ q20_ w gg0_.toInt.toNat) (aPr (aW cr1_ inn1_ k11_) 7))), e4f_241, e5f_242, r1f_243, m1f_244, r2f_245, ([zO3 fi e0f_237 e1f_238 e2f_239 (nI (gN (fun w => gF (aW cr1_ inn1_ k11_) k21_ cr1_ inn1_ q10_ q20_ w gg0_.toInt.toNat) (aPr (aW cr1_ inn1_ k11_) 7))) e4f_241 e5f_242 a1_295 a2_296, zAr T 0 a1_295 m1f_244 r1f_243, zAr T 0 a2_296 7 r2f_245]), rfl, h_247, h_248, h_249, h_250, h_251, h_252, h_253, h_285, (Or.inr rfl), hwy9, (hzk.trans h_257), (by rw [hzk]; exact h_258), (fun _ => h_287), (Or.inr h_288), hw_299, h_262, h_263, h_264, (fun q => (h_266 q).elim (fun w => Or.inl ⟨w.1, w.2⟩) (fun w => Or.inr ⟨w.1, h_287⟩)), h_267, h_268, h_269, h_270, (Or.inr (Or.inr (Or.inr (Or.inl ⟨⟨by omega, by omega⟩, ⟨by omega, by omega⟩, (by unfold kFits gFits; first | (rw [if_neg (show ¬ w_.toInt < 0 by omega), if_neg (by omega), if_pos (by omega)]; exact h_303) | (rw [if_neg (show ¬ w_.toInt < 0 by omega), if_neg (by omega), if_neg (by omega), if_pos (by omega)]; refine h_303.trans ?_; rw [show (w_.toInt - 2).toNat = y_202.toInt.toNat by omega]; by_cases z9 : gN (fun w => gF (aW cr1_ inn1_ k11_) k21_ cr1_ inn1_ q10_ q20_ w gg0_.toInt.toNat) (aPr (aW cr1_ inn1_ k11_) 7) = 0 ∨ ¬ w_.toInt - 2 < ((cr1_.toInt.toNat : Nat) : Int) <;> first | (rw [if_pos (z9.imp id (fun q9 => by omega))]; exact (if_pos z9).symm) | (rw [if_neg (fun q9 => z9 (q9.imp id (fun q8 => by omega)))]; exact (if_neg z9).symm)) | (rw [if_neg (show ¬ w_.toInt < 0 by omega), if_neg (by omega), if_neg (by omega), if_neg (by omega), if_pos (by show 10 ≤ w_.toInt ∧ w_.toInt - 10 < ((gN (fun w => gF (aW cr1_ inn1_ k11_) k21_ cr1_ inn1_ q10_ q20_ w gg0_.toInt.toNat) (aPr (aW cr1_ inn1_ k11_) 7) : Nat) : Int); omega)]; refine h_303.trans ?_; rw [nI_n (by omega)]; rfl))⟩))))⟩)
              · have c_292n : ¬ (9 : Int) ≤ w_.toInt := fun q => c_292 ((fa_le _ _).mpr q)
                refine lv_aload_n hx hb dX11_fits_73 rfl (lv_at hl 2 rfl) ?_
                refine z_get C G clX11 6 rfl 9 (by decide) m_fl_RX11_65 rfl dX11_fits_74 ?_
                refine lv_aload hx hb dX11_fits_77 (lv_at hl 0 rfl) ?_
                refine lv_iload_n hx hb dX11_fits_79 rfl (lv_at hl 5 rfl) ?_
                refine lv_iconst (v := 2) hx hb dX11_fits_80 (by decide) ?_
                refine lv_isub hx hb dX11_fits_81 ?_
                refine lv_topi (fun y_305 ey_305 => ?_)
                have ey_305i : y_305.toInt = w_.toInt - (2 : Int) := by rw [ey_305]; exact z_isubI (x := w_) (y := (2 : Int32)) (by show -2147483648 ≤ w_.toInt - (2 : Int); omega) (by show w_.toInt - (2 : Int) < 2147483648; omega)
                refine z_Vi (bc := [wff_246, w2_275, z1_]) (br := [wt, z0_, wg0_, wg1_, wwA_224, [zO10 xo t im mk rd po co tr wa wb_ fi cd]]) (As := [.ref wb_, .int y_305]) (rest := []) C G (c_e_sure l T fi e0f_237 e1f_238 e2f_239 e4f_241 e5f_242 r1f_243 m1f_244 r2f_245 wff_246 (gN (fun w => gF (aW cr1_ inn1_ k11_) k21_ cr1_ inn1_ q10_ q20_ w gg0_.toInt.toNat) (aPr (aW cr1_ inn1_ k11_) 7)) wb_ l1 m2_276 wy2_277 pc2_278 g1_279 g2_280 f3B_231 g4_281 g5_282 g6_283 (zMk mdB_226 n4B_235 (zPl cr1_ inn1_ k11_)) w2_275 cr1_ inn1_ k11_ k21_ k31_ k41_ z1_ (fun w => gF (aW cr1_ inn1_ k11_) k21_ cr1_ inn1_ q10_ q20_ w gg0_.toInt.toNat) (aPr (aW cr1_ inn1_ k11_) 7) y_305 h_261 h_285 hz1_ hn9 hI1_ h_288.2.2.1 hGk9 rfl hml9 hfm9) (kV_RX11_313 C.2.2.2.2 (Nat.le_of_ble_eq_true rfl) (Nat.le_of_ble_eq_true rfl)) [5, 7, 8] [5, 1, 0] rfl rfl (ci := 3) (qc := (RX3, TX3, 8)) rfl rfl (List.mem_flatten.mpr ⟨_, List.mem_of_getElem? (i := 0) rfl, (bFit_mem h_261).choose_spec⟩) rfl rfl hl.1 dX11_fits_82 (Nat.le_of_ble_eq_true rfl) (by show _ + 0 ≤ 6 * (zNA (i1.toInt = 0 ∧ 0 < (fk 0).toInt ∧ (0 ≤ i2.toInt ∧ i2.toInt < (fk 2).toInt ∧ i2.toInt < 2) ∧ (e0f.toInt = 0 ∨ ¬ e1f.toInt = i1.toInt ∨ ¬ e2f.toInt = i2.toInt)) mdA n4A (zPl cr0_ inn0_ k10_) - n4A) + 6 * (zNA (i1.toInt = 1 ∧ 1 < (fk 0).toInt ∧ (0 ≤ i2.toInt ∧ i2.toInt < (fk 2).toInt ∧ i2.toInt < 2) ∧ (e0f.toInt = 0 ∨ ¬ e1f.toInt = i1.toInt ∨ ¬ e2f.toInt = i2.toInt)) mdB n4B (zPl cr1_ inn1_ k11_) - n4B) + 2 * (zNF (i1.toInt = 1 ∧ 1 < (fk 0).toInt ∧ (0 ≤ i2.toInt ∧ i2.toInt < (fk 2).toInt ∧ i2.toInt < 2) ∧ (e0f.toInt = 0 ∨ ¬ e1f.toInt = i1.toInt ∨ ¬ e2f.toInt = i2.toInt)) (zNF (i1.toInt = 0 ∧ 0 < (fk 0).toInt ∧ (0 ≤ i2.toInt ∧ i2.toInt < (fk 2).toInt ∧ i2.toInt < 2) ∧ (e0f.toInt = 0 ∨ ¬ e1f.toInt = i1.toInt ∨ ¬ e2f.toInt = i2.toInt)) m1f (zMw mdA wyA cr0_ inn0_ k10_)) (zMw mdB wyB cr1_ inn1_ k11_) - m1f); omega) (fun r_307 b1 H locs hw G => ?_)
                refine zAn2 hw ?_
                intro hbs9 h_306
                clear hw
                subst hbs9
                have G : zS T A s.heap s [wt, z0_, wg0_, wg1_, wwA_224, [zO10 xo t im mk rd po co tr wa wb_ fi cd], wff_246, w2_275, z1_] _ _ := G
                have G := G.sub (bs' := [[zO10 xo t im mk rd po co tr wa wb_ fi cd], wt, z0_, z1_, wg0_, wg1_, wwA_224, w2_275, wff_246]) [5, 0, 1, 8, 2, 3, 4, 7, 6] rfl
                exact z_back hQz_ (z_iret C hr hlocks G (Nat.le_of_ble_eq_true rfl) (by omega) dX11_fits_85 ⟨laA_213, mdA_214, wyA_215, pc_A_216, f1A_217, f2A_218, f3A_219, f4A_220, f5A_221, f6A_222, n4A_223, wwA_224, l1, m2_276, wy2_277, pc2_278, g1_279, g2_280, f3B_231, g4_281, g5_282, g6_283, (zMk mdB_226 n4B_235 (zPl cr1_ inn1_ k11_)), w2_275, e0f_237, e1f_238, e2f_239, (nI (gN (fun w => gF (aW cr1_ inn1_ k11_) k21_ cr1_ inn1_ q10_ q20_ w gg0_.toInt.toNat) (aPr (aW cr1_ inn1_ k11_) 7))), e4f_241, e5f_242, r1f_243, m1f_244, r2f_245, wff_246, rfl, h_247, h_248, h_249, h_250, h_251, h_252, h_253, h_285, (Or.inr rfl), hwy9, (hzk.trans h_257), (by rw [hzk]; exact h_258), (fun _ => h_287), (Or.inr h_288), h_261, h_262, h_263, h_264, (fun q => (h_266 q).elim (fun w => Or.inl ⟨w.1, w.2⟩) (fun w => Or.inr ⟨w.1, h_287⟩)), h_267, h_268, h_269, h_270, (Or.inr (Or.inr (Or.inr (Or.inl ⟨⟨by omega, by omega⟩, ⟨by omega, by omega⟩, (by unfold kFits gFits; first | (rw [if_neg (show ¬ w_.toInt < 0 by omega), if_neg (by omega), if_pos (by omega)]; exact h_306) | (rw [if_neg (show ¬ w_.toInt < 0 by omega), if_neg (by omega), if_neg (by omega), if_pos (by omega)]; refine h_306.trans ?_; rw [show (w_.toInt - 2).toNat = y_305.toInt.toNat by omega]; by_cases z9 : gN (fun w => gF (aW cr1_ inn1_ k11_) k21_ cr1_ inn1_ q10_ q20_ w gg0_.toInt.toNat) (aPr (aW cr1_ inn1_ k11_) 7) = 0 ∨ ¬ w_.toInt - 2 < ((cr1_.toInt.toNat : Nat) : Int) <;> first | (rw [if_pos (z9.imp id (fun q9 => by omega))]; exact (if_pos z9).symm) | (rw [if_neg (fun q9 => z9 (q9.imp id (fun q8 => by omega)))]; exact (if_neg z9).symm)) | (rw [if_neg (show ¬ w_.toInt < 0 by omega), if_neg (by omega), if_neg (by omega), if_neg (by omega), if_pos (by show 10 ≤ w_.toInt ∧ w_.toInt - 10 < ((gN (fun w => gF (aW cr1_ inn1_ k11_) k21_ cr1_ inn1_ q10_ q20_ w gg0_.toInt.toNat) (aPr (aW cr1_ inn1_ k11_) 7) : Nat) : Int); omega)]; refine h_306.trans ?_; rw [nI_n (by omega)]; rfl))⟩))))⟩)
            · have c_291n : w_.toInt = (1 : Int) := (fa_eq _ _).mp c_291
              refine lv_aload_n hx hb dX11_fits_57 rfl (lv_at hl 2 rfl) ?_
              refine z_get C G clX11 6 rfl 9 (by decide) m_fl_RX11_65 rfl dX11_fits_58 ?_
              refine lv_aload hx hb dX11_fits_61 (lv_at hl 0 rfl) ?_
              refine z_Vi (bc := [wff_246, w2_275, z1_]) (br := [wt, z0_, wg0_, wg1_, wwA_224, [zO10 xo t im mk rd po co tr wa wb_ fi cd]]) (As := [.ref wb_]) (rest := []) C G (c_e_ask l T fi e0f_237 e1f_238 e2f_239 e4f_241 e5f_242 r1f_243 m1f_244 r2f_245 wff_246 (gN (fun w => gF (aW cr1_ inn1_ k11_) k21_ cr1_ inn1_ q10_ q20_ w gg0_.toInt.toNat) (aPr (aW cr1_ inn1_ k11_) 7)) wb_ l1 m2_276 wy2_277 pc2_278 g1_279 g2_280 f3B_231 g4_281 g5_282 g6_283 (zMk mdB_226 n4B_235 (zPl cr1_ inn1_ k11_)) w2_275 cr1_ inn1_ k11_ k21_ k31_ k41_ z1_ (fun w => gF (aW cr1_ inn1_ k11_) k21_ cr1_ inn1_ q10_ q20_ w gg0_.toInt.toNat) (aPr (aW cr1_ inn1_ k11_) 7) h_261 h_285 hz1_ hn9 hI1_ h_288 hLq1 hGk9 rfl hml9 hfm9) (kV_RX11_309 C.2.2.2.2 (Nat.le_of_ble_eq_true rfl) (Nat.le_of_ble_eq_true rfl)) [5, 7, 8] [5, 1, 0] rfl rfl (ci := 3) (qc := (RX3, TX3, 8)) rfl rfl (List.mem_flatten.mpr ⟨_, List.mem_of_getElem? (i := 0) rfl, (bFit_mem h_261).choose_spec⟩) rfl rfl hl.1 dX11_fits_63 (Nat.le_of_ble_eq_true rfl) (by show _ + 0 ≤ 6 * (zNA (i1.toInt = 0 ∧ 0 < (fk 0).toInt ∧ (0 ≤ i2.toInt ∧ i2.toInt < (fk 2).toInt ∧ i2.toInt < 2) ∧ (e0f.toInt = 0 ∨ ¬ e1f.toInt = i1.toInt ∨ ¬ e2f.toInt = i2.toInt)) mdA n4A (zPl cr0_ inn0_ k10_) - n4A) + 6 * (zNA (i1.toInt = 1 ∧ 1 < (fk 0).toInt ∧ (0 ≤ i2.toInt ∧ i2.toInt < (fk 2).toInt ∧ i2.toInt < 2) ∧ (e0f.toInt = 0 ∨ ¬ e1f.toInt = i1.toInt ∨ ¬ e2f.toInt = i2.toInt)) mdB n4B (zPl cr1_ inn1_ k11_) - n4B) + 2 * (zNF (i1.toInt = 1 ∧ 1 < (fk 0).toInt ∧ (0 ≤ i2.toInt ∧ i2.toInt < (fk 2).toInt ∧ i2.toInt < 2) ∧ (e0f.toInt = 0 ∨ ¬ e1f.toInt = i1.toInt ∨ ¬ e2f.toInt = i2.toInt)) (zNF (i1.toInt = 0 ∧ 0 < (fk 0).toInt ∧ (0 ≤ i2.toInt ∧ i2.toInt < (fk 2).toInt ∧ i2.toInt < 2) ∧ (e0f.toInt = 0 ∨ ¬ e1f.toInt = i1.toInt ∨ ¬ e2f.toInt = i2.toInt)) m1f (zMw mdA wyA cr0_ inn0_ k10_)) (zMw mdB wyB cr1_ inn1_ k11_) - m1f); omega) (fun r_312 b1 H locs hw G => ?_)
              refine zEx2 hw ?_
              intro w2_308 g2_309
              refine zCu3 ?_
              intro hbs9 h_310 h_311
              clear hw
              subst hbs9
              have G : zS T A s.heap s [wt, z0_, wg0_, wg1_, wwA_224, [zO10 xo t im mk rd po co tr wa wb_ fi cd], w2_308, w2_275, z1_] _ _ := G
              have G := G.sub (bs' := [[zO10 xo t im mk rd po co tr wa wb_ fi cd], wt, z0_, z1_, wg0_, wg1_, wwA_224, w2_275, w2_308]) [5, 0, 1, 8, 2, 3, 4, 7, 6] rfl
              exact z_back hQz_ (z_iret C hr hlocks G (Nat.le_of_ble_eq_true rfl) (by omega) dX11_fits_66 ⟨laA_213, mdA_214, wyA_215, pc_A_216, f1A_217, f2A_218, f3A_219, f4A_220, f5A_221, f6A_222, n4A_223, wwA_224, l1, m2_276, wy2_277, pc2_278, g1_279, g2_280, f3B_231, g4_281, g5_282, g6_283, (zMk mdB_226 n4B_235 (zPl cr1_ inn1_ k11_)), w2_275, e0f_237, e1f_238, e2f_239, (nI (gN (fun w => gF (aW cr1_ inn1_ k11_) k21_ cr1_ inn1_ q10_ q20_ w gg0_.toInt.toNat) (aPr (aW cr1_ inn1_ k11_) 7))), e4f_241, e5f_242, r1f_243, m1f_244, g2_309, w2_308, rfl, h_247, h_248, h_249, h_250, h_251, h_252, h_253, h_285, (Or.inr rfl), hwy9, (hzk.trans h_257), (by rw [hzk]; exact h_258), (fun _ => h_287), (Or.inr h_288), h_310, h_262, h_263, h_264, (fun q => (h_266 q).elim (fun w => Or.inl ⟨w.1, w.2⟩) (fun w => Or.inr ⟨w.1, h_287⟩)), h_267, h_268, h_269, h_270, (Or.inr (Or.inr (Or.inr (Or.inl ⟨⟨by omega, by omega⟩, ⟨by omega, by omega⟩, (by unfold kFits gFits; first | (rw [if_neg (show ¬ w_.toInt < 0 by omega), if_neg (by omega), if_pos (by omega)]; exact h_311) | (rw [if_neg (show ¬ w_.toInt < 0 by omega), if_neg (by omega), if_neg (by omega), if_pos (by omega)]; refine h_311.trans ?_; rw [show (w_.toInt - 2).toNat = y_305.toInt.toNat by omega]; by_cases z9 : gN (fun w => gF (aW cr1_ inn1_ k11_) k21_ cr1_ inn1_ q10_ q20_ w gg0_.toInt.toNat) (aPr (aW cr1_ inn1_ k11_) 7) = 0 ∨ ¬ w_.toInt - 2 < ((cr1_.toInt.toNat : Nat) : Int) <;> first | (rw [if_pos (z9.imp id (fun q9 => by omega))]; exact (if_pos z9).symm) | (rw [if_neg (fun q9 => z9 (q9.imp id (fun q8 => by omega)))]; exact (if_neg z9).symm)) | (rw [if_neg (show ¬ w_.toInt < 0 by omega), if_neg (by omega), if_neg (by omega), if_neg (by omega), if_pos (by show 10 ≤ w_.toInt ∧ w_.toInt - 10 < ((gN (fun w => gF (aW cr1_ inn1_ k11_) k21_ cr1_ inn1_ q10_ q20_ w gg0_.toInt.toNat) (aPr (aW cr1_ inn1_ k11_) 7) : Nat) : Int); omega)]; refine h_311.trans ?_; rw [nI_n (by omega)]; rfl))⟩))))⟩)
          · have c_290n : w_.toInt = (0 : Int) := (fa_eq _ _).mp c_290
            refine lv_aload_n hx hb dX11_fits_44 rfl (lv_at hl 2 rfl) ?_
            refine z_get C G clX11 6 rfl 9 (by decide) m_fl_RX11_65 rfl dX11_fits_45 ?_
            refine zEx2 h_261 ?_
            intro a1_313 a2_314 hbs9
            clear h_261
            subst hbs9
            have G : zS T A s.heap s [wt, z0_, wg0_, wg1_, wwA_224, [zO3 fi e0f_237 e1f_238 e2f_239 (nI (gN (fun w => gF (aW cr1_ inn1_ k11_) k21_ cr1_ inn1_ q10_ q20_ w gg0_.toInt.toNat) (aPr (aW cr1_ inn1_ k11_) 7))) e4f_241 e5f_242 a1_313 a2_314], [zAr T 0 a1_313 m1f_244 r1f_243], [zAr T 0 a2_314 7 r2f_245], [zO10 xo t im mk rd po co tr wa wb_ fi cd], w2_275, z1_] _ _ := G.re rfl
            refine z_get C G clX3 5 rfl 3 (by decide) m_fl_RX11_306 rfl dX11_fits_48 ?_
            have hw_315 : bFit T fi e0f_237 e1f_238 e2f_239 (nI (gN (fun w => gF (aW cr1_ inn1_ k11_) k21_ cr1_ inn1_ q10_ q20_ w gg0_.toInt.toNat) (aPr (aW cr1_ inn1_ k11_) 7))) e4f_241 e5f_242 r1f_243 m1f_244 r2f_245 [zO3 fi e0f_237 e1f_238 e2f_239 (nI (gN (fun w => gF (aW cr1_ inn1_ k11_) k21_ cr1_ inn1_ q10_ q20_ w gg0_.toInt.toNat) (aPr (aW cr1_ inn1_ k11_) 7))) e4f_241 e5f_242 a1_313 a2_314, zAr T 0 a1_313 m1f_244 r1f_243, zAr T 0 a2_314 7 r2f_245] := ⟨a1_313, a2_314, rfl⟩
            have G : zS T A s.heap s [wt, z0_, wg0_, wg1_, wwA_224, [zO3 fi e0f_237 e1f_238 e2f_239 (nI (gN (fun w => gF (aW cr1_ inn1_ k11_) k21_ cr1_ inn1_ q10_ q20_ w gg0_.toInt.toNat) (aPr (aW cr1_ inn1_ k11_) 7))) e4f_241 e5f_242 a1_313 a2_314, zAr T 0 a1_313 m1f_244 r1f_243, zAr T 0 a2_314 7 r2f_245], [zO10 xo t im mk rd po co tr wa wb_ fi cd], w2_275, z1_] _ _ := G.re rfl
            have G := G.sub (bs' := [[zO10 xo t im mk rd po co tr wa wb_ fi cd], wt, z0_, z1_, wg0_, wg1_, wwA_224, w2_275, [zO3 fi e0f_237 e1f_238 e2f_239 (nI (gN (fun w => gF (aW cr1_ inn1_ k11_) k21_ cr1_ inn1_ q10_ q20_ w gg0_.toInt.toNat) (aPr (aW cr1_ inn1_ k11_) 7))) e4f_241 e5f_242 a1_313 a2_314, zAr T 0 a1_313 m1f_244 r1f_243, zAr T 0 a2_314 7 r2f_245]]) [6, 0, 1, 8, 2, 3, 4, 7, 5] rfl
            exact z_back hQz_ (z_iret C hr hlocks G (Nat.le_of_ble_eq_true rfl) (by omega) dX11_fits_51 ⟨laA_213, mdA_214, wyA_215, pc_A_216, f1A_217, f2A_218, f3A_219, f4A_220, f5A_221, f6A_222, n4A_223, wwA_224, l1, m2_276, wy2_277, pc2_278, g1_279, g2_280, f3B_231, g4_281, g5_282, g6_283, (zMk mdB_226 n4B_235 (zPl cr1_ inn1_ k11_)), w2_275, e0f_237, e1f_238, e2f_239, (nI (gN (fun w => gF (aW cr1_ inn1_ k11_) k21_ cr1_ inn1_ q10_ q20_ w gg0_.toInt.toNat) (aPr (aW cr1_ inn1_ k11_) 7))), e4f_241, e5f_242, r1f_243, m1f_244, r2f_245, ([zO3 fi e0f_237 e1f_238 e2f_239 (nI (gN (fun w => gF (aW cr1_ inn1_ k11_) k21_ cr1_ inn1_ q10_ q20_ w gg0_.toInt.toNat) (aPr (aW cr1_ inn1_ k11_) 7))) e4f_241 e5f_242 a1_313 a2_314, zAr T 0 a1_313 m1f_244 r1f_243, zAr T 0 a2_314 7 r2f_245]), rfl, h_247, h_248, h_249, h_250, h_251, h_252, h_253, h_285, (Or.inr rfl), hwy9, (hzk.trans h_257), (by rw [hzk]; exact h_258), (fun _ => h_287), (Or.inr h_288), hw_315, h_262, h_263, h_264, (fun q => (h_266 q).elim (fun w => Or.inl ⟨w.1, w.2⟩) (fun w => Or.inr ⟨w.1, h_287⟩)), h_267, h_268, h_269, h_270, (Or.inr (Or.inr (Or.inr (Or.inl ⟨⟨by omega, by omega⟩, ⟨by omega, by omega⟩, (by unfold kFits gFits; rw [if_neg (show ¬ w_.toInt < 0 by omega), if_pos (by omega)]; rfl)⟩))))⟩)
        · have hp79 : aPr (aW cr1_ inn1_ k11_) 7 ≤ 16384 := aPr_7 hI1_
          obtain ⟨he39, he49, he59, hrw9, hml9⟩ := h_270 hX.2.2.1 (by have q9 := hX.2.2.2; omega) (by rcases h_271 with q9 | q9 <;> first | (exfalso; have e7 := congrArg Int32.toInt q9; have e6 : (0 : Int32).toInt = 0 := rfl; have e5 : (1 : Int32).toInt = 1 := rfl; omega) | omega)
          subst he39
          have hOk9 := (kaOk (inn := inn1_) hI1_ hLq1).1
          have hGk9 : gRk (fun w => gF (aW cr1_ inn1_ k11_) k21_ cr1_ inn1_ q11_ q21_ w gg1_.toInt.toNat) (aPr (aW cr1_ inn1_ k11_) 7) (aPr (aW cr1_ inn1_ k11_) 7) r1f_243 := ⟨hp79, hp79, hrw9, fun w hw => (gF_b hOk9 (by have q9 := hI1_.1; omega) hw _).1⟩
          have hgN9 := gN_le (f := (fun w => gF (aW cr1_ inn1_ k11_) k21_ cr1_ inn1_ q11_ q21_ w gg1_.toInt.toNat)) (aPr (aW cr1_ inn1_ k11_) 7)
          refine lv_aload_n hx hb dX11_fits_31 rfl (lv_at hl 1 rfl) ?_
          refine lv_iload_n hx hb dX11_fits_32 rfl (lv_at hl 2 rfl) ?_
          refine lv_aload hx hb dX11_fits_33 (lv_at hl 0 rfl) ?_
          have hmk : ¬ mdB_226 = 0 := (h_266 hX.2.2.1).elim (fun q => absurd q.1 (by have := hX.2.2.2; omega)) (fun q => q.2)
          have hzk : zMk mdB_226 n4B_235 (zPl cr1_ inn1_ k11_) = n4B_235 := by unfold zMk; rw [if_neg hmk]
          have hn9 : zMk mdB_226 n4B_235 (zPl cr1_ inn1_ k11_) ≤ 131072 := by rw [hzk]; exact zPw_le h_258
          refine z_Vq (bc := [[zO10 xo t im mk rd po co tr wa wb_ fi cd], wwB_236, z1_]) (br := [wt, z0_, wg0_, wg1_, wwA_224, wff_246]) (As := [.int i1, .ref l1]) (rest := []) C G (c_f_waysInB l T xo t im mk rd po co tr wa wb_ fi cd i1 laB_225 mdB_226 wyB_227 pc_B_228 f1B_229 f2B_230 f3B_231 f4B_232 f5B_233 f6B_234 n4B_235 wwB_236 l1 cr1_ inn1_ k11_ k21_ k31_ k41_ z1_ h_254 hz1_ hI1_ h_258 h_255 (kaOk hI1_ hLq1).1 h_260 (by omega)) (kV_RX11_235 C.2.2.2.2 (Nat.le_of_ble_eq_true rfl) (Nat.le_of_ble_eq_true rfl)) [0, 7, 3] [0, 2, 3] rfl rfl (ci := 10) (qc := (RX11, TX11, 11)) rfl rfl (List.mem_flatten.mpr ⟨_, List.mem_of_getElem? (i := 0) rfl, List.mem_cons_self⟩) rfl rfl hl.1 dX11_fits_35 (Nat.le_of_ble_eq_true rfl) (by show _ + (6 * (zMk mdB_226 n4B_235 (zPl cr1_ inn1_ k11_) - n4B_235)) ≤ 6 * (zNA (i1.toInt = 0 ∧ 0 < (fk 0).toInt ∧ (0 ≤ i2.toInt ∧ i2.toInt < (fk 2).toInt ∧ i2.toInt < 2) ∧ (e0f.toInt = 0 ∨ ¬ e1f.toInt = i1.toInt ∨ ¬ e2f.toInt = i2.toInt)) mdA n4A (zPl cr0_ inn0_ k10_) - n4A) + 6 * (zNA (i1.toInt = 1 ∧ 1 < (fk 0).toInt ∧ (0 ≤ i2.toInt ∧ i2.toInt < (fk 2).toInt ∧ i2.toInt < 2) ∧ (e0f.toInt = 0 ∨ ¬ e1f.toInt = i1.toInt ∨ ¬ e2f.toInt = i2.toInt)) mdB n4B (zPl cr1_ inn1_ k11_) - n4B) + 2 * (zNF (i1.toInt = 1 ∧ 1 < (fk 0).toInt ∧ (0 ≤ i2.toInt ∧ i2.toInt < (fk 2).toInt ∧ i2.toInt < 2) ∧ (e0f.toInt = 0 ∨ ¬ e1f.toInt = i1.toInt ∨ ¬ e2f.toInt = i2.toInt)) (zNF (i1.toInt = 0 ∧ 0 < (fk 0).toInt ∧ (0 ≤ i2.toInt ∧ i2.toInt < (fk 2).toInt ∧ i2.toInt < 2) ∧ (e0f.toInt = 0 ∨ ¬ e1f.toInt = i1.toInt ∨ ¬ e2f.toInt = i2.toInt)) m1f (zMw mdA wyA cr0_ inn0_ k10_)) (zMw mdB wyB cr1_ inn1_ k11_) - m1f); omega) (fun r_330 b1 H locs hw G => ?_)
          refine zEx9 hw ?_
          intro w2_316 m2_317 wy2_318 pc2_319 g1_320 g2_321 g4_322 g5_323 g6_324
          refine zCu6 ?_
          intro hbs9 h_325 h_326 h_327 h_328 h_329
          clear hw
          subst hbs9
          have G : zS T A s.heap s [wt, z0_, wg0_, wg1_, wwA_224, wff_246, [zO10 xo t im mk rd po co tr wa wb_ fi cd], w2_316, z1_] _ _ := G
          subst h_325
          have hwy9 : 0 ≤ wy2_318.toInt ∧ wy2_318.toInt ≤ 16384 := by have q9 := zWy_in (inn := inn1_) hI1_; rw [h_327]; exact ⟨by omega, q9.2⟩
          refine lv_astore (lv' := [(5, .ref wb_), (4, .ref l1), (0, .ref xo), (1, .int i1), (2, .int i2), (3, .int w_)]) hx hb dX11_fits_38 hl (by decide) (zLvf_h rfl) (fun ls hl => ?_)
          refine lv_iload_n hx hb dX11_fits_40 rfl (lv_at hl 5 rfl) ?_
          refine lv_if_ne (tgt := 52) hx hb dX11_fits_41 (by decide) (fun c_331 => ?_) (fun c_331 => ?_)
          · have c_331n : ¬ w_.toInt = (0 : Int) := fun q => c_331 ((fa_eq _ _).mpr q)
            refine lv_iload_n hx hb dX11_fits_52 rfl (lv_at hl 5 rfl) ?_
            refine lv_iconst (v := 1) hx hb dX11_fits_53 (by decide) ?_
            refine lv_icmp_ne (tgt := 67) hx hb dX11_fits_54 (by decide) (fun c_332 => ?_) (fun c_332 => ?_)
            · have c_332n : ¬ w_.toInt = (1 : Int) := fun q => c_332 ((fa_eq _ _).mpr q)
              refine lv_iload_n hx hb dX11_fits_67 rfl (lv_at hl 5 rfl) ?_
              refine lv_bipush (v := 9) hx hb dX11_fits_68 (by decide) ?_
              refine lv_icmp_ge (tgt := 86) hx hb dX11_fits_70 (by decide) (fun c_333 => ?_) (fun c_333 => ?_)
              · have c_333n : (9 : Int) ≤ w_.toInt := (fa_le _ _).mp c_333
                refine lv_iload_n hx hb dX11_fits_86 rfl (lv_at hl 5 rfl) ?_
                refine lv_bipush (v := 10) hx hb dX11_fits_87 (by decide) ?_
                refine lv_isub hx hb dX11_fits_89 ?_
                refine lv_topi (fun y_334 ey_334 => ?_)
                have ey_334i : y_334.toInt = w_.toInt - (10 : Int) := by rw [ey_334]; exact z_isubI (x := w_) (y := (10 : Int32)) (by show -2147483648 ≤ w_.toInt - (10 : Int); omega) (by show w_.toInt - (10 : Int) < 2147483648; omega)
                refine lv_istore (lv' := [(6, .int y_334), (5, .ref wb_), (4, .ref l1), (0, .ref xo), (1, .int i1), (2, .int i2), (3, .int w_)]) hx hb dX11_fits_90 hl (by decide) (zLvf_h rfl) (fun ls hl => ?_)
                refine lv_iload hx hb dX11_fits_92 (lv_at hl 0 rfl) ?_
                refine lv_if_lt (tgt := 126) hx hb dX11_fits_94 (by decide) (fun c_335 => ?_) (fun c_335 => ?_)
                · have c_335n : y_334.toInt < (0 : Int) := (fa_lt _ _).mp c_335
                  refine lv_bipush (v := (-2)) hx hb dX11_fits_126 (by decide) ?_
                  have G := G.sub (bs' := [[zO10 xo t im mk rd po co tr wa wb_ fi cd], wt, z0_, z1_, wg0_, wg1_, wwA_224, w2_316, wff_246]) [6, 0, 1, 8, 2, 3, 4, 7, 5] rfl
                  exact z_back hQz_ (z_iret C hr hlocks G (Nat.le_of_ble_eq_true rfl) (by omega) dX11_fits_128 ⟨laA_213, mdA_214, wyA_215, pc_A_216, f1A_217, f2A_218, f3A_219, f4A_220, f5A_221, f6A_222, n4A_223, wwA_224, l1, m2_317, wy2_318, pc2_319, g1_320, g2_321, f3B_231, g4_322, g5_323, g6_324, (zMk mdB_226 n4B_235 (zPl cr1_ inn1_ k11_)), w2_316, e0f_237, e1f_238, e2f_239, (nI (gN (fun w => gF (aW cr1_ inn1_ k11_) k21_ cr1_ inn1_ q11_ q21_ w gg1_.toInt.toNat) (aPr (aW cr1_ inn1_ k11_) 7))), e4f_241, e5f_242, r1f_243, m1f_244, r2f_245, wff_246, rfl, h_247, h_248, h_249, h_250, h_251, h_252, h_253, h_326, (Or.inr rfl), hwy9, (hzk.trans h_257), (by rw [hzk]; exact h_258), (fun _ => h_328), (Or.inr h_329), h_261, h_262, h_263, h_264, (fun q => (h_266 q).elim (fun w => Or.inl ⟨w.1, w.2⟩) (fun w => Or.inr ⟨w.1, h_328⟩)), h_267, h_268, h_269, h_270, (Or.inr (Or.inr (Or.inr (Or.inr (⟨⟨by omega, by omega⟩, ⟨by omega, by omega⟩, (by unfold kFits gFits; rw [if_neg (show ¬ w_.toInt < 0 by omega), if_neg (by omega), if_neg (by omega), if_neg (by omega), if_neg (by show ¬ (10 ≤ w_.toInt ∧ w_.toInt - 10 < ((gN (fun w => gF (aW cr1_ inn1_ k11_) k21_ cr1_ inn1_ q11_ q21_ w gg1_.toInt.toNat) (aPr (aW cr1_ inn1_ k11_) 7) : Nat) : Int)); omega)])⟩)))))⟩)
                · have c_335n : ¬ y_334.toInt < (0 : Int) := fun q => c_335 ((fa_lt _ _).mpr q)
                  refine lv_iload hx hb dX11_fits_97 (lv_at hl 0 rfl) ?_
                  refine lv_aload_n hx hb dX11_fits_99 rfl (lv_at hl 3 rfl) ?_
                  refine z_get C G clX11 6 rfl 9 (by decide) m_fl_RX11_65 rfl dX11_fits_100 ?_
                  refine zEx2 h_261 ?_
                  intro a1_336 a2_337 hbs9
                  clear h_261
                  subst hbs9
                  have G : zS T A s.heap s [wt, z0_, wg0_, wg1_, wwA_224, [zO3 fi e0f_237 e1f_238 e2f_239 (nI (gN (fun w => gF (aW cr1_ inn1_ k11_) k21_ cr1_ inn1_ q11_ q21_ w gg1_.toInt.toNat) (aPr (aW cr1_ inn1_ k11_) 7))) e4f_241 e5f_242 a1_336 a2_337], [zAr T 0 a1_336 m1f_244 r1f_243], [zAr T 0 a2_337 7 r2f_245], [zO10 xo t im mk rd po co tr wa wb_ fi cd], w2_316, z1_] _ _ := G.re rfl
                  refine z_get C G clX3 5 rfl 3 (by decide) m_fl_RX11_306 rfl dX11_fits_103 ?_
                  refine lv_icmp_ge (tgt := 126) hx hb dX11_fits_106 (by decide) (fun c_338 => ?_) (fun c_338 => ?_)
                  · have c_338n : ((gN (fun w => gF (aW cr1_ inn1_ k11_) k21_ cr1_ inn1_ q11_ q21_ w gg1_.toInt.toNat) (aPr (aW cr1_ inn1_ k11_) 7)) : Int) ≤ y_334.toInt := by have q := (fa_le _ _).mp c_338; rw [nI_toInt (n := gN (fun w => gF (aW cr1_ inn1_ k11_) k21_ cr1_ inn1_ q11_ q21_ w gg1_.toInt.toNat) (aPr (aW cr1_ inn1_ k11_) 7)) (by omega)] at q; exact q
                    refine lv_bipush (v := (-2)) hx hb dX11_fits_126 (by decide) ?_
                    have hw_339 : bFit T fi e0f_237 e1f_238 e2f_239 (nI (gN (fun w => gF (aW cr1_ inn1_ k11_) k21_ cr1_ inn1_ q11_ q21_ w gg1_.toInt.toNat) (aPr (aW cr1_ inn1_ k11_) 7))) e4f_241 e5f_242 r1f_243 m1f_244 r2f_245 [zO3 fi e0f_237 e1f_238 e2f_239 (nI (gN (fun w => gF (aW cr1_ inn1_ k11_) k21_ cr1_ inn1_ q11_ q21_ w gg1_.toInt.toNat) (aPr (aW cr1_ inn1_ k11_) 7))) e4f_241 e5f_242 a1_336 a2_337, zAr T 0 a1_336 m1f_244 r1f_243, zAr T 0 a2_337 7 r2f_245] := ⟨a1_336, a2_337, rfl⟩
                    have G : zS T A s.heap s [wt, z0_, wg0_, wg1_, wwA_224, [zO3 fi e0f_237 e1f_238 e2f_239 (nI (gN (fun w => gF (aW cr1_ inn1_ k11_) k21_ cr1_ inn1_ q11_ q21_ w gg1_.toInt.toNat) (aPr (aW cr1_ inn1_ k11_) 7))) e4f_241 e5f_242 a1_336 a2_337, zAr T 0 a1_336 m1f_244 r1f_243, zAr T 0 a2_337 7 r2f_245], [zO10 xo t im mk rd po co tr wa wb_ fi cd], w2_316, z1_] _ _ := G.re rfl
                    have G := G.sub (bs' := [[zO10 xo t im mk rd po co tr wa wb_ fi cd], wt, z0_, z1_, wg0_, wg1_, wwA_224, w2_316, [zO3 fi e0f_237 e1f_238 e2f_239 (nI (gN (fun w => gF (aW cr1_ inn1_ k11_) k21_ cr1_ inn1_ q11_ q21_ w gg1_.toInt.toNat) (aPr (aW cr1_ inn1_ k11_) 7))) e4f_241 e5f_242 a1_336 a2_337, zAr T 0 a1_336 m1f_244 r1f_243, zAr T 0 a2_337 7 r2f_245]]) [6, 0, 1, 8, 2, 3, 4, 7, 5] rfl
                    exact z_back hQz_ (z_iret C hr hlocks G (Nat.le_of_ble_eq_true rfl) (by omega) dX11_fits_128 ⟨laA_213, mdA_214, wyA_215, pc_A_216, f1A_217, f2A_218, f3A_219, f4A_220, f5A_221, f6A_222, n4A_223, wwA_224, l1, m2_317, wy2_318, pc2_319, g1_320, g2_321, f3B_231, g4_322, g5_323, g6_324, (zMk mdB_226 n4B_235 (zPl cr1_ inn1_ k11_)), w2_316, e0f_237, e1f_238, e2f_239, (nI (gN (fun w => gF (aW cr1_ inn1_ k11_) k21_ cr1_ inn1_ q11_ q21_ w gg1_.toInt.toNat) (aPr (aW cr1_ inn1_ k11_) 7))), e4f_241, e5f_242, r1f_243, m1f_244, r2f_245, ([zO3 fi e0f_237 e1f_238 e2f_239 (nI (gN (fun w => gF (aW cr1_ inn1_ k11_) k21_ cr1_ inn1_ q11_ q21_ w gg1_.toInt.toNat) (aPr (aW cr1_ inn1_ k11_) 7))) e4f_241 e5f_242 a1_336 a2_337, zAr T 0 a1_336 m1f_244 r1f_243, zAr T 0 a2_337 7 r2f_245]), rfl, h_247, h_248, h_249, h_250, h_251, h_252, h_253, h_326, (Or.inr rfl), hwy9, (hzk.trans h_257), (by rw [hzk]; exact h_258), (fun _ => h_328), (Or.inr h_329), hw_339, h_262, h_263, h_264, (fun q => (h_266 q).elim (fun w => Or.inl ⟨w.1, w.2⟩) (fun w => Or.inr ⟨w.1, h_328⟩)), h_267, h_268, h_269, h_270, (Or.inr (Or.inr (Or.inr (Or.inr (⟨⟨by omega, by omega⟩, ⟨by omega, by omega⟩, (by unfold kFits gFits; rw [if_neg (show ¬ w_.toInt < 0 by omega), if_neg (by omega), if_neg (by omega), if_neg (by omega), if_neg (by show ¬ (10 ≤ w_.toInt ∧ w_.toInt - 10 < ((gN (fun w => gF (aW cr1_ inn1_ k11_) k21_ cr1_ inn1_ q11_ q21_ w gg1_.toInt.toNat) (aPr (aW cr1_ inn1_ k11_) 7) : Nat) : Int)); omega)])⟩)))))⟩)
                  · have c_338n : ¬ ((gN (fun w => gF (aW cr1_ inn1_ k11_) k21_ cr1_ inn1_ q11_ q21_ w gg1_.toInt.toNat) (aPr (aW cr1_ inn1_ k11_) 7)) : Int) ≤ y_334.toInt := fun q => c_338 ((fa_le _ _).mpr (by rw [nI_toInt (n := gN (fun w => gF (aW cr1_ inn1_ k11_) k21_ cr1_ inn1_ q11_ q21_ w gg1_.toInt.toNat) (aPr (aW cr1_ inn1_ k11_) 7)) (by omega)]; exact q))
                    refine lv_aload hx hb dX11_fits_109 (lv_at hl 1 rfl) ?_
                    refine lv_aload_n hx hb dX11_fits_111 rfl (lv_at hl 3 rfl) ?_
                    refine z_get C G clX11 8 rfl 9 (by decide) m_fl_RX11_65 rfl dX11_fits_112 ?_
                    refine lv_iload hx hb dX11_fits_115 (lv_at hl 0 rfl) ?_
                    have hw_340 : bFit T fi e0f_237 e1f_238 e2f_239 (nI (gN (fun w => gF (aW cr1_ inn1_ k11_) k21_ cr1_ inn1_ q11_ q21_ w gg1_.toInt.toNat) (aPr (aW cr1_ inn1_ k11_) 7))) e4f_241 e5f_242 r1f_243 m1f_244 r2f_245 [zO3 fi e0f_237 e1f_238 e2f_239 (nI (gN (fun w => gF (aW cr1_ inn1_ k11_) k21_ cr1_ inn1_ q11_ q21_ w gg1_.toInt.toNat) (aPr (aW cr1_ inn1_ k11_) 7))) e4f_241 e5f_242 a1_336 a2_337, zAr T 0 a1_336 m1f_244 r1f_243, zAr T 0 a2_337 7 r2f_245] := ⟨a1_336, a2_337, rfl⟩
                    have G : zS T A s.heap s [wt, z0_, wg0_, wg1_, wwA_224, [zO3 fi e0f_237 e1f_238 e2f_239 (nI (gN (fun w => gF (aW cr1_ inn1_ k11_) k21_ cr1_ inn1_ q11_ q21_ w gg1_.toInt.toNat) (aPr (aW cr1_ inn1_ k11_) 7))) e4f_241 e5f_242 a1_336 a2_337, zAr T 0 a1_336 m1f_244 r1f_243, zAr T 0 a2_337 7 r2f_245], [zO10 xo t im mk rd po co tr wa wb_ fi cd], w2_316, z1_] _ _ := G.re rfl
                    refine z_Vi (bc := [[zO3 fi e0f_237 e1f_238 e2f_239 (nI (gN (fun w => gF (aW cr1_ inn1_ k11_) k21_ cr1_ inn1_ q11_ q21_ w gg1_.toInt.toNat) (aPr (aW cr1_ inn1_ k11_) 7))) e4f_241 e5f_242 a1_336 a2_337, zAr T 0 a1_336 m1f_244 r1f_243, zAr T 0 a2_337 7 r2f_245]]) (br := [wt, z0_, wg0_, wg1_, wwA_224, [zO10 xo t im mk rd po co tr wa wb_ fi cd], w2_316, z1_]) (As := [.int y_334]) (rest := [.ref wb_]) C G (c_way l T fi e0f_237 e1f_238 e2f_239 (nI (gN (fun w => gF (aW cr1_ inn1_ k11_) k21_ cr1_ inn1_ q11_ q21_ w gg1_.toInt.toNat) (aPr (aW cr1_ inn1_ k11_) 7))) e4f_241 e5f_242 r1f_243 m1f_244 r2f_245 ([zO3 fi e0f_237 e1f_238 e2f_239 (nI (gN (fun w => gF (aW cr1_ inn1_ k11_) k21_ cr1_ inn1_ q11_ q21_ w gg1_.toInt.toNat) (aPr (aW cr1_ inn1_ k11_) 7))) e4f_241 e5f_242 a1_336 a2_337, zAr T 0 a1_336 m1f_244 r1f_243, zAr T 0 a2_337 7 r2f_245]) y_334 hw_340 hfm9) (kV_RX11_317 C.2.2.2.2 (Nat.le_of_ble_eq_true rfl) (Nat.le_of_ble_eq_true rfl)) [5] [5] rfl rfl (ci := 3) (qc := (RX3, TX3, 8)) rfl rfl (List.mem_flatten.mpr ⟨_, List.mem_of_getElem? (i := 0) rfl, (bFit_mem hw_340).choose_spec⟩) rfl rfl hl.1 dX11_fits_117 (Nat.le_of_ble_eq_true rfl) (by show _ + 0 ≤ 6 * (zNA (i1.toInt = 0 ∧ 0 < (fk 0).toInt ∧ (0 ≤ i2.toInt ∧ i2.toInt < (fk 2).toInt ∧ i2.toInt < 2) ∧ (e0f.toInt = 0 ∨ ¬ e1f.toInt = i1.toInt ∨ ¬ e2f.toInt = i2.toInt)) mdA n4A (zPl cr0_ inn0_ k10_) - n4A) + 6 * (zNA (i1.toInt = 1 ∧ 1 < (fk 0).toInt ∧ (0 ≤ i2.toInt ∧ i2.toInt < (fk 2).toInt ∧ i2.toInt < 2) ∧ (e0f.toInt = 0 ∨ ¬ e1f.toInt = i1.toInt ∨ ¬ e2f.toInt = i2.toInt)) mdB n4B (zPl cr1_ inn1_ k11_) - n4B) + 2 * (zNF (i1.toInt = 1 ∧ 1 < (fk 0).toInt ∧ (0 ≤ i2.toInt ∧ i2.toInt < (fk 2).toInt ∧ i2.toInt < 2) ∧ (e0f.toInt = 0 ∨ ¬ e1f.toInt = i1.toInt ∨ ¬ e2f.toInt = i2.toInt)) (zNF (i1.toInt = 0 ∧ 0 < (fk 0).toInt ∧ (0 ≤ i2.toInt ∧ i2.toInt < (fk 2).toInt ∧ i2.toInt < 2) ∧ (e0f.toInt = 0 ∨ ¬ e1f.toInt = i1.toInt ∨ ¬ e2f.toInt = i2.toInt)) m1f (zMw mdA wyA cr0_ inn0_ k10_)) (zMw mdB wyB cr1_ inn1_ k11_) - m1f); omega) (fun r_342 b1 H locs hw G => ?_)
                    refine zAn2 hw ?_
                    intro hbs9 h_341
                    clear hw
                    subst hbs9
                    have G : zS T A s.heap s [wt, z0_, wg0_, wg1_, wwA_224, [zO10 xo t im mk rd po co tr wa wb_ fi cd], w2_316, z1_, [zO3 fi e0f_237 e1f_238 e2f_239 (nI (gN (fun w => gF (aW cr1_ inn1_ k11_) k21_ cr1_ inn1_ q11_ q21_ w gg1_.toInt.toNat) (aPr (aW cr1_ inn1_ k11_) 7))) e4f_241 e5f_242 a1_336 a2_337, zAr T 0 a1_336 m1f_244 r1f_243, zAr T 0 a2_337 7 r2f_245]] _ _ := G
                    subst h_341
                    have hyn9 : y_334 = nI (w_.toInt - 10).toNat := z_nI (by omega) (by omega)
                    have hwx9 := (gWk_x (f := (fun w => gF (aW cr1_ inn1_ k11_) k21_ cr1_ inn1_ q11_ q21_ w gg1_.toInt.toNat)) (k := (w_.toInt - 10).toNat) (aPr (aW cr1_ inn1_ k11_) 7) (by omega)).1
                    refine lv_topi (fun y_343 ey_343 => ?_)
                    obtain rfl : y_343 = nI (gWk (fun w => gF (aW cr1_ inn1_ k11_) k21_ cr1_ inn1_ q11_ q21_ w gg1_.toInt.toNat) (aPr (aW cr1_ inn1_ k11_) 7) (w_.toInt - 10).toNat) := ey_343.trans ((by have q9 := zFway_e (i := (w_.toInt - 10).toNat) hGk9 (by omega) hml9; rw [← hyn9] at q9; exact q9))
                    refine z_Vi (bc := [w2_316, z1_]) (br := [wt, z0_, wg0_, wg1_, wwA_224, [zO10 xo t im mk rd po co tr wa wb_ fi cd], [zO3 fi e0f_237 e1f_238 e2f_239 (nI (gN (fun w => gF (aW cr1_ inn1_ k11_) k21_ cr1_ inn1_ q11_ q21_ w gg1_.toInt.toNat) (aPr (aW cr1_ inn1_ k11_) 7))) e4f_241 e5f_242 a1_336 a2_337, zAr T 0 a1_336 m1f_244 r1f_243, zAr T 0 a2_337 7 r2f_245]]) (As := [.int (nI (gWk (fun w => gF (aW cr1_ inn1_ k11_) k21_ cr1_ inn1_ q11_ q21_ w gg1_.toInt.toNat) (aPr (aW cr1_ inn1_ k11_) 7) (w_.toInt - 10).toNat))]) (rest := []) C G (c_f_number l T wb_ l1 m2_317 wy2_318 pc2_319 g1_320 g2_321 f3B_231 g4_322 g5_323 g6_324 (zMk mdB_226 n4B_235 (zPl cr1_ inn1_ k11_)) w2_316 cr1_ inn1_ k11_ k21_ k31_ k41_ z1_ (nI (gWk (fun w => gF (aW cr1_ inn1_ k11_) k21_ cr1_ inn1_ q11_ q21_ w gg1_.toInt.toNat) (aPr (aW cr1_ inn1_ k11_) 7) (w_.toInt - 10).toNat)) h_326 hz1_ hI1_ h_329.2.2.1 hOk9 (by rw [nI_toInt (by omega)]; omega)) (kV_RX11_272 C.2.2.2.2 (Nat.le_of_ble_eq_true rfl) (Nat.le_of_ble_eq_true rfl)) [6, 7] [6, 0] rfl rfl (ci := 0) (qc := (RX0, TX0, 10)) rfl rfl (List.mem_flatten.mpr ⟨_, List.mem_of_getElem? (i := 0) rfl, (bWays_mem h_326).choose_spec⟩) rfl rfl hl.1 dX11_fits_120 (Nat.le_of_ble_eq_true rfl) (by show _ + 0 ≤ 6 * (zNA (i1.toInt = 0 ∧ 0 < (fk 0).toInt ∧ (0 ≤ i2.toInt ∧ i2.toInt < (fk 2).toInt ∧ i2.toInt < 2) ∧ (e0f.toInt = 0 ∨ ¬ e1f.toInt = i1.toInt ∨ ¬ e2f.toInt = i2.toInt)) mdA n4A (zPl cr0_ inn0_ k10_) - n4A) + 6 * (zNA (i1.toInt = 1 ∧ 1 < (fk 0).toInt ∧ (0 ≤ i2.toInt ∧ i2.toInt < (fk 2).toInt ∧ i2.toInt < 2) ∧ (e0f.toInt = 0 ∨ ¬ e1f.toInt = i1.toInt ∨ ¬ e2f.toInt = i2.toInt)) mdB n4B (zPl cr1_ inn1_ k11_) - n4B) + 2 * (zNF (i1.toInt = 1 ∧ 1 < (fk 0).toInt ∧ (0 ≤ i2.toInt ∧ i2.toInt < (fk 2).toInt ∧ i2.toInt < 2) ∧ (e0f.toInt = 0 ∨ ¬ e1f.toInt = i1.toInt ∨ ¬ e2f.toInt = i2.toInt)) (zNF (i1.toInt = 0 ∧ 0 < (fk 0).toInt ∧ (0 ≤ i2.toInt ∧ i2.toInt < (fk 2).toInt ∧ i2.toInt < 2) ∧ (e0f.toInt = 0 ∨ ¬ e1f.toInt = i1.toInt ∨ ¬ e2f.toInt = i2.toInt)) m1f (zMw mdA wyA cr0_ inn0_ k10_)) (zMw mdB wyB cr1_ inn1_ k11_) - m1f); omega) (fun r_345 b1 H locs hw G => ?_)
                    refine zAn2 hw ?_
                    intro hbs9 h_344
                    clear hw
                    subst hbs9
                    have G : zS T A s.heap s [wt, z0_, wg0_, wg1_, wwA_224, [zO10 xo t im mk rd po co tr wa wb_ fi cd], [zO3 fi e0f_237 e1f_238 e2f_239 (nI (gN (fun w => gF (aW cr1_ inn1_ k11_) k21_ cr1_ inn1_ q11_ q21_ w gg1_.toInt.toNat) (aPr (aW cr1_ inn1_ k11_) 7))) e4f_241 e5f_242 a1_336 a2_337, zAr T 0 a1_336 m1f_244 r1f_243, zAr T 0 a2_337 7 r2f_245], w2_316, z1_] _ _ := G
                    refine lv_goto (tgt := 128) hx hb dX11_fits_123 (by decide) ?_
                    have G := G.sub (bs' := [[zO10 xo t im mk rd po co tr wa wb_ fi cd], wt, z0_, z1_, wg0_, wg1_, wwA_224, w2_316, [zO3 fi e0f_237 e1f_238 e2f_239 (nI (gN (fun w => gF (aW cr1_ inn1_ k11_) k21_ cr1_ inn1_ q11_ q21_ w gg1_.toInt.toNat) (aPr (aW cr1_ inn1_ k11_) 7))) e4f_241 e5f_242 a1_336 a2_337, zAr T 0 a1_336 m1f_244 r1f_243, zAr T 0 a2_337 7 r2f_245]]) [5, 0, 1, 8, 2, 3, 4, 7, 6] rfl
                    exact z_back hQz_ (z_iret C hr hlocks G (Nat.le_of_ble_eq_true rfl) (by omega) dX11_fits_128 ⟨laA_213, mdA_214, wyA_215, pc_A_216, f1A_217, f2A_218, f3A_219, f4A_220, f5A_221, f6A_222, n4A_223, wwA_224, l1, m2_317, wy2_318, pc2_319, g1_320, g2_321, f3B_231, g4_322, g5_323, g6_324, (zMk mdB_226 n4B_235 (zPl cr1_ inn1_ k11_)), w2_316, e0f_237, e1f_238, e2f_239, (nI (gN (fun w => gF (aW cr1_ inn1_ k11_) k21_ cr1_ inn1_ q11_ q21_ w gg1_.toInt.toNat) (aPr (aW cr1_ inn1_ k11_) 7))), e4f_241, e5f_242, r1f_243, m1f_244, r2f_245, ([zO3 fi e0f_237 e1f_238 e2f_239 (nI (gN (fun w => gF (aW cr1_ inn1_ k11_) k21_ cr1_ inn1_ q11_ q21_ w gg1_.toInt.toNat) (aPr (aW cr1_ inn1_ k11_) 7))) e4f_241 e5f_242 a1_336 a2_337, zAr T 0 a1_336 m1f_244 r1f_243, zAr T 0 a2_337 7 r2f_245]), rfl, h_247, h_248, h_249, h_250, h_251, h_252, h_253, h_326, (Or.inr rfl), hwy9, (hzk.trans h_257), (by rw [hzk]; exact h_258), (fun _ => h_328), (Or.inr h_329), hw_340, h_262, h_263, h_264, (fun q => (h_266 q).elim (fun w => Or.inl ⟨w.1, w.2⟩) (fun w => Or.inr ⟨w.1, h_328⟩)), h_267, h_268, h_269, h_270, (Or.inr (Or.inr (Or.inr (Or.inr (⟨⟨by omega, by omega⟩, ⟨by omega, by omega⟩, (by unfold kFits gFits; first | (rw [if_neg (show ¬ w_.toInt < 0 by omega), if_neg (by omega), if_pos (by omega)]; exact h_344) | (rw [if_neg (show ¬ w_.toInt < 0 by omega), if_neg (by omega), if_neg (by omega), if_pos (by omega)]; refine h_344.trans ?_; rw [show (w_.toInt - 2).toNat = y_305.toInt.toNat by omega]; by_cases z9 : gN (fun w => gF (aW cr1_ inn1_ k11_) k21_ cr1_ inn1_ q11_ q21_ w gg1_.toInt.toNat) (aPr (aW cr1_ inn1_ k11_) 7) = 0 ∨ ¬ w_.toInt - 2 < ((cr1_.toInt.toNat : Nat) : Int) <;> first | (rw [if_pos (z9.imp id (fun q9 => by omega))]; exact (if_pos z9).symm) | (rw [if_neg (fun q9 => z9 (q9.imp id (fun q8 => by omega)))]; exact (if_neg z9).symm)) | (rw [if_neg (show ¬ w_.toInt < 0 by omega), if_neg (by omega), if_neg (by omega), if_neg (by omega), if_pos (by show 10 ≤ w_.toInt ∧ w_.toInt - 10 < ((gN (fun w => gF (aW cr1_ inn1_ k11_) k21_ cr1_ inn1_ q11_ q21_ w gg1_.toInt.toNat) (aPr (aW cr1_ inn1_ k11_) 7) : Nat) : Int); omega)]; refine h_344.trans ?_; rw [nI_n (by omega)]; rfl))⟩)))))⟩)
              · have c_333n : ¬ (9 : Int) ≤ w_.toInt := fun q => c_333 ((fa_le _ _).mpr q)
                refine lv_aload_n hx hb dX11_fits_73 rfl (lv_at hl 2 rfl) ?_
                refine z_get C G clX11 6 rfl 9 (by decide) m_fl_RX11_65 rfl dX11_fits_74 ?_
                refine lv_aload hx hb dX11_fits_77 (lv_at hl 0 rfl) ?_
                refine lv_iload_n hx hb dX11_fits_79 rfl (lv_at hl 5 rfl) ?_
                refine lv_iconst (v := 2) hx hb dX11_fits_80 (by decide) ?_
                refine lv_isub hx hb dX11_fits_81 ?_
                refine lv_topi (fun y_346 ey_346 => ?_)
                have ey_346i : y_346.toInt = w_.toInt - (2 : Int) := by rw [ey_346]; exact z_isubI (x := w_) (y := (2 : Int32)) (by show -2147483648 ≤ w_.toInt - (2 : Int); omega) (by show w_.toInt - (2 : Int) < 2147483648; omega)
                refine z_Vi (bc := [wff_246, w2_316, z1_]) (br := [wt, z0_, wg0_, wg1_, wwA_224, [zO10 xo t im mk rd po co tr wa wb_ fi cd]]) (As := [.ref wb_, .int y_346]) (rest := []) C G (c_e_sure l T fi e0f_237 e1f_238 e2f_239 e4f_241 e5f_242 r1f_243 m1f_244 r2f_245 wff_246 (gN (fun w => gF (aW cr1_ inn1_ k11_) k21_ cr1_ inn1_ q11_ q21_ w gg1_.toInt.toNat) (aPr (aW cr1_ inn1_ k11_) 7)) wb_ l1 m2_317 wy2_318 pc2_319 g1_320 g2_321 f3B_231 g4_322 g5_323 g6_324 (zMk mdB_226 n4B_235 (zPl cr1_ inn1_ k11_)) w2_316 cr1_ inn1_ k11_ k21_ k31_ k41_ z1_ (fun w => gF (aW cr1_ inn1_ k11_) k21_ cr1_ inn1_ q11_ q21_ w gg1_.toInt.toNat) (aPr (aW cr1_ inn1_ k11_) 7) y_346 h_261 h_326 hz1_ hn9 hI1_ h_329.2.2.1 hGk9 rfl hml9 hfm9) (kV_RX11_313 C.2.2.2.2 (Nat.le_of_ble_eq_true rfl) (Nat.le_of_ble_eq_true rfl)) [5, 7, 8] [5, 1, 0] rfl rfl (ci := 3) (qc := (RX3, TX3, 8)) rfl rfl (List.mem_flatten.mpr ⟨_, List.mem_of_getElem? (i := 0) rfl, (bFit_mem h_261).choose_spec⟩) rfl rfl hl.1 dX11_fits_82 (Nat.le_of_ble_eq_true rfl) (by show _ + 0 ≤ 6 * (zNA (i1.toInt = 0 ∧ 0 < (fk 0).toInt ∧ (0 ≤ i2.toInt ∧ i2.toInt < (fk 2).toInt ∧ i2.toInt < 2) ∧ (e0f.toInt = 0 ∨ ¬ e1f.toInt = i1.toInt ∨ ¬ e2f.toInt = i2.toInt)) mdA n4A (zPl cr0_ inn0_ k10_) - n4A) + 6 * (zNA (i1.toInt = 1 ∧ 1 < (fk 0).toInt ∧ (0 ≤ i2.toInt ∧ i2.toInt < (fk 2).toInt ∧ i2.toInt < 2) ∧ (e0f.toInt = 0 ∨ ¬ e1f.toInt = i1.toInt ∨ ¬ e2f.toInt = i2.toInt)) mdB n4B (zPl cr1_ inn1_ k11_) - n4B) + 2 * (zNF (i1.toInt = 1 ∧ 1 < (fk 0).toInt ∧ (0 ≤ i2.toInt ∧ i2.toInt < (fk 2).toInt ∧ i2.toInt < 2) ∧ (e0f.toInt = 0 ∨ ¬ e1f.toInt = i1.toInt ∨ ¬ e2f.toInt = i2.toInt)) (zNF (i1.toInt = 0 ∧ 0 < (fk 0).toInt ∧ (0 ≤ i2.toInt ∧ i2.toInt < (fk 2).toInt ∧ i2.toInt < 2) ∧ (e0f.toInt = 0 ∨ ¬ e1f.toInt = i1.toInt ∨ ¬ e2f.toInt = i2.toInt)) m1f (zMw mdA wyA cr0_ inn0_ k10_)) (zMw mdB wyB cr1_ inn1_ k11_) - m1f); omega) (fun r_348 b1 H locs hw G => ?_)
                refine zAn2 hw ?_
                intro hbs9 h_347
                clear hw
                subst hbs9
                have G : zS T A s.heap s [wt, z0_, wg0_, wg1_, wwA_224, [zO10 xo t im mk rd po co tr wa wb_ fi cd], wff_246, w2_316, z1_] _ _ := G
                have G := G.sub (bs' := [[zO10 xo t im mk rd po co tr wa wb_ fi cd], wt, z0_, z1_, wg0_, wg1_, wwA_224, w2_316, wff_246]) [5, 0, 1, 8, 2, 3, 4, 7, 6] rfl
                exact z_back hQz_ (z_iret C hr hlocks G (Nat.le_of_ble_eq_true rfl) (by omega) dX11_fits_85 ⟨laA_213, mdA_214, wyA_215, pc_A_216, f1A_217, f2A_218, f3A_219, f4A_220, f5A_221, f6A_222, n4A_223, wwA_224, l1, m2_317, wy2_318, pc2_319, g1_320, g2_321, f3B_231, g4_322, g5_323, g6_324, (zMk mdB_226 n4B_235 (zPl cr1_ inn1_ k11_)), w2_316, e0f_237, e1f_238, e2f_239, (nI (gN (fun w => gF (aW cr1_ inn1_ k11_) k21_ cr1_ inn1_ q11_ q21_ w gg1_.toInt.toNat) (aPr (aW cr1_ inn1_ k11_) 7))), e4f_241, e5f_242, r1f_243, m1f_244, r2f_245, wff_246, rfl, h_247, h_248, h_249, h_250, h_251, h_252, h_253, h_326, (Or.inr rfl), hwy9, (hzk.trans h_257), (by rw [hzk]; exact h_258), (fun _ => h_328), (Or.inr h_329), h_261, h_262, h_263, h_264, (fun q => (h_266 q).elim (fun w => Or.inl ⟨w.1, w.2⟩) (fun w => Or.inr ⟨w.1, h_328⟩)), h_267, h_268, h_269, h_270, (Or.inr (Or.inr (Or.inr (Or.inr (⟨⟨by omega, by omega⟩, ⟨by omega, by omega⟩, (by unfold kFits gFits; first | (rw [if_neg (show ¬ w_.toInt < 0 by omega), if_neg (by omega), if_pos (by omega)]; exact h_347) | (rw [if_neg (show ¬ w_.toInt < 0 by omega), if_neg (by omega), if_neg (by omega), if_pos (by omega)]; refine h_347.trans ?_; rw [show (w_.toInt - 2).toNat = y_346.toInt.toNat by omega]; by_cases z9 : gN (fun w => gF (aW cr1_ inn1_ k11_) k21_ cr1_ inn1_ q11_ q21_ w gg1_.toInt.toNat) (aPr (aW cr1_ inn1_ k11_) 7) = 0 ∨ ¬ w_.toInt - 2 < ((cr1_.toInt.toNat : Nat) : Int) <;> first | (rw [if_pos (z9.imp id (fun q9 => by omega))]; exact (if_pos z9).symm) | (rw [if_neg (fun q9 => z9 (q9.imp id (fun q8 => by omega)))]; exact (if_neg z9).symm)) | (rw [if_neg (show ¬ w_.toInt < 0 by omega), if_neg (by omega), if_neg (by omega), if_neg (by omega), if_pos (by show 10 ≤ w_.toInt ∧ w_.toInt - 10 < ((gN (fun w => gF (aW cr1_ inn1_ k11_) k21_ cr1_ inn1_ q11_ q21_ w gg1_.toInt.toNat) (aPr (aW cr1_ inn1_ k11_) 7) : Nat) : Int); omega)]; refine h_347.trans ?_; rw [nI_n (by omega)]; rfl))⟩)))))⟩)
            · have c_332n : w_.toInt = (1 : Int) := (fa_eq _ _).mp c_332
              refine lv_aload_n hx hb dX11_fits_57 rfl (lv_at hl 2 rfl) ?_
              refine z_get C G clX11 6 rfl 9 (by decide) m_fl_RX11_65 rfl dX11_fits_58 ?_
              refine lv_aload hx hb dX11_fits_61 (lv_at hl 0 rfl) ?_
              refine z_Vi (bc := [wff_246, w2_316, z1_]) (br := [wt, z0_, wg0_, wg1_, wwA_224, [zO10 xo t im mk rd po co tr wa wb_ fi cd]]) (As := [.ref wb_]) (rest := []) C G (c_e_ask l T fi e0f_237 e1f_238 e2f_239 e4f_241 e5f_242 r1f_243 m1f_244 r2f_245 wff_246 (gN (fun w => gF (aW cr1_ inn1_ k11_) k21_ cr1_ inn1_ q11_ q21_ w gg1_.toInt.toNat) (aPr (aW cr1_ inn1_ k11_) 7)) wb_ l1 m2_317 wy2_318 pc2_319 g1_320 g2_321 f3B_231 g4_322 g5_323 g6_324 (zMk mdB_226 n4B_235 (zPl cr1_ inn1_ k11_)) w2_316 cr1_ inn1_ k11_ k21_ k31_ k41_ z1_ (fun w => gF (aW cr1_ inn1_ k11_) k21_ cr1_ inn1_ q11_ q21_ w gg1_.toInt.toNat) (aPr (aW cr1_ inn1_ k11_) 7) h_261 h_326 hz1_ hn9 hI1_ h_329 hLq1 hGk9 rfl hml9 hfm9) (kV_RX11_309 C.2.2.2.2 (Nat.le_of_ble_eq_true rfl) (Nat.le_of_ble_eq_true rfl)) [5, 7, 8] [5, 1, 0] rfl rfl (ci := 3) (qc := (RX3, TX3, 8)) rfl rfl (List.mem_flatten.mpr ⟨_, List.mem_of_getElem? (i := 0) rfl, (bFit_mem h_261).choose_spec⟩) rfl rfl hl.1 dX11_fits_63 (Nat.le_of_ble_eq_true rfl) (by show _ + 0 ≤ 6 * (zNA (i1.toInt = 0 ∧ 0 < (fk 0).toInt ∧ (0 ≤ i2.toInt ∧ i2.toInt < (fk 2).toInt ∧ i2.toInt < 2) ∧ (e0f.toInt = 0 ∨ ¬ e1f.toInt = i1.toInt ∨ ¬ e2f.toInt = i2.toInt)) mdA n4A (zPl cr0_ inn0_ k10_) - n4A) + 6 * (zNA (i1.toInt = 1 ∧ 1 < (fk 0).toInt ∧ (0 ≤ i2.toInt ∧ i2.toInt < (fk 2).toInt ∧ i2.toInt < 2) ∧ (e0f.toInt = 0 ∨ ¬ e1f.toInt = i1.toInt ∨ ¬ e2f.toInt = i2.toInt)) mdB n4B (zPl cr1_ inn1_ k11_) - n4B) + 2 * (zNF (i1.toInt = 1 ∧ 1 < (fk 0).toInt ∧ (0 ≤ i2.toInt ∧ i2.toInt < (fk 2).toInt ∧ i2.toInt < 2) ∧ (e0f.toInt = 0 ∨ ¬ e1f.toInt = i1.toInt ∨ ¬ e2f.toInt = i2.toInt)) (zNF (i1.toInt = 0 ∧ 0 < (fk 0).toInt ∧ (0 ≤ i2.toInt ∧ i2.toInt < (fk 2).toInt ∧ i2.toInt < 2) ∧ (e0f.toInt = 0 ∨ ¬ e1f.toInt = i1.toInt ∨ ¬ e2f.toInt = i2.toInt)) m1f (zMw mdA wyA cr0_ inn0_ k10_)) (zMw mdB wyB cr1_ inn1_ k11_) - m1f); omega) (fun r_353 b1 H locs hw G => ?_)
              refine zEx2 hw ?_
              intro w2_349 g2_350
              refine zCu3 ?_
              intro hbs9 h_351 h_352
              clear hw
              subst hbs9
              have G : zS T A s.heap s [wt, z0_, wg0_, wg1_, wwA_224, [zO10 xo t im mk rd po co tr wa wb_ fi cd], w2_349, w2_316, z1_] _ _ := G
              have G := G.sub (bs' := [[zO10 xo t im mk rd po co tr wa wb_ fi cd], wt, z0_, z1_, wg0_, wg1_, wwA_224, w2_316, w2_349]) [5, 0, 1, 8, 2, 3, 4, 7, 6] rfl
              exact z_back hQz_ (z_iret C hr hlocks G (Nat.le_of_ble_eq_true rfl) (by omega) dX11_fits_66 ⟨laA_213, mdA_214, wyA_215, pc_A_216, f1A_217, f2A_218, f3A_219, f4A_220, f5A_221, f6A_222, n4A_223, wwA_224, l1, m2_317, wy2_318, pc2_319, g1_320, g2_321, f3B_231, g4_322, g5_323, g6_324, (zMk mdB_226 n4B_235 (zPl cr1_ inn1_ k11_)), w2_316, e0f_237, e1f_238, e2f_239, (nI (gN (fun w => gF (aW cr1_ inn1_ k11_) k21_ cr1_ inn1_ q11_ q21_ w gg1_.toInt.toNat) (aPr (aW cr1_ inn1_ k11_) 7))), e4f_241, e5f_242, r1f_243, m1f_244, g2_350, w2_349, rfl, h_247, h_248, h_249, h_250, h_251, h_252, h_253, h_326, (Or.inr rfl), hwy9, (hzk.trans h_257), (by rw [hzk]; exact h_258), (fun _ => h_328), (Or.inr h_329), h_351, h_262, h_263, h_264, (fun q => (h_266 q).elim (fun w => Or.inl ⟨w.1, w.2⟩) (fun w => Or.inr ⟨w.1, h_328⟩)), h_267, h_268, h_269, h_270, (Or.inr (Or.inr (Or.inr (Or.inr (⟨⟨by omega, by omega⟩, ⟨by omega, by omega⟩, (by unfold kFits gFits; first | (rw [if_neg (show ¬ w_.toInt < 0 by omega), if_neg (by omega), if_pos (by omega)]; exact h_352) | (rw [if_neg (show ¬ w_.toInt < 0 by omega), if_neg (by omega), if_neg (by omega), if_pos (by omega)]; refine h_352.trans ?_; rw [show (w_.toInt - 2).toNat = y_346.toInt.toNat by omega]; by_cases z9 : gN (fun w => gF (aW cr1_ inn1_ k11_) k21_ cr1_ inn1_ q11_ q21_ w gg1_.toInt.toNat) (aPr (aW cr1_ inn1_ k11_) 7) = 0 ∨ ¬ w_.toInt - 2 < ((cr1_.toInt.toNat : Nat) : Int) <;> first | (rw [if_pos (z9.imp id (fun q9 => by omega))]; exact (if_pos z9).symm) | (rw [if_neg (fun q9 => z9 (q9.imp id (fun q8 => by omega)))]; exact (if_neg z9).symm)) | (rw [if_neg (show ¬ w_.toInt < 0 by omega), if_neg (by omega), if_neg (by omega), if_neg (by omega), if_pos (by show 10 ≤ w_.toInt ∧ w_.toInt - 10 < ((gN (fun w => gF (aW cr1_ inn1_ k11_) k21_ cr1_ inn1_ q11_ q21_ w gg1_.toInt.toNat) (aPr (aW cr1_ inn1_ k11_) 7) : Nat) : Int); omega)]; refine h_352.trans ?_; rw [nI_n (by omega)]; rfl))⟩)))))⟩)
          · have c_331n : w_.toInt = (0 : Int) := (fa_eq _ _).mp c_331
            refine lv_aload_n hx hb dX11_fits_44 rfl (lv_at hl 2 rfl) ?_
            refine z_get C G clX11 6 rfl 9 (by decide) m_fl_RX11_65 rfl dX11_fits_45 ?_
            refine zEx2 h_261 ?_
            intro a1_354 a2_355 hbs9
            clear h_261
            subst hbs9
            have G : zS T A s.heap s [wt, z0_, wg0_, wg1_, wwA_224, [zO3 fi e0f_237 e1f_238 e2f_239 (nI (gN (fun w => gF (aW cr1_ inn1_ k11_) k21_ cr1_ inn1_ q11_ q21_ w gg1_.toInt.toNat) (aPr (aW cr1_ inn1_ k11_) 7))) e4f_241 e5f_242 a1_354 a2_355], [zAr T 0 a1_354 m1f_244 r1f_243], [zAr T 0 a2_355 7 r2f_245], [zO10 xo t im mk rd po co tr wa wb_ fi cd], w2_316, z1_] _ _ := G.re rfl
            refine z_get C G clX3 5 rfl 3 (by decide) m_fl_RX11_306 rfl dX11_fits_48 ?_
            have hw_356 : bFit T fi e0f_237 e1f_238 e2f_239 (nI (gN (fun w => gF (aW cr1_ inn1_ k11_) k21_ cr1_ inn1_ q11_ q21_ w gg1_.toInt.toNat) (aPr (aW cr1_ inn1_ k11_) 7))) e4f_241 e5f_242 r1f_243 m1f_244 r2f_245 [zO3 fi e0f_237 e1f_238 e2f_239 (nI (gN (fun w => gF (aW cr1_ inn1_ k11_) k21_ cr1_ inn1_ q11_ q21_ w gg1_.toInt.toNat) (aPr (aW cr1_ inn1_ k11_) 7))) e4f_241 e5f_242 a1_354 a2_355, zAr T 0 a1_354 m1f_244 r1f_243, zAr T 0 a2_355 7 r2f_245] := ⟨a1_354, a2_355, rfl⟩
            have G : zS T A s.heap s [wt, z0_, wg0_, wg1_, wwA_224, [zO3 fi e0f_237 e1f_238 e2f_239 (nI (gN (fun w => gF (aW cr1_ inn1_ k11_) k21_ cr1_ inn1_ q11_ q21_ w gg1_.toInt.toNat) (aPr (aW cr1_ inn1_ k11_) 7))) e4f_241 e5f_242 a1_354 a2_355, zAr T 0 a1_354 m1f_244 r1f_243, zAr T 0 a2_355 7 r2f_245], [zO10 xo t im mk rd po co tr wa wb_ fi cd], w2_316, z1_] _ _ := G.re rfl
            have G := G.sub (bs' := [[zO10 xo t im mk rd po co tr wa wb_ fi cd], wt, z0_, z1_, wg0_, wg1_, wwA_224, w2_316, [zO3 fi e0f_237 e1f_238 e2f_239 (nI (gN (fun w => gF (aW cr1_ inn1_ k11_) k21_ cr1_ inn1_ q11_ q21_ w gg1_.toInt.toNat) (aPr (aW cr1_ inn1_ k11_) 7))) e4f_241 e5f_242 a1_354 a2_355, zAr T 0 a1_354 m1f_244 r1f_243, zAr T 0 a2_355 7 r2f_245]]) [6, 0, 1, 8, 2, 3, 4, 7, 5] rfl
            exact z_back hQz_ (z_iret C hr hlocks G (Nat.le_of_ble_eq_true rfl) (by omega) dX11_fits_51 ⟨laA_213, mdA_214, wyA_215, pc_A_216, f1A_217, f2A_218, f3A_219, f4A_220, f5A_221, f6A_222, n4A_223, wwA_224, l1, m2_317, wy2_318, pc2_319, g1_320, g2_321, f3B_231, g4_322, g5_323, g6_324, (zMk mdB_226 n4B_235 (zPl cr1_ inn1_ k11_)), w2_316, e0f_237, e1f_238, e2f_239, (nI (gN (fun w => gF (aW cr1_ inn1_ k11_) k21_ cr1_ inn1_ q11_ q21_ w gg1_.toInt.toNat) (aPr (aW cr1_ inn1_ k11_) 7))), e4f_241, e5f_242, r1f_243, m1f_244, r2f_245, ([zO3 fi e0f_237 e1f_238 e2f_239 (nI (gN (fun w => gF (aW cr1_ inn1_ k11_) k21_ cr1_ inn1_ q11_ q21_ w gg1_.toInt.toNat) (aPr (aW cr1_ inn1_ k11_) 7))) e4f_241 e5f_242 a1_354 a2_355, zAr T 0 a1_354 m1f_244 r1f_243, zAr T 0 a2_355 7 r2f_245]), rfl, h_247, h_248, h_249, h_250, h_251, h_252, h_253, h_326, (Or.inr rfl), hwy9, (hzk.trans h_257), (by rw [hzk]; exact h_258), (fun _ => h_328), (Or.inr h_329), hw_356, h_262, h_263, h_264, (fun q => (h_266 q).elim (fun w => Or.inl ⟨w.1, w.2⟩) (fun w => Or.inr ⟨w.1, h_328⟩)), h_267, h_268, h_269, h_270, (Or.inr (Or.inr (Or.inr (Or.inr (⟨⟨by omega, by omega⟩, ⟨by omega, by omega⟩, (by unfold kFits gFits; rw [if_neg (show ¬ w_.toInt < 0 by omega), if_pos (by omega)]; rfl)⟩)))))⟩)
      · have c_274n : ¬ (0 : Int) ≤ w_.toInt := fun q => c_274 ((fa_le _ _).mpr q)
        refine lv_bipush (v := (-2)) hx hb dX11_fits_28 (by decide) ?_
        exact z_back hQz_ (z_iret C hr hlocks G (Nat.le_of_ble_eq_true rfl) (by omega) dX11_fits_30 ⟨laA_213, mdA_214, wyA_215, pc_A_216, f1A_217, f2A_218, f3A_219, f4A_220, f5A_221, f6A_222, n4A_223, wwA_224, laB_225, mdB_226, wyB_227, pc_B_228, f1B_229, f2B_230, f3B_231, f4B_232, f5B_233, f6B_234, n4B_235, wwB_236, e0f_237, e1f_238, e2f_239, e3f_240, e4f_241, e5f_242, r1f_243, m1f_244, r2f_245, wff_246, rfl, h_247, h_248, h_249, h_250, h_251, h_252, h_253, h_254, h_255, h_256, h_257, h_258, h_259, h_260, h_261, h_262, h_263, h_264, h_266, h_267, h_268, h_269, h_270, (by rcases h_265 with ⟨x0, x1⟩ | ⟨x0, x1, x2, x3⟩ <;> first | (exfalso; first | (exact absurd (congrArg Int32.toInt x0) (by first | with_reducible assumption | assumption)) | (exact absurd x0 (by first | with_reducible assumption | assumption)) | (exact absurd x0 (by decide)) | omega | (have x9 := congrArg Int32.toInt x0; have x8 : (1 : Int32).toInt = 1 := rfl; have x7 : (0 : Int32).toInt = 0 := rfl; omega)) | (exact Or.inl ⟨by first | exact Or.inl (by omega) | exact Or.inr (by omega) | omega, rfl⟩) | (rcases (show (i1.toInt = 0 ∧ i2.toInt = 0) ∨ (i1.toInt = 0 ∧ i2.toInt = 1) ∨ (i1.toInt = 1 ∧ i2.toInt = 0) ∨ (i1.toInt = 1 ∧ i2.toInt = 1) by omega) with z9 | z9 | z9 | z9 <;> first | (exact Or.inr (Or.inl ⟨⟨by omega, by omega⟩, ⟨by omega, by omega⟩, (by unfold kFits gFits; exact (if_pos (by omega)).symm)⟩)) | (exact Or.inr (Or.inr (Or.inl ⟨⟨by omega, by omega⟩, ⟨by omega, by omega⟩, (by unfold kFits gFits; exact (if_pos (by omega)).symm)⟩))) | (exact Or.inr (Or.inr (Or.inr (Or.inl ⟨⟨by omega, by omega⟩, ⟨by omega, by omega⟩, (by unfold kFits gFits; exact (if_pos (by omega)).symm)⟩)))) | (exact Or.inr (Or.inr (Or.inr (Or.inr (⟨⟨by omega, by omega⟩, ⟨by omega, by omega⟩, (by unfold kFits gFits; exact (if_pos (by omega)).symm)⟩)))))))⟩)

/-! the game: turns by ways -/
/-- how many steps, or never -/
def gSn (W L : Nat → Int32) (inn : Int32) (w : Nat) (x : Int32) : Nat := if zBit inn (rWh W L w x) = 1 then rStp W L w x else 500
def gOk (W : Nat → Int32) (c : Nat) : Bool := decide (c = 7 ∨ (c < 7 ∧ 0 < (W c).toInt))
def gTn (W : Nat → Int32) (w c : Nat) : Nat := if c = 7 then w else aTn W w c
/-- the best of the first n -/
def gMm (ok : Nat → Bool) (v : Nat → Int) (mn : Bool) : Nat → Int
  | 0 => -1
  | n + 1 => if ok n = true then (if gMm ok v mn n = -1 ∨ (if mn = true then v n < gMm ok v mn n else gMm ok v mn n < v n) then v n else gMm ok v mn n) else gMm ok v mn n
/-- which one it is -/
def gIx (ok : Nat → Bool) (v : Nat → Int) (mn : Bool) : Nat → Int
  | 0 => -1
  | n + 1 => if ok n = true ∧ (gIx ok v mn n = -1 ∨ (if mn = true then v n < v (gIx ok v mn n).toNat else v (gIx ok v mn n).toNat < v n)) then (n : Int) else gIx ok v mn n
def gV (W L : Nat → Int32) (inn x : Int32) : Nat → Bool → Nat → Int
  | 0, _, w => (gSn W L inn w x : Nat)
  | k + 1, mn, w => gMm (gOk W) (fun c => gV W L inn x k (!mn) (gTn W w c)) mn 8
section GAME
variable {ok : Nat → Bool} {v : Nat → Int} {mn : Bool} {n : Nat} {a b : Int}
theorem gMm_s (hb : gMm ok v mn n = b) (ha : v n = a) (ho : ok n = true) : gMm ok v mn (n + 1) = if b = -1 ∨ (if mn = true then a < b else b < a) then a else b := by
  subst hb
  subst ha
  exact if_pos ho
theorem gMm_o (ho : ¬ ok n = true) : gMm ok v mn (n + 1) = gMm ok v mn n := if_neg ho
theorem gIx_s (hb : gIx ok v mn n = b) (ho : ok n = true) : gIx ok v mn (n + 1) = if b = -1 ∨ (if mn = true then v n < v b.toNat else v b.toNat < v n) then (n : Int) else b := by
  subst hb
  show (if ok n = true ∧ (gIx ok v mn n = -1 ∨ (if mn = true then v n < v (gIx ok v mn n).toNat else v (gIx ok v mn n).toNat < v n)) then (n : Int) else gIx ok v mn n) = _
  by_cases q : gIx ok v mn n = -1 ∨ (if mn = true then v n < v (gIx ok v mn n).toNat else v (gIx ok v mn n).toNat < v n)
  · rw [if_pos q, if_pos ⟨ho, q⟩]
  · rw [if_neg q, if_neg (fun z => q z.2)]
theorem gIx_o (ho : ¬ ok n = true) : gIx ok v mn (n + 1) = gIx ok v mn n := if_neg (fun z => ho z.1)
/-- the best one is there, it is the best, the first of these -/
theorem gIx_m (hv : ∀ j, ok j = true → 0 ≤ v j) : ∀ n, (gIx ok v mn n = -1 ∧ gMm ok v mn n = -1 ∧ ∀ j, j < n → ¬ ok j = true) ∨ ∃ b : Nat, b < n ∧ gIx ok v mn n = (b : Int) ∧ ok b = true ∧ gMm ok v mn n = v b ∧ (∀ j, j < n → ok j = true → if mn = true then v b ≤ v j else v j ≤ v b) ∧ ∀ j, j < b → ok j = true → ¬ v j = v b
  | 0 => Or.inl ⟨rfl, rfl, fun j hj => absurd hj (Nat.not_lt_zero _)⟩
  | n + 1 => by
    by_cases ho : ok n = true
    · rcases gIx_m hv n with ⟨i1, i2, i3⟩ | ⟨b, b1, b2, b3, b4, b5, b6⟩
      · refine Or.inr ⟨n, Nat.lt_succ_self _, ?_, ho, ?_, fun j hj hk => ?_, fun j hj hk => absurd hk (i3 j hj)⟩
        · rw [gIx_s i1 ho, if_pos (Or.inl rfl)]
        · rw [gMm_s i2 rfl ho, if_pos (Or.inl rfl)]
        · by_cases e : j = n
          · subst e
            split <;> exact Int.le_refl _
          · exact absurd hk (i3 j (by omega))
      · have vb := hv b b3
        have bt : ((b : Nat) : Int).toNat = b := by omega
        by_cases q : (if mn = true then v n < v b else v b < v n)
        · refine Or.inr ⟨n, Nat.lt_succ_self _, ?_, ho, ?_, fun j hj hk => ?_, fun j hj hk => ?_⟩
          · rw [gIx_s b2 ho, if_pos (Or.inr (by rw [bt]; exact q))]
          · rw [gMm_s b4 rfl ho, if_pos (Or.inr q)]
          · by_cases e : j = n
            · subst e
              split <;> exact Int.le_refl _
            · have t := b5 j (by omega) hk
              cases mn <;> simp only [if_true, Bool.false_eq_true, if_false] at t q ⊢ <;> omega
          · have t := b5 j (by omega) hk
            cases mn <;> simp only [if_true, Bool.false_eq_true, if_false] at t q <;> omega
        · refine Or.inr ⟨b, by omega, ?_, b3, ?_, fun j hj hk => ?_, b6⟩
          · rw [gIx_s b2 ho, if_neg (fun z => z.elim (fun y => by omega) (fun y => q (by rw [bt] at y; exact y)))]
          · rw [gMm_s b4 rfl ho, if_neg (fun z => z.elim (fun y => by omega) q)]
          · by_cases e : j = n
            · subst e
              cases mn <;> simp only [if_true, Bool.false_eq_true, if_false] at q ⊢ <;> omega
            · exact b5 j (by omega) hk
    · rw [gIx_o ho, gMm_o ho]
      rcases gIx_m hv n with ⟨i1, i2, i3⟩ | ⟨b, b1, b2, b3, b4, b5, b6⟩
      · refine Or.inl ⟨i1, i2, fun j hj => ?_⟩
        by_cases e : j = n
        · rw [e]
          exact ho
        · exact i3 j (by omega)
      · refine Or.inr ⟨b, by omega, b2, b3, b4, fun j hj hk => ?_, b6⟩
        by_cases e : j = n
        · rw [e] at hk
          exact absurd hk ho
        · exact b5 j (by omega) hk
end GAME
section GV
variable {W L : Nat → Int32} {inn x : Int32}
theorem gSn_le {w : Nat} : gSn W L inn w x ≤ 500 := by
  have r := rStp_le (W := W) (L := L) (w := w) (c := x)
  unfold gSn
  split <;> omega
theorem gV_0 : ∀ k (mn : Bool) w, 0 ≤ gV W L inn x k mn w
  | 0, _, w => Int.natCast_nonneg _
  | k + 1, mn, w => by
    show 0 ≤ gMm (gOk W) (fun c => gV W L inn x k (!mn) (gTn W w c)) mn 8
    rcases gIx_m (ok := gOk W) (v := fun c => gV W L inn x k (!mn) (gTn W w c)) (mn := mn) (fun j _ => gV_0 k (!mn) (gTn W w j)) 8 with ⟨_, _, z⟩ | ⟨b, _, _, _, z, _⟩
    · exact absurd (decide_eq_true (Or.inl rfl)) (z 7 (by decide))
    · rw [z]
      exact gV_0 k (!mn) (gTn W w b)
theorem gV_s {k : Nat} {mn : Bool} {w : Nat} : gV W L inn x (k + 1) mn w = gMm (gOk W) (fun c => gV W L inn x k (!mn) (gTn W w c)) mn 8 := rfl
theorem gOk_y {c : Nat} (hc : c < 7) (h : 0 < (W c).toInt) : gOk W c = true := decide_eq_true (Or.inr ⟨hc, h⟩)
theorem gOk_7 : gOk W 7 = true := decide_eq_true (Or.inl rfl)
theorem gOk_n {c : Nat} (hc : ¬ c = 7) (h : ¬ 0 < (W c).toInt) : ¬ gOk W c = true := fun z => (of_decide_eq_true z).elim hc (fun q => h q.2)
theorem gTn_7 {w : Nat} : gTn W w 7 = w := if_pos rfl
theorem gTn_c {w c : Nat} (hc : ¬ c = 7) : gTn W w c = aTn W w c := if_neg hc
theorem gTn_lt {w c : Nat} (hc : c ≤ 7) (hw : w < aPr W 7) : gTn W w c < aPr W 7 := by
  unfold gTn
  split
  · exact hw
  · exact aTn_lt (by omega) hw
end GV
section GVCG
variable {W V L L' : Nat → Int32}
theorem gMm_cg {ok ok' : Nat → Bool} {v v' : Nat → Int} {mn : Bool} : ∀ n, (∀ c, c < n → ok c = ok' c ∧ v c = v' c) → gMm ok v mn n = gMm ok' v' mn n
  | 0, _ => rfl
  | n + 1, h => by
    have e := gMm_cg (mn := mn) n (fun c hc => h c (by omega))
    obtain ⟨a, b⟩ := h n (Nat.lt_succ_self _)
    unfold gMm
    rw [e, a, b]
theorem gIx_lt {ok : Nat → Bool} {v : Nat → Int} {mn : Bool} : ∀ n, gIx ok v mn n = -1 ∨ (0 ≤ gIx ok v mn n ∧ gIx ok v mn n < n)
  | 0 => Or.inl rfl
  | n + 1 => by
    have e := gIx_lt (ok := ok) (v := v) (mn := mn) n
    unfold gIx
    refine zIte (fun z => z = -1 ∨ (0 ≤ z ∧ z < ((n + 1 : Nat) : Int))) (Or.inr ⟨by omega, by omega⟩) ?_
    rcases e with e | e
    · exact Or.inl e
    · exact Or.inr ⟨e.1, by omega⟩
theorem gIx_cg {ok ok' : Nat → Bool} {v v' : Nat → Int} {mn : Bool} : ∀ n, (∀ c, c < n → ok c = ok' c ∧ v c = v' c) → gIx ok v mn n = gIx ok' v' mn n
  | 0, _ => rfl
  | n + 1, h => by
    have e := gIx_cg (mn := mn) n (fun c hc => h c (by omega))
    obtain ⟨a, b⟩ := h n (Nat.lt_succ_self _)
    have l := gIx_lt (ok := ok') (v := v') (mn := mn) n
    unfold gIx
    rw [e, a, b]
    rcases l with l | l
    · by_cases q : ok' n = true
      · rw [if_pos ⟨q, Or.inl l⟩, if_pos ⟨q, Or.inl l⟩]
      · rw [if_neg (fun z => q z.1), if_neg (fun z => q z.1)]
    · rw [(h (gIx ok' v' mn n).toNat (by omega)).2]
theorem gOk_cg (hW : ∀ j, j < 7 → W j = V j) (c : Nat) : gOk W c = gOk V c := by
  unfold gOk
  by_cases q : c < 7
  · rw [hW c q]
  · by_cases z : c = 7
    · rw [decide_eq_true (Or.inl z), decide_eq_true (Or.inl z)]
    · rw [decide_eq_false (fun y => y.elim z (fun u => q u.1)), decide_eq_false (fun y => y.elim z (fun u => q u.1))]
theorem gTn_cg (hW : ∀ j, j < 7 → W j = V j) (w : Nat) {c : Nat} (hc : c < 8) : gTn W w c = gTn V w c := by
  unfold gTn
  by_cases q : c = 7
  · rw [if_pos q, if_pos q]
  · rw [if_neg q, if_neg q, aTn_cg hW (by omega)]
theorem gV_cg (hW : ∀ j, j < 7 → W j = V j) (hL : zLs W L L') (h4 : ∀ j, j < 7 → (W j).toInt ≤ 4) (inn x : Int32) : ∀ k (mn : Bool) w, gV W L inn x k mn w = gV V L' inn x k mn w
  | 0, _, w => by
    show ((gSn W L inn w x : Nat) : Int) = (gSn V L' inn w x : Nat)
    unfold gSn
    rw [(rWh_cg hW hL h4 w x).1, (rWh_cg hW hL h4 w x).2.1]
  | k + 1, mn, w => by
    rw [gV_s, gV_s]
    exact gMm_cg 8 (fun c hc => ⟨gOk_cg hW c, by
      show gV W L inn x k (!mn) (gTn W w c) = gV V L' inn x k (!mn) (gTn V w c)
      rw [gTn_cg hW w hc]
      exact gV_cg hW hL h4 inn x k (!mn) _⟩)
end GVCG
/-- the game's answers -/
def rGame (W L P : Nat → Int32) (inn x n u : Int32) : Int32 := if u = 0 then nI (gV W L inn x n.toInt.toNat true (aRs W P 7)).toNat else if n.toInt = 0 then -1 else nI (gIx (gOk W) (fun c => gV W L inn x (n.toInt.toNat - 1) false (gTn W (aRs W P 7) c)) true 8).toNat
theorem rGame_cg {W V L L' P Q : Nat → Int32} (hW : ∀ j, j < 7 → W j = V j) (hL : zLs W L L') (h4 : ∀ j, j < 7 → (W j).toInt ≤ 4) (hP : ∀ j, j < 7 → P j = Q j) (inn x n u : Int32) : rGame W L P inn x n u = rGame V L' Q inn x n u := by
  unfold rGame
  rw [aRs_cg hW hP 7, gV_cg hW hL h4, gIx_cg 8 (fun c hc => ⟨gOk_cg hW c, by rw [gTn_cg hW _ hc, gV_cg hW hL h4]⟩)]
/-- which one is turned first -/
theorem gIx_f {ok : Nat → Bool} {v : Nat → Int} {mn : Bool} {b : Int} {r : Nat} (hv : ∀ j, ok j = true → 0 ≤ v j) (h7 : ok 7 = true) (hb : gMm ok v mn 8 = b) (hr : r ≤ 7) (h1 : ∀ j, j < r → ¬ (ok j = true ∧ v j = b)) (h2 : r < 7 → ok r = true ∧ v r = b) : gIx ok v mn 8 = (r : Int) := by
  rcases gIx_m (mn := mn) hv 8 with ⟨_, _, z⟩ | ⟨k, k1, k2, k3, k4, _, k6⟩
  · exact absurd h7 (z 7 (by decide))
  · rw [k2]
    have e : v k = b := k4.symm.trans hb
    rcases Nat.lt_trichotomy r k with q | q | q
    · have t := h2 (by omega)
      exact absurd (t.2.trans e.symm) (k6 r q t.1)
    · rw [q]
    · exact absurd ⟨k3, e⟩ (h1 k q)
def kGame (cr inn : Int32) (k1 k2 k3 : Nat → Int32) (a n u : Int32) : Int32 := if (0 ≤ a.toInt ∧ a.toInt < cr.toInt) ∧ 0 ≤ n.toInt ∧ n.toInt ≤ 3 then rGame (kW cr inn k1) k2 k3 inn a n u else -9
def pGame (f : Nat → Int32) (z a n u : Int32) : Int32 := if (0 ≤ a.toInt ∧ a.toInt < (f z.toInt.toNat).toInt) ∧ 0 ≤ n.toInt ∧ n.toInt ≤ 3 then rGame (pW f z) (zLo f z) (zPo f z) (f (z.toInt.toNat + 1)) a n u else -9
theorem kGame_e {cr inn z a n u : Int32} {k1 k2 k3 k4 f : Nat → Int32} {B : Nat} (h : zLnd cr inn k1 k2 k3 k4 (fun j => f (B + j))) (hF : zLF (fun j => f (B + j))) (hz : z.toInt.toNat = B) : kGame cr inn k1 k2 k3 a n u = pGame f z a n u := by
  obtain ⟨a1, a2, a3, a4, a5, a6⟩ := zLnd_w h hF hz
  have c7 : 0 ≤ cr.toInt ∧ cr.toInt ≤ 7 := by
    have b : 0 ≤ (f (B + 0)).toInt ∧ (f (B + 0)).toInt ≤ 7 := hF.1
    have e : cr = f (B + 0) := by
      rw [a5, hz]
      rfl
    rw [e]
    exact b
  have h4 : ∀ j, j < 7 → (kW cr inn k1 j).toInt ≤ 4 := fun j hj => (a4 j hj).1.2
  unfold kGame pGame
  (try rw [← a5])
  (try rw [← a6])
  by_cases q : (0 ≤ a.toInt ∧ a.toInt < cr.toInt) ∧ 0 ≤ n.toInt ∧ n.toInt ≤ 3
  · rw [if_pos q, if_pos q]
    exact rGame_cg a1 a2 h4 a3 _ a n u
  · rw [if_neg q, if_neg q]
theorem gPo_k {cr inn z : Int32} {k1 k2 k3 k4 f : Nat → Int32} {B : Nat} (h : zLnd cr inn k1 k2 k3 k4 (fun j => f (B + j))) (hF : zLF (fun j => f (B + j))) (hz : z.toInt.toNat = B) (hV : zVR (fun j => f (z.toInt.toNat + j))) : ∀ c, c < 7 → 0 < (aW cr inn k1 c).toInt → (k3 c).toInt = 0 ∨ (k3 c).toInt < (aW cr inn k1 c).toInt := by
  obtain ⟨a1, a2, a3, a4, a5, a6⟩ := zLnd_w h hF hz
  intro c hc hw
  have e : aW cr inn k1 c = pW f z c := a1 c hc
  rw [e] at hw ⊢
  have p : (f (z.toInt.toNat + (9 + c))).toInt = 0 ∨ (f (z.toInt.toNat + (9 + c))).toInt < (f (z.toInt.toNat + (2 + c))).toInt := (hV c hc).1
  have g : k3 c = f (z.toInt.toNat + (9 + c)) := a3 c hc
  have w : pW f z c = f (z.toInt.toNat + (2 + c)) := by
    unfold pW zWo at hw ⊢
    by_cases q : zBit (f (z.toInt.toNat + 1)) (nI c) = 1
    · rw [if_pos q] at hw
      exact absurd hw (by decide)
    · rw [if_neg q]
      rfl
  rw [w, g]
  exact p
set_option maxHeartbeats 4000000 in
set_option maxRecDepth 100000 in
/-- stepsOrNever -/
theorem c_f_stepsOrNever (l : Launch) (T : zTy) (h : Nat) (la : Nat) (md : Int32) (wy : Int32) (pc_ : Int32) (f1 : Nat → Int32) (f2 : Nat → Int32) (f3 : Nat → Int32) (f4 : Nat → Int32) (f5 : Nat → Int32) (f6 : Nat → Int32) (n4 : Nat) (ww : va_W) (cr : Int32) (inn : Int32) (k1 : Nat → Int32) (k2 : Nat → Int32) (k3 : Nat → Int32) (k4 : Nat → Int32) (z : va_W) (w_ : Nat) (x : Int32) (hww : bWays T h la md wy pc_ f1 f2 f3 f4 f5 f6 n4 ww) (hz : bLand T la cr inn k1 k2 k3 k4 z) (hI : zLI cr k1 k3) (hn : n4 ≤ 131072) (hF : aF cr inn k1 f1 f2) (hO : aOk (aW cr inn k1) k2) (hTt : zTab cr inn k1 k2 wy pc_ f1 f2 f5 n4) (hx7 : zHas cr x) (hwl : w_ < aPr (aW cr inn k1) 7) (hLq : zLq cr k1 k2) : zMi l T yX0_stepsOrNever cX0_stepsOrNever 3 (some .int) 3 0 0 [.ref h, .int (nI w_), .int x] [ww, z] (fun (r : Int32) bs => bs = [ww, z] ∧ r = nI (gSn (aW cr inn k1) k2 inn w_ x)) := by
  refine zMi_of (own := RX0) (by decide) rfl (Nat.le_of_ble_eq_true rfl) ?_
  intro p e s m args below meth c A ls C hr hlocks hnm hAe G hl
  refine zHide (fun Qz_ hQz_ => ?_)
  have hx := C.1
  have hb := C.2.1
  have hl : lv_has ls 3 [(0, .ref h), (1, .int (nI w_)), (2, .int x)] := hl
  have hp79 : aPr (aW cr inn k1) 7 ≤ 16384 := aPr_7 hI
  have hwT9 := nI_toInt (n := w_) (by omega)
  have hwN9 := nI_n (n := w_) (by omega)
  obtain ⟨hx71, hx72, hx73⟩ := hx7
  refine lv_aload_n hx hb dX0_stepsOrNever_0 rfl (lv_at hl 0 rfl) ?_
  refine zEx6 hww ?_
  intro a1_1 a2_2 a3_3 a4_4 a5_5 a6_6 hbs9
  clear hww
  subst hbs9
  have G : zS T A s.heap s [[zO0 h md wy la pc_ a1_1 a2_2 a3_3 a4_4 a5_5 a6_6], [zAr T 0 a1_1 7 f1], [zAr T 0 a2_2 7 f2], [zAr T 0 a3_3 7 f3], [zAr T 0 a4_4 n4 f4], [zAr T 0 a5_5 n4 f5], [zAr T 0 a6_6 n4 f6], z] _ _ := G.re rfl
  refine z_get C G clX0 0 rfl 2 (by decide) m_fl_RX0_14 rfl dX0_stepsOrNever_1 ?_
  refine lv_aload_n hx hb dX0_stepsOrNever_4 rfl (lv_at hl 0 rfl) ?_
  refine lv_iload_n hx hb dX0_stepsOrNever_5 rfl (lv_at hl 1 rfl) ?_
  refine lv_iload_n hx hb dX0_stepsOrNever_6 rfl (lv_at hl 2 rfl) ?_
  have hw_7 : bWays T h la md wy pc_ f1 f2 f3 f4 f5 f6 n4 [zO0 h md wy la pc_ a1_1 a2_2 a3_3 a4_4 a5_5 a6_6, zAr T 0 a1_1 7 f1, zAr T 0 a2_2 7 f2, zAr T 0 a3_3 7 f3, zAr T 0 a4_4 n4 f4, zAr T 0 a5_5 n4 f5, zAr T 0 a6_6 n4 f6] := ⟨a1_1, a2_2, a3_3, a4_4, a5_5, a6_6, rfl⟩
  have G : zS T A s.heap s [[zO0 h md wy la pc_ a1_1 a2_2 a3_3 a4_4 a5_5 a6_6, zAr T 0 a1_1 7 f1, zAr T 0 a2_2 7 f2, zAr T 0 a3_3 7 f3, zAr T 0 a4_4 n4 f4, zAr T 0 a5_5 n4 f5, zAr T 0 a6_6 n4 f6], z] _ _ := G.re rfl
  refine z_Vi (bc := [[zO0 h md wy la pc_ a1_1 a2_2 a3_3 a4_4 a5_5 a6_6, zAr T 0 a1_1 7 f1, zAr T 0 a2_2 7 f2, zAr T 0 a3_3 7 f3, zAr T 0 a4_4 n4 f4, zAr T 0 a5_5 n4 f5, zAr T 0 a6_6 n4 f6]]) (br := [z]) (As := [.int (nI w_), .int x]) (rest := [.ref la]) C G (c_where l T h la md wy pc_ f1 f2 f3 f4 f5 f6 n4 ([zO0 h md wy la pc_ a1_1 a2_2 a3_3 a4_4 a5_5 a6_6, zAr T 0 a1_1 7 f1, zAr T 0 a2_2 7 f2, zAr T 0 a3_3 7 f3, zAr T 0 a4_4 n4 f4, zAr T 0 a5_5 n4 f5, zAr T 0 a6_6 n4 f6]) (nI w_) x hw_7 (by first | with_reducible assumption | with_reducible rfl | omega | assumption | rfl)) (kV_RX0_94 C.2.2.2.2 (Nat.le_of_ble_eq_true rfl) (Nat.le_of_ble_eq_true rfl)) [0] [0] rfl rfl (ci := 0) (qc := (RX0, TX0, 10)) rfl rfl (List.mem_flatten.mpr ⟨_, List.mem_of_getElem? (i := 0) rfl, (bWays_mem hw_7).choose_spec⟩) rfl rfl hl.1 dX0_stepsOrNever_7 (Nat.le_of_ble_eq_true rfl) (Nat.le_of_ble_eq_true rfl) (fun r_9 b1 H locs hw G => ?_)
  refine zAn2 hw ?_
  intro hbs9 h_8
  clear hw
  subst hbs9
  have G : zS T A s.heap s [z, [zO0 h md wy la pc_ a1_1 a2_2 a3_3 a4_4 a5_5 a6_6, zAr T 0 a1_1 7 f1, zAr T 0 a2_2 7 f2, zAr T 0 a3_3 7 f3, zAr T 0 a4_4 n4 f4, zAr T 0 a5_5 n4 f5, zAr T 0 a6_6 n4 f6]] _ _ := G
  subst h_8
  have hE9 := zEnt_w (w := w_) (x := x) hI hO hTt hwl ⟨hx71, hx72, hx73⟩
  refine lv_topi (fun y_10 ey_10 => ?_)
  obtain rfl : y_10 = (rWh (aW cr inn k1) k2 w_ x) := ey_10.trans (hE9.1)
  refine z_Vi (bc := [z]) (br := [[zO0 h md wy la pc_ a1_1 a2_2 a3_3 a4_4 a5_5 a6_6, zAr T 0 a1_1 7 f1, zAr T 0 a2_2 7 f2, zAr T 0 a3_3 7 f3, zAr T 0 a4_4 n4 f4, zAr T 0 a5_5 n4 f5, zAr T 0 a6_6 n4 f6]]) (As := [.int (rWh (aW cr inn k1) k2 w_ x)]) (rest := []) C G (c_isInn l T la cr inn k1 k2 k3 k4 z (rWh (aW cr inn k1) k2 w_ x) hz) (kV_RX0_97 C.2.2.2.2 (Nat.le_of_ble_eq_true rfl) (Nat.le_of_ble_eq_true rfl)) [0] [0] rfl rfl (ci := 4) (qc := (RX4, TX4, 6)) rfl rfl (List.mem_flatten.mpr ⟨_, List.mem_of_getElem? (i := 0) rfl, (bLand_mem hz).choose_spec⟩) rfl rfl hl.1 dX0_stepsOrNever_10 (Nat.le_of_ble_eq_true rfl) (Nat.le_of_ble_eq_true rfl) (fun r_12 b1 H locs hw G => ?_)
  refine zAn2 hw ?_
  intro hbs9 hc_11
  clear hw
  subst hbs9
  have G : zS T A s.heap s [[zO0 h md wy la pc_ a1_1 a2_2 a3_3 a4_4 a5_5 a6_6, zAr T 0 a1_1 7 f1, zAr T 0 a2_2 7 f2, zAr T 0 a3_3 7 f3, zAr T 0 a4_4 n4 f4, zAr T 0 a5_5 n4 f5, zAr T 0 a6_6 n4 f6], z] _ _ := G
  rcases hc_11 with ⟨rfl, h_13, h_14, h_15, h_16⟩ | ⟨rfl, h_17⟩
  · have h_13 : 0 ≤ (rWh (aW cr inn k1) k2 w_ x).toInt := h_13
    have h_14 : (rWh (aW cr inn k1) k2 w_ x).toInt < cr.toInt := h_14
    have h_15 : (rWh (aW cr inn k1) k2 w_ x).toInt < 7 := h_15
    have h_16 : ¬ zBit inn (rWh (aW cr inn k1) k2 w_ x) = 0 := h_16
    have hii9 : zBit inn (rWh (aW cr inn k1) k2 w_ x) = 1 := zBit_p h_16
    refine lv_if_eq (tgt := 25) hx hb dX0_stepsOrNever_13 (by decide) (fun q => absurd q (by decide)) (fun _ => ?_)
    refine lv_aload_n hx hb dX0_stepsOrNever_16 rfl (lv_at hl 0 rfl) ?_
    refine lv_iload_n hx hb dX0_stepsOrNever_17 rfl (lv_at hl 1 rfl) ?_
    refine lv_iload_n hx hb dX0_stepsOrNever_18 rfl (lv_at hl 2 rfl) ?_
    refine z_Vi (bc := [[zO0 h md wy la pc_ a1_1 a2_2 a3_3 a4_4 a5_5 a6_6, zAr T 0 a1_1 7 f1, zAr T 0 a2_2 7 f2, zAr T 0 a3_3 7 f3, zAr T 0 a4_4 n4 f4, zAr T 0 a5_5 n4 f5, zAr T 0 a6_6 n4 f6]]) (br := [z]) (As := [.int (nI w_), .int x]) (rest := []) C G (c_steps l T h la md wy pc_ f1 f2 f3 f4 f5 f6 n4 ([zO0 h md wy la pc_ a1_1 a2_2 a3_3 a4_4 a5_5 a6_6, zAr T 0 a1_1 7 f1, zAr T 0 a2_2 7 f2, zAr T 0 a3_3 7 f3, zAr T 0 a4_4 n4 f4, zAr T 0 a5_5 n4 f5, zAr T 0 a6_6 n4 f6]) (nI w_) x hw_7 (by first | with_reducible assumption | with_reducible rfl | omega | assumption | rfl)) (kV_RX0_101 C.2.2.2.2 (Nat.le_of_ble_eq_true rfl) (Nat.le_of_ble_eq_true rfl)) [0] [0] rfl rfl (ci := 0) (qc := (RX0, TX0, 10)) rfl rfl (List.mem_flatten.mpr ⟨_, List.mem_of_getElem? (i := 0) rfl, (bWays_mem hw_7).choose_spec⟩) rfl rfl hl.1 dX0_stepsOrNever_19 (Nat.le_of_ble_eq_true rfl) (Nat.le_of_ble_eq_true rfl) (fun r_19 b1 H locs hw G => ?_)
    refine zAn2 hw ?_
    intro hbs9 h_18
    clear hw
    subst hbs9
    have G : zS T A s.heap s [z, [zO0 h md wy la pc_ a1_1 a2_2 a3_3 a4_4 a5_5 a6_6, zAr T 0 a1_1 7 f1, zAr T 0 a2_2 7 f2, zAr T 0 a3_3 7 f3, zAr T 0 a4_4 n4 f4, zAr T 0 a5_5 n4 f5, zAr T 0 a6_6 n4 f6]] _ _ := G
    subst h_18
    refine lv_goto (tgt := 28) hx hb dX0_stepsOrNever_22 (by decide) ?_
    have G := G.sub (bs' := [[zO0 h md wy la pc_ a1_1 a2_2 a3_3 a4_4 a5_5 a6_6, zAr T 0 a1_1 7 f1, zAr T 0 a2_2 7 f2, zAr T 0 a3_3 7 f3, zAr T 0 a4_4 n4 f4, zAr T 0 a5_5 n4 f5, zAr T 0 a6_6 n4 f6], z]) [1, 0] rfl
    exact z_back hQz_ (z_iret C hr hlocks G (Nat.le_of_ble_eq_true rfl) (Nat.le_of_ble_eq_true rfl) dX0_stepsOrNever_28 ⟨rfl, (by unfold gSn; rw [if_pos hii9]; exact hE9.2.1)⟩)
  · have h_17 : ((rWh (aW cr inn k1) k2 w_ x).toInt < 0 ∨ cr.toInt ≤ (rWh (aW cr inn k1) k2 w_ x).toInt ∨ 7 ≤ (rWh (aW cr inn k1) k2 w_ x).toInt ∨ zBit inn (rWh (aW cr inn k1) k2 w_ x) = 0) := h_17
    have hBb9 := zEnt_b (inn := inn) (w := w_) (x := x) hI hLq hwl ⟨hx71, hx72, hx73⟩
    have hcr9 := hI.1
    have hbb9 : 0 ≤ (rWh (aW cr inn k1) k2 w_ x).toInt ∧ (rWh (aW cr inn k1) k2 w_ x).toInt < cr.toInt := ⟨hBb9.1, hBb9.2.1⟩
    have hii9 : ¬ zBit inn (rWh (aW cr inn k1) k2 w_ x) = 1 := fun q8 => by rcases h_17 with e9 | e9 | e9 | e9 <;> first | omega | exact zBit_o q8 e9
    refine lv_if_eq (tgt := 25) hx hb dX0_stepsOrNever_13 (by decide) (fun _ => ?_) (fun q => absurd (by decide) q)
    refine lv_sipush (v := 500) hx hb dX0_stepsOrNever_25 (by decide) ?_
    exact z_back hQz_ (z_iret C hr hlocks G (Nat.le_of_ble_eq_true rfl) (Nat.le_of_ble_eq_true rfl) dX0_stepsOrNever_28 ⟨rfl, (by unfold gSn; rw [if_neg hii9]; rfl)⟩)
set_option maxHeartbeats 4000000 in
set_option maxRecDepth 100000 in
/-- worth -/
theorem c_f_worth0 (l : Launch) (T : zTy) (h : Nat) (la : Nat) (md : Int32) (wy : Int32) (pc_ : Int32) (f1 : Nat → Int32) (f2 : Nat → Int32) (f3 : Nat → Int32) (f4 : Nat → Int32) (f5 : Nat → Int32) (f6 : Nat → Int32) (n4 : Nat) (ww : va_W) (cr : Int32) (inn : Int32) (k1 : Nat → Int32) (k2 : Nat → Int32) (k3 : Nat → Int32) (k4 : Nat → Int32) (z : va_W) (w_ : Nat) (x : Int32) (q : Int32) (hww : bWays T h la md wy pc_ f1 f2 f3 f4 f5 f6 n4 ww) (hz : bLand T la cr inn k1 k2 k3 k4 z) (hI : zLI cr k1 k3) (hn : n4 ≤ 131072) (hF : aF cr inn k1 f1 f2) (hO : aOk (aW cr inn k1) k2) (hTt : zTab cr inn k1 k2 wy pc_ f1 f2 f5 n4) (hx7 : zHas cr x) (hwl : w_ < aPr (aW cr inn k1) 7) (hLq : zLq cr k1 k2) : zMi l T yX11_worth cX11_worth 9 (some .int) 5 0 0 [.ref h, .int (nI w_), .int x, .int 0, .int q] [ww, z] (fun (r : Int32) bs => bs = [ww, z] ∧ r.toInt = gV (aW cr inn k1) k2 inn x 0 (decide (¬ q = 0)) w_) := by
  refine zMi_of (own := RX11) (by decide) rfl (Nat.le_of_ble_eq_true rfl) ?_
  intro p e s m args below meth c A ls C hr hlocks hnm hAe G hl
  refine zHide (fun Qz_ hQz_ => ?_)
  have hx := C.1
  have hb := C.2.1
  have hl : lv_has ls 9 [(0, .ref h), (1, .int (nI w_)), (2, .int x), (3, .int 0), (4, .int q)] := hl
  have hp79 : aPr (aW cr inn k1) 7 ≤ 16384 := aPr_7 hI
  have hwT9 := nI_toInt (n := w_) (by omega)
  have hwN9 := nI_n (n := w_) (by omega)
  obtain ⟨hx71, hx72, hx73⟩ := hx7
  refine lv_iload_n hx hb dX11_worth_0 rfl (lv_at hl 3 rfl) ?_
  refine lv_if_le (tgt := 9) hx hb dX11_worth_1 (by decide) (fun _ => ?_) (fun q => absurd (by decide) q)
  refine lv_aload_n hx hb dX11_worth_9 rfl (lv_at hl 0 rfl) ?_
  refine lv_iload_n hx hb dX11_worth_10 rfl (lv_at hl 1 rfl) ?_
  refine lv_iload_n hx hb dX11_worth_11 rfl (lv_at hl 2 rfl) ?_
  refine z_Vi (bc := [ww, z]) (br := []) (As := [.int (nI w_), .int x]) (rest := []) C G (c_f_stepsOrNever l T h la md wy pc_ f1 f2 f3 f4 f5 f6 n4 ww cr inn k1 k2 k3 k4 z w_ x hww hz (by first | with_reducible assumption | with_reducible rfl | omega | assumption | rfl) (by first | with_reducible assumption | with_reducible rfl | omega | assumption | rfl) (by first | with_reducible assumption | with_reducible rfl | omega | assumption | rfl) (by first | with_reducible assumption | with_reducible rfl | omega | assumption | rfl) hTt ⟨hx71, hx72, hx73⟩ hwl (by first | with_reducible assumption | with_reducible rfl | omega | assumption | rfl)) (kV_RX11_286 C.2.2.2.2 (Nat.le_of_ble_eq_true rfl) (Nat.le_of_ble_eq_true rfl)) [0, 1] [0, 0] rfl rfl (ci := 0) (qc := (RX0, TX0, 10)) rfl rfl (List.mem_flatten.mpr ⟨_, List.mem_of_getElem? (i := 0) rfl, (bWays_mem hww).choose_spec⟩) rfl rfl hl.1 dX11_worth_12 (Nat.le_of_ble_eq_true rfl) (Nat.le_of_ble_eq_true rfl) (fun r_2 b1 H locs hw G => ?_)
  refine zAn2 hw ?_
  intro hbs9 h_1
  clear hw
  subst hbs9
  have G : zS T A s.heap s [ww, z] _ _ := G
  exact z_back hQz_ (z_iret C hr hlocks G (Nat.le_of_ble_eq_true rfl) (Nat.le_of_ble_eq_true rfl) dX11_worth_15 ⟨rfl, (by have q9 := gSn_le (W := (aW cr inn k1)) (L := k2) (inn := inn) (x := x) (w := w_); rw [h_1, nI_toInt (by omega)]; rfl)⟩)
set_option maxHeartbeats 4000000 in
set_option maxRecDepth 100000 in
/-- worth -/
theorem c_f_worth1 (l : Launch) (T : zTy) (h : Nat) (la : Nat) (md : Int32) (wy : Int32) (pc_ : Int32) (f1 : Nat → Int32) (f2 : Nat → Int32) (f3 : Nat → Int32) (f4 : Nat → Int32) (f5 : Nat → Int32) (f6 : Nat → Int32) (n4 : Nat) (ww : va_W) (cr : Int32) (inn : Int32) (k1 : Nat → Int32) (k2 : Nat → Int32) (k3 : Nat → Int32) (k4 : Nat → Int32) (z : va_W) (w_ : Nat) (x : Int32) (q : Int32) (hww : bWays T h la md wy pc_ f1 f2 f3 f4 f5 f6 n4 ww) (hz : bLand T la cr inn k1 k2 k3 k4 z) (hI : zLI cr k1 k3) (hn : n4 ≤ 131072) (hF : aF cr inn k1 f1 f2) (hO : aOk (aW cr inn k1) k2) (hTt : zTab cr inn k1 k2 wy pc_ f1 f2 f5 n4) (hx7 : zHas cr x) (hwl : w_ < aPr (aW cr inn k1) 7) (hLq : zLq cr k1 k2) : zMi l T yX11_worth cX11_worth 9 (some .int) 6 0 0 [.ref h, .int (nI w_), .int x, .int 1, .int q] [ww, z] (fun (r : Int32) bs => bs = [ww, z] ∧ r.toInt = gV (aW cr inn k1) k2 inn x 1 (decide (¬ q = 0)) w_) := by
  refine zMi_of (own := RX11) (by decide) rfl (Nat.le_of_ble_eq_true rfl) ?_
  intro p e s m args below meth c A ls C hr hlocks hnm hAe G hl
  refine zHide (fun Qz_ hQz_ => ?_)
  have hx := C.1
  have hb := C.2.1
  have hl : lv_has ls 9 [(0, .ref h), (1, .int (nI w_)), (2, .int x), (3, .int 1), (4, .int q)] := hl
  have hp79 : aPr (aW cr inn k1) 7 ≤ 16384 := aPr_7 hI
  have hwT9 := nI_toInt (n := w_) (by omega)
  have hwN9 := nI_n (n := w_) (by omega)
  obtain ⟨hx71, hx72, hx73⟩ := hx7
  refine lv_iload_n hx hb dX11_worth_0 rfl (lv_at hl 3 rfl) ?_
  refine lv_if_le (tgt := 9) hx hb dX11_worth_1 (by decide) (fun q => absurd q (by decide)) (fun _ => ?_)
  refine lv_iload_n hx hb dX11_worth_4 rfl (lv_at hl 3 rfl) ?_
  refine lv_iconst (v := 3) hx hb dX11_worth_5 (by decide) ?_
  refine lv_icmp_le (tgt := 16) hx hb dX11_worth_6 (by decide) (fun _ => ?_) (fun q => absurd (by decide) q)
  refine lv_iconst (v := (-1)) hx hb dX11_worth_16 (by decide) ?_
  refine lv_istore (lv' := [(5, .int (-1)), (0, .ref h), (1, .int (nI w_)), (2, .int x), (3, .int 1), (4, .int q)]) hx hb dX11_worth_17 hl (by decide) (zLvf_h rfl) (fun ls hl => ?_)
  refine lv_iconst (v := 0) hx hb dX11_worth_19 (by decide) ?_
  refine lv_istore (lv' := [(6, .int 0), (5, .int (-1)), (0, .ref h), (1, .int (nI w_)), (2, .int x), (3, .int 1), (4, .int q)]) hx hb dX11_worth_20 hl (by decide) (zLvf_h rfl) (fun ls hl => ?_)
  refine z_lp2 (T := T) 22 (fun (i : Nat) (u : Int32) => [ww, z]) (fun (i : Nat) (u : Int32) => [(6, .int (nI i)), (5, .int u), (0, .ref h), (1, .int (nI w_)), (2, .int x), (3, .int 1), (4, .int q)]) (fun (i : Nat) (u : Int32) => i ≤ 8 ∧ u.toInt = gMm (gOk (aW cr inn k1)) (fun c => gV (aW cr inn k1) k2 inn x 0 (!(decide (¬ q = 0))) (gTn (aW cr inn k1) w_ c)) (decide (¬ q = 0)) i) (fun (i : Nat) (u : Int32) => 8 - i) ?_ 0 (-1) (show 0 ≤ 8 ∧ ((-1) : Int32).toInt = gMm (gOk (aW cr inn k1)) (fun c => gV (aW cr inn k1) k2 inn x 0 (!(decide (¬ q = 0))) (gTn (aW cr inn k1) w_ c)) (decide (¬ q = 0)) 0 from ⟨by omega, rfl⟩) G (lv_sub hl [0, 1, 2, 3, 4, 5, 6] rfl)
  intro i u hI9 ih_22 H locs ls G hl
  replace hI9 : i ≤ 8 ∧ u.toInt = gMm (gOk (aW cr inn k1)) (fun c => gV (aW cr inn k1) k2 inn x 0 (!(decide (¬ q = 0))) (gTn (aW cr inn k1) w_ c)) (decide (¬ q = 0)) i := hI9
  refine zAn2 hI9 ?_
  intro hi hu
  clear hI9
  replace G : zS T A s.heap s [ww, z] _ _ := G
  replace hl : lv_has ls 9 [(6, .int (nI i)), (5, .int u), (0, .ref h), (1, .int (nI w_)), (2, .int x), (3, .int 1), (4, .int q)] := hl
  refine lv_iload hx hb dX11_worth_22 (lv_at hl 0 rfl) ?_
  refine lv_bipush (v := 7) hx hb dX11_worth_24 (by decide) ?_
  refine lv_icmp_gt (tgt := 120) hx hb dX11_worth_26 (by decide) (fun c_1 => ?_) (fun c_1 => ?_)
  · have c_1n : 7 < i := (nI_ltI (a := 7) (b := i) (by omega) (by omega)).mp c_1
    refine lv_iload hx hb dX11_worth_120 (lv_at hl 1 rfl) ?_
    exact z_back hQz_ (z_iret C hr hlocks G (Nat.le_of_ble_eq_true rfl) (Nat.le_of_ble_eq_true rfl) dX11_worth_122 ⟨rfl, (by rw [hu, show i = 8 by omega]; exact (gV_s (k := 0)).symm)⟩)
  · have c_1n : ¬ 7 < i := fun q => c_1 ((nI_ltI (a := 7) (b := i) (by omega) (by omega)).mpr q)
    refine lv_iload hx hb dX11_worth_29 (lv_at hl 0 rfl) ?_
    refine lv_bipush (v := 7) hx hb dX11_worth_31 (by decide) ?_
    refine lv_icmp_ne (tgt := 40) hx hb dX11_worth_33 (by decide) (fun c_2 => ?_) (fun c_2 => ?_)
    · have c_2n : ¬ i = 7 := fun q => c_2 ((nI_eq (a := i) (b := 7) (by omega) (by omega)).mpr q)
      refine lv_aload_n hx hb dX11_worth_40 rfl (lv_at hl 2 rfl) ?_
      refine lv_iload_n hx hb dX11_worth_41 rfl (lv_at hl 3 rfl) ?_
      refine lv_iload hx hb dX11_worth_42 (lv_at hl 0 rfl) ?_
      refine z_Vi (bc := [ww, z]) (br := []) (As := [.int (nI w_), .int (nI i)]) (rest := []) C G (c_f_turned l T h la md wy pc_ f1 f2 f3 f4 f5 f6 n4 ww cr inn k1 k2 k3 k4 z (nI w_) (nI i) hww hz (by first | with_reducible assumption | with_reducible rfl | omega | assumption | rfl) (by first | with_reducible assumption | with_reducible rfl | omega | assumption | rfl) (by first | with_reducible assumption | with_reducible rfl | omega | assumption | rfl) (by rw [hwT9]; omega) (by rw [nI_toInt (by omega)]; omega)) (kV_RX11_289 C.2.2.2.2 (Nat.le_of_ble_eq_true rfl) (Nat.le_of_ble_eq_true rfl)) [0, 1] [0, 0] rfl rfl (ci := 0) (qc := (RX0, TX0, 10)) rfl rfl (List.mem_flatten.mpr ⟨_, List.mem_of_getElem? (i := 0) rfl, (bWays_mem hww).choose_spec⟩) rfl rfl hl.1 dX11_worth_44 (Nat.le_of_ble_eq_true rfl) (Nat.le_of_ble_eq_true rfl) (fun r_4 b1 H locs hw G => ?_)
      refine zAn2 hw ?_
      intro hbs9 h_3
      clear hw
      subst hbs9
      have G : zS T A s.heap s [ww, z] _ _ := G
      have ti9 := nI_toInt (n := i) (by omega)
      refine lv_istore (lv' := [(7, .int r_4), (6, .int (nI i)), (5, .int u), (0, .ref h), (1, .int (nI w_)), (2, .int x), (3, .int 1), (4, .int q)]) hx hb dX11_worth_47 hl (by decide) (zLvf_h rfl) (fun ls hl => ?_)
      rcases h_3 with htn9 | htn9
      · obtain rfl : r_4 = -1 := htn9.2
        have hok9 : ¬ gOk (aW cr inn k1) i = true := gOk_n (by omega) (by have q9 := htn9.1; show ¬ 0 < (zWays cr inn k1 (nI i)).toInt; rw [q9]; decide)
        refine lv_iload hx hb dX11_worth_49 (lv_at hl 0 rfl) ?_
        refine lv_iconst (v := (-1)) hx hb dX11_worth_51 (by decide) ?_
        refine lv_icmp_eq (tgt := 114) hx hb dX11_worth_52 (by decide) (fun _ => ?_) (fun q => absurd rfl q)
        have hun9 : u.toInt = gMm (gOk (aW cr inn k1)) (fun c => gV (aW cr inn k1) k2 inn x 0 (!(decide (¬ q = 0))) (gTn (aW cr inn k1) w_ c)) (decide (¬ q = 0)) (i + 1) := by rw [gMm_o hok9]; exact hu
        refine lv_iinc (v := nI (i + 1)) (lv' := [(6, .int (nI (i + 1))), (7, .int (-1)), (5, .int u), (0, .ref h), (1, .int (nI w_)), (2, .int x), (3, .int 1), (4, .int q)]) hx hb dX11_worth_114 hl (k := 1) rfl (z_inc i 1) (by decide) (zLvf_h rfl) (fun ls hl => ?_)
        refine lv_goto (tgt := 22) hx hb dX11_worth_117 (by decide) ?_
        exact ih_22 (i + 1) u (show (i + 1) ≤ 8 ∧ u.toInt = gMm (gOk (aW cr inn k1)) (fun c => gV (aW cr inn k1) k2 inn x 0 (!(decide (¬ q = 0))) (gTn (aW cr inn k1) w_ c)) (decide (¬ q = 0)) (i + 1) from ⟨by omega, hun9⟩) (show 8 - (i + 1) < 8 - i from by omega) _ _ ls G (lv_sub hl [0, 2, 3, 4, 5, 6, 7] rfl)
      · obtain rfl : r_4 = nI (aTn (aW cr inn k1) w_ i) := by have q9 := htn9.2; rw [hwN9, nI_n (by omega)] at q9; exact q9
        have hwz9 := zWays_le (inn := inn) hI (nI i)
        have hok9 : gOk (aW cr inn k1) i = true := gOk_y (by omega) (by have q9 := htn9.1; show 0 < (zWays cr inn k1 (nI i)).toInt; have q8 : ¬ (zWays cr inn k1 (nI i)).toInt = 0 := fun z9 => q9 (Int32.toInt_inj.mp z9); omega)
        have htl9 : aTn (aW cr inn k1) w_ i < aPr (aW cr inn k1) 7 := aTn_lt (by omega) hwl
        refine lv_iload hx hb dX11_worth_49 (lv_at hl 0 rfl) ?_
        refine lv_iconst (v := (-1)) hx hb dX11_worth_51 (by decide) ?_
        refine lv_icmp_eq (tgt := 114) hx hb dX11_worth_52 (by decide) (fun q => absurd q (nIm1 (by omega))) (fun _ => ?_)
        refine lv_aload_n hx hb dX11_worth_55 rfl (lv_at hl 3 rfl) ?_
        refine lv_iload hx hb dX11_worth_56 (lv_at hl 0 rfl) ?_
        refine lv_iload_n hx hb dX11_worth_58 rfl (lv_at hl 5 rfl) ?_
        refine lv_iload_n hx hb dX11_worth_59 rfl (lv_at hl 6 rfl) ?_
        refine lv_iconst (v := 1) hx hb dX11_worth_60 (by decide) ?_
        refine lv_isub hx hb dX11_worth_61 ?_
        refine lv_topi (fun y_5 ey_5 => ?_)
        obtain rfl : y_5 = 0 := ey_5.trans (by decide)
        refine lv_iload hx hb dX11_worth_62 (lv_at hl 7 rfl) ?_
        refine lv_if_ne (tgt := 71) hx hb dX11_worth_64 (by decide) (fun c_6 => ?_) (fun c_6 => ?_)
        · have c_6n : ¬ q.toInt = (0 : Int) := fun q => c_6 ((fa_eq _ _).mpr q)
          refine lv_iconst (v := 0) hx hb dX11_worth_71 (by decide) ?_
          refine z_Si (bc := [ww, z]) (br := []) (As := [.ref h, .int (nI (aTn (aW cr inn k1) w_ i)), .int x, .int 0, .int 0]) (rest := []) C G (c_f_worth0 l T h la md wy pc_ f1 f2 f3 f4 f5 f6 n4 ww cr inn k1 k2 k3 k4 z (aTn (aW cr inn k1) w_ i) x 0 hww hz (by first | with_reducible assumption | with_reducible rfl | omega | assumption | rfl) (by first | with_reducible assumption | with_reducible rfl | omega | assumption | rfl) (by first | with_reducible assumption | with_reducible rfl | omega | assumption | rfl) (by first | with_reducible assumption | with_reducible rfl | omega | assumption | rfl) hTt ⟨hx71, hx72, hx73⟩ htl9 (by first | with_reducible assumption | with_reducible rfl | omega | assumption | rfl)) (kS_RX11_278 C.2.2.2.2 (Nat.le_of_ble_eq_true rfl) (Nat.le_of_ble_eq_true rfl)) [0, 1] [0, 0] rfl rfl rfl rfl hl.1 dX11_worth_72 (Nat.le_of_ble_eq_true rfl) (Nat.le_of_ble_eq_true rfl) (fun r_8 b1 H locs hw G => ?_)
          refine zAn2 hw ?_
          intro hbs9 h_7
          clear hw
          subst hbs9
          have G : zS T A s.heap s [ww, z] _ _ := G
          have hqd9 : decide (¬ q = 0) = true := decide_eq_true (by first | with_reducible assumption | assumption)
          have hmn9 : decide (¬ (0 : Int32) = 0) = !decide (¬ q = 0) := by rw [hqd9]; rfl
          have hv9 : r_8.toInt = gV (aW cr inn k1) k2 inn x 0 (!(decide (¬ q = 0))) (gTn (aW cr inn k1) w_ i) := by rw [← hmn9, gTn_c (by omega)]; exact h_7
          refine lv_istore (lv' := [(8, .int r_8), (7, .int (nI (aTn (aW cr inn k1) w_ i))), (6, .int (nI i)), (5, .int u), (0, .ref h), (1, .int (nI w_)), (2, .int x), (3, .int 1), (4, .int q)]) hx hb dX11_worth_75 hl (by decide) (zLvf_h rfl) (fun ls hl => ?_)
          refine lv_iload hx hb dX11_worth_77 (lv_at hl 3 rfl) ?_
          refine lv_iconst (v := (-1)) hx hb dX11_worth_79 (by decide) ?_
          refine lv_icmp_eq (tgt := 105) hx hb dX11_worth_80 (by decide) (fun c_9 => ?_) (fun c_9 => ?_)
          · have c_9n : u.toInt = (-1 : Int) := (fa_eq _ _).mp c_9
            refine lv_iload hx hb dX11_worth_105 (lv_at hl 0 rfl) ?_
            refine lv_goto (tgt := 112) hx hb dX11_worth_107 (by decide) ?_
            refine lv_istore (lv' := [(5, .int r_8), (8, .int r_8), (7, .int (nI (aTn (aW cr inn k1) w_ i))), (6, .int (nI i)), (0, .ref h), (1, .int (nI w_)), (2, .int x), (3, .int 1), (4, .int q)]) hx hb dX11_worth_112 hl (by decide) (zLvf_h rfl) (fun ls hl => ?_)
            have hun9 : r_8.toInt = gMm (gOk (aW cr inn k1)) (fun c => gV (aW cr inn k1) k2 inn x 0 (!(decide (¬ q = 0))) (gTn (aW cr inn k1) w_ c)) (decide (¬ q = 0)) (i + 1) := ((gMm_s (ok := (gOk (aW cr inn k1))) (v := (fun c => gV (aW cr inn k1) k2 inn x 0 (!(decide (¬ q = 0))) (gTn (aW cr inn k1) w_ c))) (mn := (decide (¬ q = 0))) hu.symm hv9.symm hok9).trans (if_pos (by first | exact Or.inl (by omega) | (exact Or.inr (by first | (rw [if_pos hqd9]; omega) | (rw [if_neg hqd9]; omega)))))).symm
            refine lv_iinc (v := nI (i + 1)) (lv' := [(6, .int (nI (i + 1))), (5, .int r_8), (8, .int r_8), (7, .int (nI (aTn (aW cr inn k1) w_ i))), (0, .ref h), (1, .int (nI w_)), (2, .int x), (3, .int 1), (4, .int q)]) hx hb dX11_worth_114 hl (k := 3) rfl (z_inc i 1) (by decide) (zLvf_h rfl) (fun ls hl => ?_)
            refine lv_goto (tgt := 22) hx hb dX11_worth_117 (by decide) ?_
            exact ih_22 (i + 1) r_8 (show (i + 1) ≤ 8 ∧ r_8.toInt = gMm (gOk (aW cr inn k1)) (fun c => gV (aW cr inn k1) k2 inn x 0 (!(decide (¬ q = 0))) (gTn (aW cr inn k1) w_ c)) (decide (¬ q = 0)) (i + 1) from ⟨by omega, hun9⟩) (show 8 - (i + 1) < 8 - i from by omega) _ _ ls G (lv_sub hl [0, 1, 4, 5, 6, 7, 8] rfl)
          · have c_9n : ¬ u.toInt = (-1 : Int) := fun q => c_9 ((fa_eq _ _).mpr q)
            refine lv_iload hx hb dX11_worth_83 (lv_at hl 8 rfl) ?_
            refine lv_if_eq (tgt := 98) hx hb dX11_worth_85 (by decide) (fun q => absurd q c_6) (fun _ => ?_)
            refine lv_iload hx hb dX11_worth_88 (lv_at hl 0 rfl) ?_
            refine lv_iload hx hb dX11_worth_90 (lv_at hl 3 rfl) ?_
            refine lv_icmp_ge (tgt := 110) hx hb dX11_worth_92 (by decide) (fun c_10 => ?_) (fun c_10 => ?_)
            · have c_10n : u.toInt ≤ r_8.toInt := (fa_le _ _).mp c_10
              refine lv_iload hx hb dX11_worth_110 (lv_at hl 3 rfl) ?_
              refine lv_istore (lv' := [(5, .int u), (8, .int r_8), (7, .int (nI (aTn (aW cr inn k1) w_ i))), (6, .int (nI i)), (0, .ref h), (1, .int (nI w_)), (2, .int x), (3, .int 1), (4, .int q)]) hx hb dX11_worth_112 hl (by decide) (zLvf_h rfl) (fun ls hl => ?_)
              have hun9 : u.toInt = gMm (gOk (aW cr inn k1)) (fun c => gV (aW cr inn k1) k2 inn x 0 (!(decide (¬ q = 0))) (gTn (aW cr inn k1) w_ c)) (decide (¬ q = 0)) (i + 1) := ((gMm_s (ok := (gOk (aW cr inn k1))) (v := (fun c => gV (aW cr inn k1) k2 inn x 0 (!(decide (¬ q = 0))) (gTn (aW cr inn k1) w_ c))) (mn := (decide (¬ q = 0))) hu.symm hv9.symm hok9).trans (if_neg (fun z9 => by rcases z9 with z9 | z9 <;> first | omega | (rw [if_pos hqd9] at z9; omega) | (rw [if_neg hqd9] at z9; omega)))).symm
              refine lv_iinc (v := nI (i + 1)) (lv' := [(6, .int (nI (i + 1))), (5, .int u), (8, .int r_8), (7, .int (nI (aTn (aW cr inn k1) w_ i))), (0, .ref h), (1, .int (nI w_)), (2, .int x), (3, .int 1), (4, .int q)]) hx hb dX11_worth_114 hl (k := 3) rfl (z_inc i 1) (by decide) (zLvf_h rfl) (fun ls hl => ?_)
              refine lv_goto (tgt := 22) hx hb dX11_worth_117 (by decide) ?_
              exact ih_22 (i + 1) u (show (i + 1) ≤ 8 ∧ u.toInt = gMm (gOk (aW cr inn k1)) (fun c => gV (aW cr inn k1) k2 inn x 0 (!(decide (¬ q = 0))) (gTn (aW cr inn k1) w_ c)) (decide (¬ q = 0)) (i + 1) from ⟨by omega, hun9⟩) (show 8 - (i + 1) < 8 - i from by omega) _ _ ls G (lv_sub hl [0, 1, 4, 5, 6, 7, 8] rfl)
            · have c_10n : ¬ u.toInt ≤ r_8.toInt := fun q => c_10 ((fa_le _ _).mpr q)
              refine lv_goto (tgt := 105) hx hb dX11_worth_95 (by decide) ?_
              refine lv_iload hx hb dX11_worth_105 (lv_at hl 0 rfl) ?_
              refine lv_goto (tgt := 112) hx hb dX11_worth_107 (by decide) ?_
              refine lv_istore (lv' := [(5, .int r_8), (8, .int r_8), (7, .int (nI (aTn (aW cr inn k1) w_ i))), (6, .int (nI i)), (0, .ref h), (1, .int (nI w_)), (2, .int x), (3, .int 1), (4, .int q)]) hx hb dX11_worth_112 hl (by decide) (zLvf_h rfl) (fun ls hl => ?_)
              have hun9 : r_8.toInt = gMm (gOk (aW cr inn k1)) (fun c => gV (aW cr inn k1) k2 inn x 0 (!(decide (¬ q = 0))) (gTn (aW cr inn k1) w_ c)) (decide (¬ q = 0)) (i + 1) := ((gMm_s (ok := (gOk (aW cr inn k1))) (v := (fun c => gV (aW cr inn k1) k2 inn x 0 (!(decide (¬ q = 0))) (gTn (aW cr inn k1) w_ c))) (mn := (decide (¬ q = 0))) hu.symm hv9.symm hok9).trans (if_pos (by first | exact Or.inl (by omega) | (exact Or.inr (by first | (rw [if_pos hqd9]; omega) | (rw [if_neg hqd9]; omega)))))).symm
              refine lv_iinc (v := nI (i + 1)) (lv' := [(6, .int (nI (i + 1))), (5, .int r_8), (8, .int r_8), (7, .int (nI (aTn (aW cr inn k1) w_ i))), (0, .ref h), (1, .int (nI w_)), (2, .int x), (3, .int 1), (4, .int q)]) hx hb dX11_worth_114 hl (k := 3) rfl (z_inc i 1) (by decide) (zLvf_h rfl) (fun ls hl => ?_)
              refine lv_goto (tgt := 22) hx hb dX11_worth_117 (by decide) ?_
              exact ih_22 (i + 1) r_8 (show (i + 1) ≤ 8 ∧ r_8.toInt = gMm (gOk (aW cr inn k1)) (fun c => gV (aW cr inn k1) k2 inn x 0 (!(decide (¬ q = 0))) (gTn (aW cr inn k1) w_ c)) (decide (¬ q = 0)) (i + 1) from ⟨by omega, hun9⟩) (show 8 - (i + 1) < 8 - i from by omega) _ _ ls G (lv_sub hl [0, 1, 4, 5, 6, 7, 8] rfl)
        · have c_6n : q.toInt = (0 : Int) := (fa_eq _ _).mp c_6
          refine lv_iconst (v := 1) hx hb dX11_worth_67 (by decide) ?_
          refine lv_goto (tgt := 72) hx hb dX11_worth_68 (by decide) ?_
          refine z_Si (bc := [ww, z]) (br := []) (As := [.ref h, .int (nI (aTn (aW cr inn k1) w_ i)), .int x, .int 0, .int 1]) (rest := []) C G (c_f_worth0 l T h la md wy pc_ f1 f2 f3 f4 f5 f6 n4 ww cr inn k1 k2 k3 k4 z (aTn (aW cr inn k1) w_ i) x 1 hww hz (by first | with_reducible assumption | with_reducible rfl | omega | assumption | rfl) (by first | with_reducible assumption | with_reducible rfl | omega | assumption | rfl) (by first | with_reducible assumption | with_reducible rfl | omega | assumption | rfl) (by first | with_reducible assumption | with_reducible rfl | omega | assumption | rfl) hTt ⟨hx71, hx72, hx73⟩ htl9 (by first | with_reducible assumption | with_reducible rfl | omega | assumption | rfl)) (kS_RX11_278 C.2.2.2.2 (Nat.le_of_ble_eq_true rfl) (Nat.le_of_ble_eq_true rfl)) [0, 1] [0, 0] rfl rfl rfl rfl hl.1 dX11_worth_72 (Nat.le_of_ble_eq_true rfl) (Nat.le_of_ble_eq_true rfl) (fun r_12 b1 H locs hw G => ?_)
          refine zAn2 hw ?_
          intro hbs9 h_11
          clear hw
          subst hbs9
          have G : zS T A s.heap s [ww, z] _ _ := G
          have hqd9 : ¬ decide (¬ q = 0) = true := by rw [decide_eq_false (fun z9 => z9 (by first | with_reducible assumption | assumption))]; exact Bool.false_ne_true
          have hmn9 : decide (¬ (1 : Int32) = 0) = !decide (¬ q = 0) := by rw [Bool.eq_false_iff.mpr hqd9]; rfl
          have hv9 : r_12.toInt = gV (aW cr inn k1) k2 inn x 0 (!(decide (¬ q = 0))) (gTn (aW cr inn k1) w_ i) := by rw [← hmn9, gTn_c (by omega)]; exact h_11
          refine lv_istore (lv' := [(8, .int r_12), (7, .int (nI (aTn (aW cr inn k1) w_ i))), (6, .int (nI i)), (5, .int u), (0, .ref h), (1, .int (nI w_)), (2, .int x), (3, .int 1), (4, .int q)]) hx hb dX11_worth_75 hl (by decide) (zLvf_h rfl) (fun ls hl => ?_)
          refine lv_iload hx hb dX11_worth_77 (lv_at hl 3 rfl) ?_
          refine lv_iconst (v := (-1)) hx hb dX11_worth_79 (by decide) ?_
          refine lv_icmp_eq (tgt := 105) hx hb dX11_worth_80 (by decide) (fun c_13 => ?_) (fun c_13 => ?_)
          · have c_13n : u.toInt = (-1 : Int) := (fa_eq _ _).mp c_13
            refine lv_iload hx hb dX11_worth_105 (lv_at hl 0 rfl) ?_
            refine lv_goto (tgt := 112) hx hb dX11_worth_107 (by decide) ?_
            refine lv_istore (lv' := [(5, .int r_12), (8, .int r_12), (7, .int (nI (aTn (aW cr inn k1) w_ i))), (6, .int (nI i)), (0, .ref h), (1, .int (nI w_)), (2, .int x), (3, .int 1), (4, .int q)]) hx hb dX11_worth_112 hl (by decide) (zLvf_h rfl) (fun ls hl => ?_)
            have hun9 : r_12.toInt = gMm (gOk (aW cr inn k1)) (fun c => gV (aW cr inn k1) k2 inn x 0 (!(decide (¬ q = 0))) (gTn (aW cr inn k1) w_ c)) (decide (¬ q = 0)) (i + 1) := ((gMm_s (ok := (gOk (aW cr inn k1))) (v := (fun c => gV (aW cr inn k1) k2 inn x 0 (!(decide (¬ q = 0))) (gTn (aW cr inn k1) w_ c))) (mn := (decide (¬ q = 0))) hu.symm hv9.symm hok9).trans (if_pos (by first | exact Or.inl (by omega) | (exact Or.inr (by first | (rw [if_pos hqd9]; omega) | (rw [if_neg hqd9]; omega)))))).symm
            refine lv_iinc (v := nI (i + 1)) (lv' := [(6, .int (nI (i + 1))), (5, .int r_12), (8, .int r_12), (7, .int (nI (aTn (aW cr inn k1) w_ i))), (0, .ref h), (1, .int (nI w_)), (2, .int x), (3, .int 1), (4, .int q)]) hx hb dX11_worth_114 hl (k := 3) rfl (z_inc i 1) (by decide) (zLvf_h rfl) (fun ls hl => ?_)
            refine lv_goto (tgt := 22) hx hb dX11_worth_117 (by decide) ?_
            exact ih_22 (i + 1) r_12 (show (i + 1) ≤ 8 ∧ r_12.toInt = gMm (gOk (aW cr inn k1)) (fun c => gV (aW cr inn k1) k2 inn x 0 (!(decide (¬ q = 0))) (gTn (aW cr inn k1) w_ c)) (decide (¬ q = 0)) (i + 1) from ⟨by omega, hun9⟩) (show 8 - (i + 1) < 8 - i from by omega) _ _ ls G (lv_sub hl [0, 1, 4, 5, 6, 7, 8] rfl)
          · have c_13n : ¬ u.toInt = (-1 : Int) := fun q => c_13 ((fa_eq _ _).mpr q)
            refine lv_iload hx hb dX11_worth_83 (lv_at hl 8 rfl) ?_
            refine lv_if_eq (tgt := 98) hx hb dX11_worth_85 (by decide) (fun _ => ?_) (fun q => absurd c_6 q)
            refine lv_iload hx hb dX11_worth_98 (lv_at hl 0 rfl) ?_
            refine lv_iload hx hb dX11_worth_100 (lv_at hl 3 rfl) ?_
            refine lv_icmp_le (tgt := 110) hx hb dX11_worth_102 (by decide) (fun c_14 => ?_) (fun c_14 => ?_)
            · have c_14n : r_12.toInt ≤ u.toInt := (fa_le _ _).mp c_14
              refine lv_iload hx hb dX11_worth_110 (lv_at hl 3 rfl) ?_
              refine lv_istore (lv' := [(5, .int u), (8, .int r_12), (7, .int (nI (aTn (aW cr inn k1) w_ i))), (6, .int (nI i)), (0, .ref h), (1, .int (nI w_)), (2, .int x), (3, .int 1), (4, .int q)]) hx hb dX11_worth_112 hl (by decide) (zLvf_h rfl) (fun ls hl => ?_)
              have hun9 : u.toInt = gMm (gOk (aW cr inn k1)) (fun c => gV (aW cr inn k1) k2 inn x 0 (!(decide (¬ q = 0))) (gTn (aW cr inn k1) w_ c)) (decide (¬ q = 0)) (i + 1) := ((gMm_s (ok := (gOk (aW cr inn k1))) (v := (fun c => gV (aW cr inn k1) k2 inn x 0 (!(decide (¬ q = 0))) (gTn (aW cr inn k1) w_ c))) (mn := (decide (¬ q = 0))) hu.symm hv9.symm hok9).trans (if_neg (fun z9 => by rcases z9 with z9 | z9 <;> first | omega | (rw [if_pos hqd9] at z9; omega) | (rw [if_neg hqd9] at z9; omega)))).symm
              refine lv_iinc (v := nI (i + 1)) (lv' := [(6, .int (nI (i + 1))), (5, .int u), (8, .int r_12), (7, .int (nI (aTn (aW cr inn k1) w_ i))), (0, .ref h), (1, .int (nI w_)), (2, .int x), (3, .int 1), (4, .int q)]) hx hb dX11_worth_114 hl (k := 3) rfl (z_inc i 1) (by decide) (zLvf_h rfl) (fun ls hl => ?_)
              refine lv_goto (tgt := 22) hx hb dX11_worth_117 (by decide) ?_
              exact ih_22 (i + 1) u (show (i + 1) ≤ 8 ∧ u.toInt = gMm (gOk (aW cr inn k1)) (fun c => gV (aW cr inn k1) k2 inn x 0 (!(decide (¬ q = 0))) (gTn (aW cr inn k1) w_ c)) (decide (¬ q = 0)) (i + 1) from ⟨by omega, hun9⟩) (show 8 - (i + 1) < 8 - i from by omega) _ _ ls G (lv_sub hl [0, 1, 4, 5, 6, 7, 8] rfl)
            · have c_14n : ¬ r_12.toInt ≤ u.toInt := fun q => c_14 ((fa_le _ _).mpr q)
              refine lv_iload hx hb dX11_worth_105 (lv_at hl 0 rfl) ?_
              refine lv_goto (tgt := 112) hx hb dX11_worth_107 (by decide) ?_
              refine lv_istore (lv' := [(5, .int r_12), (8, .int r_12), (7, .int (nI (aTn (aW cr inn k1) w_ i))), (6, .int (nI i)), (0, .ref h), (1, .int (nI w_)), (2, .int x), (3, .int 1), (4, .int q)]) hx hb dX11_worth_112 hl (by decide) (zLvf_h rfl) (fun ls hl => ?_)
              have hun9 : r_12.toInt = gMm (gOk (aW cr inn k1)) (fun c => gV (aW cr inn k1) k2 inn x 0 (!(decide (¬ q = 0))) (gTn (aW cr inn k1) w_ c)) (decide (¬ q = 0)) (i + 1) := ((gMm_s (ok := (gOk (aW cr inn k1))) (v := (fun c => gV (aW cr inn k1) k2 inn x 0 (!(decide (¬ q = 0))) (gTn (aW cr inn k1) w_ c))) (mn := (decide (¬ q = 0))) hu.symm hv9.symm hok9).trans (if_pos (by first | exact Or.inl (by omega) | (exact Or.inr (by first | (rw [if_pos hqd9]; omega) | (rw [if_neg hqd9]; omega)))))).symm
              refine lv_iinc (v := nI (i + 1)) (lv' := [(6, .int (nI (i + 1))), (5, .int r_12), (8, .int r_12), (7, .int (nI (aTn (aW cr inn k1) w_ i))), (0, .ref h), (1, .int (nI w_)), (2, .int x), (3, .int 1), (4, .int q)]) hx hb dX11_worth_114 hl (k := 3) rfl (z_inc i 1) (by decide) (zLvf_h rfl) (fun ls hl => ?_)
              refine lv_goto (tgt := 22) hx hb dX11_worth_117 (by decide) ?_
              exact ih_22 (i + 1) r_12 (show (i + 1) ≤ 8 ∧ r_12.toInt = gMm (gOk (aW cr inn k1)) (fun c => gV (aW cr inn k1) k2 inn x 0 (!(decide (¬ q = 0))) (gTn (aW cr inn k1) w_ c)) (decide (¬ q = 0)) (i + 1) from ⟨by omega, hun9⟩) (show 8 - (i + 1) < 8 - i from by omega) _ _ ls G (lv_sub hl [0, 1, 4, 5, 6, 7, 8] rfl)
    · have c_2n : i = 7 := (nI_eq (a := i) (b := 7) (by omega) (by omega)).mp c_2
      refine lv_iload_n hx hb dX11_worth_36 rfl (lv_at hl 3 rfl) ?_
      refine lv_goto (tgt := 47) hx hb dX11_worth_37 (by decide) ?_
      refine lv_istore (lv' := [(7, .int (nI w_)), (6, .int (nI i)), (5, .int u), (0, .ref h), (1, .int (nI w_)), (2, .int x), (3, .int 1), (4, .int q)]) hx hb dX11_worth_47 hl (by decide) (zLvf_h rfl) (fun ls hl => ?_)
      have hi79 : i = 7 := by omega
      have hok9 : gOk (aW cr inn k1) i = true := by rw [hi79]; exact gOk_7
      refine lv_iload hx hb dX11_worth_49 (lv_at hl 0 rfl) ?_
      refine lv_iconst (v := (-1)) hx hb dX11_worth_51 (by decide) ?_
      refine lv_icmp_eq (tgt := 114) hx hb dX11_worth_52 (by decide) (fun q => absurd q (nIm1 (by omega))) (fun _ => ?_)
      refine lv_aload_n hx hb dX11_worth_55 rfl (lv_at hl 3 rfl) ?_
      refine lv_iload hx hb dX11_worth_56 (lv_at hl 0 rfl) ?_
      refine lv_iload_n hx hb dX11_worth_58 rfl (lv_at hl 5 rfl) ?_
      refine lv_iload_n hx hb dX11_worth_59 rfl (lv_at hl 6 rfl) ?_
      refine lv_iconst (v := 1) hx hb dX11_worth_60 (by decide) ?_
      refine lv_isub hx hb dX11_worth_61 ?_
      refine lv_topi (fun y_15 ey_15 => ?_)
      obtain rfl : y_15 = 0 := ey_15.trans (by decide)
      refine lv_iload hx hb dX11_worth_62 (lv_at hl 7 rfl) ?_
      refine lv_if_ne (tgt := 71) hx hb dX11_worth_64 (by decide) (fun c_16 => ?_) (fun c_16 => ?_)
      · have c_16n : ¬ q.toInt = (0 : Int) := fun q => c_16 ((fa_eq _ _).mpr q)
        refine lv_iconst (v := 0) hx hb dX11_worth_71 (by decide) ?_
        refine z_Si (bc := [ww, z]) (br := []) (As := [.ref h, .int (nI w_), .int x, .int 0, .int 0]) (rest := []) C G (c_f_worth0 l T h la md wy pc_ f1 f2 f3 f4 f5 f6 n4 ww cr inn k1 k2 k3 k4 z w_ x 0 hww hz (by first | with_reducible assumption | with_reducible rfl | omega | assumption | rfl) (by first | with_reducible assumption | with_reducible rfl | omega | assumption | rfl) (by first | with_reducible assumption | with_reducible rfl | omega | assumption | rfl) (by first | with_reducible assumption | with_reducible rfl | omega | assumption | rfl) hTt ⟨hx71, hx72, hx73⟩ hwl (by first | with_reducible assumption | with_reducible rfl | omega | assumption | rfl)) (kS_RX11_278 C.2.2.2.2 (Nat.le_of_ble_eq_true rfl) (Nat.le_of_ble_eq_true rfl)) [0, 1] [0, 0] rfl rfl rfl rfl hl.1 dX11_worth_72 (Nat.le_of_ble_eq_true rfl) (Nat.le_of_ble_eq_true rfl) (fun r_18 b1 H locs hw G => ?_)
        refine zAn2 hw ?_
        intro hbs9 h_17
        clear hw
        subst hbs9
        have G : zS T A s.heap s [ww, z] _ _ := G
        have hqd9 : decide (¬ q = 0) = true := decide_eq_true (by first | with_reducible assumption | assumption)
        have hmn9 : decide (¬ (0 : Int32) = 0) = !decide (¬ q = 0) := by rw [hqd9]; rfl
        have hv9 : r_18.toInt = gV (aW cr inn k1) k2 inn x 0 (!(decide (¬ q = 0))) (gTn (aW cr inn k1) w_ i) := by rw [← hmn9, hi79, gTn_7]; exact h_17
        refine lv_istore (lv' := [(8, .int r_18), (7, .int (nI w_)), (6, .int (nI i)), (5, .int u), (0, .ref h), (1, .int (nI w_)), (2, .int x), (3, .int 1), (4, .int q)]) hx hb dX11_worth_75 hl (by decide) (zLvf_h rfl) (fun ls hl => ?_)
        refine lv_iload hx hb dX11_worth_77 (lv_at hl 3 rfl) ?_
        refine lv_iconst (v := (-1)) hx hb dX11_worth_79 (by decide) ?_
        refine lv_icmp_eq (tgt := 105) hx hb dX11_worth_80 (by decide) (fun c_19 => ?_) (fun c_19 => ?_)
        · have c_19n : u.toInt = (-1 : Int) := (fa_eq _ _).mp c_19
          refine lv_iload hx hb dX11_worth_105 (lv_at hl 0 rfl) ?_
          refine lv_goto (tgt := 112) hx hb dX11_worth_107 (by decide) ?_
          refine lv_istore (lv' := [(5, .int r_18), (8, .int r_18), (7, .int (nI w_)), (6, .int (nI i)), (0, .ref h), (1, .int (nI w_)), (2, .int x), (3, .int 1), (4, .int q)]) hx hb dX11_worth_112 hl (by decide) (zLvf_h rfl) (fun ls hl => ?_)
          have hun9 : r_18.toInt = gMm (gOk (aW cr inn k1)) (fun c => gV (aW cr inn k1) k2 inn x 0 (!(decide (¬ q = 0))) (gTn (aW cr inn k1) w_ c)) (decide (¬ q = 0)) (i + 1) := ((gMm_s (ok := (gOk (aW cr inn k1))) (v := (fun c => gV (aW cr inn k1) k2 inn x 0 (!(decide (¬ q = 0))) (gTn (aW cr inn k1) w_ c))) (mn := (decide (¬ q = 0))) hu.symm hv9.symm hok9).trans (if_pos (by first | exact Or.inl (by omega) | (exact Or.inr (by first | (rw [if_pos hqd9]; omega) | (rw [if_neg hqd9]; omega)))))).symm
          refine lv_iinc (v := nI (i + 1)) (lv' := [(6, .int (nI (i + 1))), (5, .int r_18), (8, .int r_18), (7, .int (nI w_)), (0, .ref h), (1, .int (nI w_)), (2, .int x), (3, .int 1), (4, .int q)]) hx hb dX11_worth_114 hl (k := 3) rfl (z_inc i 1) (by decide) (zLvf_h rfl) (fun ls hl => ?_)
          refine lv_goto (tgt := 22) hx hb dX11_worth_117 (by decide) ?_
          exact ih_22 (i + 1) r_18 (show (i + 1) ≤ 8 ∧ r_18.toInt = gMm (gOk (aW cr inn k1)) (fun c => gV (aW cr inn k1) k2 inn x 0 (!(decide (¬ q = 0))) (gTn (aW cr inn k1) w_ c)) (decide (¬ q = 0)) (i + 1) from ⟨by omega, hun9⟩) (show 8 - (i + 1) < 8 - i from by omega) _ _ ls G (lv_sub hl [0, 1, 4, 5, 6, 7, 8] rfl)
        · have c_19n : ¬ u.toInt = (-1 : Int) := fun q => c_19 ((fa_eq _ _).mpr q)
          refine lv_iload hx hb dX11_worth_83 (lv_at hl 8 rfl) ?_
          refine lv_if_eq (tgt := 98) hx hb dX11_worth_85 (by decide) (fun q => absurd q c_16) (fun _ => ?_)
          refine lv_iload hx hb dX11_worth_88 (lv_at hl 0 rfl) ?_
          refine lv_iload hx hb dX11_worth_90 (lv_at hl 3 rfl) ?_
          refine lv_icmp_ge (tgt := 110) hx hb dX11_worth_92 (by decide) (fun c_20 => ?_) (fun c_20 => ?_)
          · have c_20n : u.toInt ≤ r_18.toInt := (fa_le _ _).mp c_20
            refine lv_iload hx hb dX11_worth_110 (lv_at hl 3 rfl) ?_
            refine lv_istore (lv' := [(5, .int u), (8, .int r_18), (7, .int (nI w_)), (6, .int (nI i)), (0, .ref h), (1, .int (nI w_)), (2, .int x), (3, .int 1), (4, .int q)]) hx hb dX11_worth_112 hl (by decide) (zLvf_h rfl) (fun ls hl => ?_)
            have hun9 : u.toInt = gMm (gOk (aW cr inn k1)) (fun c => gV (aW cr inn k1) k2 inn x 0 (!(decide (¬ q = 0))) (gTn (aW cr inn k1) w_ c)) (decide (¬ q = 0)) (i + 1) := ((gMm_s (ok := (gOk (aW cr inn k1))) (v := (fun c => gV (aW cr inn k1) k2 inn x 0 (!(decide (¬ q = 0))) (gTn (aW cr inn k1) w_ c))) (mn := (decide (¬ q = 0))) hu.symm hv9.symm hok9).trans (if_neg (fun z9 => by rcases z9 with z9 | z9 <;> first | omega | (rw [if_pos hqd9] at z9; omega) | (rw [if_neg hqd9] at z9; omega)))).symm
            refine lv_iinc (v := nI (i + 1)) (lv' := [(6, .int (nI (i + 1))), (5, .int u), (8, .int r_18), (7, .int (nI w_)), (0, .ref h), (1, .int (nI w_)), (2, .int x), (3, .int 1), (4, .int q)]) hx hb dX11_worth_114 hl (k := 3) rfl (z_inc i 1) (by decide) (zLvf_h rfl) (fun ls hl => ?_)
            refine lv_goto (tgt := 22) hx hb dX11_worth_117 (by decide) ?_
            exact ih_22 (i + 1) u (show (i + 1) ≤ 8 ∧ u.toInt = gMm (gOk (aW cr inn k1)) (fun c => gV (aW cr inn k1) k2 inn x 0 (!(decide (¬ q = 0))) (gTn (aW cr inn k1) w_ c)) (decide (¬ q = 0)) (i + 1) from ⟨by omega, hun9⟩) (show 8 - (i + 1) < 8 - i from by omega) _ _ ls G (lv_sub hl [0, 1, 4, 5, 6, 7, 8] rfl)
          · have c_20n : ¬ u.toInt ≤ r_18.toInt := fun q => c_20 ((fa_le _ _).mpr q)
            refine lv_goto (tgt := 105) hx hb dX11_worth_95 (by decide) ?_
            refine lv_iload hx hb dX11_worth_105 (lv_at hl 0 rfl) ?_
            refine lv_goto (tgt := 112) hx hb dX11_worth_107 (by decide) ?_
            refine lv_istore (lv' := [(5, .int r_18), (8, .int r_18), (7, .int (nI w_)), (6, .int (nI i)), (0, .ref h), (1, .int (nI w_)), (2, .int x), (3, .int 1), (4, .int q)]) hx hb dX11_worth_112 hl (by decide) (zLvf_h rfl) (fun ls hl => ?_)
            have hun9 : r_18.toInt = gMm (gOk (aW cr inn k1)) (fun c => gV (aW cr inn k1) k2 inn x 0 (!(decide (¬ q = 0))) (gTn (aW cr inn k1) w_ c)) (decide (¬ q = 0)) (i + 1) := ((gMm_s (ok := (gOk (aW cr inn k1))) (v := (fun c => gV (aW cr inn k1) k2 inn x 0 (!(decide (¬ q = 0))) (gTn (aW cr inn k1) w_ c))) (mn := (decide (¬ q = 0))) hu.symm hv9.symm hok9).trans (if_pos (by first | exact Or.inl (by omega) | (exact Or.inr (by first | (rw [if_pos hqd9]; omega) | (rw [if_neg hqd9]; omega)))))).symm
            refine lv_iinc (v := nI (i + 1)) (lv' := [(6, .int (nI (i + 1))), (5, .int r_18), (8, .int r_18), (7, .int (nI w_)), (0, .ref h), (1, .int (nI w_)), (2, .int x), (3, .int 1), (4, .int q)]) hx hb dX11_worth_114 hl (k := 3) rfl (z_inc i 1) (by decide) (zLvf_h rfl) (fun ls hl => ?_)
            refine lv_goto (tgt := 22) hx hb dX11_worth_117 (by decide) ?_
            exact ih_22 (i + 1) r_18 (show (i + 1) ≤ 8 ∧ r_18.toInt = gMm (gOk (aW cr inn k1)) (fun c => gV (aW cr inn k1) k2 inn x 0 (!(decide (¬ q = 0))) (gTn (aW cr inn k1) w_ c)) (decide (¬ q = 0)) (i + 1) from ⟨by omega, hun9⟩) (show 8 - (i + 1) < 8 - i from by omega) _ _ ls G (lv_sub hl [0, 1, 4, 5, 6, 7, 8] rfl)
      · have c_16n : q.toInt = (0 : Int) := (fa_eq _ _).mp c_16
        refine lv_iconst (v := 1) hx hb dX11_worth_67 (by decide) ?_
        refine lv_goto (tgt := 72) hx hb dX11_worth_68 (by decide) ?_
        refine z_Si (bc := [ww, z]) (br := []) (As := [.ref h, .int (nI w_), .int x, .int 0, .int 1]) (rest := []) C G (c_f_worth0 l T h la md wy pc_ f1 f2 f3 f4 f5 f6 n4 ww cr inn k1 k2 k3 k4 z w_ x 1 hww hz (by first | with_reducible assumption | with_reducible rfl | omega | assumption | rfl) (by first | with_reducible assumption | with_reducible rfl | omega | assumption | rfl) (by first | with_reducible assumption | with_reducible rfl | omega | assumption | rfl) (by first | with_reducible assumption | with_reducible rfl | omega | assumption | rfl) hTt ⟨hx71, hx72, hx73⟩ hwl (by first | with_reducible assumption | with_reducible rfl | omega | assumption | rfl)) (kS_RX11_278 C.2.2.2.2 (Nat.le_of_ble_eq_true rfl) (Nat.le_of_ble_eq_true rfl)) [0, 1] [0, 0] rfl rfl rfl rfl hl.1 dX11_worth_72 (Nat.le_of_ble_eq_true rfl) (Nat.le_of_ble_eq_true rfl) (fun r_22 b1 H locs hw G => ?_)
        refine zAn2 hw ?_
        intro hbs9 h_21
        clear hw
        subst hbs9
        have G : zS T A s.heap s [ww, z] _ _ := G
        have hqd9 : ¬ decide (¬ q = 0) = true := by rw [decide_eq_false (fun z9 => z9 (by first | with_reducible assumption | assumption))]; exact Bool.false_ne_true
        have hmn9 : decide (¬ (1 : Int32) = 0) = !decide (¬ q = 0) := by rw [Bool.eq_false_iff.mpr hqd9]; rfl
        have hv9 : r_22.toInt = gV (aW cr inn k1) k2 inn x 0 (!(decide (¬ q = 0))) (gTn (aW cr inn k1) w_ i) := by rw [← hmn9, hi79, gTn_7]; exact h_21
        refine lv_istore (lv' := [(8, .int r_22), (7, .int (nI w_)), (6, .int (nI i)), (5, .int u), (0, .ref h), (1, .int (nI w_)), (2, .int x), (3, .int 1), (4, .int q)]) hx hb dX11_worth_75 hl (by decide) (zLvf_h rfl) (fun ls hl => ?_)
        refine lv_iload hx hb dX11_worth_77 (lv_at hl 3 rfl) ?_
        refine lv_iconst (v := (-1)) hx hb dX11_worth_79 (by decide) ?_
        refine lv_icmp_eq (tgt := 105) hx hb dX11_worth_80 (by decide) (fun c_23 => ?_) (fun c_23 => ?_)
        · have c_23n : u.toInt = (-1 : Int) := (fa_eq _ _).mp c_23
          refine lv_iload hx hb dX11_worth_105 (lv_at hl 0 rfl) ?_
          refine lv_goto (tgt := 112) hx hb dX11_worth_107 (by decide) ?_
          refine lv_istore (lv' := [(5, .int r_22), (8, .int r_22), (7, .int (nI w_)), (6, .int (nI i)), (0, .ref h), (1, .int (nI w_)), (2, .int x), (3, .int 1), (4, .int q)]) hx hb dX11_worth_112 hl (by decide) (zLvf_h rfl) (fun ls hl => ?_)
          have hun9 : r_22.toInt = gMm (gOk (aW cr inn k1)) (fun c => gV (aW cr inn k1) k2 inn x 0 (!(decide (¬ q = 0))) (gTn (aW cr inn k1) w_ c)) (decide (¬ q = 0)) (i + 1) := ((gMm_s (ok := (gOk (aW cr inn k1))) (v := (fun c => gV (aW cr inn k1) k2 inn x 0 (!(decide (¬ q = 0))) (gTn (aW cr inn k1) w_ c))) (mn := (decide (¬ q = 0))) hu.symm hv9.symm hok9).trans (if_pos (by first | exact Or.inl (by omega) | (exact Or.inr (by first | (rw [if_pos hqd9]; omega) | (rw [if_neg hqd9]; omega)))))).symm
          refine lv_iinc (v := nI (i + 1)) (lv' := [(6, .int (nI (i + 1))), (5, .int r_22), (8, .int r_22), (7, .int (nI w_)), (0, .ref h), (1, .int (nI w_)), (2, .int x), (3, .int 1), (4, .int q)]) hx hb dX11_worth_114 hl (k := 3) rfl (z_inc i 1) (by decide) (zLvf_h rfl) (fun ls hl => ?_)
          refine lv_goto (tgt := 22) hx hb dX11_worth_117 (by decide) ?_
          exact ih_22 (i + 1) r_22 (show (i + 1) ≤ 8 ∧ r_22.toInt = gMm (gOk (aW cr inn k1)) (fun c => gV (aW cr inn k1) k2 inn x 0 (!(decide (¬ q = 0))) (gTn (aW cr inn k1) w_ c)) (decide (¬ q = 0)) (i + 1) from ⟨by omega, hun9⟩) (show 8 - (i + 1) < 8 - i from by omega) _ _ ls G (lv_sub hl [0, 1, 4, 5, 6, 7, 8] rfl)
        · have c_23n : ¬ u.toInt = (-1 : Int) := fun q => c_23 ((fa_eq _ _).mpr q)
          refine lv_iload hx hb dX11_worth_83 (lv_at hl 8 rfl) ?_
          refine lv_if_eq (tgt := 98) hx hb dX11_worth_85 (by decide) (fun _ => ?_) (fun q => absurd c_16 q)
          refine lv_iload hx hb dX11_worth_98 (lv_at hl 0 rfl) ?_
          refine lv_iload hx hb dX11_worth_100 (lv_at hl 3 rfl) ?_
          refine lv_icmp_le (tgt := 110) hx hb dX11_worth_102 (by decide) (fun c_24 => ?_) (fun c_24 => ?_)
          · have c_24n : r_22.toInt ≤ u.toInt := (fa_le _ _).mp c_24
            refine lv_iload hx hb dX11_worth_110 (lv_at hl 3 rfl) ?_
            refine lv_istore (lv' := [(5, .int u), (8, .int r_22), (7, .int (nI w_)), (6, .int (nI i)), (0, .ref h), (1, .int (nI w_)), (2, .int x), (3, .int 1), (4, .int q)]) hx hb dX11_worth_112 hl (by decide) (zLvf_h rfl) (fun ls hl => ?_)
            have hun9 : u.toInt = gMm (gOk (aW cr inn k1)) (fun c => gV (aW cr inn k1) k2 inn x 0 (!(decide (¬ q = 0))) (gTn (aW cr inn k1) w_ c)) (decide (¬ q = 0)) (i + 1) := ((gMm_s (ok := (gOk (aW cr inn k1))) (v := (fun c => gV (aW cr inn k1) k2 inn x 0 (!(decide (¬ q = 0))) (gTn (aW cr inn k1) w_ c))) (mn := (decide (¬ q = 0))) hu.symm hv9.symm hok9).trans (if_neg (fun z9 => by rcases z9 with z9 | z9 <;> first | omega | (rw [if_pos hqd9] at z9; omega) | (rw [if_neg hqd9] at z9; omega)))).symm
            refine lv_iinc (v := nI (i + 1)) (lv' := [(6, .int (nI (i + 1))), (5, .int u), (8, .int r_22), (7, .int (nI w_)), (0, .ref h), (1, .int (nI w_)), (2, .int x), (3, .int 1), (4, .int q)]) hx hb dX11_worth_114 hl (k := 3) rfl (z_inc i 1) (by decide) (zLvf_h rfl) (fun ls hl => ?_)
            refine lv_goto (tgt := 22) hx hb dX11_worth_117 (by decide) ?_
            exact ih_22 (i + 1) u (show (i + 1) ≤ 8 ∧ u.toInt = gMm (gOk (aW cr inn k1)) (fun c => gV (aW cr inn k1) k2 inn x 0 (!(decide (¬ q = 0))) (gTn (aW cr inn k1) w_ c)) (decide (¬ q = 0)) (i + 1) from ⟨by omega, hun9⟩) (show 8 - (i + 1) < 8 - i from by omega) _ _ ls G (lv_sub hl [0, 1, 4, 5, 6, 7, 8] rfl)
          · have c_24n : ¬ r_22.toInt ≤ u.toInt := fun q => c_24 ((fa_le _ _).mpr q)
            refine lv_iload hx hb dX11_worth_105 (lv_at hl 0 rfl) ?_
            refine lv_goto (tgt := 112) hx hb dX11_worth_107 (by decide) ?_
            refine lv_istore (lv' := [(5, .int r_22), (8, .int r_22), (7, .int (nI w_)), (6, .int (nI i)), (0, .ref h), (1, .int (nI w_)), (2, .int x), (3, .int 1), (4, .int q)]) hx hb dX11_worth_112 hl (by decide) (zLvf_h rfl) (fun ls hl => ?_)
            have hun9 : r_22.toInt = gMm (gOk (aW cr inn k1)) (fun c => gV (aW cr inn k1) k2 inn x 0 (!(decide (¬ q = 0))) (gTn (aW cr inn k1) w_ c)) (decide (¬ q = 0)) (i + 1) := ((gMm_s (ok := (gOk (aW cr inn k1))) (v := (fun c => gV (aW cr inn k1) k2 inn x 0 (!(decide (¬ q = 0))) (gTn (aW cr inn k1) w_ c))) (mn := (decide (¬ q = 0))) hu.symm hv9.symm hok9).trans (if_pos (by first | exact Or.inl (by omega) | (exact Or.inr (by first | (rw [if_pos hqd9]; omega) | (rw [if_neg hqd9]; omega)))))).symm
            refine lv_iinc (v := nI (i + 1)) (lv' := [(6, .int (nI (i + 1))), (5, .int r_22), (8, .int r_22), (7, .int (nI w_)), (0, .ref h), (1, .int (nI w_)), (2, .int x), (3, .int 1), (4, .int q)]) hx hb dX11_worth_114 hl (k := 3) rfl (z_inc i 1) (by decide) (zLvf_h rfl) (fun ls hl => ?_)
            refine lv_goto (tgt := 22) hx hb dX11_worth_117 (by decide) ?_
            exact ih_22 (i + 1) r_22 (show (i + 1) ≤ 8 ∧ r_22.toInt = gMm (gOk (aW cr inn k1)) (fun c => gV (aW cr inn k1) k2 inn x 0 (!(decide (¬ q = 0))) (gTn (aW cr inn k1) w_ c)) (decide (¬ q = 0)) (i + 1) from ⟨by omega, hun9⟩) (show 8 - (i + 1) < 8 - i from by omega) _ _ ls G (lv_sub hl [0, 1, 4, 5, 6, 7, 8] rfl)
set_option maxHeartbeats 4000000 in
set_option maxRecDepth 100000 in
/-- worth -/
theorem c_f_worth2 (l : Launch) (T : zTy) (h : Nat) (la : Nat) (md : Int32) (wy : Int32) (pc_ : Int32) (f1 : Nat → Int32) (f2 : Nat → Int32) (f3 : Nat → Int32) (f4 : Nat → Int32) (f5 : Nat → Int32) (f6 : Nat → Int32) (n4 : Nat) (ww : va_W) (cr : Int32) (inn : Int32) (k1 : Nat → Int32) (k2 : Nat → Int32) (k3 : Nat → Int32) (k4 : Nat → Int32) (z : va_W) (w_ : Nat) (x : Int32) (q : Int32) (hww : bWays T h la md wy pc_ f1 f2 f3 f4 f5 f6 n4 ww) (hz : bLand T la cr inn k1 k2 k3 k4 z) (hI : zLI cr k1 k3) (hn : n4 ≤ 131072) (hF : aF cr inn k1 f1 f2) (hO : aOk (aW cr inn k1) k2) (hTt : zTab cr inn k1 k2 wy pc_ f1 f2 f5 n4) (hx7 : zHas cr x) (hwl : w_ < aPr (aW cr inn k1) 7) (hLq : zLq cr k1 k2) : zMi l T yX11_worth cX11_worth 9 (some .int) 7 0 0 [.ref h, .int (nI w_), .int x, .int 2, .int q] [ww, z] (fun (r : Int32) bs => bs = [ww, z] ∧ r.toInt = gV (aW cr inn k1) k2 inn x 2 (decide (¬ q = 0)) w_) := by
  refine zMi_of (own := RX11) (by decide) rfl (Nat.le_of_ble_eq_true rfl) ?_
  intro p e s m args below meth c A ls C hr hlocks hnm hAe G hl
  refine zHide (fun Qz_ hQz_ => ?_)
  have hx := C.1
  have hb := C.2.1
  have hl : lv_has ls 9 [(0, .ref h), (1, .int (nI w_)), (2, .int x), (3, .int 2), (4, .int q)] := hl
  have hp79 : aPr (aW cr inn k1) 7 ≤ 16384 := aPr_7 hI
  have hwT9 := nI_toInt (n := w_) (by omega)
  have hwN9 := nI_n (n := w_) (by omega)
  obtain ⟨hx71, hx72, hx73⟩ := hx7
  refine lv_iload_n hx hb dX11_worth_0 rfl (lv_at hl 3 rfl) ?_
  refine lv_if_le (tgt := 9) hx hb dX11_worth_1 (by decide) (fun q => absurd q (by decide)) (fun _ => ?_)
  refine lv_iload_n hx hb dX11_worth_4 rfl (lv_at hl 3 rfl) ?_
  refine lv_iconst (v := 3) hx hb dX11_worth_5 (by decide) ?_
  refine lv_icmp_le (tgt := 16) hx hb dX11_worth_6 (by decide) (fun _ => ?_) (fun q => absurd (by decide) q)
  refine lv_iconst (v := (-1)) hx hb dX11_worth_16 (by decide) ?_
  refine lv_istore (lv' := [(5, .int (-1)), (0, .ref h), (1, .int (nI w_)), (2, .int x), (3, .int 2), (4, .int q)]) hx hb dX11_worth_17 hl (by decide) (zLvf_h rfl) (fun ls hl => ?_)
  refine lv_iconst (v := 0) hx hb dX11_worth_19 (by decide) ?_
  refine lv_istore (lv' := [(6, .int 0), (5, .int (-1)), (0, .ref h), (1, .int (nI w_)), (2, .int x), (3, .int 2), (4, .int q)]) hx hb dX11_worth_20 hl (by decide) (zLvf_h rfl) (fun ls hl => ?_)
  refine z_lp2 (T := T) 22 (fun (i : Nat) (u : Int32) => [ww, z]) (fun (i : Nat) (u : Int32) => [(6, .int (nI i)), (5, .int u), (0, .ref h), (1, .int (nI w_)), (2, .int x), (3, .int 2), (4, .int q)]) (fun (i : Nat) (u : Int32) => i ≤ 8 ∧ u.toInt = gMm (gOk (aW cr inn k1)) (fun c => gV (aW cr inn k1) k2 inn x 1 (!(decide (¬ q = 0))) (gTn (aW cr inn k1) w_ c)) (decide (¬ q = 0)) i) (fun (i : Nat) (u : Int32) => 8 - i) ?_ 0 (-1) (show 0 ≤ 8 ∧ ((-1) : Int32).toInt = gMm (gOk (aW cr inn k1)) (fun c => gV (aW cr inn k1) k2 inn x 1 (!(decide (¬ q = 0))) (gTn (aW cr inn k1) w_ c)) (decide (¬ q = 0)) 0 from ⟨by omega, rfl⟩) G (lv_sub hl [0, 1, 2, 3, 4, 5, 6] rfl)
  intro i u hI9 ih_22 H locs ls G hl
  replace hI9 : i ≤ 8 ∧ u.toInt = gMm (gOk (aW cr inn k1)) (fun c => gV (aW cr inn k1) k2 inn x 1 (!(decide (¬ q = 0))) (gTn (aW cr inn k1) w_ c)) (decide (¬ q = 0)) i := hI9
  refine zAn2 hI9 ?_
  intro hi hu
  clear hI9
  replace G : zS T A s.heap s [ww, z] _ _ := G
  replace hl : lv_has ls 9 [(6, .int (nI i)), (5, .int u), (0, .ref h), (1, .int (nI w_)), (2, .int x), (3, .int 2), (4, .int q)] := hl
  refine lv_iload hx hb dX11_worth_22 (lv_at hl 0 rfl) ?_
  refine lv_bipush (v := 7) hx hb dX11_worth_24 (by decide) ?_
  refine lv_icmp_gt (tgt := 120) hx hb dX11_worth_26 (by decide) (fun c_1 => ?_) (fun c_1 => ?_)
  · have c_1n : 7 < i := (nI_ltI (a := 7) (b := i) (by omega) (by omega)).mp c_1
    refine lv_iload hx hb dX11_worth_120 (lv_at hl 1 rfl) ?_
    exact z_back hQz_ (z_iret C hr hlocks G (Nat.le_of_ble_eq_true rfl) (Nat.le_of_ble_eq_true rfl) dX11_worth_122 ⟨rfl, (by rw [hu, show i = 8 by omega]; exact (gV_s (k := 1)).symm)⟩)
  · have c_1n : ¬ 7 < i := fun q => c_1 ((nI_ltI (a := 7) (b := i) (by omega) (by omega)).mpr q)
    refine lv_iload hx hb dX11_worth_29 (lv_at hl 0 rfl) ?_
    refine lv_bipush (v := 7) hx hb dX11_worth_31 (by decide) ?_
    refine lv_icmp_ne (tgt := 40) hx hb dX11_worth_33 (by decide) (fun c_2 => ?_) (fun c_2 => ?_)
    · have c_2n : ¬ i = 7 := fun q => c_2 ((nI_eq (a := i) (b := 7) (by omega) (by omega)).mpr q)
      refine lv_aload_n hx hb dX11_worth_40 rfl (lv_at hl 2 rfl) ?_
      refine lv_iload_n hx hb dX11_worth_41 rfl (lv_at hl 3 rfl) ?_
      refine lv_iload hx hb dX11_worth_42 (lv_at hl 0 rfl) ?_
      refine z_Vi (bc := [ww, z]) (br := []) (As := [.int (nI w_), .int (nI i)]) (rest := []) C G (c_f_turned l T h la md wy pc_ f1 f2 f3 f4 f5 f6 n4 ww cr inn k1 k2 k3 k4 z (nI w_) (nI i) hww hz (by first | with_reducible assumption | with_reducible rfl | omega | assumption | rfl) (by first | with_reducible assumption | with_reducible rfl | omega | assumption | rfl) (by first | with_reducible assumption | with_reducible rfl | omega | assumption | rfl) (by rw [hwT9]; omega) (by rw [nI_toInt (by omega)]; omega)) (kV_RX11_289 C.2.2.2.2 (Nat.le_of_ble_eq_true rfl) (Nat.le_of_ble_eq_true rfl)) [0, 1] [0, 0] rfl rfl (ci := 0) (qc := (RX0, TX0, 10)) rfl rfl (List.mem_flatten.mpr ⟨_, List.mem_of_getElem? (i := 0) rfl, (bWays_mem hww).choose_spec⟩) rfl rfl hl.1 dX11_worth_44 (Nat.le_of_ble_eq_true rfl) (Nat.le_of_ble_eq_true rfl) (fun r_4 b1 H locs hw G => ?_)
      refine zAn2 hw ?_
      intro hbs9 h_3
      clear hw
      subst hbs9
      have G : zS T A s.heap s [ww, z] _ _ := G
      have ti9 := nI_toInt (n := i) (by omega)
      refine lv_istore (lv' := [(7, .int r_4), (6, .int (nI i)), (5, .int u), (0, .ref h), (1, .int (nI w_)), (2, .int x), (3, .int 2), (4, .int q)]) hx hb dX11_worth_47 hl (by decide) (zLvf_h rfl) (fun ls hl => ?_)
      rcases h_3 with htn9 | htn9
      · obtain rfl : r_4 = -1 := htn9.2
        have hok9 : ¬ gOk (aW cr inn k1) i = true := gOk_n (by omega) (by have q9 := htn9.1; show ¬ 0 < (zWays cr inn k1 (nI i)).toInt; rw [q9]; decide)
        refine lv_iload hx hb dX11_worth_49 (lv_at hl 0 rfl) ?_
        refine lv_iconst (v := (-1)) hx hb dX11_worth_51 (by decide) ?_
        refine lv_icmp_eq (tgt := 114) hx hb dX11_worth_52 (by decide) (fun _ => ?_) (fun q => absurd rfl q)
        have hun9 : u.toInt = gMm (gOk (aW cr inn k1)) (fun c => gV (aW cr inn k1) k2 inn x 1 (!(decide (¬ q = 0))) (gTn (aW cr inn k1) w_ c)) (decide (¬ q = 0)) (i + 1) := by rw [gMm_o hok9]; exact hu
        refine lv_iinc (v := nI (i + 1)) (lv' := [(6, .int (nI (i + 1))), (7, .int (-1)), (5, .int u), (0, .ref h), (1, .int (nI w_)), (2, .int x), (3, .int 2), (4, .int q)]) hx hb dX11_worth_114 hl (k := 1) rfl (z_inc i 1) (by decide) (zLvf_h rfl) (fun ls hl => ?_)
        refine lv_goto (tgt := 22) hx hb dX11_worth_117 (by decide) ?_
        exact ih_22 (i + 1) u (show (i + 1) ≤ 8 ∧ u.toInt = gMm (gOk (aW cr inn k1)) (fun c => gV (aW cr inn k1) k2 inn x 1 (!(decide (¬ q = 0))) (gTn (aW cr inn k1) w_ c)) (decide (¬ q = 0)) (i + 1) from ⟨by omega, hun9⟩) (show 8 - (i + 1) < 8 - i from by omega) _ _ ls G (lv_sub hl [0, 2, 3, 4, 5, 6, 7] rfl)
      · obtain rfl : r_4 = nI (aTn (aW cr inn k1) w_ i) := by have q9 := htn9.2; rw [hwN9, nI_n (by omega)] at q9; exact q9
        have hwz9 := zWays_le (inn := inn) hI (nI i)
        have hok9 : gOk (aW cr inn k1) i = true := gOk_y (by omega) (by have q9 := htn9.1; show 0 < (zWays cr inn k1 (nI i)).toInt; have q8 : ¬ (zWays cr inn k1 (nI i)).toInt = 0 := fun z9 => q9 (Int32.toInt_inj.mp z9); omega)
        have htl9 : aTn (aW cr inn k1) w_ i < aPr (aW cr inn k1) 7 := aTn_lt (by omega) hwl
        refine lv_iload hx hb dX11_worth_49 (lv_at hl 0 rfl) ?_
        refine lv_iconst (v := (-1)) hx hb dX11_worth_51 (by decide) ?_
        refine lv_icmp_eq (tgt := 114) hx hb dX11_worth_52 (by decide) (fun q => absurd q (nIm1 (by omega))) (fun _ => ?_)
        refine lv_aload_n hx hb dX11_worth_55 rfl (lv_at hl 3 rfl) ?_
        refine lv_iload hx hb dX11_worth_56 (lv_at hl 0 rfl) ?_
        refine lv_iload_n hx hb dX11_worth_58 rfl (lv_at hl 5 rfl) ?_
        refine lv_iload_n hx hb dX11_worth_59 rfl (lv_at hl 6 rfl) ?_
        refine lv_iconst (v := 1) hx hb dX11_worth_60 (by decide) ?_
        refine lv_isub hx hb dX11_worth_61 ?_
        refine lv_topi (fun y_5 ey_5 => ?_)
        obtain rfl : y_5 = 1 := ey_5.trans (by decide)
        refine lv_iload hx hb dX11_worth_62 (lv_at hl 7 rfl) ?_
        refine lv_if_ne (tgt := 71) hx hb dX11_worth_64 (by decide) (fun c_6 => ?_) (fun c_6 => ?_)
        · have c_6n : ¬ q.toInt = (0 : Int) := fun q => c_6 ((fa_eq _ _).mpr q)
          refine lv_iconst (v := 0) hx hb dX11_worth_71 (by decide) ?_
          refine z_Si (bc := [ww, z]) (br := []) (As := [.ref h, .int (nI (aTn (aW cr inn k1) w_ i)), .int x, .int 1, .int 0]) (rest := []) C G (c_f_worth1 l T h la md wy pc_ f1 f2 f3 f4 f5 f6 n4 ww cr inn k1 k2 k3 k4 z (aTn (aW cr inn k1) w_ i) x 0 hww hz (by first | with_reducible assumption | with_reducible rfl | omega | assumption | rfl) (by first | with_reducible assumption | with_reducible rfl | omega | assumption | rfl) (by first | with_reducible assumption | with_reducible rfl | omega | assumption | rfl) (by first | with_reducible assumption | with_reducible rfl | omega | assumption | rfl) hTt ⟨hx71, hx72, hx73⟩ htl9 (by first | with_reducible assumption | with_reducible rfl | omega | assumption | rfl)) (kS_RX11_278 C.2.2.2.2 (Nat.le_of_ble_eq_true rfl) (Nat.le_of_ble_eq_true rfl)) [0, 1] [0, 0] rfl rfl rfl rfl hl.1 dX11_worth_72 (Nat.le_of_ble_eq_true rfl) (Nat.le_of_ble_eq_true rfl) (fun r_8 b1 H locs hw G => ?_)
          refine zAn2 hw ?_
          intro hbs9 h_7
          clear hw
          subst hbs9
          have G : zS T A s.heap s [ww, z] _ _ := G
          have hqd9 : decide (¬ q = 0) = true := decide_eq_true (by first | with_reducible assumption | assumption)
          have hmn9 : decide (¬ (0 : Int32) = 0) = !decide (¬ q = 0) := by rw [hqd9]; rfl
          have hv9 : r_8.toInt = gV (aW cr inn k1) k2 inn x 1 (!(decide (¬ q = 0))) (gTn (aW cr inn k1) w_ i) := by rw [← hmn9, gTn_c (by omega)]; exact h_7
          refine lv_istore (lv' := [(8, .int r_8), (7, .int (nI (aTn (aW cr inn k1) w_ i))), (6, .int (nI i)), (5, .int u), (0, .ref h), (1, .int (nI w_)), (2, .int x), (3, .int 2), (4, .int q)]) hx hb dX11_worth_75 hl (by decide) (zLvf_h rfl) (fun ls hl => ?_)
          refine lv_iload hx hb dX11_worth_77 (lv_at hl 3 rfl) ?_
          refine lv_iconst (v := (-1)) hx hb dX11_worth_79 (by decide) ?_
          refine lv_icmp_eq (tgt := 105) hx hb dX11_worth_80 (by decide) (fun c_9 => ?_) (fun c_9 => ?_)
          · have c_9n : u.toInt = (-1 : Int) := (fa_eq _ _).mp c_9
            refine lv_iload hx hb dX11_worth_105 (lv_at hl 0 rfl) ?_
            refine lv_goto (tgt := 112) hx hb dX11_worth_107 (by decide) ?_
            refine lv_istore (lv' := [(5, .int r_8), (8, .int r_8), (7, .int (nI (aTn (aW cr inn k1) w_ i))), (6, .int (nI i)), (0, .ref h), (1, .int (nI w_)), (2, .int x), (3, .int 2), (4, .int q)]) hx hb dX11_worth_112 hl (by decide) (zLvf_h rfl) (fun ls hl => ?_)
            have hun9 : r_8.toInt = gMm (gOk (aW cr inn k1)) (fun c => gV (aW cr inn k1) k2 inn x 1 (!(decide (¬ q = 0))) (gTn (aW cr inn k1) w_ c)) (decide (¬ q = 0)) (i + 1) := ((gMm_s (ok := (gOk (aW cr inn k1))) (v := (fun c => gV (aW cr inn k1) k2 inn x 1 (!(decide (¬ q = 0))) (gTn (aW cr inn k1) w_ c))) (mn := (decide (¬ q = 0))) hu.symm hv9.symm hok9).trans (if_pos (by first | exact Or.inl (by omega) | (exact Or.inr (by first | (rw [if_pos hqd9]; omega) | (rw [if_neg hqd9]; omega)))))).symm
            refine lv_iinc (v := nI (i + 1)) (lv' := [(6, .int (nI (i + 1))), (5, .int r_8), (8, .int r_8), (7, .int (nI (aTn (aW cr inn k1) w_ i))), (0, .ref h), (1, .int (nI w_)), (2, .int x), (3, .int 2), (4, .int q)]) hx hb dX11_worth_114 hl (k := 3) rfl (z_inc i 1) (by decide) (zLvf_h rfl) (fun ls hl => ?_)
            refine lv_goto (tgt := 22) hx hb dX11_worth_117 (by decide) ?_
            exact ih_22 (i + 1) r_8 (show (i + 1) ≤ 8 ∧ r_8.toInt = gMm (gOk (aW cr inn k1)) (fun c => gV (aW cr inn k1) k2 inn x 1 (!(decide (¬ q = 0))) (gTn (aW cr inn k1) w_ c)) (decide (¬ q = 0)) (i + 1) from ⟨by omega, hun9⟩) (show 8 - (i + 1) < 8 - i from by omega) _ _ ls G (lv_sub hl [0, 1, 4, 5, 6, 7, 8] rfl)
          · have c_9n : ¬ u.toInt = (-1 : Int) := fun q => c_9 ((fa_eq _ _).mpr q)
            refine lv_iload hx hb dX11_worth_83 (lv_at hl 8 rfl) ?_
            refine lv_if_eq (tgt := 98) hx hb dX11_worth_85 (by decide) (fun q => absurd q c_6) (fun _ => ?_)
            refine lv_iload hx hb dX11_worth_88 (lv_at hl 0 rfl) ?_
            refine lv_iload hx hb dX11_worth_90 (lv_at hl 3 rfl) ?_
            refine lv_icmp_ge (tgt := 110) hx hb dX11_worth_92 (by decide) (fun c_10 => ?_) (fun c_10 => ?_)
            · have c_10n : u.toInt ≤ r_8.toInt := (fa_le _ _).mp c_10
              refine lv_iload hx hb dX11_worth_110 (lv_at hl 3 rfl) ?_
              refine lv_istore (lv' := [(5, .int u), (8, .int r_8), (7, .int (nI (aTn (aW cr inn k1) w_ i))), (6, .int (nI i)), (0, .ref h), (1, .int (nI w_)), (2, .int x), (3, .int 2), (4, .int q)]) hx hb dX11_worth_112 hl (by decide) (zLvf_h rfl) (fun ls hl => ?_)
              have hun9 : u.toInt = gMm (gOk (aW cr inn k1)) (fun c => gV (aW cr inn k1) k2 inn x 1 (!(decide (¬ q = 0))) (gTn (aW cr inn k1) w_ c)) (decide (¬ q = 0)) (i + 1) := ((gMm_s (ok := (gOk (aW cr inn k1))) (v := (fun c => gV (aW cr inn k1) k2 inn x 1 (!(decide (¬ q = 0))) (gTn (aW cr inn k1) w_ c))) (mn := (decide (¬ q = 0))) hu.symm hv9.symm hok9).trans (if_neg (fun z9 => by rcases z9 with z9 | z9 <;> first | omega | (rw [if_pos hqd9] at z9; omega) | (rw [if_neg hqd9] at z9; omega)))).symm
              refine lv_iinc (v := nI (i + 1)) (lv' := [(6, .int (nI (i + 1))), (5, .int u), (8, .int r_8), (7, .int (nI (aTn (aW cr inn k1) w_ i))), (0, .ref h), (1, .int (nI w_)), (2, .int x), (3, .int 2), (4, .int q)]) hx hb dX11_worth_114 hl (k := 3) rfl (z_inc i 1) (by decide) (zLvf_h rfl) (fun ls hl => ?_)
              refine lv_goto (tgt := 22) hx hb dX11_worth_117 (by decide) ?_
              exact ih_22 (i + 1) u (show (i + 1) ≤ 8 ∧ u.toInt = gMm (gOk (aW cr inn k1)) (fun c => gV (aW cr inn k1) k2 inn x 1 (!(decide (¬ q = 0))) (gTn (aW cr inn k1) w_ c)) (decide (¬ q = 0)) (i + 1) from ⟨by omega, hun9⟩) (show 8 - (i + 1) < 8 - i from by omega) _ _ ls G (lv_sub hl [0, 1, 4, 5, 6, 7, 8] rfl)
            · have c_10n : ¬ u.toInt ≤ r_8.toInt := fun q => c_10 ((fa_le _ _).mpr q)
              refine lv_goto (tgt := 105) hx hb dX11_worth_95 (by decide) ?_
              refine lv_iload hx hb dX11_worth_105 (lv_at hl 0 rfl) ?_
              refine lv_goto (tgt := 112) hx hb dX11_worth_107 (by decide) ?_
              refine lv_istore (lv' := [(5, .int r_8), (8, .int r_8), (7, .int (nI (aTn (aW cr inn k1) w_ i))), (6, .int (nI i)), (0, .ref h), (1, .int (nI w_)), (2, .int x), (3, .int 2), (4, .int q)]) hx hb dX11_worth_112 hl (by decide) (zLvf_h rfl) (fun ls hl => ?_)
              have hun9 : r_8.toInt = gMm (gOk (aW cr inn k1)) (fun c => gV (aW cr inn k1) k2 inn x 1 (!(decide (¬ q = 0))) (gTn (aW cr inn k1) w_ c)) (decide (¬ q = 0)) (i + 1) := ((gMm_s (ok := (gOk (aW cr inn k1))) (v := (fun c => gV (aW cr inn k1) k2 inn x 1 (!(decide (¬ q = 0))) (gTn (aW cr inn k1) w_ c))) (mn := (decide (¬ q = 0))) hu.symm hv9.symm hok9).trans (if_pos (by first | exact Or.inl (by omega) | (exact Or.inr (by first | (rw [if_pos hqd9]; omega) | (rw [if_neg hqd9]; omega)))))).symm
              refine lv_iinc (v := nI (i + 1)) (lv' := [(6, .int (nI (i + 1))), (5, .int r_8), (8, .int r_8), (7, .int (nI (aTn (aW cr inn k1) w_ i))), (0, .ref h), (1, .int (nI w_)), (2, .int x), (3, .int 2), (4, .int q)]) hx hb dX11_worth_114 hl (k := 3) rfl (z_inc i 1) (by decide) (zLvf_h rfl) (fun ls hl => ?_)
              refine lv_goto (tgt := 22) hx hb dX11_worth_117 (by decide) ?_
              exact ih_22 (i + 1) r_8 (show (i + 1) ≤ 8 ∧ r_8.toInt = gMm (gOk (aW cr inn k1)) (fun c => gV (aW cr inn k1) k2 inn x 1 (!(decide (¬ q = 0))) (gTn (aW cr inn k1) w_ c)) (decide (¬ q = 0)) (i + 1) from ⟨by omega, hun9⟩) (show 8 - (i + 1) < 8 - i from by omega) _ _ ls G (lv_sub hl [0, 1, 4, 5, 6, 7, 8] rfl)
        · have c_6n : q.toInt = (0 : Int) := (fa_eq _ _).mp c_6
          refine lv_iconst (v := 1) hx hb dX11_worth_67 (by decide) ?_
          refine lv_goto (tgt := 72) hx hb dX11_worth_68 (by decide) ?_
          refine z_Si (bc := [ww, z]) (br := []) (As := [.ref h, .int (nI (aTn (aW cr inn k1) w_ i)), .int x, .int 1, .int 1]) (rest := []) C G (c_f_worth1 l T h la md wy pc_ f1 f2 f3 f4 f5 f6 n4 ww cr inn k1 k2 k3 k4 z (aTn (aW cr inn k1) w_ i) x 1 hww hz (by first | with_reducible assumption | with_reducible rfl | omega | assumption | rfl) (by first | with_reducible assumption | with_reducible rfl | omega | assumption | rfl) (by first | with_reducible assumption | with_reducible rfl | omega | assumption | rfl) (by first | with_reducible assumption | with_reducible rfl | omega | assumption | rfl) hTt ⟨hx71, hx72, hx73⟩ htl9 (by first | with_reducible assumption | with_reducible rfl | omega | assumption | rfl)) (kS_RX11_278 C.2.2.2.2 (Nat.le_of_ble_eq_true rfl) (Nat.le_of_ble_eq_true rfl)) [0, 1] [0, 0] rfl rfl rfl rfl hl.1 dX11_worth_72 (Nat.le_of_ble_eq_true rfl) (Nat.le_of_ble_eq_true rfl) (fun r_12 b1 H locs hw G => ?_)
          refine zAn2 hw ?_
          intro hbs9 h_11
          clear hw
          subst hbs9
          have G : zS T A s.heap s [ww, z] _ _ := G
          have hqd9 : ¬ decide (¬ q = 0) = true := by rw [decide_eq_false (fun z9 => z9 (by first | with_reducible assumption | assumption))]; exact Bool.false_ne_true
          have hmn9 : decide (¬ (1 : Int32) = 0) = !decide (¬ q = 0) := by rw [Bool.eq_false_iff.mpr hqd9]; rfl
          have hv9 : r_12.toInt = gV (aW cr inn k1) k2 inn x 1 (!(decide (¬ q = 0))) (gTn (aW cr inn k1) w_ i) := by rw [← hmn9, gTn_c (by omega)]; exact h_11
          refine lv_istore (lv' := [(8, .int r_12), (7, .int (nI (aTn (aW cr inn k1) w_ i))), (6, .int (nI i)), (5, .int u), (0, .ref h), (1, .int (nI w_)), (2, .int x), (3, .int 2), (4, .int q)]) hx hb dX11_worth_75 hl (by decide) (zLvf_h rfl) (fun ls hl => ?_)
          refine lv_iload hx hb dX11_worth_77 (lv_at hl 3 rfl) ?_
          refine lv_iconst (v := (-1)) hx hb dX11_worth_79 (by decide) ?_
          refine lv_icmp_eq (tgt := 105) hx hb dX11_worth_80 (by decide) (fun c_13 => ?_) (fun c_13 => ?_)
          · have c_13n : u.toInt = (-1 : Int) := (fa_eq _ _).mp c_13
            refine lv_iload hx hb dX11_worth_105 (lv_at hl 0 rfl) ?_
            refine lv_goto (tgt := 112) hx hb dX11_worth_107 (by decide) ?_
            refine lv_istore (lv' := [(5, .int r_12), (8, .int r_12), (7, .int (nI (aTn (aW cr inn k1) w_ i))), (6, .int (nI i)), (0, .ref h), (1, .int (nI w_)), (2, .int x), (3, .int 2), (4, .int q)]) hx hb dX11_worth_112 hl (by decide) (zLvf_h rfl) (fun ls hl => ?_)
            have hun9 : r_12.toInt = gMm (gOk (aW cr inn k1)) (fun c => gV (aW cr inn k1) k2 inn x 1 (!(decide (¬ q = 0))) (gTn (aW cr inn k1) w_ c)) (decide (¬ q = 0)) (i + 1) := ((gMm_s (ok := (gOk (aW cr inn k1))) (v := (fun c => gV (aW cr inn k1) k2 inn x 1 (!(decide (¬ q = 0))) (gTn (aW cr inn k1) w_ c))) (mn := (decide (¬ q = 0))) hu.symm hv9.symm hok9).trans (if_pos (by first | exact Or.inl (by omega) | (exact Or.inr (by first | (rw [if_pos hqd9]; omega) | (rw [if_neg hqd9]; omega)))))).symm
            refine lv_iinc (v := nI (i + 1)) (lv' := [(6, .int (nI (i + 1))), (5, .int r_12), (8, .int r_12), (7, .int (nI (aTn (aW cr inn k1) w_ i))), (0, .ref h), (1, .int (nI w_)), (2, .int x), (3, .int 2), (4, .int q)]) hx hb dX11_worth_114 hl (k := 3) rfl (z_inc i 1) (by decide) (zLvf_h rfl) (fun ls hl => ?_)
            refine lv_goto (tgt := 22) hx hb dX11_worth_117 (by decide) ?_
            exact ih_22 (i + 1) r_12 (show (i + 1) ≤ 8 ∧ r_12.toInt = gMm (gOk (aW cr inn k1)) (fun c => gV (aW cr inn k1) k2 inn x 1 (!(decide (¬ q = 0))) (gTn (aW cr inn k1) w_ c)) (decide (¬ q = 0)) (i + 1) from ⟨by omega, hun9⟩) (show 8 - (i + 1) < 8 - i from by omega) _ _ ls G (lv_sub hl [0, 1, 4, 5, 6, 7, 8] rfl)
          · have c_13n : ¬ u.toInt = (-1 : Int) := fun q => c_13 ((fa_eq _ _).mpr q)
            refine lv_iload hx hb dX11_worth_83 (lv_at hl 8 rfl) ?_
            refine lv_if_eq (tgt := 98) hx hb dX11_worth_85 (by decide) (fun _ => ?_) (fun q => absurd c_6 q)
            refine lv_iload hx hb dX11_worth_98 (lv_at hl 0 rfl) ?_
            refine lv_iload hx hb dX11_worth_100 (lv_at hl 3 rfl) ?_
            refine lv_icmp_le (tgt := 110) hx hb dX11_worth_102 (by decide) (fun c_14 => ?_) (fun c_14 => ?_)
            · have c_14n : r_12.toInt ≤ u.toInt := (fa_le _ _).mp c_14
              refine lv_iload hx hb dX11_worth_110 (lv_at hl 3 rfl) ?_
              refine lv_istore (lv' := [(5, .int u), (8, .int r_12), (7, .int (nI (aTn (aW cr inn k1) w_ i))), (6, .int (nI i)), (0, .ref h), (1, .int (nI w_)), (2, .int x), (3, .int 2), (4, .int q)]) hx hb dX11_worth_112 hl (by decide) (zLvf_h rfl) (fun ls hl => ?_)
              have hun9 : u.toInt = gMm (gOk (aW cr inn k1)) (fun c => gV (aW cr inn k1) k2 inn x 1 (!(decide (¬ q = 0))) (gTn (aW cr inn k1) w_ c)) (decide (¬ q = 0)) (i + 1) := ((gMm_s (ok := (gOk (aW cr inn k1))) (v := (fun c => gV (aW cr inn k1) k2 inn x 1 (!(decide (¬ q = 0))) (gTn (aW cr inn k1) w_ c))) (mn := (decide (¬ q = 0))) hu.symm hv9.symm hok9).trans (if_neg (fun z9 => by rcases z9 with z9 | z9 <;> first | omega | (rw [if_pos hqd9] at z9; omega) | (rw [if_neg hqd9] at z9; omega)))).symm
              refine lv_iinc (v := nI (i + 1)) (lv' := [(6, .int (nI (i + 1))), (5, .int u), (8, .int r_12), (7, .int (nI (aTn (aW cr inn k1) w_ i))), (0, .ref h), (1, .int (nI w_)), (2, .int x), (3, .int 2), (4, .int q)]) hx hb dX11_worth_114 hl (k := 3) rfl (z_inc i 1) (by decide) (zLvf_h rfl) (fun ls hl => ?_)
              refine lv_goto (tgt := 22) hx hb dX11_worth_117 (by decide) ?_
              exact ih_22 (i + 1) u (show (i + 1) ≤ 8 ∧ u.toInt = gMm (gOk (aW cr inn k1)) (fun c => gV (aW cr inn k1) k2 inn x 1 (!(decide (¬ q = 0))) (gTn (aW cr inn k1) w_ c)) (decide (¬ q = 0)) (i + 1) from ⟨by omega, hun9⟩) (show 8 - (i + 1) < 8 - i from by omega) _ _ ls G (lv_sub hl [0, 1, 4, 5, 6, 7, 8] rfl)
            · have c_14n : ¬ r_12.toInt ≤ u.toInt := fun q => c_14 ((fa_le _ _).mpr q)
              refine lv_iload hx hb dX11_worth_105 (lv_at hl 0 rfl) ?_
              refine lv_goto (tgt := 112) hx hb dX11_worth_107 (by decide) ?_
              refine lv_istore (lv' := [(5, .int r_12), (8, .int r_12), (7, .int (nI (aTn (aW cr inn k1) w_ i))), (6, .int (nI i)), (0, .ref h), (1, .int (nI w_)), (2, .int x), (3, .int 2), (4, .int q)]) hx hb dX11_worth_112 hl (by decide) (zLvf_h rfl) (fun ls hl => ?_)
              have hun9 : r_12.toInt = gMm (gOk (aW cr inn k1)) (fun c => gV (aW cr inn k1) k2 inn x 1 (!(decide (¬ q = 0))) (gTn (aW cr inn k1) w_ c)) (decide (¬ q = 0)) (i + 1) := ((gMm_s (ok := (gOk (aW cr inn k1))) (v := (fun c => gV (aW cr inn k1) k2 inn x 1 (!(decide (¬ q = 0))) (gTn (aW cr inn k1) w_ c))) (mn := (decide (¬ q = 0))) hu.symm hv9.symm hok9).trans (if_pos (by first | exact Or.inl (by omega) | (exact Or.inr (by first | (rw [if_pos hqd9]; omega) | (rw [if_neg hqd9]; omega)))))).symm
              refine lv_iinc (v := nI (i + 1)) (lv' := [(6, .int (nI (i + 1))), (5, .int r_12), (8, .int r_12), (7, .int (nI (aTn (aW cr inn k1) w_ i))), (0, .ref h), (1, .int (nI w_)), (2, .int x), (3, .int 2), (4, .int q)]) hx hb dX11_worth_114 hl (k := 3) rfl (z_inc i 1) (by decide) (zLvf_h rfl) (fun ls hl => ?_)
              refine lv_goto (tgt := 22) hx hb dX11_worth_117 (by decide) ?_
              exact ih_22 (i + 1) r_12 (show (i + 1) ≤ 8 ∧ r_12.toInt = gMm (gOk (aW cr inn k1)) (fun c => gV (aW cr inn k1) k2 inn x 1 (!(decide (¬ q = 0))) (gTn (aW cr inn k1) w_ c)) (decide (¬ q = 0)) (i + 1) from ⟨by omega, hun9⟩) (show 8 - (i + 1) < 8 - i from by omega) _ _ ls G (lv_sub hl [0, 1, 4, 5, 6, 7, 8] rfl)
    · have c_2n : i = 7 := (nI_eq (a := i) (b := 7) (by omega) (by omega)).mp c_2
      refine lv_iload_n hx hb dX11_worth_36 rfl (lv_at hl 3 rfl) ?_
      refine lv_goto (tgt := 47) hx hb dX11_worth_37 (by decide) ?_
      refine lv_istore (lv' := [(7, .int (nI w_)), (6, .int (nI i)), (5, .int u), (0, .ref h), (1, .int (nI w_)), (2, .int x), (3, .int 2), (4, .int q)]) hx hb dX11_worth_47 hl (by decide) (zLvf_h rfl) (fun ls hl => ?_)
      have hi79 : i = 7 := by omega
      have hok9 : gOk (aW cr inn k1) i = true := by rw [hi79]; exact gOk_7
      refine lv_iload hx hb dX11_worth_49 (lv_at hl 0 rfl) ?_
      refine lv_iconst (v := (-1)) hx hb dX11_worth_51 (by decide) ?_
      refine lv_icmp_eq (tgt := 114) hx hb dX11_worth_52 (by decide) (fun q => absurd q (nIm1 (by omega))) (fun _ => ?_)
      refine lv_aload_n hx hb dX11_worth_55 rfl (lv_at hl 3 rfl) ?_
      refine lv_iload hx hb dX11_worth_56 (lv_at hl 0 rfl) ?_
      refine lv_iload_n hx hb dX11_worth_58 rfl (lv_at hl 5 rfl) ?_
      refine lv_iload_n hx hb dX11_worth_59 rfl (lv_at hl 6 rfl) ?_
      refine lv_iconst (v := 1) hx hb dX11_worth_60 (by decide) ?_
      refine lv_isub hx hb dX11_worth_61 ?_
      refine lv_topi (fun y_15 ey_15 => ?_)
      obtain rfl : y_15 = 1 := ey_15.trans (by decide)
      refine lv_iload hx hb dX11_worth_62 (lv_at hl 7 rfl) ?_
      refine lv_if_ne (tgt := 71) hx hb dX11_worth_64 (by decide) (fun c_16 => ?_) (fun c_16 => ?_)
      · have c_16n : ¬ q.toInt = (0 : Int) := fun q => c_16 ((fa_eq _ _).mpr q)
        refine lv_iconst (v := 0) hx hb dX11_worth_71 (by decide) ?_
        refine z_Si (bc := [ww, z]) (br := []) (As := [.ref h, .int (nI w_), .int x, .int 1, .int 0]) (rest := []) C G (c_f_worth1 l T h la md wy pc_ f1 f2 f3 f4 f5 f6 n4 ww cr inn k1 k2 k3 k4 z w_ x 0 hww hz (by first | with_reducible assumption | with_reducible rfl | omega | assumption | rfl) (by first | with_reducible assumption | with_reducible rfl | omega | assumption | rfl) (by first | with_reducible assumption | with_reducible rfl | omega | assumption | rfl) (by first | with_reducible assumption | with_reducible rfl | omega | assumption | rfl) hTt ⟨hx71, hx72, hx73⟩ hwl (by first | with_reducible assumption | with_reducible rfl | omega | assumption | rfl)) (kS_RX11_278 C.2.2.2.2 (Nat.le_of_ble_eq_true rfl) (Nat.le_of_ble_eq_true rfl)) [0, 1] [0, 0] rfl rfl rfl rfl hl.1 dX11_worth_72 (Nat.le_of_ble_eq_true rfl) (Nat.le_of_ble_eq_true rfl) (fun r_18 b1 H locs hw G => ?_)
        refine zAn2 hw ?_
        intro hbs9 h_17
        clear hw
        subst hbs9
        have G : zS T A s.heap s [ww, z] _ _ := G
        have hqd9 : decide (¬ q = 0) = true := decide_eq_true (by first | with_reducible assumption | assumption)
        have hmn9 : decide (¬ (0 : Int32) = 0) = !decide (¬ q = 0) := by rw [hqd9]; rfl
        have hv9 : r_18.toInt = gV (aW cr inn k1) k2 inn x 1 (!(decide (¬ q = 0))) (gTn (aW cr inn k1) w_ i) := by rw [← hmn9, hi79, gTn_7]; exact h_17
        refine lv_istore (lv' := [(8, .int r_18), (7, .int (nI w_)), (6, .int (nI i)), (5, .int u), (0, .ref h), (1, .int (nI w_)), (2, .int x), (3, .int 2), (4, .int q)]) hx hb dX11_worth_75 hl (by decide) (zLvf_h rfl) (fun ls hl => ?_)
        refine lv_iload hx hb dX11_worth_77 (lv_at hl 3 rfl) ?_
        refine lv_iconst (v := (-1)) hx hb dX11_worth_79 (by decide) ?_
        refine lv_icmp_eq (tgt := 105) hx hb dX11_worth_80 (by decide) (fun c_19 => ?_) (fun c_19 => ?_)
        · have c_19n : u.toInt = (-1 : Int) := (fa_eq _ _).mp c_19
          refine lv_iload hx hb dX11_worth_105 (lv_at hl 0 rfl) ?_
          refine lv_goto (tgt := 112) hx hb dX11_worth_107 (by decide) ?_
          refine lv_istore (lv' := [(5, .int r_18), (8, .int r_18), (7, .int (nI w_)), (6, .int (nI i)), (0, .ref h), (1, .int (nI w_)), (2, .int x), (3, .int 2), (4, .int q)]) hx hb dX11_worth_112 hl (by decide) (zLvf_h rfl) (fun ls hl => ?_)
          have hun9 : r_18.toInt = gMm (gOk (aW cr inn k1)) (fun c => gV (aW cr inn k1) k2 inn x 1 (!(decide (¬ q = 0))) (gTn (aW cr inn k1) w_ c)) (decide (¬ q = 0)) (i + 1) := ((gMm_s (ok := (gOk (aW cr inn k1))) (v := (fun c => gV (aW cr inn k1) k2 inn x 1 (!(decide (¬ q = 0))) (gTn (aW cr inn k1) w_ c))) (mn := (decide (¬ q = 0))) hu.symm hv9.symm hok9).trans (if_pos (by first | exact Or.inl (by omega) | (exact Or.inr (by first | (rw [if_pos hqd9]; omega) | (rw [if_neg hqd9]; omega)))))).symm
          refine lv_iinc (v := nI (i + 1)) (lv' := [(6, .int (nI (i + 1))), (5, .int r_18), (8, .int r_18), (7, .int (nI w_)), (0, .ref h), (1, .int (nI w_)), (2, .int x), (3, .int 2), (4, .int q)]) hx hb dX11_worth_114 hl (k := 3) rfl (z_inc i 1) (by decide) (zLvf_h rfl) (fun ls hl => ?_)
          refine lv_goto (tgt := 22) hx hb dX11_worth_117 (by decide) ?_
          exact ih_22 (i + 1) r_18 (show (i + 1) ≤ 8 ∧ r_18.toInt = gMm (gOk (aW cr inn k1)) (fun c => gV (aW cr inn k1) k2 inn x 1 (!(decide (¬ q = 0))) (gTn (aW cr inn k1) w_ c)) (decide (¬ q = 0)) (i + 1) from ⟨by omega, hun9⟩) (show 8 - (i + 1) < 8 - i from by omega) _ _ ls G (lv_sub hl [0, 1, 4, 5, 6, 7, 8] rfl)
        · have c_19n : ¬ u.toInt = (-1 : Int) := fun q => c_19 ((fa_eq _ _).mpr q)
          refine lv_iload hx hb dX11_worth_83 (lv_at hl 8 rfl) ?_
          refine lv_if_eq (tgt := 98) hx hb dX11_worth_85 (by decide) (fun q => absurd q c_16) (fun _ => ?_)
          refine lv_iload hx hb dX11_worth_88 (lv_at hl 0 rfl) ?_
          refine lv_iload hx hb dX11_worth_90 (lv_at hl 3 rfl) ?_
          refine lv_icmp_ge (tgt := 110) hx hb dX11_worth_92 (by decide) (fun c_20 => ?_) (fun c_20 => ?_)
          · have c_20n : u.toInt ≤ r_18.toInt := (fa_le _ _).mp c_20
            refine lv_iload hx hb dX11_worth_110 (lv_at hl 3 rfl) ?_
            refine lv_istore (lv' := [(5, .int u), (8, .int r_18), (7, .int (nI w_)), (6, .int (nI i)), (0, .ref h), (1, .int (nI w_)), (2, .int x), (3, .int 2), (4, .int q)]) hx hb dX11_worth_112 hl (by decide) (zLvf_h rfl) (fun ls hl => ?_)
            have hun9 : u.toInt = gMm (gOk (aW cr inn k1)) (fun c => gV (aW cr inn k1) k2 inn x 1 (!(decide (¬ q = 0))) (gTn (aW cr inn k1) w_ c)) (decide (¬ q = 0)) (i + 1) := ((gMm_s (ok := (gOk (aW cr inn k1))) (v := (fun c => gV (aW cr inn k1) k2 inn x 1 (!(decide (¬ q = 0))) (gTn (aW cr inn k1) w_ c))) (mn := (decide (¬ q = 0))) hu.symm hv9.symm hok9).trans (if_neg (fun z9 => by rcases z9 with z9 | z9 <;> first | omega | (rw [if_pos hqd9] at z9; omega) | (rw [if_neg hqd9] at z9; omega)))).symm
            refine lv_iinc (v := nI (i + 1)) (lv' := [(6, .int (nI (i + 1))), (5, .int u), (8, .int r_18), (7, .int (nI w_)), (0, .ref h), (1, .int (nI w_)), (2, .int x), (3, .int 2), (4, .int q)]) hx hb dX11_worth_114 hl (k := 3) rfl (z_inc i 1) (by decide) (zLvf_h rfl) (fun ls hl => ?_)
            refine lv_goto (tgt := 22) hx hb dX11_worth_117 (by decide) ?_
            exact ih_22 (i + 1) u (show (i + 1) ≤ 8 ∧ u.toInt = gMm (gOk (aW cr inn k1)) (fun c => gV (aW cr inn k1) k2 inn x 1 (!(decide (¬ q = 0))) (gTn (aW cr inn k1) w_ c)) (decide (¬ q = 0)) (i + 1) from ⟨by omega, hun9⟩) (show 8 - (i + 1) < 8 - i from by omega) _ _ ls G (lv_sub hl [0, 1, 4, 5, 6, 7, 8] rfl)
          · have c_20n : ¬ u.toInt ≤ r_18.toInt := fun q => c_20 ((fa_le _ _).mpr q)
            refine lv_goto (tgt := 105) hx hb dX11_worth_95 (by decide) ?_
            refine lv_iload hx hb dX11_worth_105 (lv_at hl 0 rfl) ?_
            refine lv_goto (tgt := 112) hx hb dX11_worth_107 (by decide) ?_
            refine lv_istore (lv' := [(5, .int r_18), (8, .int r_18), (7, .int (nI w_)), (6, .int (nI i)), (0, .ref h), (1, .int (nI w_)), (2, .int x), (3, .int 2), (4, .int q)]) hx hb dX11_worth_112 hl (by decide) (zLvf_h rfl) (fun ls hl => ?_)
            have hun9 : r_18.toInt = gMm (gOk (aW cr inn k1)) (fun c => gV (aW cr inn k1) k2 inn x 1 (!(decide (¬ q = 0))) (gTn (aW cr inn k1) w_ c)) (decide (¬ q = 0)) (i + 1) := ((gMm_s (ok := (gOk (aW cr inn k1))) (v := (fun c => gV (aW cr inn k1) k2 inn x 1 (!(decide (¬ q = 0))) (gTn (aW cr inn k1) w_ c))) (mn := (decide (¬ q = 0))) hu.symm hv9.symm hok9).trans (if_pos (by first | exact Or.inl (by omega) | (exact Or.inr (by first | (rw [if_pos hqd9]; omega) | (rw [if_neg hqd9]; omega)))))).symm
            refine lv_iinc (v := nI (i + 1)) (lv' := [(6, .int (nI (i + 1))), (5, .int r_18), (8, .int r_18), (7, .int (nI w_)), (0, .ref h), (1, .int (nI w_)), (2, .int x), (3, .int 2), (4, .int q)]) hx hb dX11_worth_114 hl (k := 3) rfl (z_inc i 1) (by decide) (zLvf_h rfl) (fun ls hl => ?_)
            refine lv_goto (tgt := 22) hx hb dX11_worth_117 (by decide) ?_
            exact ih_22 (i + 1) r_18 (show (i + 1) ≤ 8 ∧ r_18.toInt = gMm (gOk (aW cr inn k1)) (fun c => gV (aW cr inn k1) k2 inn x 1 (!(decide (¬ q = 0))) (gTn (aW cr inn k1) w_ c)) (decide (¬ q = 0)) (i + 1) from ⟨by omega, hun9⟩) (show 8 - (i + 1) < 8 - i from by omega) _ _ ls G (lv_sub hl [0, 1, 4, 5, 6, 7, 8] rfl)
      · have c_16n : q.toInt = (0 : Int) := (fa_eq _ _).mp c_16
        refine lv_iconst (v := 1) hx hb dX11_worth_67 (by decide) ?_
        refine lv_goto (tgt := 72) hx hb dX11_worth_68 (by decide) ?_
        refine z_Si (bc := [ww, z]) (br := []) (As := [.ref h, .int (nI w_), .int x, .int 1, .int 1]) (rest := []) C G (c_f_worth1 l T h la md wy pc_ f1 f2 f3 f4 f5 f6 n4 ww cr inn k1 k2 k3 k4 z w_ x 1 hww hz (by first | with_reducible assumption | with_reducible rfl | omega | assumption | rfl) (by first | with_reducible assumption | with_reducible rfl | omega | assumption | rfl) (by first | with_reducible assumption | with_reducible rfl | omega | assumption | rfl) (by first | with_reducible assumption | with_reducible rfl | omega | assumption | rfl) hTt ⟨hx71, hx72, hx73⟩ hwl (by first | with_reducible assumption | with_reducible rfl | omega | assumption | rfl)) (kS_RX11_278 C.2.2.2.2 (Nat.le_of_ble_eq_true rfl) (Nat.le_of_ble_eq_true rfl)) [0, 1] [0, 0] rfl rfl rfl rfl hl.1 dX11_worth_72 (Nat.le_of_ble_eq_true rfl) (Nat.le_of_ble_eq_true rfl) (fun r_22 b1 H locs hw G => ?_)
        refine zAn2 hw ?_
        intro hbs9 h_21
        clear hw
        subst hbs9
        have G : zS T A s.heap s [ww, z] _ _ := G
        have hqd9 : ¬ decide (¬ q = 0) = true := by rw [decide_eq_false (fun z9 => z9 (by first | with_reducible assumption | assumption))]; exact Bool.false_ne_true
        have hmn9 : decide (¬ (1 : Int32) = 0) = !decide (¬ q = 0) := by rw [Bool.eq_false_iff.mpr hqd9]; rfl
        have hv9 : r_22.toInt = gV (aW cr inn k1) k2 inn x 1 (!(decide (¬ q = 0))) (gTn (aW cr inn k1) w_ i) := by rw [← hmn9, hi79, gTn_7]; exact h_21
        refine lv_istore (lv' := [(8, .int r_22), (7, .int (nI w_)), (6, .int (nI i)), (5, .int u), (0, .ref h), (1, .int (nI w_)), (2, .int x), (3, .int 2), (4, .int q)]) hx hb dX11_worth_75 hl (by decide) (zLvf_h rfl) (fun ls hl => ?_)
        refine lv_iload hx hb dX11_worth_77 (lv_at hl 3 rfl) ?_
        refine lv_iconst (v := (-1)) hx hb dX11_worth_79 (by decide) ?_
        refine lv_icmp_eq (tgt := 105) hx hb dX11_worth_80 (by decide) (fun c_23 => ?_) (fun c_23 => ?_)
        · have c_23n : u.toInt = (-1 : Int) := (fa_eq _ _).mp c_23
          refine lv_iload hx hb dX11_worth_105 (lv_at hl 0 rfl) ?_
          refine lv_goto (tgt := 112) hx hb dX11_worth_107 (by decide) ?_
          refine lv_istore (lv' := [(5, .int r_22), (8, .int r_22), (7, .int (nI w_)), (6, .int (nI i)), (0, .ref h), (1, .int (nI w_)), (2, .int x), (3, .int 2), (4, .int q)]) hx hb dX11_worth_112 hl (by decide) (zLvf_h rfl) (fun ls hl => ?_)
          have hun9 : r_22.toInt = gMm (gOk (aW cr inn k1)) (fun c => gV (aW cr inn k1) k2 inn x 1 (!(decide (¬ q = 0))) (gTn (aW cr inn k1) w_ c)) (decide (¬ q = 0)) (i + 1) := ((gMm_s (ok := (gOk (aW cr inn k1))) (v := (fun c => gV (aW cr inn k1) k2 inn x 1 (!(decide (¬ q = 0))) (gTn (aW cr inn k1) w_ c))) (mn := (decide (¬ q = 0))) hu.symm hv9.symm hok9).trans (if_pos (by first | exact Or.inl (by omega) | (exact Or.inr (by first | (rw [if_pos hqd9]; omega) | (rw [if_neg hqd9]; omega)))))).symm
          refine lv_iinc (v := nI (i + 1)) (lv' := [(6, .int (nI (i + 1))), (5, .int r_22), (8, .int r_22), (7, .int (nI w_)), (0, .ref h), (1, .int (nI w_)), (2, .int x), (3, .int 2), (4, .int q)]) hx hb dX11_worth_114 hl (k := 3) rfl (z_inc i 1) (by decide) (zLvf_h rfl) (fun ls hl => ?_)
          refine lv_goto (tgt := 22) hx hb dX11_worth_117 (by decide) ?_
          exact ih_22 (i + 1) r_22 (show (i + 1) ≤ 8 ∧ r_22.toInt = gMm (gOk (aW cr inn k1)) (fun c => gV (aW cr inn k1) k2 inn x 1 (!(decide (¬ q = 0))) (gTn (aW cr inn k1) w_ c)) (decide (¬ q = 0)) (i + 1) from ⟨by omega, hun9⟩) (show 8 - (i + 1) < 8 - i from by omega) _ _ ls G (lv_sub hl [0, 1, 4, 5, 6, 7, 8] rfl)
        · have c_23n : ¬ u.toInt = (-1 : Int) := fun q => c_23 ((fa_eq _ _).mpr q)
          refine lv_iload hx hb dX11_worth_83 (lv_at hl 8 rfl) ?_
          refine lv_if_eq (tgt := 98) hx hb dX11_worth_85 (by decide) (fun _ => ?_) (fun q => absurd c_16 q)
          refine lv_iload hx hb dX11_worth_98 (lv_at hl 0 rfl) ?_
          refine lv_iload hx hb dX11_worth_100 (lv_at hl 3 rfl) ?_
          refine lv_icmp_le (tgt := 110) hx hb dX11_worth_102 (by decide) (fun c_24 => ?_) (fun c_24 => ?_)
          · have c_24n : r_22.toInt ≤ u.toInt := (fa_le _ _).mp c_24
            refine lv_iload hx hb dX11_worth_110 (lv_at hl 3 rfl) ?_
            refine lv_istore (lv' := [(5, .int u), (8, .int r_22), (7, .int (nI w_)), (6, .int (nI i)), (0, .ref h), (1, .int (nI w_)), (2, .int x), (3, .int 2), (4, .int q)]) hx hb dX11_worth_112 hl (by decide) (zLvf_h rfl) (fun ls hl => ?_)
            have hun9 : u.toInt = gMm (gOk (aW cr inn k1)) (fun c => gV (aW cr inn k1) k2 inn x 1 (!(decide (¬ q = 0))) (gTn (aW cr inn k1) w_ c)) (decide (¬ q = 0)) (i + 1) := ((gMm_s (ok := (gOk (aW cr inn k1))) (v := (fun c => gV (aW cr inn k1) k2 inn x 1 (!(decide (¬ q = 0))) (gTn (aW cr inn k1) w_ c))) (mn := (decide (¬ q = 0))) hu.symm hv9.symm hok9).trans (if_neg (fun z9 => by rcases z9 with z9 | z9 <;> first | omega | (rw [if_pos hqd9] at z9; omega) | (rw [if_neg hqd9] at z9; omega)))).symm
            refine lv_iinc (v := nI (i + 1)) (lv' := [(6, .int (nI (i + 1))), (5, .int u), (8, .int r_22), (7, .int (nI w_)), (0, .ref h), (1, .int (nI w_)), (2, .int x), (3, .int 2), (4, .int q)]) hx hb dX11_worth_114 hl (k := 3) rfl (z_inc i 1) (by decide) (zLvf_h rfl) (fun ls hl => ?_)
            refine lv_goto (tgt := 22) hx hb dX11_worth_117 (by decide) ?_
            exact ih_22 (i + 1) u (show (i + 1) ≤ 8 ∧ u.toInt = gMm (gOk (aW cr inn k1)) (fun c => gV (aW cr inn k1) k2 inn x 1 (!(decide (¬ q = 0))) (gTn (aW cr inn k1) w_ c)) (decide (¬ q = 0)) (i + 1) from ⟨by omega, hun9⟩) (show 8 - (i + 1) < 8 - i from by omega) _ _ ls G (lv_sub hl [0, 1, 4, 5, 6, 7, 8] rfl)
          · have c_24n : ¬ r_22.toInt ≤ u.toInt := fun q => c_24 ((fa_le _ _).mpr q)
            refine lv_iload hx hb dX11_worth_105 (lv_at hl 0 rfl) ?_
            refine lv_goto (tgt := 112) hx hb dX11_worth_107 (by decide) ?_
            refine lv_istore (lv' := [(5, .int r_22), (8, .int r_22), (7, .int (nI w_)), (6, .int (nI i)), (0, .ref h), (1, .int (nI w_)), (2, .int x), (3, .int 2), (4, .int q)]) hx hb dX11_worth_112 hl (by decide) (zLvf_h rfl) (fun ls hl => ?_)
            have hun9 : r_22.toInt = gMm (gOk (aW cr inn k1)) (fun c => gV (aW cr inn k1) k2 inn x 1 (!(decide (¬ q = 0))) (gTn (aW cr inn k1) w_ c)) (decide (¬ q = 0)) (i + 1) := ((gMm_s (ok := (gOk (aW cr inn k1))) (v := (fun c => gV (aW cr inn k1) k2 inn x 1 (!(decide (¬ q = 0))) (gTn (aW cr inn k1) w_ c))) (mn := (decide (¬ q = 0))) hu.symm hv9.symm hok9).trans (if_pos (by first | exact Or.inl (by omega) | (exact Or.inr (by first | (rw [if_pos hqd9]; omega) | (rw [if_neg hqd9]; omega)))))).symm
            refine lv_iinc (v := nI (i + 1)) (lv' := [(6, .int (nI (i + 1))), (5, .int r_22), (8, .int r_22), (7, .int (nI w_)), (0, .ref h), (1, .int (nI w_)), (2, .int x), (3, .int 2), (4, .int q)]) hx hb dX11_worth_114 hl (k := 3) rfl (z_inc i 1) (by decide) (zLvf_h rfl) (fun ls hl => ?_)
            refine lv_goto (tgt := 22) hx hb dX11_worth_117 (by decide) ?_
            exact ih_22 (i + 1) r_22 (show (i + 1) ≤ 8 ∧ r_22.toInt = gMm (gOk (aW cr inn k1)) (fun c => gV (aW cr inn k1) k2 inn x 1 (!(decide (¬ q = 0))) (gTn (aW cr inn k1) w_ c)) (decide (¬ q = 0)) (i + 1) from ⟨by omega, hun9⟩) (show 8 - (i + 1) < 8 - i from by omega) _ _ ls G (lv_sub hl [0, 1, 4, 5, 6, 7, 8] rfl)
set_option maxHeartbeats 4000000 in
set_option maxRecDepth 100000 in
/-- worth -/
theorem c_f_worth3 (l : Launch) (T : zTy) (h : Nat) (la : Nat) (md : Int32) (wy : Int32) (pc_ : Int32) (f1 : Nat → Int32) (f2 : Nat → Int32) (f3 : Nat → Int32) (f4 : Nat → Int32) (f5 : Nat → Int32) (f6 : Nat → Int32) (n4 : Nat) (ww : va_W) (cr : Int32) (inn : Int32) (k1 : Nat → Int32) (k2 : Nat → Int32) (k3 : Nat → Int32) (k4 : Nat → Int32) (z : va_W) (w_ : Nat) (x : Int32) (q : Int32) (hww : bWays T h la md wy pc_ f1 f2 f3 f4 f5 f6 n4 ww) (hz : bLand T la cr inn k1 k2 k3 k4 z) (hI : zLI cr k1 k3) (hn : n4 ≤ 131072) (hF : aF cr inn k1 f1 f2) (hO : aOk (aW cr inn k1) k2) (hTt : zTab cr inn k1 k2 wy pc_ f1 f2 f5 n4) (hx7 : zHas cr x) (hwl : w_ < aPr (aW cr inn k1) 7) (hLq : zLq cr k1 k2) : zMi l T yX11_worth cX11_worth 9 (some .int) 8 0 0 [.ref h, .int (nI w_), .int x, .int 3, .int q] [ww, z] (fun (r : Int32) bs => bs = [ww, z] ∧ r.toInt = gV (aW cr inn k1) k2 inn x 3 (decide (¬ q = 0)) w_) := by
  refine zMi_of (own := RX11) (by decide) rfl (Nat.le_of_ble_eq_true rfl) ?_
  intro p e s m args below meth c A ls C hr hlocks hnm hAe G hl
  refine zHide (fun Qz_ hQz_ => ?_)
  have hx := C.1
  have hb := C.2.1
  have hl : lv_has ls 9 [(0, .ref h), (1, .int (nI w_)), (2, .int x), (3, .int 3), (4, .int q)] := hl
  have hp79 : aPr (aW cr inn k1) 7 ≤ 16384 := aPr_7 hI
  have hwT9 := nI_toInt (n := w_) (by omega)
  have hwN9 := nI_n (n := w_) (by omega)
  obtain ⟨hx71, hx72, hx73⟩ := hx7
  refine lv_iload_n hx hb dX11_worth_0 rfl (lv_at hl 3 rfl) ?_
  refine lv_if_le (tgt := 9) hx hb dX11_worth_1 (by decide) (fun q => absurd q (by decide)) (fun _ => ?_)
  refine lv_iload_n hx hb dX11_worth_4 rfl (lv_at hl 3 rfl) ?_
  refine lv_iconst (v := 3) hx hb dX11_worth_5 (by decide) ?_
  refine lv_icmp_le (tgt := 16) hx hb dX11_worth_6 (by decide) (fun _ => ?_) (fun q => absurd (by decide) q)
  refine lv_iconst (v := (-1)) hx hb dX11_worth_16 (by decide) ?_
  refine lv_istore (lv' := [(5, .int (-1)), (0, .ref h), (1, .int (nI w_)), (2, .int x), (3, .int 3), (4, .int q)]) hx hb dX11_worth_17 hl (by decide) (zLvf_h rfl) (fun ls hl => ?_)
  refine lv_iconst (v := 0) hx hb dX11_worth_19 (by decide) ?_
  refine lv_istore (lv' := [(6, .int 0), (5, .int (-1)), (0, .ref h), (1, .int (nI w_)), (2, .int x), (3, .int 3), (4, .int q)]) hx hb dX11_worth_20 hl (by decide) (zLvf_h rfl) (fun ls hl => ?_)
  refine z_lp2 (T := T) 22 (fun (i : Nat) (u : Int32) => [ww, z]) (fun (i : Nat) (u : Int32) => [(6, .int (nI i)), (5, .int u), (0, .ref h), (1, .int (nI w_)), (2, .int x), (3, .int 3), (4, .int q)]) (fun (i : Nat) (u : Int32) => i ≤ 8 ∧ u.toInt = gMm (gOk (aW cr inn k1)) (fun c => gV (aW cr inn k1) k2 inn x 2 (!(decide (¬ q = 0))) (gTn (aW cr inn k1) w_ c)) (decide (¬ q = 0)) i) (fun (i : Nat) (u : Int32) => 8 - i) ?_ 0 (-1) (show 0 ≤ 8 ∧ ((-1) : Int32).toInt = gMm (gOk (aW cr inn k1)) (fun c => gV (aW cr inn k1) k2 inn x 2 (!(decide (¬ q = 0))) (gTn (aW cr inn k1) w_ c)) (decide (¬ q = 0)) 0 from ⟨by omega, rfl⟩) G (lv_sub hl [0, 1, 2, 3, 4, 5, 6] rfl)
  intro i u hI9 ih_22 H locs ls G hl
  replace hI9 : i ≤ 8 ∧ u.toInt = gMm (gOk (aW cr inn k1)) (fun c => gV (aW cr inn k1) k2 inn x 2 (!(decide (¬ q = 0))) (gTn (aW cr inn k1) w_ c)) (decide (¬ q = 0)) i := hI9
  refine zAn2 hI9 ?_
  intro hi hu
  clear hI9
  replace G : zS T A s.heap s [ww, z] _ _ := G
  replace hl : lv_has ls 9 [(6, .int (nI i)), (5, .int u), (0, .ref h), (1, .int (nI w_)), (2, .int x), (3, .int 3), (4, .int q)] := hl
  refine lv_iload hx hb dX11_worth_22 (lv_at hl 0 rfl) ?_
  refine lv_bipush (v := 7) hx hb dX11_worth_24 (by decide) ?_
  refine lv_icmp_gt (tgt := 120) hx hb dX11_worth_26 (by decide) (fun c_1 => ?_) (fun c_1 => ?_)
  · have c_1n : 7 < i := (nI_ltI (a := 7) (b := i) (by omega) (by omega)).mp c_1
    refine lv_iload hx hb dX11_worth_120 (lv_at hl 1 rfl) ?_
    exact z_back hQz_ (z_iret C hr hlocks G (Nat.le_of_ble_eq_true rfl) (Nat.le_of_ble_eq_true rfl) dX11_worth_122 ⟨rfl, (by rw [hu, show i = 8 by omega]; exact (gV_s (k := 2)).symm)⟩)
  · have c_1n : ¬ 7 < i := fun q => c_1 ((nI_ltI (a := 7) (b := i) (by omega) (by omega)).mpr q)
    refine lv_iload hx hb dX11_worth_29 (lv_at hl 0 rfl) ?_
    refine lv_bipush (v := 7) hx hb dX11_worth_31 (by decide) ?_
    refine lv_icmp_ne (tgt := 40) hx hb dX11_worth_33 (by decide) (fun c_2 => ?_) (fun c_2 => ?_)
    · have c_2n : ¬ i = 7 := fun q => c_2 ((nI_eq (a := i) (b := 7) (by omega) (by omega)).mpr q)
      refine lv_aload_n hx hb dX11_worth_40 rfl (lv_at hl 2 rfl) ?_
      refine lv_iload_n hx hb dX11_worth_41 rfl (lv_at hl 3 rfl) ?_
      refine lv_iload hx hb dX11_worth_42 (lv_at hl 0 rfl) ?_
      refine z_Vi (bc := [ww, z]) (br := []) (As := [.int (nI w_), .int (nI i)]) (rest := []) C G (c_f_turned l T h la md wy pc_ f1 f2 f3 f4 f5 f6 n4 ww cr inn k1 k2 k3 k4 z (nI w_) (nI i) hww hz (by first | with_reducible assumption | with_reducible rfl | omega | assumption | rfl) (by first | with_reducible assumption | with_reducible rfl | omega | assumption | rfl) (by first | with_reducible assumption | with_reducible rfl | omega | assumption | rfl) (by rw [hwT9]; omega) (by rw [nI_toInt (by omega)]; omega)) (kV_RX11_289 C.2.2.2.2 (Nat.le_of_ble_eq_true rfl) (Nat.le_of_ble_eq_true rfl)) [0, 1] [0, 0] rfl rfl (ci := 0) (qc := (RX0, TX0, 10)) rfl rfl (List.mem_flatten.mpr ⟨_, List.mem_of_getElem? (i := 0) rfl, (bWays_mem hww).choose_spec⟩) rfl rfl hl.1 dX11_worth_44 (Nat.le_of_ble_eq_true rfl) (Nat.le_of_ble_eq_true rfl) (fun r_4 b1 H locs hw G => ?_)
      refine zAn2 hw ?_
      intro hbs9 h_3
      clear hw
      subst hbs9
      have G : zS T A s.heap s [ww, z] _ _ := G
      have ti9 := nI_toInt (n := i) (by omega)
      refine lv_istore (lv' := [(7, .int r_4), (6, .int (nI i)), (5, .int u), (0, .ref h), (1, .int (nI w_)), (2, .int x), (3, .int 3), (4, .int q)]) hx hb dX11_worth_47 hl (by decide) (zLvf_h rfl) (fun ls hl => ?_)
      rcases h_3 with htn9 | htn9
      · obtain rfl : r_4 = -1 := htn9.2
        have hok9 : ¬ gOk (aW cr inn k1) i = true := gOk_n (by omega) (by have q9 := htn9.1; show ¬ 0 < (zWays cr inn k1 (nI i)).toInt; rw [q9]; decide)
        refine lv_iload hx hb dX11_worth_49 (lv_at hl 0 rfl) ?_
        refine lv_iconst (v := (-1)) hx hb dX11_worth_51 (by decide) ?_
        refine lv_icmp_eq (tgt := 114) hx hb dX11_worth_52 (by decide) (fun _ => ?_) (fun q => absurd rfl q)
        have hun9 : u.toInt = gMm (gOk (aW cr inn k1)) (fun c => gV (aW cr inn k1) k2 inn x 2 (!(decide (¬ q = 0))) (gTn (aW cr inn k1) w_ c)) (decide (¬ q = 0)) (i + 1) := by rw [gMm_o hok9]; exact hu
        refine lv_iinc (v := nI (i + 1)) (lv' := [(6, .int (nI (i + 1))), (7, .int (-1)), (5, .int u), (0, .ref h), (1, .int (nI w_)), (2, .int x), (3, .int 3), (4, .int q)]) hx hb dX11_worth_114 hl (k := 1) rfl (z_inc i 1) (by decide) (zLvf_h rfl) (fun ls hl => ?_)
        refine lv_goto (tgt := 22) hx hb dX11_worth_117 (by decide) ?_
        exact ih_22 (i + 1) u (show (i + 1) ≤ 8 ∧ u.toInt = gMm (gOk (aW cr inn k1)) (fun c => gV (aW cr inn k1) k2 inn x 2 (!(decide (¬ q = 0))) (gTn (aW cr inn k1) w_ c)) (decide (¬ q = 0)) (i + 1) from ⟨by omega, hun9⟩) (show 8 - (i + 1) < 8 - i from by omega) _ _ ls G (lv_sub hl [0, 2, 3, 4, 5, 6, 7] rfl)
      · obtain rfl : r_4 = nI (aTn (aW cr inn k1) w_ i) := by have q9 := htn9.2; rw [hwN9, nI_n (by omega)] at q9; exact q9
        have hwz9 := zWays_le (inn := inn) hI (nI i)
        have hok9 : gOk (aW cr inn k1) i = true := gOk_y (by omega) (by have q9 := htn9.1; show 0 < (zWays cr inn k1 (nI i)).toInt; have q8 : ¬ (zWays cr inn k1 (nI i)).toInt = 0 := fun z9 => q9 (Int32.toInt_inj.mp z9); omega)
        have htl9 : aTn (aW cr inn k1) w_ i < aPr (aW cr inn k1) 7 := aTn_lt (by omega) hwl
        refine lv_iload hx hb dX11_worth_49 (lv_at hl 0 rfl) ?_
        refine lv_iconst (v := (-1)) hx hb dX11_worth_51 (by decide) ?_
        refine lv_icmp_eq (tgt := 114) hx hb dX11_worth_52 (by decide) (fun q => absurd q (nIm1 (by omega))) (fun _ => ?_)
        refine lv_aload_n hx hb dX11_worth_55 rfl (lv_at hl 3 rfl) ?_
        refine lv_iload hx hb dX11_worth_56 (lv_at hl 0 rfl) ?_
        refine lv_iload_n hx hb dX11_worth_58 rfl (lv_at hl 5 rfl) ?_
        refine lv_iload_n hx hb dX11_worth_59 rfl (lv_at hl 6 rfl) ?_
        refine lv_iconst (v := 1) hx hb dX11_worth_60 (by decide) ?_
        refine lv_isub hx hb dX11_worth_61 ?_
        refine lv_topi (fun y_5 ey_5 => ?_)
        obtain rfl : y_5 = 2 := ey_5.trans (by decide)
        refine lv_iload hx hb dX11_worth_62 (lv_at hl 7 rfl) ?_
        refine lv_if_ne (tgt := 71) hx hb dX11_worth_64 (by decide) (fun c_6 => ?_) (fun c_6 => ?_)
        · have c_6n : ¬ q.toInt = (0 : Int) := fun q => c_6 ((fa_eq _ _).mpr q)
          refine lv_iconst (v := 0) hx hb dX11_worth_71 (by decide) ?_
          refine z_Si (bc := [ww, z]) (br := []) (As := [.ref h, .int (nI (aTn (aW cr inn k1) w_ i)), .int x, .int 2, .int 0]) (rest := []) C G (c_f_worth2 l T h la md wy pc_ f1 f2 f3 f4 f5 f6 n4 ww cr inn k1 k2 k3 k4 z (aTn (aW cr inn k1) w_ i) x 0 hww hz (by first | with_reducible assumption | with_reducible rfl | omega | assumption | rfl) (by first | with_reducible assumption | with_reducible rfl | omega | assumption | rfl) (by first | with_reducible assumption | with_reducible rfl | omega | assumption | rfl) (by first | with_reducible assumption | with_reducible rfl | omega | assumption | rfl) hTt ⟨hx71, hx72, hx73⟩ htl9 (by first | with_reducible assumption | with_reducible rfl | omega | assumption | rfl)) (kS_RX11_278 C.2.2.2.2 (Nat.le_of_ble_eq_true rfl) (Nat.le_of_ble_eq_true rfl)) [0, 1] [0, 0] rfl rfl rfl rfl hl.1 dX11_worth_72 (Nat.le_of_ble_eq_true rfl) (Nat.le_of_ble_eq_true rfl) (fun r_8 b1 H locs hw G => ?_)
          refine zAn2 hw ?_
          intro hbs9 h_7
          clear hw
          subst hbs9
          have G : zS T A s.heap s [ww, z] _ _ := G
          have hqd9 : decide (¬ q = 0) = true := decide_eq_true (by first | with_reducible assumption | assumption)
          have hmn9 : decide (¬ (0 : Int32) = 0) = !decide (¬ q = 0) := by rw [hqd9]; rfl
          have hv9 : r_8.toInt = gV (aW cr inn k1) k2 inn x 2 (!(decide (¬ q = 0))) (gTn (aW cr inn k1) w_ i) := by rw [← hmn9, gTn_c (by omega)]; exact h_7
          refine lv_istore (lv' := [(8, .int r_8), (7, .int (nI (aTn (aW cr inn k1) w_ i))), (6, .int (nI i)), (5, .int u), (0, .ref h), (1, .int (nI w_)), (2, .int x), (3, .int 3), (4, .int q)]) hx hb dX11_worth_75 hl (by decide) (zLvf_h rfl) (fun ls hl => ?_)
          refine lv_iload hx hb dX11_worth_77 (lv_at hl 3 rfl) ?_
          refine lv_iconst (v := (-1)) hx hb dX11_worth_79 (by decide) ?_
          refine lv_icmp_eq (tgt := 105) hx hb dX11_worth_80 (by decide) (fun c_9 => ?_) (fun c_9 => ?_)
          · have c_9n : u.toInt = (-1 : Int) := (fa_eq _ _).mp c_9
            refine lv_iload hx hb dX11_worth_105 (lv_at hl 0 rfl) ?_
            refine lv_goto (tgt := 112) hx hb dX11_worth_107 (by decide) ?_
            refine lv_istore (lv' := [(5, .int r_8), (8, .int r_8), (7, .int (nI (aTn (aW cr inn k1) w_ i))), (6, .int (nI i)), (0, .ref h), (1, .int (nI w_)), (2, .int x), (3, .int 3), (4, .int q)]) hx hb dX11_worth_112 hl (by decide) (zLvf_h rfl) (fun ls hl => ?_)
            have hun9 : r_8.toInt = gMm (gOk (aW cr inn k1)) (fun c => gV (aW cr inn k1) k2 inn x 2 (!(decide (¬ q = 0))) (gTn (aW cr inn k1) w_ c)) (decide (¬ q = 0)) (i + 1) := ((gMm_s (ok := (gOk (aW cr inn k1))) (v := (fun c => gV (aW cr inn k1) k2 inn x 2 (!(decide (¬ q = 0))) (gTn (aW cr inn k1) w_ c))) (mn := (decide (¬ q = 0))) hu.symm hv9.symm hok9).trans (if_pos (by first | exact Or.inl (by omega) | (exact Or.inr (by first | (rw [if_pos hqd9]; omega) | (rw [if_neg hqd9]; omega)))))).symm
            refine lv_iinc (v := nI (i + 1)) (lv' := [(6, .int (nI (i + 1))), (5, .int r_8), (8, .int r_8), (7, .int (nI (aTn (aW cr inn k1) w_ i))), (0, .ref h), (1, .int (nI w_)), (2, .int x), (3, .int 3), (4, .int q)]) hx hb dX11_worth_114 hl (k := 3) rfl (z_inc i 1) (by decide) (zLvf_h rfl) (fun ls hl => ?_)
            refine lv_goto (tgt := 22) hx hb dX11_worth_117 (by decide) ?_
            exact ih_22 (i + 1) r_8 (show (i + 1) ≤ 8 ∧ r_8.toInt = gMm (gOk (aW cr inn k1)) (fun c => gV (aW cr inn k1) k2 inn x 2 (!(decide (¬ q = 0))) (gTn (aW cr inn k1) w_ c)) (decide (¬ q = 0)) (i + 1) from ⟨by omega, hun9⟩) (show 8 - (i + 1) < 8 - i from by omega) _ _ ls G (lv_sub hl [0, 1, 4, 5, 6, 7, 8] rfl)
          · have c_9n : ¬ u.toInt = (-1 : Int) := fun q => c_9 ((fa_eq _ _).mpr q)
            refine lv_iload hx hb dX11_worth_83 (lv_at hl 8 rfl) ?_
            refine lv_if_eq (tgt := 98) hx hb dX11_worth_85 (by decide) (fun q => absurd q c_6) (fun _ => ?_)
            refine lv_iload hx hb dX11_worth_88 (lv_at hl 0 rfl) ?_
            refine lv_iload hx hb dX11_worth_90 (lv_at hl 3 rfl) ?_
            refine lv_icmp_ge (tgt := 110) hx hb dX11_worth_92 (by decide) (fun c_10 => ?_) (fun c_10 => ?_)
            · have c_10n : u.toInt ≤ r_8.toInt := (fa_le _ _).mp c_10
              refine lv_iload hx hb dX11_worth_110 (lv_at hl 3 rfl) ?_
              refine lv_istore (lv' := [(5, .int u), (8, .int r_8), (7, .int (nI (aTn (aW cr inn k1) w_ i))), (6, .int (nI i)), (0, .ref h), (1, .int (nI w_)), (2, .int x), (3, .int 3), (4, .int q)]) hx hb dX11_worth_112 hl (by decide) (zLvf_h rfl) (fun ls hl => ?_)
              have hun9 : u.toInt = gMm (gOk (aW cr inn k1)) (fun c => gV (aW cr inn k1) k2 inn x 2 (!(decide (¬ q = 0))) (gTn (aW cr inn k1) w_ c)) (decide (¬ q = 0)) (i + 1) := ((gMm_s (ok := (gOk (aW cr inn k1))) (v := (fun c => gV (aW cr inn k1) k2 inn x 2 (!(decide (¬ q = 0))) (gTn (aW cr inn k1) w_ c))) (mn := (decide (¬ q = 0))) hu.symm hv9.symm hok9).trans (if_neg (fun z9 => by rcases z9 with z9 | z9 <;> first | omega | (rw [if_pos hqd9] at z9; omega) | (rw [if_neg hqd9] at z9; omega)))).symm
              refine lv_iinc (v := nI (i + 1)) (lv' := [(6, .int (nI (i + 1))), (5, .int u), (8, .int r_8), (7, .int (nI (aTn (aW cr inn k1) w_ i))), (0, .ref h), (1, .int (nI w_)), (2, .int x), (3, .int 3), (4, .int q)]) hx hb dX11_worth_114 hl (k := 3) rfl (z_inc i 1) (by decide) (zLvf_h rfl) (fun ls hl => ?_)
              refine lv_goto (tgt := 22) hx hb dX11_worth_117 (by decide) ?_
              exact ih_22 (i + 1) u (show (i + 1) ≤ 8 ∧ u.toInt = gMm (gOk (aW cr inn k1)) (fun c => gV (aW cr inn k1) k2 inn x 2 (!(decide (¬ q = 0))) (gTn (aW cr inn k1) w_ c)) (decide (¬ q = 0)) (i + 1) from ⟨by omega, hun9⟩) (show 8 - (i + 1) < 8 - i from by omega) _ _ ls G (lv_sub hl [0, 1, 4, 5, 6, 7, 8] rfl)
            · have c_10n : ¬ u.toInt ≤ r_8.toInt := fun q => c_10 ((fa_le _ _).mpr q)
              refine lv_goto (tgt := 105) hx hb dX11_worth_95 (by decide) ?_
              refine lv_iload hx hb dX11_worth_105 (lv_at hl 0 rfl) ?_
              refine lv_goto (tgt := 112) hx hb dX11_worth_107 (by decide) ?_
              refine lv_istore (lv' := [(5, .int r_8), (8, .int r_8), (7, .int (nI (aTn (aW cr inn k1) w_ i))), (6, .int (nI i)), (0, .ref h), (1, .int (nI w_)), (2, .int x), (3, .int 3), (4, .int q)]) hx hb dX11_worth_112 hl (by decide) (zLvf_h rfl) (fun ls hl => ?_)
              have hun9 : r_8.toInt = gMm (gOk (aW cr inn k1)) (fun c => gV (aW cr inn k1) k2 inn x 2 (!(decide (¬ q = 0))) (gTn (aW cr inn k1) w_ c)) (decide (¬ q = 0)) (i + 1) := ((gMm_s (ok := (gOk (aW cr inn k1))) (v := (fun c => gV (aW cr inn k1) k2 inn x 2 (!(decide (¬ q = 0))) (gTn (aW cr inn k1) w_ c))) (mn := (decide (¬ q = 0))) hu.symm hv9.symm hok9).trans (if_pos (by first | exact Or.inl (by omega) | (exact Or.inr (by first | (rw [if_pos hqd9]; omega) | (rw [if_neg hqd9]; omega)))))).symm
              refine lv_iinc (v := nI (i + 1)) (lv' := [(6, .int (nI (i + 1))), (5, .int r_8), (8, .int r_8), (7, .int (nI (aTn (aW cr inn k1) w_ i))), (0, .ref h), (1, .int (nI w_)), (2, .int x), (3, .int 3), (4, .int q)]) hx hb dX11_worth_114 hl (k := 3) rfl (z_inc i 1) (by decide) (zLvf_h rfl) (fun ls hl => ?_)
              refine lv_goto (tgt := 22) hx hb dX11_worth_117 (by decide) ?_
              exact ih_22 (i + 1) r_8 (show (i + 1) ≤ 8 ∧ r_8.toInt = gMm (gOk (aW cr inn k1)) (fun c => gV (aW cr inn k1) k2 inn x 2 (!(decide (¬ q = 0))) (gTn (aW cr inn k1) w_ c)) (decide (¬ q = 0)) (i + 1) from ⟨by omega, hun9⟩) (show 8 - (i + 1) < 8 - i from by omega) _ _ ls G (lv_sub hl [0, 1, 4, 5, 6, 7, 8] rfl)
        · have c_6n : q.toInt = (0 : Int) := (fa_eq _ _).mp c_6
          refine lv_iconst (v := 1) hx hb dX11_worth_67 (by decide) ?_
          refine lv_goto (tgt := 72) hx hb dX11_worth_68 (by decide) ?_
          refine z_Si (bc := [ww, z]) (br := []) (As := [.ref h, .int (nI (aTn (aW cr inn k1) w_ i)), .int x, .int 2, .int 1]) (rest := []) C G (c_f_worth2 l T h la md wy pc_ f1 f2 f3 f4 f5 f6 n4 ww cr inn k1 k2 k3 k4 z (aTn (aW cr inn k1) w_ i) x 1 hww hz (by first | with_reducible assumption | with_reducible rfl | omega | assumption | rfl) (by first | with_reducible assumption | with_reducible rfl | omega | assumption | rfl) (by first | with_reducible assumption | with_reducible rfl | omega | assumption | rfl) (by first | with_reducible assumption | with_reducible rfl | omega | assumption | rfl) hTt ⟨hx71, hx72, hx73⟩ htl9 (by first | with_reducible assumption | with_reducible rfl | omega | assumption | rfl)) (kS_RX11_278 C.2.2.2.2 (Nat.le_of_ble_eq_true rfl) (Nat.le_of_ble_eq_true rfl)) [0, 1] [0, 0] rfl rfl rfl rfl hl.1 dX11_worth_72 (Nat.le_of_ble_eq_true rfl) (Nat.le_of_ble_eq_true rfl) (fun r_12 b1 H locs hw G => ?_)
          refine zAn2 hw ?_
          intro hbs9 h_11
          clear hw
          subst hbs9
          have G : zS T A s.heap s [ww, z] _ _ := G
          have hqd9 : ¬ decide (¬ q = 0) = true := by rw [decide_eq_false (fun z9 => z9 (by first | with_reducible assumption | assumption))]; exact Bool.false_ne_true
          have hmn9 : decide (¬ (1 : Int32) = 0) = !decide (¬ q = 0) := by rw [Bool.eq_false_iff.mpr hqd9]; rfl
          have hv9 : r_12.toInt = gV (aW cr inn k1) k2 inn x 2 (!(decide (¬ q = 0))) (gTn (aW cr inn k1) w_ i) := by rw [← hmn9, gTn_c (by omega)]; exact h_11
          refine lv_istore (lv' := [(8, .int r_12), (7, .int (nI (aTn (aW cr inn k1) w_ i))), (6, .int (nI i)), (5, .int u), (0, .ref h), (1, .int (nI w_)), (2, .int x), (3, .int 3), (4, .int q)]) hx hb dX11_worth_75 hl (by decide) (zLvf_h rfl) (fun ls hl => ?_)
          refine lv_iload hx hb dX11_worth_77 (lv_at hl 3 rfl) ?_
          refine lv_iconst (v := (-1)) hx hb dX11_worth_79 (by decide) ?_
          refine lv_icmp_eq (tgt := 105) hx hb dX11_worth_80 (by decide) (fun c_13 => ?_) (fun c_13 => ?_)
          · have c_13n : u.toInt = (-1 : Int) := (fa_eq _ _).mp c_13
            refine lv_iload hx hb dX11_worth_105 (lv_at hl 0 rfl) ?_
            refine lv_goto (tgt := 112) hx hb dX11_worth_107 (by decide) ?_
            refine lv_istore (lv' := [(5, .int r_12), (8, .int r_12), (7, .int (nI (aTn (aW cr inn k1) w_ i))), (6, .int (nI i)), (0, .ref h), (1, .int (nI w_)), (2, .int x), (3, .int 3), (4, .int q)]) hx hb dX11_worth_112 hl (by decide) (zLvf_h rfl) (fun ls hl => ?_)
            have hun9 : r_12.toInt = gMm (gOk (aW cr inn k1)) (fun c => gV (aW cr inn k1) k2 inn x 2 (!(decide (¬ q = 0))) (gTn (aW cr inn k1) w_ c)) (decide (¬ q = 0)) (i + 1) := ((gMm_s (ok := (gOk (aW cr inn k1))) (v := (fun c => gV (aW cr inn k1) k2 inn x 2 (!(decide (¬ q = 0))) (gTn (aW cr inn k1) w_ c))) (mn := (decide (¬ q = 0))) hu.symm hv9.symm hok9).trans (if_pos (by first | exact Or.inl (by omega) | (exact Or.inr (by first | (rw [if_pos hqd9]; omega) | (rw [if_neg hqd9]; omega)))))).symm
            refine lv_iinc (v := nI (i + 1)) (lv' := [(6, .int (nI (i + 1))), (5, .int r_12), (8, .int r_12), (7, .int (nI (aTn (aW cr inn k1) w_ i))), (0, .ref h), (1, .int (nI w_)), (2, .int x), (3, .int 3), (4, .int q)]) hx hb dX11_worth_114 hl (k := 3) rfl (z_inc i 1) (by decide) (zLvf_h rfl) (fun ls hl => ?_)
            refine lv_goto (tgt := 22) hx hb dX11_worth_117 (by decide) ?_
            exact ih_22 (i + 1) r_12 (show (i + 1) ≤ 8 ∧ r_12.toInt = gMm (gOk (aW cr inn k1)) (fun c => gV (aW cr inn k1) k2 inn x 2 (!(decide (¬ q = 0))) (gTn (aW cr inn k1) w_ c)) (decide (¬ q = 0)) (i + 1) from ⟨by omega, hun9⟩) (show 8 - (i + 1) < 8 - i from by omega) _ _ ls G (lv_sub hl [0, 1, 4, 5, 6, 7, 8] rfl)
          · have c_13n : ¬ u.toInt = (-1 : Int) := fun q => c_13 ((fa_eq _ _).mpr q)
            refine lv_iload hx hb dX11_worth_83 (lv_at hl 8 rfl) ?_
            refine lv_if_eq (tgt := 98) hx hb dX11_worth_85 (by decide) (fun _ => ?_) (fun q => absurd c_6 q)
            refine lv_iload hx hb dX11_worth_98 (lv_at hl 0 rfl) ?_
            refine lv_iload hx hb dX11_worth_100 (lv_at hl 3 rfl) ?_
            refine lv_icmp_le (tgt := 110) hx hb dX11_worth_102 (by decide) (fun c_14 => ?_) (fun c_14 => ?_)
            · have c_14n : r_12.toInt ≤ u.toInt := (fa_le _ _).mp c_14
              refine lv_iload hx hb dX11_worth_110 (lv_at hl 3 rfl) ?_
              refine lv_istore (lv' := [(5, .int u), (8, .int r_12), (7, .int (nI (aTn (aW cr inn k1) w_ i))), (6, .int (nI i)), (0, .ref h), (1, .int (nI w_)), (2, .int x), (3, .int 3), (4, .int q)]) hx hb dX11_worth_112 hl (by decide) (zLvf_h rfl) (fun ls hl => ?_)
              have hun9 : u.toInt = gMm (gOk (aW cr inn k1)) (fun c => gV (aW cr inn k1) k2 inn x 2 (!(decide (¬ q = 0))) (gTn (aW cr inn k1) w_ c)) (decide (¬ q = 0)) (i + 1) := ((gMm_s (ok := (gOk (aW cr inn k1))) (v := (fun c => gV (aW cr inn k1) k2 inn x 2 (!(decide (¬ q = 0))) (gTn (aW cr inn k1) w_ c))) (mn := (decide (¬ q = 0))) hu.symm hv9.symm hok9).trans (if_neg (fun z9 => by rcases z9 with z9 | z9 <;> first | omega | (rw [if_pos hqd9] at z9; omega) | (rw [if_neg hqd9] at z9; omega)))).symm
              refine lv_iinc (v := nI (i + 1)) (lv' := [(6, .int (nI (i + 1))), (5, .int u), (8, .int r_12), (7, .int (nI (aTn (aW cr inn k1) w_ i))), (0, .ref h), (1, .int (nI w_)), (2, .int x), (3, .int 3), (4, .int q)]) hx hb dX11_worth_114 hl (k := 3) rfl (z_inc i 1) (by decide) (zLvf_h rfl) (fun ls hl => ?_)
              refine lv_goto (tgt := 22) hx hb dX11_worth_117 (by decide) ?_
              exact ih_22 (i + 1) u (show (i + 1) ≤ 8 ∧ u.toInt = gMm (gOk (aW cr inn k1)) (fun c => gV (aW cr inn k1) k2 inn x 2 (!(decide (¬ q = 0))) (gTn (aW cr inn k1) w_ c)) (decide (¬ q = 0)) (i + 1) from ⟨by omega, hun9⟩) (show 8 - (i + 1) < 8 - i from by omega) _ _ ls G (lv_sub hl [0, 1, 4, 5, 6, 7, 8] rfl)
            · have c_14n : ¬ r_12.toInt ≤ u.toInt := fun q => c_14 ((fa_le _ _).mpr q)
              refine lv_iload hx hb dX11_worth_105 (lv_at hl 0 rfl) ?_
              refine lv_goto (tgt := 112) hx hb dX11_worth_107 (by decide) ?_
              refine lv_istore (lv' := [(5, .int r_12), (8, .int r_12), (7, .int (nI (aTn (aW cr inn k1) w_ i))), (6, .int (nI i)), (0, .ref h), (1, .int (nI w_)), (2, .int x), (3, .int 3), (4, .int q)]) hx hb dX11_worth_112 hl (by decide) (zLvf_h rfl) (fun ls hl => ?_)
              have hun9 : r_12.toInt = gMm (gOk (aW cr inn k1)) (fun c => gV (aW cr inn k1) k2 inn x 2 (!(decide (¬ q = 0))) (gTn (aW cr inn k1) w_ c)) (decide (¬ q = 0)) (i + 1) := ((gMm_s (ok := (gOk (aW cr inn k1))) (v := (fun c => gV (aW cr inn k1) k2 inn x 2 (!(decide (¬ q = 0))) (gTn (aW cr inn k1) w_ c))) (mn := (decide (¬ q = 0))) hu.symm hv9.symm hok9).trans (if_pos (by first | exact Or.inl (by omega) | (exact Or.inr (by first | (rw [if_pos hqd9]; omega) | (rw [if_neg hqd9]; omega)))))).symm
              refine lv_iinc (v := nI (i + 1)) (lv' := [(6, .int (nI (i + 1))), (5, .int r_12), (8, .int r_12), (7, .int (nI (aTn (aW cr inn k1) w_ i))), (0, .ref h), (1, .int (nI w_)), (2, .int x), (3, .int 3), (4, .int q)]) hx hb dX11_worth_114 hl (k := 3) rfl (z_inc i 1) (by decide) (zLvf_h rfl) (fun ls hl => ?_)
              refine lv_goto (tgt := 22) hx hb dX11_worth_117 (by decide) ?_
              exact ih_22 (i + 1) r_12 (show (i + 1) ≤ 8 ∧ r_12.toInt = gMm (gOk (aW cr inn k1)) (fun c => gV (aW cr inn k1) k2 inn x 2 (!(decide (¬ q = 0))) (gTn (aW cr inn k1) w_ c)) (decide (¬ q = 0)) (i + 1) from ⟨by omega, hun9⟩) (show 8 - (i + 1) < 8 - i from by omega) _ _ ls G (lv_sub hl [0, 1, 4, 5, 6, 7, 8] rfl)
    · have c_2n : i = 7 := (nI_eq (a := i) (b := 7) (by omega) (by omega)).mp c_2
      refine lv_iload_n hx hb dX11_worth_36 rfl (lv_at hl 3 rfl) ?_
      refine lv_goto (tgt := 47) hx hb dX11_worth_37 (by decide) ?_
      refine lv_istore (lv' := [(7, .int (nI w_)), (6, .int (nI i)), (5, .int u), (0, .ref h), (1, .int (nI w_)), (2, .int x), (3, .int 3), (4, .int q)]) hx hb dX11_worth_47 hl (by decide) (zLvf_h rfl) (fun ls hl => ?_)
      have hi79 : i = 7 := by omega
      have hok9 : gOk (aW cr inn k1) i = true := by rw [hi79]; exact gOk_7
      refine lv_iload hx hb dX11_worth_49 (lv_at hl 0 rfl) ?_
      refine lv_iconst (v := (-1)) hx hb dX11_worth_51 (by decide) ?_
      refine lv_icmp_eq (tgt := 114) hx hb dX11_worth_52 (by decide) (fun q => absurd q (nIm1 (by omega))) (fun _ => ?_)
      refine lv_aload_n hx hb dX11_worth_55 rfl (lv_at hl 3 rfl) ?_
      refine lv_iload hx hb dX11_worth_56 (lv_at hl 0 rfl) ?_
      refine lv_iload_n hx hb dX11_worth_58 rfl (lv_at hl 5 rfl) ?_
      refine lv_iload_n hx hb dX11_worth_59 rfl (lv_at hl 6 rfl) ?_
      refine lv_iconst (v := 1) hx hb dX11_worth_60 (by decide) ?_
      refine lv_isub hx hb dX11_worth_61 ?_
      refine lv_topi (fun y_15 ey_15 => ?_)
      obtain rfl : y_15 = 2 := ey_15.trans (by decide)
      refine lv_iload hx hb dX11_worth_62 (lv_at hl 7 rfl) ?_
      refine lv_if_ne (tgt := 71) hx hb dX11_worth_64 (by decide) (fun c_16 => ?_) (fun c_16 => ?_)
      · have c_16n : ¬ q.toInt = (0 : Int) := fun q => c_16 ((fa_eq _ _).mpr q)
        refine lv_iconst (v := 0) hx hb dX11_worth_71 (by decide) ?_
        refine z_Si (bc := [ww, z]) (br := []) (As := [.ref h, .int (nI w_), .int x, .int 2, .int 0]) (rest := []) C G (c_f_worth2 l T h la md wy pc_ f1 f2 f3 f4 f5 f6 n4 ww cr inn k1 k2 k3 k4 z w_ x 0 hww hz (by first | with_reducible assumption | with_reducible rfl | omega | assumption | rfl) (by first | with_reducible assumption | with_reducible rfl | omega | assumption | rfl) (by first | with_reducible assumption | with_reducible rfl | omega | assumption | rfl) (by first | with_reducible assumption | with_reducible rfl | omega | assumption | rfl) hTt ⟨hx71, hx72, hx73⟩ hwl (by first | with_reducible assumption | with_reducible rfl | omega | assumption | rfl)) (kS_RX11_278 C.2.2.2.2 (Nat.le_of_ble_eq_true rfl) (Nat.le_of_ble_eq_true rfl)) [0, 1] [0, 0] rfl rfl rfl rfl hl.1 dX11_worth_72 (Nat.le_of_ble_eq_true rfl) (Nat.le_of_ble_eq_true rfl) (fun r_18 b1 H locs hw G => ?_)
        refine zAn2 hw ?_
        intro hbs9 h_17
        clear hw
        subst hbs9
        have G : zS T A s.heap s [ww, z] _ _ := G
        have hqd9 : decide (¬ q = 0) = true := decide_eq_true (by first | with_reducible assumption | assumption)
        have hmn9 : decide (¬ (0 : Int32) = 0) = !decide (¬ q = 0) := by rw [hqd9]; rfl
        have hv9 : r_18.toInt = gV (aW cr inn k1) k2 inn x 2 (!(decide (¬ q = 0))) (gTn (aW cr inn k1) w_ i) := by rw [← hmn9, hi79, gTn_7]; exact h_17
        refine lv_istore (lv' := [(8, .int r_18), (7, .int (nI w_)), (6, .int (nI i)), (5, .int u), (0, .ref h), (1, .int (nI w_)), (2, .int x), (3, .int 3), (4, .int q)]) hx hb dX11_worth_75 hl (by decide) (zLvf_h rfl) (fun ls hl => ?_)
        refine lv_iload hx hb dX11_worth_77 (lv_at hl 3 rfl) ?_
        refine lv_iconst (v := (-1)) hx hb dX11_worth_79 (by decide) ?_
        refine lv_icmp_eq (tgt := 105) hx hb dX11_worth_80 (by decide) (fun c_19 => ?_) (fun c_19 => ?_)
        · have c_19n : u.toInt = (-1 : Int) := (fa_eq _ _).mp c_19
          refine lv_iload hx hb dX11_worth_105 (lv_at hl 0 rfl) ?_
          refine lv_goto (tgt := 112) hx hb dX11_worth_107 (by decide) ?_
          refine lv_istore (lv' := [(5, .int r_18), (8, .int r_18), (7, .int (nI w_)), (6, .int (nI i)), (0, .ref h), (1, .int (nI w_)), (2, .int x), (3, .int 3), (4, .int q)]) hx hb dX11_worth_112 hl (by decide) (zLvf_h rfl) (fun ls hl => ?_)
          have hun9 : r_18.toInt = gMm (gOk (aW cr inn k1)) (fun c => gV (aW cr inn k1) k2 inn x 2 (!(decide (¬ q = 0))) (gTn (aW cr inn k1) w_ c)) (decide (¬ q = 0)) (i + 1) := ((gMm_s (ok := (gOk (aW cr inn k1))) (v := (fun c => gV (aW cr inn k1) k2 inn x 2 (!(decide (¬ q = 0))) (gTn (aW cr inn k1) w_ c))) (mn := (decide (¬ q = 0))) hu.symm hv9.symm hok9).trans (if_pos (by first | exact Or.inl (by omega) | (exact Or.inr (by first | (rw [if_pos hqd9]; omega) | (rw [if_neg hqd9]; omega)))))).symm
          refine lv_iinc (v := nI (i + 1)) (lv' := [(6, .int (nI (i + 1))), (5, .int r_18), (8, .int r_18), (7, .int (nI w_)), (0, .ref h), (1, .int (nI w_)), (2, .int x), (3, .int 3), (4, .int q)]) hx hb dX11_worth_114 hl (k := 3) rfl (z_inc i 1) (by decide) (zLvf_h rfl) (fun ls hl => ?_)
          refine lv_goto (tgt := 22) hx hb dX11_worth_117 (by decide) ?_
          exact ih_22 (i + 1) r_18 (show (i + 1) ≤ 8 ∧ r_18.toInt = gMm (gOk (aW cr inn k1)) (fun c => gV (aW cr inn k1) k2 inn x 2 (!(decide (¬ q = 0))) (gTn (aW cr inn k1) w_ c)) (decide (¬ q = 0)) (i + 1) from ⟨by omega, hun9⟩) (show 8 - (i + 1) < 8 - i from by omega) _ _ ls G (lv_sub hl [0, 1, 4, 5, 6, 7, 8] rfl)
        · have c_19n : ¬ u.toInt = (-1 : Int) := fun q => c_19 ((fa_eq _ _).mpr q)
          refine lv_iload hx hb dX11_worth_83 (lv_at hl 8 rfl) ?_
          refine lv_if_eq (tgt := 98) hx hb dX11_worth_85 (by decide) (fun q => absurd q c_16) (fun _ => ?_)
          refine lv_iload hx hb dX11_worth_88 (lv_at hl 0 rfl) ?_
          refine lv_iload hx hb dX11_worth_90 (lv_at hl 3 rfl) ?_
          refine lv_icmp_ge (tgt := 110) hx hb dX11_worth_92 (by decide) (fun c_20 => ?_) (fun c_20 => ?_)
          · have c_20n : u.toInt ≤ r_18.toInt := (fa_le _ _).mp c_20
            refine lv_iload hx hb dX11_worth_110 (lv_at hl 3 rfl) ?_
            refine lv_istore (lv' := [(5, .int u), (8, .int r_18), (7, .int (nI w_)), (6, .int (nI i)), (0, .ref h), (1, .int (nI w_)), (2, .int x), (3, .int 3), (4, .int q)]) hx hb dX11_worth_112 hl (by decide) (zLvf_h rfl) (fun ls hl => ?_)
            have hun9 : u.toInt = gMm (gOk (aW cr inn k1)) (fun c => gV (aW cr inn k1) k2 inn x 2 (!(decide (¬ q = 0))) (gTn (aW cr inn k1) w_ c)) (decide (¬ q = 0)) (i + 1) := ((gMm_s (ok := (gOk (aW cr inn k1))) (v := (fun c => gV (aW cr inn k1) k2 inn x 2 (!(decide (¬ q = 0))) (gTn (aW cr inn k1) w_ c))) (mn := (decide (¬ q = 0))) hu.symm hv9.symm hok9).trans (if_neg (fun z9 => by rcases z9 with z9 | z9 <;> first | omega | (rw [if_pos hqd9] at z9; omega) | (rw [if_neg hqd9] at z9; omega)))).symm
            refine lv_iinc (v := nI (i + 1)) (lv' := [(6, .int (nI (i + 1))), (5, .int u), (8, .int r_18), (7, .int (nI w_)), (0, .ref h), (1, .int (nI w_)), (2, .int x), (3, .int 3), (4, .int q)]) hx hb dX11_worth_114 hl (k := 3) rfl (z_inc i 1) (by decide) (zLvf_h rfl) (fun ls hl => ?_)
            refine lv_goto (tgt := 22) hx hb dX11_worth_117 (by decide) ?_
            exact ih_22 (i + 1) u (show (i + 1) ≤ 8 ∧ u.toInt = gMm (gOk (aW cr inn k1)) (fun c => gV (aW cr inn k1) k2 inn x 2 (!(decide (¬ q = 0))) (gTn (aW cr inn k1) w_ c)) (decide (¬ q = 0)) (i + 1) from ⟨by omega, hun9⟩) (show 8 - (i + 1) < 8 - i from by omega) _ _ ls G (lv_sub hl [0, 1, 4, 5, 6, 7, 8] rfl)
          · have c_20n : ¬ u.toInt ≤ r_18.toInt := fun q => c_20 ((fa_le _ _).mpr q)
            refine lv_goto (tgt := 105) hx hb dX11_worth_95 (by decide) ?_
            refine lv_iload hx hb dX11_worth_105 (lv_at hl 0 rfl) ?_
            refine lv_goto (tgt := 112) hx hb dX11_worth_107 (by decide) ?_
            refine lv_istore (lv' := [(5, .int r_18), (8, .int r_18), (7, .int (nI w_)), (6, .int (nI i)), (0, .ref h), (1, .int (nI w_)), (2, .int x), (3, .int 3), (4, .int q)]) hx hb dX11_worth_112 hl (by decide) (zLvf_h rfl) (fun ls hl => ?_)
            have hun9 : r_18.toInt = gMm (gOk (aW cr inn k1)) (fun c => gV (aW cr inn k1) k2 inn x 2 (!(decide (¬ q = 0))) (gTn (aW cr inn k1) w_ c)) (decide (¬ q = 0)) (i + 1) := ((gMm_s (ok := (gOk (aW cr inn k1))) (v := (fun c => gV (aW cr inn k1) k2 inn x 2 (!(decide (¬ q = 0))) (gTn (aW cr inn k1) w_ c))) (mn := (decide (¬ q = 0))) hu.symm hv9.symm hok9).trans (if_pos (by first | exact Or.inl (by omega) | (exact Or.inr (by first | (rw [if_pos hqd9]; omega) | (rw [if_neg hqd9]; omega)))))).symm
            refine lv_iinc (v := nI (i + 1)) (lv' := [(6, .int (nI (i + 1))), (5, .int r_18), (8, .int r_18), (7, .int (nI w_)), (0, .ref h), (1, .int (nI w_)), (2, .int x), (3, .int 3), (4, .int q)]) hx hb dX11_worth_114 hl (k := 3) rfl (z_inc i 1) (by decide) (zLvf_h rfl) (fun ls hl => ?_)
            refine lv_goto (tgt := 22) hx hb dX11_worth_117 (by decide) ?_
            exact ih_22 (i + 1) r_18 (show (i + 1) ≤ 8 ∧ r_18.toInt = gMm (gOk (aW cr inn k1)) (fun c => gV (aW cr inn k1) k2 inn x 2 (!(decide (¬ q = 0))) (gTn (aW cr inn k1) w_ c)) (decide (¬ q = 0)) (i + 1) from ⟨by omega, hun9⟩) (show 8 - (i + 1) < 8 - i from by omega) _ _ ls G (lv_sub hl [0, 1, 4, 5, 6, 7, 8] rfl)
      · have c_16n : q.toInt = (0 : Int) := (fa_eq _ _).mp c_16
        refine lv_iconst (v := 1) hx hb dX11_worth_67 (by decide) ?_
        refine lv_goto (tgt := 72) hx hb dX11_worth_68 (by decide) ?_
        refine z_Si (bc := [ww, z]) (br := []) (As := [.ref h, .int (nI w_), .int x, .int 2, .int 1]) (rest := []) C G (c_f_worth2 l T h la md wy pc_ f1 f2 f3 f4 f5 f6 n4 ww cr inn k1 k2 k3 k4 z w_ x 1 hww hz (by first | with_reducible assumption | with_reducible rfl | omega | assumption | rfl) (by first | with_reducible assumption | with_reducible rfl | omega | assumption | rfl) (by first | with_reducible assumption | with_reducible rfl | omega | assumption | rfl) (by first | with_reducible assumption | with_reducible rfl | omega | assumption | rfl) hTt ⟨hx71, hx72, hx73⟩ hwl (by first | with_reducible assumption | with_reducible rfl | omega | assumption | rfl)) (kS_RX11_278 C.2.2.2.2 (Nat.le_of_ble_eq_true rfl) (Nat.le_of_ble_eq_true rfl)) [0, 1] [0, 0] rfl rfl rfl rfl hl.1 dX11_worth_72 (Nat.le_of_ble_eq_true rfl) (Nat.le_of_ble_eq_true rfl) (fun r_22 b1 H locs hw G => ?_)
        refine zAn2 hw ?_
        intro hbs9 h_21
        clear hw
        subst hbs9
        have G : zS T A s.heap s [ww, z] _ _ := G
        have hqd9 : ¬ decide (¬ q = 0) = true := by rw [decide_eq_false (fun z9 => z9 (by first | with_reducible assumption | assumption))]; exact Bool.false_ne_true
        have hmn9 : decide (¬ (1 : Int32) = 0) = !decide (¬ q = 0) := by rw [Bool.eq_false_iff.mpr hqd9]; rfl
        have hv9 : r_22.toInt = gV (aW cr inn k1) k2 inn x 2 (!(decide (¬ q = 0))) (gTn (aW cr inn k1) w_ i) := by rw [← hmn9, hi79, gTn_7]; exact h_21
        refine lv_istore (lv' := [(8, .int r_22), (7, .int (nI w_)), (6, .int (nI i)), (5, .int u), (0, .ref h), (1, .int (nI w_)), (2, .int x), (3, .int 3), (4, .int q)]) hx hb dX11_worth_75 hl (by decide) (zLvf_h rfl) (fun ls hl => ?_)
        refine lv_iload hx hb dX11_worth_77 (lv_at hl 3 rfl) ?_
        refine lv_iconst (v := (-1)) hx hb dX11_worth_79 (by decide) ?_
        refine lv_icmp_eq (tgt := 105) hx hb dX11_worth_80 (by decide) (fun c_23 => ?_) (fun c_23 => ?_)
        · have c_23n : u.toInt = (-1 : Int) := (fa_eq _ _).mp c_23
          refine lv_iload hx hb dX11_worth_105 (lv_at hl 0 rfl) ?_
          refine lv_goto (tgt := 112) hx hb dX11_worth_107 (by decide) ?_
          refine lv_istore (lv' := [(5, .int r_22), (8, .int r_22), (7, .int (nI w_)), (6, .int (nI i)), (0, .ref h), (1, .int (nI w_)), (2, .int x), (3, .int 3), (4, .int q)]) hx hb dX11_worth_112 hl (by decide) (zLvf_h rfl) (fun ls hl => ?_)
          have hun9 : r_22.toInt = gMm (gOk (aW cr inn k1)) (fun c => gV (aW cr inn k1) k2 inn x 2 (!(decide (¬ q = 0))) (gTn (aW cr inn k1) w_ c)) (decide (¬ q = 0)) (i + 1) := ((gMm_s (ok := (gOk (aW cr inn k1))) (v := (fun c => gV (aW cr inn k1) k2 inn x 2 (!(decide (¬ q = 0))) (gTn (aW cr inn k1) w_ c))) (mn := (decide (¬ q = 0))) hu.symm hv9.symm hok9).trans (if_pos (by first | exact Or.inl (by omega) | (exact Or.inr (by first | (rw [if_pos hqd9]; omega) | (rw [if_neg hqd9]; omega)))))).symm
          refine lv_iinc (v := nI (i + 1)) (lv' := [(6, .int (nI (i + 1))), (5, .int r_22), (8, .int r_22), (7, .int (nI w_)), (0, .ref h), (1, .int (nI w_)), (2, .int x), (3, .int 3), (4, .int q)]) hx hb dX11_worth_114 hl (k := 3) rfl (z_inc i 1) (by decide) (zLvf_h rfl) (fun ls hl => ?_)
          refine lv_goto (tgt := 22) hx hb dX11_worth_117 (by decide) ?_
          exact ih_22 (i + 1) r_22 (show (i + 1) ≤ 8 ∧ r_22.toInt = gMm (gOk (aW cr inn k1)) (fun c => gV (aW cr inn k1) k2 inn x 2 (!(decide (¬ q = 0))) (gTn (aW cr inn k1) w_ c)) (decide (¬ q = 0)) (i + 1) from ⟨by omega, hun9⟩) (show 8 - (i + 1) < 8 - i from by omega) _ _ ls G (lv_sub hl [0, 1, 4, 5, 6, 7, 8] rfl)
        · have c_23n : ¬ u.toInt = (-1 : Int) := fun q => c_23 ((fa_eq _ _).mpr q)
          refine lv_iload hx hb dX11_worth_83 (lv_at hl 8 rfl) ?_
          refine lv_if_eq (tgt := 98) hx hb dX11_worth_85 (by decide) (fun _ => ?_) (fun q => absurd c_16 q)
          refine lv_iload hx hb dX11_worth_98 (lv_at hl 0 rfl) ?_
          refine lv_iload hx hb dX11_worth_100 (lv_at hl 3 rfl) ?_
          refine lv_icmp_le (tgt := 110) hx hb dX11_worth_102 (by decide) (fun c_24 => ?_) (fun c_24 => ?_)
          · have c_24n : r_22.toInt ≤ u.toInt := (fa_le _ _).mp c_24
            refine lv_iload hx hb dX11_worth_110 (lv_at hl 3 rfl) ?_
            refine lv_istore (lv' := [(5, .int u), (8, .int r_22), (7, .int (nI w_)), (6, .int (nI i)), (0, .ref h), (1, .int (nI w_)), (2, .int x), (3, .int 3), (4, .int q)]) hx hb dX11_worth_112 hl (by decide) (zLvf_h rfl) (fun ls hl => ?_)
            have hun9 : u.toInt = gMm (gOk (aW cr inn k1)) (fun c => gV (aW cr inn k1) k2 inn x 2 (!(decide (¬ q = 0))) (gTn (aW cr inn k1) w_ c)) (decide (¬ q = 0)) (i + 1) := ((gMm_s (ok := (gOk (aW cr inn k1))) (v := (fun c => gV (aW cr inn k1) k2 inn x 2 (!(decide (¬ q = 0))) (gTn (aW cr inn k1) w_ c))) (mn := (decide (¬ q = 0))) hu.symm hv9.symm hok9).trans (if_neg (fun z9 => by rcases z9 with z9 | z9 <;> first | omega | (rw [if_pos hqd9] at z9; omega) | (rw [if_neg hqd9] at z9; omega)))).symm
            refine lv_iinc (v := nI (i + 1)) (lv' := [(6, .int (nI (i + 1))), (5, .int u), (8, .int r_22), (7, .int (nI w_)), (0, .ref h), (1, .int (nI w_)), (2, .int x), (3, .int 3), (4, .int q)]) hx hb dX11_worth_114 hl (k := 3) rfl (z_inc i 1) (by decide) (zLvf_h rfl) (fun ls hl => ?_)
            refine lv_goto (tgt := 22) hx hb dX11_worth_117 (by decide) ?_
            exact ih_22 (i + 1) u (show (i + 1) ≤ 8 ∧ u.toInt = gMm (gOk (aW cr inn k1)) (fun c => gV (aW cr inn k1) k2 inn x 2 (!(decide (¬ q = 0))) (gTn (aW cr inn k1) w_ c)) (decide (¬ q = 0)) (i + 1) from ⟨by omega, hun9⟩) (show 8 - (i + 1) < 8 - i from by omega) _ _ ls G (lv_sub hl [0, 1, 4, 5, 6, 7, 8] rfl)
          · have c_24n : ¬ r_22.toInt ≤ u.toInt := fun q => c_24 ((fa_le _ _).mpr q)
            refine lv_iload hx hb dX11_worth_105 (lv_at hl 0 rfl) ?_
            refine lv_goto (tgt := 112) hx hb dX11_worth_107 (by decide) ?_
            refine lv_istore (lv' := [(5, .int r_22), (8, .int r_22), (7, .int (nI w_)), (6, .int (nI i)), (0, .ref h), (1, .int (nI w_)), (2, .int x), (3, .int 3), (4, .int q)]) hx hb dX11_worth_112 hl (by decide) (zLvf_h rfl) (fun ls hl => ?_)
            have hun9 : r_22.toInt = gMm (gOk (aW cr inn k1)) (fun c => gV (aW cr inn k1) k2 inn x 2 (!(decide (¬ q = 0))) (gTn (aW cr inn k1) w_ c)) (decide (¬ q = 0)) (i + 1) := ((gMm_s (ok := (gOk (aW cr inn k1))) (v := (fun c => gV (aW cr inn k1) k2 inn x 2 (!(decide (¬ q = 0))) (gTn (aW cr inn k1) w_ c))) (mn := (decide (¬ q = 0))) hu.symm hv9.symm hok9).trans (if_pos (by first | exact Or.inl (by omega) | (exact Or.inr (by first | (rw [if_pos hqd9]; omega) | (rw [if_neg hqd9]; omega)))))).symm
            refine lv_iinc (v := nI (i + 1)) (lv' := [(6, .int (nI (i + 1))), (5, .int r_22), (8, .int r_22), (7, .int (nI w_)), (0, .ref h), (1, .int (nI w_)), (2, .int x), (3, .int 3), (4, .int q)]) hx hb dX11_worth_114 hl (k := 3) rfl (z_inc i 1) (by decide) (zLvf_h rfl) (fun ls hl => ?_)
            refine lv_goto (tgt := 22) hx hb dX11_worth_117 (by decide) ?_
            exact ih_22 (i + 1) r_22 (show (i + 1) ≤ 8 ∧ r_22.toInt = gMm (gOk (aW cr inn k1)) (fun c => gV (aW cr inn k1) k2 inn x 2 (!(decide (¬ q = 0))) (gTn (aW cr inn k1) w_ c)) (decide (¬ q = 0)) (i + 1) from ⟨by omega, hun9⟩) (show 8 - (i + 1) < 8 - i from by omega) _ _ ls G (lv_sub hl [0, 1, 4, 5, 6, 7, 8] rfl)
set_option maxHeartbeats 4000000 in
set_option maxRecDepth 100000 in
/-- bestTurn -/
theorem c_f_bestTurn1 (l : Launch) (T : zTy) (h : Nat) (la : Nat) (md : Int32) (wy : Int32) (pc_ : Int32) (f1 : Nat → Int32) (f2 : Nat → Int32) (f3 : Nat → Int32) (f4 : Nat → Int32) (f5 : Nat → Int32) (f6 : Nat → Int32) (n4 : Nat) (ww : va_W) (cr : Int32) (inn : Int32) (k1 : Nat → Int32) (k2 : Nat → Int32) (k3 : Nat → Int32) (k4 : Nat → Int32) (z : va_W) (w_ : Nat) (x : Int32) (q : Int32) (hww : bWays T h la md wy pc_ f1 f2 f3 f4 f5 f6 n4 ww) (hz : bLand T la cr inn k1 k2 k3 k4 z) (hI : zLI cr k1 k3) (hn : n4 ≤ 131072) (hF : aF cr inn k1 f1 f2) (hO : aOk (aW cr inn k1) k2) (hTt : zTab cr inn k1 k2 wy pc_ f1 f2 f5 n4) (hx7 : zHas cr x) (hwl : w_ < aPr (aW cr inn k1) 7) (hLq : zLq cr k1 k2) : zMi l T yX11_bestTurn cX11_bestTurn 7 (some .int) 7 0 0 [.ref h, .int (nI w_), .int x, .int 1, .int q] [ww, z] (fun (r : Int32) bs => bs = [ww, z] ∧ (∃ t, t ≤ 7 ∧ r = nI t ∧ (∀ j, j < t → ¬ (gOk (aW cr inn k1) j = true ∧ (fun c => gV (aW cr inn k1) k2 inn x 0 false (gTn (aW cr inn k1) w_ c)) j = q.toInt)) ∧ (t < 7 → gOk (aW cr inn k1) t = true ∧ (fun c => gV (aW cr inn k1) k2 inn x 0 false (gTn (aW cr inn k1) w_ c)) t = q.toInt))) := by
  refine zMi_of (own := RX11) (by decide) rfl (Nat.le_of_ble_eq_true rfl) ?_
  intro p e s m args below meth c A ls C hr hlocks hnm hAe G hl
  refine zHide (fun Qz_ hQz_ => ?_)
  have hx := C.1
  have hb := C.2.1
  have hl : lv_has ls 7 [(0, .ref h), (1, .int (nI w_)), (2, .int x), (3, .int 1), (4, .int q)] := hl
  have hp79 : aPr (aW cr inn k1) 7 ≤ 16384 := aPr_7 hI
  have hwT9 := nI_toInt (n := w_) (by omega)
  have hwN9 := nI_n (n := w_) (by omega)
  obtain ⟨hx71, hx72, hx73⟩ := hx7
  refine lv_iconst (v := 0) hx hb dX11_bestTurn_0 (by decide) ?_
  refine lv_istore (lv' := [(5, .int 0), (0, .ref h), (1, .int (nI w_)), (2, .int x), (3, .int 1), (4, .int q)]) hx hb dX11_bestTurn_1 hl (by decide) (zLvf_h rfl) (fun ls hl => ?_)
  refine z_lp1 (T := T) 3 (fun (i : Nat) => [ww, z]) (fun (i : Nat) => [(5, .int (nI i)), (0, .ref h), (1, .int (nI w_)), (2, .int x), (3, .int 1), (4, .int q)]) (fun (i : Nat) => i ≤ 7 ∧ (∀ j, j < i → ¬ (gOk (aW cr inn k1) j = true ∧ (fun c => gV (aW cr inn k1) k2 inn x 0 false (gTn (aW cr inn k1) w_ c)) j = q.toInt))) (fun (i : Nat) => 7 - i) ?_ 0 (show 0 ≤ 7 ∧ (∀ j, j < 0 → ¬ (gOk (aW cr inn k1) j = true ∧ (fun c => gV (aW cr inn k1) k2 inn x 0 false (gTn (aW cr inn k1) w_ c)) j = q.toInt)) from ⟨by omega, (fun j hj => absurd hj (Nat.not_lt_zero _))⟩) G (lv_sub hl [0, 1, 2, 3, 4, 5] rfl)
  intro i hI9 ih_3 H locs ls G hl
  replace hI9 : i ≤ 7 ∧ (∀ j, j < i → ¬ (gOk (aW cr inn k1) j = true ∧ (fun c => gV (aW cr inn k1) k2 inn x 0 false (gTn (aW cr inn k1) w_ c)) j = q.toInt)) := hI9
  refine zAn2 hI9 ?_
  intro hi hnf
  clear hI9
  replace G : zS T A s.heap s [ww, z] _ _ := G
  replace hl : lv_has ls 7 [(5, .int (nI i)), (0, .ref h), (1, .int (nI w_)), (2, .int x), (3, .int 1), (4, .int q)] := hl
  refine lv_iload hx hb dX11_bestTurn_3 (lv_at hl 0 rfl) ?_
  refine lv_bipush (v := 7) hx hb dX11_bestTurn_5 (by decide) ?_
  refine lv_icmp_ge (tgt := 50) hx hb dX11_bestTurn_7 (by decide) (fun c_1 => ?_) (fun c_1 => ?_)
  · have c_1n : 7 ≤ i := (nI_leI (a := 7) (b := i) (by omega) (by omega)).mp c_1
    refine lv_bipush (v := 7) hx hb dX11_bestTurn_50 (by decide) ?_
    exact z_back hQz_ (z_iret C hr hlocks G (Nat.le_of_ble_eq_true rfl) (Nat.le_of_ble_eq_true rfl) dX11_bestTurn_52 ⟨rfl, ⟨7, Nat.le_refl _, rfl, (fun j hj => hnf j (by omega)), fun z9 => absurd z9 (Nat.lt_irrefl _)⟩⟩)
  · have c_1n : ¬ 7 ≤ i := fun q => c_1 ((nI_leI (a := 7) (b := i) (by omega) (by omega)).mpr q)
    refine lv_aload_n hx hb dX11_bestTurn_10 rfl (lv_at hl 1 rfl) ?_
    refine lv_iload_n hx hb dX11_bestTurn_11 rfl (lv_at hl 2 rfl) ?_
    refine lv_iload hx hb dX11_bestTurn_12 (lv_at hl 0 rfl) ?_
    refine z_Vi (bc := [ww, z]) (br := []) (As := [.int (nI w_), .int (nI i)]) (rest := []) C G (c_f_turned l T h la md wy pc_ f1 f2 f3 f4 f5 f6 n4 ww cr inn k1 k2 k3 k4 z (nI w_) (nI i) hww hz (by first | with_reducible assumption | with_reducible rfl | omega | assumption | rfl) (by first | with_reducible assumption | with_reducible rfl | omega | assumption | rfl) (by first | with_reducible assumption | with_reducible rfl | omega | assumption | rfl) (by rw [hwT9]; omega) (by rw [nI_toInt (by omega)]; omega)) (kV_RX11_289 C.2.2.2.2 (Nat.le_of_ble_eq_true rfl) (Nat.le_of_ble_eq_true rfl)) [0, 1] [0, 0] rfl rfl (ci := 0) (qc := (RX0, TX0, 10)) rfl rfl (List.mem_flatten.mpr ⟨_, List.mem_of_getElem? (i := 0) rfl, (bWays_mem hww).choose_spec⟩) rfl rfl hl.1 dX11_bestTurn_14 (Nat.le_of_ble_eq_true rfl) (Nat.le_of_ble_eq_true rfl) (fun r_3 b1 H locs hw G => ?_)
    refine zAn2 hw ?_
    intro hbs9 h_2
    clear hw
    subst hbs9
    have G : zS T A s.heap s [ww, z] _ _ := G
    have ti9 := nI_toInt (n := i) (by omega)
    refine lv_istore (lv' := [(6, .int r_3), (5, .int (nI i)), (0, .ref h), (1, .int (nI w_)), (2, .int x), (3, .int 1), (4, .int q)]) hx hb dX11_bestTurn_17 hl (by decide) (zLvf_h rfl) (fun ls hl => ?_)
    rcases h_2 with htn9 | htn9
    · obtain rfl : r_3 = -1 := htn9.2
      have hok9 : ¬ gOk (aW cr inn k1) i = true := gOk_n (by omega) (by have q9 := htn9.1; show ¬ 0 < (zWays cr inn k1 (nI i)).toInt; rw [q9]; decide)
      refine lv_iload hx hb dX11_bestTurn_19 (lv_at hl 0 rfl) ?_
      refine lv_iconst (v := (-1)) hx hb dX11_bestTurn_21 (by decide) ?_
      refine lv_icmp_eq (tgt := 44) hx hb dX11_bestTurn_22 (by decide) (fun _ => ?_) (fun q => absurd rfl q)
      refine lv_iinc (v := nI (i + 1)) (lv' := [(5, .int (nI (i + 1))), (6, .int (-1)), (0, .ref h), (1, .int (nI w_)), (2, .int x), (3, .int 1), (4, .int q)]) hx hb dX11_bestTurn_44 hl (k := 1) rfl (z_inc i 1) (by decide) (zLvf_h rfl) (fun ls hl => ?_)
      refine lv_goto (tgt := 3) hx hb dX11_bestTurn_47 (by decide) ?_
      exact ih_3 (i + 1) (show (i + 1) ≤ 7 ∧ (∀ j, j < (i + 1) → ¬ (gOk (aW cr inn k1) j = true ∧ (fun c => gV (aW cr inn k1) k2 inn x 0 false (gTn (aW cr inn k1) w_ c)) j = q.toInt)) from ⟨by omega, (fun j hj => by by_cases z9 : j = i <;> first | (rw [z9]; exact fun q9 => hok9 q9.1) | exact hnf j (by omega))⟩) (show 7 - (i + 1) < 7 - i from by omega) _ _ ls G (lv_sub hl [0, 2, 3, 4, 5, 6] rfl)
    · obtain rfl : r_3 = nI (aTn (aW cr inn k1) w_ i) := by have q9 := htn9.2; rw [hwN9, nI_n (by omega)] at q9; exact q9
      have hwz9 := zWays_le (inn := inn) hI (nI i)
      have hok9 : gOk (aW cr inn k1) i = true := gOk_y (by omega) (by have q9 := htn9.1; show 0 < (zWays cr inn k1 (nI i)).toInt; have q8 : ¬ (zWays cr inn k1 (nI i)).toInt = 0 := fun z9 => q9 (Int32.toInt_inj.mp z9); omega)
      have htl9 : aTn (aW cr inn k1) w_ i < aPr (aW cr inn k1) 7 := aTn_lt (by omega) hwl
      refine lv_iload hx hb dX11_bestTurn_19 (lv_at hl 0 rfl) ?_
      refine lv_iconst (v := (-1)) hx hb dX11_bestTurn_21 (by decide) ?_
      refine lv_icmp_eq (tgt := 44) hx hb dX11_bestTurn_22 (by decide) (fun q => absurd q (nIm1 (by omega))) (fun _ => ?_)
      refine lv_aload_n hx hb dX11_bestTurn_25 rfl (lv_at hl 2 rfl) ?_
      refine lv_iload hx hb dX11_bestTurn_26 (lv_at hl 0 rfl) ?_
      refine lv_iload_n hx hb dX11_bestTurn_28 rfl (lv_at hl 4 rfl) ?_
      refine lv_iload_n hx hb dX11_bestTurn_29 rfl (lv_at hl 5 rfl) ?_
      refine lv_iconst (v := 1) hx hb dX11_bestTurn_30 (by decide) ?_
      refine lv_isub hx hb dX11_bestTurn_31 ?_
      refine lv_topi (fun y_4 ey_4 => ?_)
      obtain rfl : y_4 = 0 := ey_4.trans (by decide)
      refine lv_iconst (v := 0) hx hb dX11_bestTurn_32 (by decide) ?_
      refine z_Si (bc := [ww, z]) (br := []) (As := [.ref h, .int (nI (aTn (aW cr inn k1) w_ i)), .int x, .int 0, .int 0]) (rest := []) C G (c_f_worth0 l T h la md wy pc_ f1 f2 f3 f4 f5 f6 n4 ww cr inn k1 k2 k3 k4 z (aTn (aW cr inn k1) w_ i) x 0 hww hz (by first | with_reducible assumption | with_reducible rfl | omega | assumption | rfl) (by first | with_reducible assumption | with_reducible rfl | omega | assumption | rfl) (by first | with_reducible assumption | with_reducible rfl | omega | assumption | rfl) (by first | with_reducible assumption | with_reducible rfl | omega | assumption | rfl) hTt ⟨hx71, hx72, hx73⟩ htl9 (by first | with_reducible assumption | with_reducible rfl | omega | assumption | rfl)) (kS_RX11_278 C.2.2.2.2 (Nat.le_of_ble_eq_true rfl) (Nat.le_of_ble_eq_true rfl)) [0, 1] [0, 0] rfl rfl rfl rfl hl.1 dX11_bestTurn_33 (Nat.le_of_ble_eq_true rfl) (Nat.le_of_ble_eq_true rfl) (fun r_6 b1 H locs hw G => ?_)
      refine zAn2 hw ?_
      intro hbs9 h_5
      clear hw
      subst hbs9
      have G : zS T A s.heap s [ww, z] _ _ := G
      have hv9 : r_6.toInt = (fun c => gV (aW cr inn k1) k2 inn x 0 false (gTn (aW cr inn k1) w_ c)) i := by show _ = gV (aW cr inn k1) k2 inn x 0 false (gTn (aW cr inn k1) w_ i); rw [gTn_c (by omega)]; exact h_5
      refine lv_iload hx hb dX11_bestTurn_36 (lv_at hl 6 rfl) ?_
      refine lv_icmp_ne (tgt := 44) hx hb dX11_bestTurn_38 (by decide) (fun c_7 => ?_) (fun c_7 => ?_)
      · have c_7n : ¬ r_6.toInt = q.toInt := fun q => c_7 ((fa_eq _ _).mpr q)
        refine lv_iinc (v := nI (i + 1)) (lv' := [(5, .int (nI (i + 1))), (6, .int (nI (aTn (aW cr inn k1) w_ i))), (0, .ref h), (1, .int (nI w_)), (2, .int x), (3, .int 1), (4, .int q)]) hx hb dX11_bestTurn_44 hl (k := 1) rfl (z_inc i 1) (by decide) (zLvf_h rfl) (fun ls hl => ?_)
        refine lv_goto (tgt := 3) hx hb dX11_bestTurn_47 (by decide) ?_
        exact ih_3 (i + 1) (show (i + 1) ≤ 7 ∧ (∀ j, j < (i + 1) → ¬ (gOk (aW cr inn k1) j = true ∧ (fun c => gV (aW cr inn k1) k2 inn x 0 false (gTn (aW cr inn k1) w_ c)) j = q.toInt)) from ⟨by omega, (fun j hj => by by_cases z9 : j = i <;> first | (rw [z9]; exact fun q9 => by have q8 := hv9.trans q9.2; first | omega | exact absurd (Int32.toInt_inj.mp q8) (by first | with_reducible assumption | assumption)) | exact hnf j (by omega))⟩) (show 7 - (i + 1) < 7 - i from by omega) _ _ ls G (lv_sub hl [0, 2, 3, 4, 5, 6] rfl)
      · have c_7n : r_6.toInt = q.toInt := (fa_eq _ _).mp c_7
        refine lv_iload hx hb dX11_bestTurn_41 (lv_at hl 1 rfl) ?_
        exact z_back hQz_ (z_iret C hr hlocks G (Nat.le_of_ble_eq_true rfl) (Nat.le_of_ble_eq_true rfl) dX11_bestTurn_43 ⟨rfl, ⟨i, by omega, rfl, hnf, fun _ => ⟨hok9, by rw [← hv9]; first | exact congrArg Int32.toInt (by first | with_reducible assumption | assumption) | omega⟩⟩⟩)
set_option maxHeartbeats 4000000 in
set_option maxRecDepth 100000 in
/-- bestTurn -/
theorem c_f_bestTurn2 (l : Launch) (T : zTy) (h : Nat) (la : Nat) (md : Int32) (wy : Int32) (pc_ : Int32) (f1 : Nat → Int32) (f2 : Nat → Int32) (f3 : Nat → Int32) (f4 : Nat → Int32) (f5 : Nat → Int32) (f6 : Nat → Int32) (n4 : Nat) (ww : va_W) (cr : Int32) (inn : Int32) (k1 : Nat → Int32) (k2 : Nat → Int32) (k3 : Nat → Int32) (k4 : Nat → Int32) (z : va_W) (w_ : Nat) (x : Int32) (q : Int32) (hww : bWays T h la md wy pc_ f1 f2 f3 f4 f5 f6 n4 ww) (hz : bLand T la cr inn k1 k2 k3 k4 z) (hI : zLI cr k1 k3) (hn : n4 ≤ 131072) (hF : aF cr inn k1 f1 f2) (hO : aOk (aW cr inn k1) k2) (hTt : zTab cr inn k1 k2 wy pc_ f1 f2 f5 n4) (hx7 : zHas cr x) (hwl : w_ < aPr (aW cr inn k1) 7) (hLq : zLq cr k1 k2) : zMi l T yX11_bestTurn cX11_bestTurn 7 (some .int) 8 0 0 [.ref h, .int (nI w_), .int x, .int 2, .int q] [ww, z] (fun (r : Int32) bs => bs = [ww, z] ∧ (∃ t, t ≤ 7 ∧ r = nI t ∧ (∀ j, j < t → ¬ (gOk (aW cr inn k1) j = true ∧ (fun c => gV (aW cr inn k1) k2 inn x 1 false (gTn (aW cr inn k1) w_ c)) j = q.toInt)) ∧ (t < 7 → gOk (aW cr inn k1) t = true ∧ (fun c => gV (aW cr inn k1) k2 inn x 1 false (gTn (aW cr inn k1) w_ c)) t = q.toInt))) := by
  refine zMi_of (own := RX11) (by decide) rfl (Nat.le_of_ble_eq_true rfl) ?_
  intro p e s m args below meth c A ls C hr hlocks hnm hAe G hl
  refine zHide (fun Qz_ hQz_ => ?_)
  have hx := C.1
  have hb := C.2.1
  have hl : lv_has ls 7 [(0, .ref h), (1, .int (nI w_)), (2, .int x), (3, .int 2), (4, .int q)] := hl
  have hp79 : aPr (aW cr inn k1) 7 ≤ 16384 := aPr_7 hI
  have hwT9 := nI_toInt (n := w_) (by omega)
  have hwN9 := nI_n (n := w_) (by omega)
  obtain ⟨hx71, hx72, hx73⟩ := hx7
  refine lv_iconst (v := 0) hx hb dX11_bestTurn_0 (by decide) ?_
  refine lv_istore (lv' := [(5, .int 0), (0, .ref h), (1, .int (nI w_)), (2, .int x), (3, .int 2), (4, .int q)]) hx hb dX11_bestTurn_1 hl (by decide) (zLvf_h rfl) (fun ls hl => ?_)
  refine z_lp1 (T := T) 3 (fun (i : Nat) => [ww, z]) (fun (i : Nat) => [(5, .int (nI i)), (0, .ref h), (1, .int (nI w_)), (2, .int x), (3, .int 2), (4, .int q)]) (fun (i : Nat) => i ≤ 7 ∧ (∀ j, j < i → ¬ (gOk (aW cr inn k1) j = true ∧ (fun c => gV (aW cr inn k1) k2 inn x 1 false (gTn (aW cr inn k1) w_ c)) j = q.toInt))) (fun (i : Nat) => 7 - i) ?_ 0 (show 0 ≤ 7 ∧ (∀ j, j < 0 → ¬ (gOk (aW cr inn k1) j = true ∧ (fun c => gV (aW cr inn k1) k2 inn x 1 false (gTn (aW cr inn k1) w_ c)) j = q.toInt)) from ⟨by omega, (fun j hj => absurd hj (Nat.not_lt_zero _))⟩) G (lv_sub hl [0, 1, 2, 3, 4, 5] rfl)
  intro i hI9 ih_3 H locs ls G hl
  replace hI9 : i ≤ 7 ∧ (∀ j, j < i → ¬ (gOk (aW cr inn k1) j = true ∧ (fun c => gV (aW cr inn k1) k2 inn x 1 false (gTn (aW cr inn k1) w_ c)) j = q.toInt)) := hI9
  refine zAn2 hI9 ?_
  intro hi hnf
  clear hI9
  replace G : zS T A s.heap s [ww, z] _ _ := G
  replace hl : lv_has ls 7 [(5, .int (nI i)), (0, .ref h), (1, .int (nI w_)), (2, .int x), (3, .int 2), (4, .int q)] := hl
  refine lv_iload hx hb dX11_bestTurn_3 (lv_at hl 0 rfl) ?_
  refine lv_bipush (v := 7) hx hb dX11_bestTurn_5 (by decide) ?_
  refine lv_icmp_ge (tgt := 50) hx hb dX11_bestTurn_7 (by decide) (fun c_1 => ?_) (fun c_1 => ?_)
  · have c_1n : 7 ≤ i := (nI_leI (a := 7) (b := i) (by omega) (by omega)).mp c_1
    refine lv_bipush (v := 7) hx hb dX11_bestTurn_50 (by decide) ?_
    exact z_back hQz_ (z_iret C hr hlocks G (Nat.le_of_ble_eq_true rfl) (Nat.le_of_ble_eq_true rfl) dX11_bestTurn_52 ⟨rfl, ⟨7, Nat.le_refl _, rfl, (fun j hj => hnf j (by omega)), fun z9 => absurd z9 (Nat.lt_irrefl _)⟩⟩)
  · have c_1n : ¬ 7 ≤ i := fun q => c_1 ((nI_leI (a := 7) (b := i) (by omega) (by omega)).mpr q)
    refine lv_aload_n hx hb dX11_bestTurn_10 rfl (lv_at hl 1 rfl) ?_
    refine lv_iload_n hx hb dX11_bestTurn_11 rfl (lv_at hl 2 rfl) ?_
    refine lv_iload hx hb dX11_bestTurn_12 (lv_at hl 0 rfl) ?_
    refine z_Vi (bc := [ww, z]) (br := []) (As := [.int (nI w_), .int (nI i)]) (rest := []) C G (c_f_turned l T h la md wy pc_ f1 f2 f3 f4 f5 f6 n4 ww cr inn k1 k2 k3 k4 z (nI w_) (nI i) hww hz (by first | with_reducible assumption | with_reducible rfl | omega | assumption | rfl) (by first | with_reducible assumption | with_reducible rfl | omega | assumption | rfl) (by first | with_reducible assumption | with_reducible rfl | omega | assumption | rfl) (by rw [hwT9]; omega) (by rw [nI_toInt (by omega)]; omega)) (kV_RX11_289 C.2.2.2.2 (Nat.le_of_ble_eq_true rfl) (Nat.le_of_ble_eq_true rfl)) [0, 1] [0, 0] rfl rfl (ci := 0) (qc := (RX0, TX0, 10)) rfl rfl (List.mem_flatten.mpr ⟨_, List.mem_of_getElem? (i := 0) rfl, (bWays_mem hww).choose_spec⟩) rfl rfl hl.1 dX11_bestTurn_14 (Nat.le_of_ble_eq_true rfl) (Nat.le_of_ble_eq_true rfl) (fun r_3 b1 H locs hw G => ?_)
    refine zAn2 hw ?_
    intro hbs9 h_2
    clear hw
    subst hbs9
    have G : zS T A s.heap s [ww, z] _ _ := G
    have ti9 := nI_toInt (n := i) (by omega)
    refine lv_istore (lv' := [(6, .int r_3), (5, .int (nI i)), (0, .ref h), (1, .int (nI w_)), (2, .int x), (3, .int 2), (4, .int q)]) hx hb dX11_bestTurn_17 hl (by decide) (zLvf_h rfl) (fun ls hl => ?_)
    rcases h_2 with htn9 | htn9
    · obtain rfl : r_3 = -1 := htn9.2
      have hok9 : ¬ gOk (aW cr inn k1) i = true := gOk_n (by omega) (by have q9 := htn9.1; show ¬ 0 < (zWays cr inn k1 (nI i)).toInt; rw [q9]; decide)
      refine lv_iload hx hb dX11_bestTurn_19 (lv_at hl 0 rfl) ?_
      refine lv_iconst (v := (-1)) hx hb dX11_bestTurn_21 (by decide) ?_
      refine lv_icmp_eq (tgt := 44) hx hb dX11_bestTurn_22 (by decide) (fun _ => ?_) (fun q => absurd rfl q)
      refine lv_iinc (v := nI (i + 1)) (lv' := [(5, .int (nI (i + 1))), (6, .int (-1)), (0, .ref h), (1, .int (nI w_)), (2, .int x), (3, .int 2), (4, .int q)]) hx hb dX11_bestTurn_44 hl (k := 1) rfl (z_inc i 1) (by decide) (zLvf_h rfl) (fun ls hl => ?_)
      refine lv_goto (tgt := 3) hx hb dX11_bestTurn_47 (by decide) ?_
      exact ih_3 (i + 1) (show (i + 1) ≤ 7 ∧ (∀ j, j < (i + 1) → ¬ (gOk (aW cr inn k1) j = true ∧ (fun c => gV (aW cr inn k1) k2 inn x 1 false (gTn (aW cr inn k1) w_ c)) j = q.toInt)) from ⟨by omega, (fun j hj => by by_cases z9 : j = i <;> first | (rw [z9]; exact fun q9 => hok9 q9.1) | exact hnf j (by omega))⟩) (show 7 - (i + 1) < 7 - i from by omega) _ _ ls G (lv_sub hl [0, 2, 3, 4, 5, 6] rfl)
    · obtain rfl : r_3 = nI (aTn (aW cr inn k1) w_ i) := by have q9 := htn9.2; rw [hwN9, nI_n (by omega)] at q9; exact q9
      have hwz9 := zWays_le (inn := inn) hI (nI i)
      have hok9 : gOk (aW cr inn k1) i = true := gOk_y (by omega) (by have q9 := htn9.1; show 0 < (zWays cr inn k1 (nI i)).toInt; have q8 : ¬ (zWays cr inn k1 (nI i)).toInt = 0 := fun z9 => q9 (Int32.toInt_inj.mp z9); omega)
      have htl9 : aTn (aW cr inn k1) w_ i < aPr (aW cr inn k1) 7 := aTn_lt (by omega) hwl
      refine lv_iload hx hb dX11_bestTurn_19 (lv_at hl 0 rfl) ?_
      refine lv_iconst (v := (-1)) hx hb dX11_bestTurn_21 (by decide) ?_
      refine lv_icmp_eq (tgt := 44) hx hb dX11_bestTurn_22 (by decide) (fun q => absurd q (nIm1 (by omega))) (fun _ => ?_)
      refine lv_aload_n hx hb dX11_bestTurn_25 rfl (lv_at hl 2 rfl) ?_
      refine lv_iload hx hb dX11_bestTurn_26 (lv_at hl 0 rfl) ?_
      refine lv_iload_n hx hb dX11_bestTurn_28 rfl (lv_at hl 4 rfl) ?_
      refine lv_iload_n hx hb dX11_bestTurn_29 rfl (lv_at hl 5 rfl) ?_
      refine lv_iconst (v := 1) hx hb dX11_bestTurn_30 (by decide) ?_
      refine lv_isub hx hb dX11_bestTurn_31 ?_
      refine lv_topi (fun y_4 ey_4 => ?_)
      obtain rfl : y_4 = 1 := ey_4.trans (by decide)
      refine lv_iconst (v := 0) hx hb dX11_bestTurn_32 (by decide) ?_
      refine z_Si (bc := [ww, z]) (br := []) (As := [.ref h, .int (nI (aTn (aW cr inn k1) w_ i)), .int x, .int 1, .int 0]) (rest := []) C G (c_f_worth1 l T h la md wy pc_ f1 f2 f3 f4 f5 f6 n4 ww cr inn k1 k2 k3 k4 z (aTn (aW cr inn k1) w_ i) x 0 hww hz (by first | with_reducible assumption | with_reducible rfl | omega | assumption | rfl) (by first | with_reducible assumption | with_reducible rfl | omega | assumption | rfl) (by first | with_reducible assumption | with_reducible rfl | omega | assumption | rfl) (by first | with_reducible assumption | with_reducible rfl | omega | assumption | rfl) hTt ⟨hx71, hx72, hx73⟩ htl9 (by first | with_reducible assumption | with_reducible rfl | omega | assumption | rfl)) (kS_RX11_278 C.2.2.2.2 (Nat.le_of_ble_eq_true rfl) (Nat.le_of_ble_eq_true rfl)) [0, 1] [0, 0] rfl rfl rfl rfl hl.1 dX11_bestTurn_33 (Nat.le_of_ble_eq_true rfl) (Nat.le_of_ble_eq_true rfl) (fun r_6 b1 H locs hw G => ?_)
      refine zAn2 hw ?_
      intro hbs9 h_5
      clear hw
      subst hbs9
      have G : zS T A s.heap s [ww, z] _ _ := G
      have hv9 : r_6.toInt = (fun c => gV (aW cr inn k1) k2 inn x 1 false (gTn (aW cr inn k1) w_ c)) i := by show _ = gV (aW cr inn k1) k2 inn x 1 false (gTn (aW cr inn k1) w_ i); rw [gTn_c (by omega)]; exact h_5
      refine lv_iload hx hb dX11_bestTurn_36 (lv_at hl 6 rfl) ?_
      refine lv_icmp_ne (tgt := 44) hx hb dX11_bestTurn_38 (by decide) (fun c_7 => ?_) (fun c_7 => ?_)
      · have c_7n : ¬ r_6.toInt = q.toInt := fun q => c_7 ((fa_eq _ _).mpr q)
        refine lv_iinc (v := nI (i + 1)) (lv' := [(5, .int (nI (i + 1))), (6, .int (nI (aTn (aW cr inn k1) w_ i))), (0, .ref h), (1, .int (nI w_)), (2, .int x), (3, .int 2), (4, .int q)]) hx hb dX11_bestTurn_44 hl (k := 1) rfl (z_inc i 1) (by decide) (zLvf_h rfl) (fun ls hl => ?_)
        refine lv_goto (tgt := 3) hx hb dX11_bestTurn_47 (by decide) ?_
        exact ih_3 (i + 1) (show (i + 1) ≤ 7 ∧ (∀ j, j < (i + 1) → ¬ (gOk (aW cr inn k1) j = true ∧ (fun c => gV (aW cr inn k1) k2 inn x 1 false (gTn (aW cr inn k1) w_ c)) j = q.toInt)) from ⟨by omega, (fun j hj => by by_cases z9 : j = i <;> first | (rw [z9]; exact fun q9 => by have q8 := hv9.trans q9.2; first | omega | exact absurd (Int32.toInt_inj.mp q8) (by first | with_reducible assumption | assumption)) | exact hnf j (by omega))⟩) (show 7 - (i + 1) < 7 - i from by omega) _ _ ls G (lv_sub hl [0, 2, 3, 4, 5, 6] rfl)
      · have c_7n : r_6.toInt = q.toInt := (fa_eq _ _).mp c_7
        refine lv_iload hx hb dX11_bestTurn_41 (lv_at hl 1 rfl) ?_
        exact z_back hQz_ (z_iret C hr hlocks G (Nat.le_of_ble_eq_true rfl) (Nat.le_of_ble_eq_true rfl) dX11_bestTurn_43 ⟨rfl, ⟨i, by omega, rfl, hnf, fun _ => ⟨hok9, by rw [← hv9]; first | exact congrArg Int32.toInt (by first | with_reducible assumption | assumption) | omega⟩⟩⟩)
set_option maxHeartbeats 4000000 in
set_option maxRecDepth 100000 in
/-- bestTurn -/
theorem c_f_bestTurn3 (l : Launch) (T : zTy) (h : Nat) (la : Nat) (md : Int32) (wy : Int32) (pc_ : Int32) (f1 : Nat → Int32) (f2 : Nat → Int32) (f3 : Nat → Int32) (f4 : Nat → Int32) (f5 : Nat → Int32) (f6 : Nat → Int32) (n4 : Nat) (ww : va_W) (cr : Int32) (inn : Int32) (k1 : Nat → Int32) (k2 : Nat → Int32) (k3 : Nat → Int32) (k4 : Nat → Int32) (z : va_W) (w_ : Nat) (x : Int32) (q : Int32) (hww : bWays T h la md wy pc_ f1 f2 f3 f4 f5 f6 n4 ww) (hz : bLand T la cr inn k1 k2 k3 k4 z) (hI : zLI cr k1 k3) (hn : n4 ≤ 131072) (hF : aF cr inn k1 f1 f2) (hO : aOk (aW cr inn k1) k2) (hTt : zTab cr inn k1 k2 wy pc_ f1 f2 f5 n4) (hx7 : zHas cr x) (hwl : w_ < aPr (aW cr inn k1) 7) (hLq : zLq cr k1 k2) : zMi l T yX11_bestTurn cX11_bestTurn 7 (some .int) 9 0 0 [.ref h, .int (nI w_), .int x, .int 3, .int q] [ww, z] (fun (r : Int32) bs => bs = [ww, z] ∧ (∃ t, t ≤ 7 ∧ r = nI t ∧ (∀ j, j < t → ¬ (gOk (aW cr inn k1) j = true ∧ (fun c => gV (aW cr inn k1) k2 inn x 2 false (gTn (aW cr inn k1) w_ c)) j = q.toInt)) ∧ (t < 7 → gOk (aW cr inn k1) t = true ∧ (fun c => gV (aW cr inn k1) k2 inn x 2 false (gTn (aW cr inn k1) w_ c)) t = q.toInt))) := by
  refine zMi_of (own := RX11) (by decide) rfl (Nat.le_of_ble_eq_true rfl) ?_
  intro p e s m args below meth c A ls C hr hlocks hnm hAe G hl
  refine zHide (fun Qz_ hQz_ => ?_)
  have hx := C.1
  have hb := C.2.1
  have hl : lv_has ls 7 [(0, .ref h), (1, .int (nI w_)), (2, .int x), (3, .int 3), (4, .int q)] := hl
  have hp79 : aPr (aW cr inn k1) 7 ≤ 16384 := aPr_7 hI
  have hwT9 := nI_toInt (n := w_) (by omega)
  have hwN9 := nI_n (n := w_) (by omega)
  obtain ⟨hx71, hx72, hx73⟩ := hx7
  refine lv_iconst (v := 0) hx hb dX11_bestTurn_0 (by decide) ?_
  refine lv_istore (lv' := [(5, .int 0), (0, .ref h), (1, .int (nI w_)), (2, .int x), (3, .int 3), (4, .int q)]) hx hb dX11_bestTurn_1 hl (by decide) (zLvf_h rfl) (fun ls hl => ?_)
  refine z_lp1 (T := T) 3 (fun (i : Nat) => [ww, z]) (fun (i : Nat) => [(5, .int (nI i)), (0, .ref h), (1, .int (nI w_)), (2, .int x), (3, .int 3), (4, .int q)]) (fun (i : Nat) => i ≤ 7 ∧ (∀ j, j < i → ¬ (gOk (aW cr inn k1) j = true ∧ (fun c => gV (aW cr inn k1) k2 inn x 2 false (gTn (aW cr inn k1) w_ c)) j = q.toInt))) (fun (i : Nat) => 7 - i) ?_ 0 (show 0 ≤ 7 ∧ (∀ j, j < 0 → ¬ (gOk (aW cr inn k1) j = true ∧ (fun c => gV (aW cr inn k1) k2 inn x 2 false (gTn (aW cr inn k1) w_ c)) j = q.toInt)) from ⟨by omega, (fun j hj => absurd hj (Nat.not_lt_zero _))⟩) G (lv_sub hl [0, 1, 2, 3, 4, 5] rfl)
  intro i hI9 ih_3 H locs ls G hl
  replace hI9 : i ≤ 7 ∧ (∀ j, j < i → ¬ (gOk (aW cr inn k1) j = true ∧ (fun c => gV (aW cr inn k1) k2 inn x 2 false (gTn (aW cr inn k1) w_ c)) j = q.toInt)) := hI9
  refine zAn2 hI9 ?_
  intro hi hnf
  clear hI9
  replace G : zS T A s.heap s [ww, z] _ _ := G
  replace hl : lv_has ls 7 [(5, .int (nI i)), (0, .ref h), (1, .int (nI w_)), (2, .int x), (3, .int 3), (4, .int q)] := hl
  refine lv_iload hx hb dX11_bestTurn_3 (lv_at hl 0 rfl) ?_
  refine lv_bipush (v := 7) hx hb dX11_bestTurn_5 (by decide) ?_
  refine lv_icmp_ge (tgt := 50) hx hb dX11_bestTurn_7 (by decide) (fun c_1 => ?_) (fun c_1 => ?_)
  · have c_1n : 7 ≤ i := (nI_leI (a := 7) (b := i) (by omega) (by omega)).mp c_1
    refine lv_bipush (v := 7) hx hb dX11_bestTurn_50 (by decide) ?_
    exact z_back hQz_ (z_iret C hr hlocks G (Nat.le_of_ble_eq_true rfl) (Nat.le_of_ble_eq_true rfl) dX11_bestTurn_52 ⟨rfl, ⟨7, Nat.le_refl _, rfl, (fun j hj => hnf j (by omega)), fun z9 => absurd z9 (Nat.lt_irrefl _)⟩⟩)
  · have c_1n : ¬ 7 ≤ i := fun q => c_1 ((nI_leI (a := 7) (b := i) (by omega) (by omega)).mpr q)
    refine lv_aload_n hx hb dX11_bestTurn_10 rfl (lv_at hl 1 rfl) ?_
    refine lv_iload_n hx hb dX11_bestTurn_11 rfl (lv_at hl 2 rfl) ?_
    refine lv_iload hx hb dX11_bestTurn_12 (lv_at hl 0 rfl) ?_
    refine z_Vi (bc := [ww, z]) (br := []) (As := [.int (nI w_), .int (nI i)]) (rest := []) C G (c_f_turned l T h la md wy pc_ f1 f2 f3 f4 f5 f6 n4 ww cr inn k1 k2 k3 k4 z (nI w_) (nI i) hww hz (by first | with_reducible assumption | with_reducible rfl | omega | assumption | rfl) (by first | with_reducible assumption | with_reducible rfl | omega | assumption | rfl) (by first | with_reducible assumption | with_reducible rfl | omega | assumption | rfl) (by rw [hwT9]; omega) (by rw [nI_toInt (by omega)]; omega)) (kV_RX11_289 C.2.2.2.2 (Nat.le_of_ble_eq_true rfl) (Nat.le_of_ble_eq_true rfl)) [0, 1] [0, 0] rfl rfl (ci := 0) (qc := (RX0, TX0, 10)) rfl rfl (List.mem_flatten.mpr ⟨_, List.mem_of_getElem? (i := 0) rfl, (bWays_mem hww).choose_spec⟩) rfl rfl hl.1 dX11_bestTurn_14 (Nat.le_of_ble_eq_true rfl) (Nat.le_of_ble_eq_true rfl) (fun r_3 b1 H locs hw G => ?_)
    refine zAn2 hw ?_
    intro hbs9 h_2
    clear hw
    subst hbs9
    have G : zS T A s.heap s [ww, z] _ _ := G
    have ti9 := nI_toInt (n := i) (by omega)
    refine lv_istore (lv' := [(6, .int r_3), (5, .int (nI i)), (0, .ref h), (1, .int (nI w_)), (2, .int x), (3, .int 3), (4, .int q)]) hx hb dX11_bestTurn_17 hl (by decide) (zLvf_h rfl) (fun ls hl => ?_)
    rcases h_2 with htn9 | htn9
    · obtain rfl : r_3 = -1 := htn9.2
      have hok9 : ¬ gOk (aW cr inn k1) i = true := gOk_n (by omega) (by have q9 := htn9.1; show ¬ 0 < (zWays cr inn k1 (nI i)).toInt; rw [q9]; decide)
      refine lv_iload hx hb dX11_bestTurn_19 (lv_at hl 0 rfl) ?_
      refine lv_iconst (v := (-1)) hx hb dX11_bestTurn_21 (by decide) ?_
      refine lv_icmp_eq (tgt := 44) hx hb dX11_bestTurn_22 (by decide) (fun _ => ?_) (fun q => absurd rfl q)
      refine lv_iinc (v := nI (i + 1)) (lv' := [(5, .int (nI (i + 1))), (6, .int (-1)), (0, .ref h), (1, .int (nI w_)), (2, .int x), (3, .int 3), (4, .int q)]) hx hb dX11_bestTurn_44 hl (k := 1) rfl (z_inc i 1) (by decide) (zLvf_h rfl) (fun ls hl => ?_)
      refine lv_goto (tgt := 3) hx hb dX11_bestTurn_47 (by decide) ?_
      exact ih_3 (i + 1) (show (i + 1) ≤ 7 ∧ (∀ j, j < (i + 1) → ¬ (gOk (aW cr inn k1) j = true ∧ (fun c => gV (aW cr inn k1) k2 inn x 2 false (gTn (aW cr inn k1) w_ c)) j = q.toInt)) from ⟨by omega, (fun j hj => by by_cases z9 : j = i <;> first | (rw [z9]; exact fun q9 => hok9 q9.1) | exact hnf j (by omega))⟩) (show 7 - (i + 1) < 7 - i from by omega) _ _ ls G (lv_sub hl [0, 2, 3, 4, 5, 6] rfl)
    · obtain rfl : r_3 = nI (aTn (aW cr inn k1) w_ i) := by have q9 := htn9.2; rw [hwN9, nI_n (by omega)] at q9; exact q9
      have hwz9 := zWays_le (inn := inn) hI (nI i)
      have hok9 : gOk (aW cr inn k1) i = true := gOk_y (by omega) (by have q9 := htn9.1; show 0 < (zWays cr inn k1 (nI i)).toInt; have q8 : ¬ (zWays cr inn k1 (nI i)).toInt = 0 := fun z9 => q9 (Int32.toInt_inj.mp z9); omega)
      have htl9 : aTn (aW cr inn k1) w_ i < aPr (aW cr inn k1) 7 := aTn_lt (by omega) hwl
      refine lv_iload hx hb dX11_bestTurn_19 (lv_at hl 0 rfl) ?_
      refine lv_iconst (v := (-1)) hx hb dX11_bestTurn_21 (by decide) ?_
      refine lv_icmp_eq (tgt := 44) hx hb dX11_bestTurn_22 (by decide) (fun q => absurd q (nIm1 (by omega))) (fun _ => ?_)
      refine lv_aload_n hx hb dX11_bestTurn_25 rfl (lv_at hl 2 rfl) ?_
      refine lv_iload hx hb dX11_bestTurn_26 (lv_at hl 0 rfl) ?_
      refine lv_iload_n hx hb dX11_bestTurn_28 rfl (lv_at hl 4 rfl) ?_
      refine lv_iload_n hx hb dX11_bestTurn_29 rfl (lv_at hl 5 rfl) ?_
      refine lv_iconst (v := 1) hx hb dX11_bestTurn_30 (by decide) ?_
      refine lv_isub hx hb dX11_bestTurn_31 ?_
      refine lv_topi (fun y_4 ey_4 => ?_)
      obtain rfl : y_4 = 2 := ey_4.trans (by decide)
      refine lv_iconst (v := 0) hx hb dX11_bestTurn_32 (by decide) ?_
      refine z_Si (bc := [ww, z]) (br := []) (As := [.ref h, .int (nI (aTn (aW cr inn k1) w_ i)), .int x, .int 2, .int 0]) (rest := []) C G (c_f_worth2 l T h la md wy pc_ f1 f2 f3 f4 f5 f6 n4 ww cr inn k1 k2 k3 k4 z (aTn (aW cr inn k1) w_ i) x 0 hww hz (by first | with_reducible assumption | with_reducible rfl | omega | assumption | rfl) (by first | with_reducible assumption | with_reducible rfl | omega | assumption | rfl) (by first | with_reducible assumption | with_reducible rfl | omega | assumption | rfl) (by first | with_reducible assumption | with_reducible rfl | omega | assumption | rfl) hTt ⟨hx71, hx72, hx73⟩ htl9 (by first | with_reducible assumption | with_reducible rfl | omega | assumption | rfl)) (kS_RX11_278 C.2.2.2.2 (Nat.le_of_ble_eq_true rfl) (Nat.le_of_ble_eq_true rfl)) [0, 1] [0, 0] rfl rfl rfl rfl hl.1 dX11_bestTurn_33 (Nat.le_of_ble_eq_true rfl) (Nat.le_of_ble_eq_true rfl) (fun r_6 b1 H locs hw G => ?_)
      refine zAn2 hw ?_
      intro hbs9 h_5
      clear hw
      subst hbs9
      have G : zS T A s.heap s [ww, z] _ _ := G
      have hv9 : r_6.toInt = (fun c => gV (aW cr inn k1) k2 inn x 2 false (gTn (aW cr inn k1) w_ c)) i := by show _ = gV (aW cr inn k1) k2 inn x 2 false (gTn (aW cr inn k1) w_ i); rw [gTn_c (by omega)]; exact h_5
      refine lv_iload hx hb dX11_bestTurn_36 (lv_at hl 6 rfl) ?_
      refine lv_icmp_ne (tgt := 44) hx hb dX11_bestTurn_38 (by decide) (fun c_7 => ?_) (fun c_7 => ?_)
      · have c_7n : ¬ r_6.toInt = q.toInt := fun q => c_7 ((fa_eq _ _).mpr q)
        refine lv_iinc (v := nI (i + 1)) (lv' := [(5, .int (nI (i + 1))), (6, .int (nI (aTn (aW cr inn k1) w_ i))), (0, .ref h), (1, .int (nI w_)), (2, .int x), (3, .int 3), (4, .int q)]) hx hb dX11_bestTurn_44 hl (k := 1) rfl (z_inc i 1) (by decide) (zLvf_h rfl) (fun ls hl => ?_)
        refine lv_goto (tgt := 3) hx hb dX11_bestTurn_47 (by decide) ?_
        exact ih_3 (i + 1) (show (i + 1) ≤ 7 ∧ (∀ j, j < (i + 1) → ¬ (gOk (aW cr inn k1) j = true ∧ (fun c => gV (aW cr inn k1) k2 inn x 2 false (gTn (aW cr inn k1) w_ c)) j = q.toInt)) from ⟨by omega, (fun j hj => by by_cases z9 : j = i <;> first | (rw [z9]; exact fun q9 => by have q8 := hv9.trans q9.2; first | omega | exact absurd (Int32.toInt_inj.mp q8) (by first | with_reducible assumption | assumption)) | exact hnf j (by omega))⟩) (show 7 - (i + 1) < 7 - i from by omega) _ _ ls G (lv_sub hl [0, 2, 3, 4, 5, 6] rfl)
      · have c_7n : r_6.toInt = q.toInt := (fa_eq _ _).mp c_7
        refine lv_iload hx hb dX11_bestTurn_41 (lv_at hl 1 rfl) ?_
        exact z_back hQz_ (z_iret C hr hlocks G (Nat.le_of_ble_eq_true rfl) (Nat.le_of_ble_eq_true rfl) dX11_bestTurn_43 ⟨rfl, ⟨i, by omega, rfl, hnf, fun _ => ⟨hok9, by rw [← hv9]; first | exact congrArg Int32.toInt (by first | with_reducible assumption | assumption) | omega⟩⟩⟩)
set_option maxHeartbeats 4000000 in
set_option maxRecDepth 100000 in
/-- c_f_game -/
theorem c_f_game (l : Launch) (T : zTy) (xo : Nat) (t : Nat) (im : Nat) (mk : Nat) (rd : Nat) (po : Nat) (co : Nat) (tr : Nat) (wa : Nat) (wb_ : Nat) (fi : Nat) (cd : Nat) (l0 : Nat) (l1 : Nat) (d0 : Nat) (d1 : Nat) (g0 : Nat) (g1 : Nat) (ln : Int32) (fl : Int32) (pl : Int32) (ft : Nat → Int32) (fk : Nat → Int32) (wt : va_W) (cr0_ : Int32) (inn0_ : Int32) (k10_ : Nat → Int32) (k20_ : Nat → Int32) (k30_ : Nat → Int32) (k40_ : Nat → Int32) (z0_ : va_W) (cr1_ : Int32) (inn1_ : Int32) (k11_ : Nat → Int32) (k21_ : Nat → Int32) (k31_ : Nat → Int32) (k41_ : Nat → Int32) (z1_ : va_W) (laA : Nat) (mdA : Int32) (wyA : Int32) (pc_A : Int32) (f1A : Nat → Int32) (f2A : Nat → Int32) (f3A : Nat → Int32) (f4A : Nat → Int32) (f5A : Nat → Int32) (f6A : Nat → Int32) (n4A : Nat) (wwA : va_W) (laB : Nat) (mdB : Int32) (wyB : Int32) (pc_B : Int32) (f1B : Nat → Int32) (f2B : Nat → Int32) (f3B : Nat → Int32) (f4B : Nat → Int32) (f5B : Nat → Int32) (f6B : Nat → Int32) (n4B : Nat) (wwB : va_W) (i1 : Int32) (a_ : Int32) (n : Int32) (w_ : Int32) (ht : bTold T t l0 l1 d0 d1 g0 g1 ln fl pl ft fk wt) (hK : zKT fk) (hz0_ : bLand T l0 cr0_ inn0_ k10_ k20_ k30_ k40_ z0_) (hI0_ : zLI cr0_ k10_ k30_) (hz1_ : bLand T l1 cr1_ inn1_ k11_ k21_ k31_ k41_ z1_) (hI1_ : zLI cr1_ k11_ k31_) (hwwA : bWays T wa laA mdA wyA pc_A f1A f2A f3A f4A f5A f6A n4A wwA) (hpwA : zPw n4A) (hmdA : mdA = 0 ∨ laA = l0) (hwmA : 0 ≤ wyA.toInt ∧ wyA.toInt ≤ 16384) (hTbA : mdA = 0 ∨ zTab cr0_ inn0_ k10_ k20_ wyA pc_A f1A f2A f5A n4A) (hLq0 : zLq cr0_ k10_ k20_) (hwwB : bWays T wb_ laB mdB wyB pc_B f1B f2B f3B f4B f5B f6B n4B wwB) (hpwB : zPw n4B) (hmdB : mdB = 0 ∨ laB = l1) (hwmB : 0 ≤ wyB.toInt ∧ wyB.toInt ≤ 16384) (hTbB : mdB = 0 ∨ zTab cr1_ inn1_ k11_ k21_ wyB pc_B f1B f2B f5B n4B) (hLq1 : zLq cr1_ k11_ k21_) (hPo0 : (∀ c, c < 7 → 0 < ((aW cr0_ inn0_ k10_) c).toInt → (k30_ c).toInt = 0 ∨ (k30_ c).toInt < ((aW cr0_ inn0_ k10_) c).toInt)) (hPo1 : (∀ c, c < 7 → 0 < ((aW cr1_ inn1_ k11_) c).toInt → (k31_ c).toInt = 0 ∨ (k31_ c).toInt < ((aW cr1_ inn1_ k11_) c).toInt)) : zMi l T yX11_game cX11_game 9 (some .int) 10 3 (6 * (zNA (i1.toInt = 0 ∧ 0 < (fk 0).toInt ∧ 0 ≤ a_.toInt ∧ a_.toInt < cr0_.toInt ∧ a_.toInt < 7 ∧ 0 ≤ n.toInt ∧ n.toInt ≤ 3) mdA n4A (zPl cr0_ inn0_ k10_) - n4A) + 6 * (zNA (i1.toInt = 1 ∧ 1 < (fk 0).toInt ∧ 0 ≤ a_.toInt ∧ a_.toInt < cr1_.toInt ∧ a_.toInt < 7 ∧ 0 ≤ n.toInt ∧ n.toInt ≤ 3) mdB n4B (zPl cr1_ inn1_ k11_) - n4B)) [.ref xo, .int i1, .int a_, .int n, .int w_] [[zO10 xo t im mk rd po co tr wa wb_ fi cd], wt, z0_, z1_, wwA, wwB] (fun (r : Int32) bs => ∃ (laA_2 : Nat) (mdA_2 : Int32) (wyA_2 : Int32) (pc_A_2 : Int32) (f1A_2 : Nat → Int32) (f2A_2 : Nat → Int32) (f3A_2 : Nat → Int32) (f4A_2 : Nat → Int32) (f5A_2 : Nat → Int32) (f6A_2 : Nat → Int32) (n4A_2 : Nat) (wwA_2 : va_W) (laB_2 : Nat) (mdB_2 : Int32) (wyB_2 : Int32) (pc_B_2 : Int32) (f1B_2 : Nat → Int32) (f2B_2 : Nat → Int32) (f3B_2 : Nat → Int32) (f4B_2 : Nat → Int32) (f5B_2 : Nat → Int32) (f6B_2 : Nat → Int32) (n4B_2 : Nat) (wwB_2 : va_W), bs = [[zO10 xo t im mk rd po co tr wa wb_ fi cd], wt, z0_, z1_, wwA_2, wwB_2] ∧ bWays T wa laA_2 mdA_2 wyA_2 pc_A_2 f1A_2 f2A_2 f3A_2 f4A_2 f5A_2 f6A_2 n4A_2 wwA_2 ∧ (mdA_2 = 0 ∨ laA_2 = l0) ∧ (0 ≤ wyA_2.toInt ∧ wyA_2.toInt ≤ 16384) ∧ n4A_2 = zNA (i1.toInt = 0 ∧ 0 < (fk 0).toInt ∧ 0 ≤ a_.toInt ∧ a_.toInt < cr0_.toInt ∧ a_.toInt < 7 ∧ 0 ≤ n.toInt ∧ n.toInt ≤ 3) mdA n4A (zPl cr0_ inn0_ k10_) ∧ zPw n4A_2 ∧ (¬ mdA = 0 → ¬ mdA_2 = 0) ∧ (mdA_2 = 0 ∨ zTab cr0_ inn0_ k10_ k20_ wyA_2 pc_A_2 f1A_2 f2A_2 f5A_2 n4A_2) ∧ bWays T wb_ laB_2 mdB_2 wyB_2 pc_B_2 f1B_2 f2B_2 f3B_2 f4B_2 f5B_2 f6B_2 n4B_2 wwB_2 ∧ (mdB_2 = 0 ∨ laB_2 = l1) ∧ (0 ≤ wyB_2.toInt ∧ wyB_2.toInt ≤ 16384) ∧ n4B_2 = zNA (i1.toInt = 1 ∧ 1 < (fk 0).toInt ∧ 0 ≤ a_.toInt ∧ a_.toInt < cr1_.toInt ∧ a_.toInt < 7 ∧ 0 ≤ n.toInt ∧ n.toInt ≤ 3) mdB n4B (zPl cr1_ inn1_ k11_) ∧ zPw n4B_2 ∧ (¬ mdB = 0 → ¬ mdB_2 = 0) ∧ (mdB_2 = 0 ∨ zTab cr1_ inn1_ k11_ k21_ wyB_2 pc_B_2 f1B_2 f2B_2 f5B_2 n4B_2) ∧ ((i1.toInt < 0 ∨ (fk 0).toInt ≤ i1.toInt ∨ 2 ≤ i1.toInt) ∧ r = -9 ∨ i1.toInt = 0 ∧ 0 < (fk 0).toInt ∧ r = kGame cr0_ inn0_ k10_ k20_ k30_ a_ n w_ ∨ i1.toInt = 1 ∧ 1 < (fk 0).toInt ∧ r = kGame cr1_ inn1_ k11_ k21_ k31_ a_ n w_)) := by
  refine zMi_of (own := RX11) (by decide) rfl (Nat.le_of_ble_eq_true rfl) ?_
  intro p e s m args below meth c A ls C hr hlocks hnm hAe G hl
  refine zHide (fun Qz_ hQz_ => ?_)
  have hx := C.1
  have hb := C.2.1
  replace hmdA : zHd (mdA = 0 ∨ laA = l0) := hmdA
  replace hTbA : zHd (mdA = 0 ∨ zTab cr0_ inn0_ k10_ k20_ wyA pc_A f1A f2A f5A n4A) := hTbA
  replace hmdB : zHd (mdB = 0 ∨ laB = l1) := hmdB
  replace hTbB : zHd (mdB = 0 ∨ zTab cr1_ inn1_ k11_ k21_ wyB pc_B f1B f2B f5B n4B) := hTbB
  have hl : lv_has ls 9 [(0, .ref xo), (1, .int i1), (2, .int a_), (3, .int n), (4, .int w_)] := hl
  refine lv_aload_n hx hb dX11_game_0 rfl (lv_at hl 0 rfl) ?_
  refine z_get C G clX11 0 rfl 0 (by decide) m_fl_RX11_10 rfl dX11_game_1 ?_
  refine lv_iload_n hx hb dX11_game_4 rfl (lv_at hl 1 rfl) ?_
  refine z_Vq (bc := [wt]) (br := [[zO10 xo t im mk rd po co tr wa wb_ fi cd], z0_, z1_, wwA, wwB]) (As := [.int i1]) (rest := []) C G (c_landAt l T t l0 l1 d0 d1 g0 g1 ln fl pl ft fk wt i1 ht) (kV_RX11_121 C.2.2.2.2 (Nat.le_of_ble_eq_true rfl) (Nat.le_of_ble_eq_true rfl)) [1] [1] rfl rfl (ci := 8) (qc := (RX9, TX9, 8)) rfl rfl (List.mem_flatten.mpr ⟨_, List.mem_of_getElem? (i := 0) rfl, (bTold_mem ht).choose_spec⟩) rfl rfl hl.1 dX11_game_5 (Nat.le_of_ble_eq_true rfl) (by show _ + 0 ≤ 6 * (zNA (i1.toInt = 0 ∧ 0 < (fk 0).toInt ∧ 0 ≤ a_.toInt ∧ a_.toInt < cr0_.toInt ∧ a_.toInt < 7 ∧ 0 ≤ n.toInt ∧ n.toInt ≤ 3) mdA n4A (zPl cr0_ inn0_ k10_) - n4A) + 6 * (zNA (i1.toInt = 1 ∧ 1 < (fk 0).toInt ∧ 0 ≤ a_.toInt ∧ a_.toInt < cr1_.toInt ∧ a_.toInt < 7 ∧ 0 ≤ n.toInt ∧ n.toInt ≤ 3) mdB n4B (zPl cr1_ inn1_ k11_) - n4B); omega) (fun r_2 b1 H locs hw G => ?_)
  refine zAn2 hw ?_
  intro hbs9 hc_1
  clear hw
  subst hbs9
  have G : zS T A s.heap s [[zO10 xo t im mk rd po co tr wa wb_ fi cd], z0_, z1_, wwA, wwB, wt] _ _ := G
  rcases hc_1 with ⟨rfl, h_3⟩ | ⟨rfl, h_4, h_5⟩ | ⟨rfl, h_6, h_7⟩
  · have h_3 : (i1.toInt < 0 ∨ (fk 0).toInt ≤ i1.toInt ∨ 2 ≤ i1.toInt) := h_3
    refine lv_astoreN (lv' := [(5, .null), (0, .ref xo), (1, .int i1), (2, .int a_), (3, .int n), (4, .int w_)]) hx hb dX11_game_8 hl (by decide) (zLvf_h rfl) (fun ls hl => ?_)
    refine lv_aloadN hx hb dX11_game_10 (lv_at hl 0 rfl) ?_
    refine lv_ifnullN (tgt := 33) hx hb dX11_game_12 (by decide) ?_
    refine lv_bipush (v := (-9)) hx hb dX11_game_33 (by decide) ?_
    have G := G.sub (bs' := [[zO10 xo t im mk rd po co tr wa wb_ fi cd], wt, z0_, z1_, wwA, wwB]) [0, 5, 1, 2, 3, 4] rfl
    exact z_back hQz_ (z_iret C hr hlocks G (Nat.le_of_ble_eq_true rfl) (by omega) dX11_game_35 ⟨laA, mdA, wyA, pc_A, f1A, f2A, f3A, f4A, f5A, f6A, n4A, wwA, laB, mdB, wyB, pc_B, f1B, f2B, f3B, f4B, f5B, f6B, n4B, wwB, rfl, hwwA, hmdA, hwmA, (by first | exact hNAo.symm | exact (zNA_n (by first | omega | grind)).symm), hpwA, (fun q => q), hTbA, hwwB, hmdB, hwmB, (by first | exact hNAo.symm | exact (zNA_n (by first | omega | grind)).symm), hpwB, (fun q => q), hTbB, (Or.inl ⟨by first | with_reducible assumption | assumption, rfl⟩)⟩)
  · have h_4 : i1.toInt = 0 := h_4
    have h_5 : 0 < (fk 0).toInt := h_5
    refine lv_astore (lv' := [(5, .ref l0), (0, .ref xo), (1, .int i1), (2, .int a_), (3, .int n), (4, .int w_)]) hx hb dX11_game_8 hl (by decide) (zLvf_h rfl) (fun ls hl => ?_)
    refine lv_aload hx hb dX11_game_10 (lv_at hl 0 rfl) ?_
    refine lv_ifnull hx hb dX11_game_12 ?_
    refine lv_aload hx hb dX11_game_15 (lv_at hl 0 rfl) ?_
    refine lv_iload_n hx hb dX11_game_17 rfl (lv_at hl 3 rfl) ?_
    refine z_Vi (bc := [z0_]) (br := [[zO10 xo t im mk rd po co tr wa wb_ fi cd], z1_, wwA, wwB, wt]) (As := [.int a_]) (rest := []) C G (c_has l T l0 cr0_ inn0_ k10_ k20_ k30_ k40_ z0_ a_ hz0_) (kV_RX11_160 C.2.2.2.2 (Nat.le_of_ble_eq_true rfl) (Nat.le_of_ble_eq_true rfl)) [1] [1] rfl rfl (ci := 4) (qc := (RX4, TX4, 6)) rfl rfl (List.mem_flatten.mpr ⟨_, List.mem_of_getElem? (i := 0) rfl, (bLand_mem hz0_).choose_spec⟩) rfl rfl hl.1 dX11_game_18 (Nat.le_of_ble_eq_true rfl) (by show _ + 0 ≤ 6 * (zNA (i1.toInt = 0 ∧ 0 < (fk 0).toInt ∧ 0 ≤ a_.toInt ∧ a_.toInt < cr0_.toInt ∧ a_.toInt < 7 ∧ 0 ≤ n.toInt ∧ n.toInt ≤ 3) mdA n4A (zPl cr0_ inn0_ k10_) - n4A) + 6 * (zNA (i1.toInt = 1 ∧ 1 < (fk 0).toInt ∧ 0 ≤ a_.toInt ∧ a_.toInt < cr1_.toInt ∧ a_.toInt < 7 ∧ 0 ≤ n.toInt ∧ n.toInt ≤ 3) mdB n4B (zPl cr1_ inn1_ k11_) - n4B); omega) (fun r_9 b1 H locs hw G => ?_)
    refine zAn2 hw ?_
    intro hbs9 hc_8
    clear hw
    subst hbs9
    have G : zS T A s.heap s [[zO10 xo t im mk rd po co tr wa wb_ fi cd], z1_, wwA, wwB, wt, z0_] _ _ := G
    rcases hc_8 with ⟨rfl, h_10, h_11, h_12⟩ | ⟨rfl, h_13⟩
    · have h_10 : 0 ≤ a_.toInt := h_10
      have h_11 : a_.toInt < cr0_.toInt := h_11
      have h_12 : a_.toInt < 7 := h_12
      refine lv_if_eq (tgt := 33) hx hb dX11_game_21 (by decide) (fun q => absurd q (by decide)) (fun _ => ?_)
      refine lv_iload_n hx hb dX11_game_24 rfl (lv_at hl 4 rfl) ?_
      refine lv_if_lt (tgt := 33) hx hb dX11_game_25 (by decide) (fun c_14 => ?_) (fun c_14 => ?_)
      · have c_14n : n.toInt < (0 : Int) := (fa_lt _ _).mp c_14
        refine lv_bipush (v := (-9)) hx hb dX11_game_33 (by decide) ?_
        have G := G.sub (bs' := [[zO10 xo t im mk rd po co tr wa wb_ fi cd], wt, z0_, z1_, wwA, wwB]) [0, 4, 5, 1, 2, 3] rfl
        exact z_back hQz_ (z_iret C hr hlocks G (Nat.le_of_ble_eq_true rfl) (by omega) dX11_game_35 ⟨laA, mdA, wyA, pc_A, f1A, f2A, f3A, f4A, f5A, f6A, n4A, wwA, laB, mdB, wyB, pc_B, f1B, f2B, f3B, f4B, f5B, f6B, n4B, wwB, rfl, hwwA, hmdA, hwmA, (by first | exact hNAo.symm | exact (zNA_n (by first | omega | grind)).symm), hpwA, (fun q => q), hTbA, hwwB, hmdB, hwmB, (by first | exact hNAo.symm | exact (zNA_n (by first | omega | grind)).symm), hpwB, (fun q => q), hTbB, (Or.inr (Or.inl ⟨by first | with_reducible assumption | assumption, by first | with_reducible assumption | assumption, (by unfold kGame; rw [if_neg (fun q8 => by have q7 := hI0_.1; omega)])⟩))⟩)
      · have c_14n : ¬ n.toInt < (0 : Int) := fun q => c_14 ((fa_lt _ _).mpr q)
        refine lv_iload_n hx hb dX11_game_28 rfl (lv_at hl 4 rfl) ?_
        refine lv_iconst (v := 3) hx hb dX11_game_29 (by decide) ?_
        refine lv_icmp_le (tgt := 36) hx hb dX11_game_30 (by decide) (fun c_15 => ?_) (fun c_15 => ?_)
        · have c_15n : n.toInt ≤ (3 : Int) := (fa_le _ _).mp c_15
          refine lv_aload_n hx hb dX11_game_36 rfl (lv_at hl 1 rfl) ?_
          refine lv_iload_n hx hb dX11_game_37 rfl (lv_at hl 2 rfl) ?_
          refine lv_aload hx hb dX11_game_38 (lv_at hl 0 rfl) ?_
          have hNAm : zNA (i1.toInt = 0 ∧ 0 < (fk 0).toInt ∧ 0 ≤ a_.toInt ∧ a_.toInt < cr0_.toInt ∧ a_.toInt < 7 ∧ 0 ≤ n.toInt ∧ n.toInt ≤ 3) mdA n4A (zPl cr0_ inn0_ k10_) = zMk mdA n4A (zPl cr0_ inn0_ k10_) := zNA_y (by first | omega | (repeat' (first | omega | assumption | constructor)))
          have hNAo : zNA (i1.toInt = 1 ∧ 1 < (fk 0).toInt ∧ 0 ≤ a_.toInt ∧ a_.toInt < cr1_.toInt ∧ a_.toInt < 7 ∧ 0 ≤ n.toInt ∧ n.toInt ≤ 3) mdB n4B (zPl cr1_ inn1_ k11_) = n4B := zNA_n (by omega)
          have hn9 : zMk mdA n4A (zPl cr0_ inn0_ k10_) ≤ 131072 := zPw_le (zMk_pw hpwA)
          refine z_Vq (bc := [[zO10 xo t im mk rd po co tr wa wb_ fi cd], wwA, z0_]) (br := [z1_, wwB, wt]) (As := [.int i1, .ref l0]) (rest := []) C G (c_f_waysInA l T xo t im mk rd po co tr wa wb_ fi cd i1 laA mdA wyA pc_A f1A f2A f3A f4A f5A f6A n4A wwA l0 cr0_ inn0_ k10_ k20_ k30_ k40_ z0_ hwwA hz0_ hI0_ hpwA hmdA (kaOk hI0_ hLq0).1 hTbA (by omega)) (kV_RX11_235 C.2.2.2.2 (Nat.le_of_ble_eq_true rfl) (Nat.le_of_ble_eq_true rfl)) [0, 2, 5] [0, 1, 2] rfl rfl (ci := 10) (qc := (RX11, TX11, 11)) rfl rfl (List.mem_flatten.mpr ⟨_, List.mem_of_getElem? (i := 0) rfl, List.mem_cons_self⟩) rfl rfl hl.1 dX11_game_40 (Nat.le_of_ble_eq_true rfl) (by show _ + (6 * (zMk mdA n4A (zPl cr0_ inn0_ k10_) - n4A)) ≤ 6 * (zNA (i1.toInt = 0 ∧ 0 < (fk 0).toInt ∧ 0 ≤ a_.toInt ∧ a_.toInt < cr0_.toInt ∧ a_.toInt < 7 ∧ 0 ≤ n.toInt ∧ n.toInt ≤ 3) mdA n4A (zPl cr0_ inn0_ k10_) - n4A) + 6 * (zNA (i1.toInt = 1 ∧ 1 < (fk 0).toInt ∧ 0 ≤ a_.toInt ∧ a_.toInt < cr1_.toInt ∧ a_.toInt < 7 ∧ 0 ≤ n.toInt ∧ n.toInt ≤ 3) mdB n4B (zPl cr1_ inn1_ k11_) - n4B); omega) (fun r_30 b1 H locs hw G => ?_)
          refine zEx9 hw ?_
          intro w2_16 m2_17 wy2_18 pc2_19 g1_20 g2_21 g4_22 g5_23 g6_24
          refine zCu6 ?_
          intro hbs9 h_25 h_26 h_27 h_28 h_29
          clear hw
          subst hbs9
          have G : zS T A s.heap s [z1_, wwB, wt, [zO10 xo t im mk rd po co tr wa wb_ fi cd], w2_16, z0_] _ _ := G
          subst h_25
          have hwy9 : 0 ≤ wy2_18.toInt ∧ wy2_18.toInt ≤ 16384 := by have q9 := zWy_in (inn := inn0_) hI0_; rw [h_27]; exact ⟨by omega, q9.2⟩
          have hp79 : aPr (aW cr0_ inn0_ k10_) 7 ≤ 16384 := aPr_7 hI0_
          have hwN9 : wy2_18 = nI (aPr (aW cr0_ inn0_ k10_) 7) := h_27.trans (zWy_z hI0_)
          have hwT9 : wy2_18.toInt = ((aPr (aW cr0_ inn0_ k10_) 7 : Nat) : Int) := by rw [hwN9, nI_toInt (by omega)]
          have hOk9 := (kaOk (inn := inn0_) hI0_ hLq0).1
          have hc79 := hI0_.1
          refine lv_astore (lv' := [(6, .ref wa), (5, .ref l0), (0, .ref xo), (1, .int i1), (2, .int a_), (3, .int n), (4, .int w_)]) hx hb dX11_game_43 hl (by decide) (zLvf_h rfl) (fun ls hl => ?_)
          refine lv_aload hx hb dX11_game_45 (lv_at hl 0 rfl) ?_
          refine z_Vi (bc := [w2_16, z0_]) (br := [z1_, wwB, wt, [zO10 xo t im mk rd po co tr wa wb_ fi cd]]) (As := []) (rest := []) C G (c_f_wayTold l T wa l0 m2_17 wy2_18 pc2_19 g1_20 g2_21 f3A g4_22 g5_23 g6_24 (zMk mdA n4A (zPl cr0_ inn0_ k10_)) w2_16 cr0_ inn0_ k10_ k20_ k30_ k40_ z0_ h_26 hz0_ hI0_ h_29.2.2.1 hOk9) (kV_RX11_242 C.2.2.2.2 (Nat.le_of_ble_eq_true rfl) (Nat.le_of_ble_eq_true rfl)) [4, 5] [4, 0] rfl rfl (ci := 0) (qc := (RX0, TX0, 10)) rfl rfl (List.mem_flatten.mpr ⟨_, List.mem_of_getElem? (i := 0) rfl, (bWays_mem h_26).choose_spec⟩) rfl rfl hl.1 dX11_game_47 (Nat.le_of_ble_eq_true rfl) (by show _ + 0 ≤ 6 * (zNA (i1.toInt = 0 ∧ 0 < (fk 0).toInt ∧ 0 ≤ a_.toInt ∧ a_.toInt < cr0_.toInt ∧ a_.toInt < 7 ∧ 0 ≤ n.toInt ∧ n.toInt ≤ 3) mdA n4A (zPl cr0_ inn0_ k10_) - n4A) + 6 * (zNA (i1.toInt = 1 ∧ 1 < (fk 0).toInt ∧ 0 ≤ a_.toInt ∧ a_.toInt < cr1_.toInt ∧ a_.toInt < 7 ∧ 0 ≤ n.toInt ∧ n.toInt ≤ 3) mdB n4B (zPl cr1_ inn1_ k11_) - n4B); omega) (fun r_32 b1 H locs hw G => ?_)
          refine zAn2 hw ?_
          intro hbs9 h_31
          clear hw
          subst hbs9
          have G : zS T A s.heap s [z1_, wwB, wt, [zO10 xo t im mk rd po co tr wa wb_ fi cd], w2_16, z0_] _ _ := G
          have htl9 : (aRs (aW cr0_ inn0_ k10_) k30_ 7) < aPr (aW cr0_ inn0_ k10_) 7 := aRs_lt hPo0 7 (Nat.le_refl _)
          obtain rfl : r_32 = nI (aRs (aW cr0_ inn0_ k10_) k30_ 7) := h_31
          refine lv_istore (lv' := [(7, .int (nI (aRs (aW cr0_ inn0_ k10_) k30_ 7))), (6, .ref wa), (5, .ref l0), (0, .ref xo), (1, .int i1), (2, .int a_), (3, .int n), (4, .int w_)]) hx hb dX11_game_50 hl (by decide) (zLvf_h rfl) (fun ls hl => ?_)
          rcases (show n.toInt = 0 ∨ n.toInt = 1 ∨ n.toInt = 2 ∨ n.toInt = 3 from by omega) with hnn9 | hnn9 | hnn9 | hnn9
          · obtain rfl : n = 0 := Int32.toInt_inj.mp hnn9
            refine lv_aload hx hb dX11_game_52 (lv_at hl 1 rfl) ?_
            refine lv_iload hx hb dX11_game_54 (lv_at hl 0 rfl) ?_
            refine lv_iload_n hx hb dX11_game_56 rfl (lv_at hl 5 rfl) ?_
            refine lv_iload_n hx hb dX11_game_57 rfl (lv_at hl 6 rfl) ?_
            refine lv_iconst (v := 1) hx hb dX11_game_58 (by decide) ?_
            refine z_Si (bc := [w2_16, z0_]) (br := [z1_, wwB, wt, [zO10 xo t im mk rd po co tr wa wb_ fi cd]]) (As := [.ref wa, .int (nI (aRs (aW cr0_ inn0_ k10_) k30_ 7)), .int a_, .int 0, .int 1]) (rest := []) C G (c_f_worth0 l T wa l0 m2_17 wy2_18 pc2_19 g1_20 g2_21 f3A g4_22 g5_23 g6_24 (zMk mdA n4A (zPl cr0_ inn0_ k10_)) w2_16 cr0_ inn0_ k10_ k20_ k30_ k40_ z0_ (aRs (aW cr0_ inn0_ k10_) k30_ 7) a_ 1 h_26 hz0_ hI0_ hn9 h_29.2.2.1 hOk9 h_29 ⟨by omega, by omega, by omega⟩ htl9 hLq0) (kS_RX11_278 C.2.2.2.2 (Nat.le_of_ble_eq_true rfl) (Nat.le_of_ble_eq_true rfl)) [4, 5] [4, 0] rfl rfl rfl rfl hl.1 dX11_game_59 (Nat.le_of_ble_eq_true rfl) (by show _ + 0 ≤ 6 * (zNA (i1.toInt = 0 ∧ 0 < (fk 0).toInt ∧ 0 ≤ a_.toInt ∧ a_.toInt < cr0_.toInt ∧ a_.toInt < 7 ∧ 0 ≤ (0 : Int32).toInt ∧ (0 : Int32).toInt ≤ 3) mdA n4A (zPl cr0_ inn0_ k10_) - n4A) + 6 * (zNA (i1.toInt = 1 ∧ 1 < (fk 0).toInt ∧ 0 ≤ a_.toInt ∧ a_.toInt < cr1_.toInt ∧ a_.toInt < 7 ∧ 0 ≤ (0 : Int32).toInt ∧ (0 : Int32).toInt ≤ 3) mdB n4B (zPl cr1_ inn1_ k11_) - n4B); omega) (fun r_34 b1 H locs hw G => ?_)
            refine zAn2 hw ?_
            intro hbs9 h_33
            clear hw
            subst hbs9
            have G : zS T A s.heap s [z1_, wwB, wt, [zO10 xo t im mk rd po co tr wa wb_ fi cd], w2_16, z0_] _ _ := G
            refine lv_istore (lv' := [(8, .int r_34), (7, .int (nI (aRs (aW cr0_ inn0_ k10_) k30_ 7))), (6, .ref wa), (5, .ref l0), (0, .ref xo), (1, .int i1), (2, .int a_), (3, .int 0), (4, .int w_)]) hx hb dX11_game_62 hl (by decide) (zLvf_h rfl) (fun ls hl => ?_)
            refine lv_iload hx hb dX11_game_64 (lv_at hl 8 rfl) ?_
            refine lv_if_ne (tgt := 72) hx hb dX11_game_66 (by decide) (fun c_35 => ?_) (fun c_35 => ?_)
            · have c_35n : ¬ w_.toInt = (0 : Int) := fun q => c_35 ((fa_eq _ _).mpr q)
              refine lv_iload_n hx hb dX11_game_72 rfl (lv_at hl 7 rfl) ?_
              refine lv_if_ne (tgt := 80) hx hb dX11_game_73 (by decide) (fun q => absurd (by decide) q) (fun _ => ?_)
              refine lv_iconst (v := (-1)) hx hb dX11_game_76 (by decide) ?_
              refine lv_goto (tgt := 91) hx hb dX11_game_77 (by decide) ?_
              have G := G.sub (bs' := [[zO10 xo t im mk rd po co tr wa wb_ fi cd], wt, z0_, z1_, w2_16, wwB]) [3, 2, 5, 0, 4, 1] rfl
              exact z_back hQz_ (z_iret C hr hlocks G (Nat.le_of_ble_eq_true rfl) (by omega) dX11_game_91 ⟨l0, m2_17, wy2_18, pc2_19, g1_20, g2_21, f3A, g4_22, g5_23, g6_24, (zMk mdA n4A (zPl cr0_ inn0_ k10_)), w2_16, laB, mdB, wyB, pc_B, f1B, f2B, f3B, f4B, f5B, f6B, n4B, wwB, rfl, h_26, (Or.inr rfl), hwy9, hNAm.symm, (zMk_pw hpwA), (fun _ => h_28), (Or.inr h_29), hwwB, hmdB, hwmB, (by first | exact hNAo.symm | exact (zNA_n (by first | omega | grind)).symm), hpwB, (fun q => q), hTbB, (Or.inr (Or.inl ⟨by first | with_reducible assumption | assumption, by first | with_reducible assumption | assumption, (by unfold kGame; rw [if_pos ⟨⟨by omega, by omega⟩, by decide, by decide⟩]; unfold rGame; rw [if_neg (by first | with_reducible assumption | assumption), if_pos (by decide)])⟩))⟩)
            · have c_35n : w_.toInt = (0 : Int) := (fa_eq _ _).mp c_35
              refine lv_iload hx hb dX11_game_69 (lv_at hl 0 rfl) ?_
              have G := G.sub (bs' := [[zO10 xo t im mk rd po co tr wa wb_ fi cd], wt, z0_, z1_, w2_16, wwB]) [3, 2, 5, 0, 4, 1] rfl
              exact z_back hQz_ (z_iret C hr hlocks G (Nat.le_of_ble_eq_true rfl) (by omega) dX11_game_71 ⟨l0, m2_17, wy2_18, pc2_19, g1_20, g2_21, f3A, g4_22, g5_23, g6_24, (zMk mdA n4A (zPl cr0_ inn0_ k10_)), w2_16, laB, mdB, wyB, pc_B, f1B, f2B, f3B, f4B, f5B, f6B, n4B, wwB, rfl, h_26, (Or.inr rfl), hwy9, hNAm.symm, (zMk_pw hpwA), (fun _ => h_28), (Or.inr h_29), hwwB, hmdB, hwmB, (by first | exact hNAo.symm | exact (zNA_n (by first | omega | grind)).symm), hpwB, (fun q => q), hTbB, (Or.inr (Or.inl ⟨by first | with_reducible assumption | assumption, by first | with_reducible assumption | assumption, (by unfold kGame; rw [if_pos ⟨⟨by omega, by omega⟩, by decide, by decide⟩]; unfold rGame; rw [if_pos (by first | with_reducible assumption | assumption)]; have q8 := gV_0 (W := (aW cr0_ inn0_ k10_)) (L := k20_) (inn := inn0_) (x := a_) 0 true (aRs (aW cr0_ inn0_ k10_) k30_ 7); have q6 := Int32.toInt_lt r_34; have q7 : r_34.toInt = gV (aW cr0_ inn0_ k10_) k20_ inn0_ a_ 0 true (aRs (aW cr0_ inn0_ k10_) k30_ 7) := h_33; exact (z_nI (m := (gV (aW cr0_ inn0_ k10_) k20_ inn0_ a_ 0 true (aRs (aW cr0_ inn0_ k10_) k30_ 7)).toNat) (by omega) (by omega)))⟩))⟩)
          · obtain rfl : n = 1 := Int32.toInt_inj.mp hnn9
            refine lv_aload hx hb dX11_game_52 (lv_at hl 1 rfl) ?_
            refine lv_iload hx hb dX11_game_54 (lv_at hl 0 rfl) ?_
            refine lv_iload_n hx hb dX11_game_56 rfl (lv_at hl 5 rfl) ?_
            refine lv_iload_n hx hb dX11_game_57 rfl (lv_at hl 6 rfl) ?_
            refine lv_iconst (v := 1) hx hb dX11_game_58 (by decide) ?_
            refine z_Si (bc := [w2_16, z0_]) (br := [z1_, wwB, wt, [zO10 xo t im mk rd po co tr wa wb_ fi cd]]) (As := [.ref wa, .int (nI (aRs (aW cr0_ inn0_ k10_) k30_ 7)), .int a_, .int 1, .int 1]) (rest := []) C G (c_f_worth1 l T wa l0 m2_17 wy2_18 pc2_19 g1_20 g2_21 f3A g4_22 g5_23 g6_24 (zMk mdA n4A (zPl cr0_ inn0_ k10_)) w2_16 cr0_ inn0_ k10_ k20_ k30_ k40_ z0_ (aRs (aW cr0_ inn0_ k10_) k30_ 7) a_ 1 h_26 hz0_ hI0_ hn9 h_29.2.2.1 hOk9 h_29 ⟨by omega, by omega, by omega⟩ htl9 hLq0) (kS_RX11_278 C.2.2.2.2 (Nat.le_of_ble_eq_true rfl) (Nat.le_of_ble_eq_true rfl)) [4, 5] [4, 0] rfl rfl rfl rfl hl.1 dX11_game_59 (Nat.le_of_ble_eq_true rfl) (by show _ + 0 ≤ 6 * (zNA (i1.toInt = 0 ∧ 0 < (fk 0).toInt ∧ 0 ≤ a_.toInt ∧ a_.toInt < cr0_.toInt ∧ a_.toInt < 7 ∧ 0 ≤ (1 : Int32).toInt ∧ (1 : Int32).toInt ≤ 3) mdA n4A (zPl cr0_ inn0_ k10_) - n4A) + 6 * (zNA (i1.toInt = 1 ∧ 1 < (fk 0).toInt ∧ 0 ≤ a_.toInt ∧ a_.toInt < cr1_.toInt ∧ a_.toInt < 7 ∧ 0 ≤ (1 : Int32).toInt ∧ (1 : Int32).toInt ≤ 3) mdB n4B (zPl cr1_ inn1_ k11_) - n4B); omega) (fun r_37 b1 H locs hw G => ?_)
            refine zAn2 hw ?_
            intro hbs9 h_36
            clear hw
            subst hbs9
            have G : zS T A s.heap s [z1_, wwB, wt, [zO10 xo t im mk rd po co tr wa wb_ fi cd], w2_16, z0_] _ _ := G
            refine lv_istore (lv' := [(8, .int r_37), (7, .int (nI (aRs (aW cr0_ inn0_ k10_) k30_ 7))), (6, .ref wa), (5, .ref l0), (0, .ref xo), (1, .int i1), (2, .int a_), (3, .int 1), (4, .int w_)]) hx hb dX11_game_62 hl (by decide) (zLvf_h rfl) (fun ls hl => ?_)
            refine lv_iload hx hb dX11_game_64 (lv_at hl 8 rfl) ?_
            refine lv_if_ne (tgt := 72) hx hb dX11_game_66 (by decide) (fun c_38 => ?_) (fun c_38 => ?_)
            · have c_38n : ¬ w_.toInt = (0 : Int) := fun q => c_38 ((fa_eq _ _).mpr q)
              refine lv_iload_n hx hb dX11_game_72 rfl (lv_at hl 7 rfl) ?_
              refine lv_if_ne (tgt := 80) hx hb dX11_game_73 (by decide) (fun _ => ?_) (fun q => absurd q (by decide))
              refine lv_aload hx hb dX11_game_80 (lv_at hl 2 rfl) ?_
              refine lv_iload hx hb dX11_game_82 (lv_at hl 1 rfl) ?_
              refine lv_iload_n hx hb dX11_game_84 rfl (lv_at hl 6 rfl) ?_
              refine lv_iload_n hx hb dX11_game_85 rfl (lv_at hl 7 rfl) ?_
              refine lv_iload hx hb dX11_game_86 (lv_at hl 0 rfl) ?_
              refine z_Si (bc := [w2_16, z0_]) (br := [z1_, wwB, wt, [zO10 xo t im mk rd po co tr wa wb_ fi cd]]) (As := [.ref wa, .int (nI (aRs (aW cr0_ inn0_ k10_) k30_ 7)), .int a_, .int 1, .int r_37]) (rest := []) C G (c_f_bestTurn1 l T wa l0 m2_17 wy2_18 pc2_19 g1_20 g2_21 f3A g4_22 g5_23 g6_24 (zMk mdA n4A (zPl cr0_ inn0_ k10_)) w2_16 cr0_ inn0_ k10_ k20_ k30_ k40_ z0_ (aRs (aW cr0_ inn0_ k10_) k30_ 7) a_ r_37 h_26 hz0_ hI0_ hn9 h_29.2.2.1 hOk9 h_29 ⟨by omega, by omega, by omega⟩ htl9 hLq0) (kS_RX11_282 C.2.2.2.2 (Nat.le_of_ble_eq_true rfl) (Nat.le_of_ble_eq_true rfl)) [4, 5] [4, 0] rfl rfl rfl rfl hl.1 dX11_game_88 (Nat.le_of_ble_eq_true rfl) (by show _ + 0 ≤ 6 * (zNA (i1.toInt = 0 ∧ 0 < (fk 0).toInt ∧ 0 ≤ a_.toInt ∧ a_.toInt < cr0_.toInt ∧ a_.toInt < 7 ∧ 0 ≤ (1 : Int32).toInt ∧ (1 : Int32).toInt ≤ 3) mdA n4A (zPl cr0_ inn0_ k10_) - n4A) + 6 * (zNA (i1.toInt = 1 ∧ 1 < (fk 0).toInt ∧ 0 ≤ a_.toInt ∧ a_.toInt < cr1_.toInt ∧ a_.toInt < 7 ∧ 0 ≤ (1 : Int32).toInt ∧ (1 : Int32).toInt ≤ 3) mdB n4B (zPl cr1_ inn1_ k11_) - n4B); omega) (fun r_40 b1 H locs hw G => ?_)
              refine zAn2 hw ?_
              intro hbs9 h_39
              clear hw
              subst hbs9
              have G : zS T A s.heap s [z1_, wwB, wt, [zO10 xo t im mk rd po co tr wa wb_ fi cd], w2_16, z0_] _ _ := G
              obtain ⟨tb9, htb1, htb2, htb3, htb4⟩ := h_39
              have G := G.sub (bs' := [[zO10 xo t im mk rd po co tr wa wb_ fi cd], wt, z0_, z1_, w2_16, wwB]) [3, 2, 5, 0, 4, 1] rfl
              exact z_back hQz_ (z_iret C hr hlocks G (Nat.le_of_ble_eq_true rfl) (by omega) dX11_game_91 ⟨l0, m2_17, wy2_18, pc2_19, g1_20, g2_21, f3A, g4_22, g5_23, g6_24, (zMk mdA n4A (zPl cr0_ inn0_ k10_)), w2_16, laB, mdB, wyB, pc_B, f1B, f2B, f3B, f4B, f5B, f6B, n4B, wwB, rfl, h_26, (Or.inr rfl), hwy9, hNAm.symm, (zMk_pw hpwA), (fun _ => h_28), (Or.inr h_29), hwwB, hmdB, hwmB, (by first | exact hNAo.symm | exact (zNA_n (by first | omega | grind)).symm), hpwB, (fun q => q), hTbB, (Or.inr (Or.inl ⟨by first | with_reducible assumption | assumption, by first | with_reducible assumption | assumption, (by unfold kGame; rw [if_pos ⟨⟨by omega, by omega⟩, by decide, by decide⟩]; unfold rGame; rw [if_neg (by first | with_reducible assumption | assumption), if_neg (by decide)]; have q8 := gIx_f (ok := gOk (aW cr0_ inn0_ k10_)) (v := (fun c => gV (aW cr0_ inn0_ k10_) k20_ inn0_ a_ 0 false (gTn (aW cr0_ inn0_ k10_) (aRs (aW cr0_ inn0_ k10_) k30_ 7) c))) (mn := true) (b := r_37.toInt) (r := tb9) (fun j _ => gV_0 0 false _) gOk_7 ((show r_37.toInt = gMm (gOk (aW cr0_ inn0_ k10_)) (fun c => gV (aW cr0_ inn0_ k10_) k20_ inn0_ a_ 0 false (gTn (aW cr0_ inn0_ k10_) (aRs (aW cr0_ inn0_ k10_) k30_ 7) c)) true 8 from h_36)).symm htb1 htb3 htb4; rw [htb2]; exact congrArg nI (show tb9 = (gIx (gOk (aW cr0_ inn0_ k10_)) (fun c => gV (aW cr0_ inn0_ k10_) k20_ inn0_ a_ 0 false (gTn (aW cr0_ inn0_ k10_) (aRs (aW cr0_ inn0_ k10_) k30_ 7) c)) true 8).toNat from by rw [q8]; rfl))⟩))⟩)
            · have c_38n : w_.toInt = (0 : Int) := (fa_eq _ _).mp c_38
              refine lv_iload hx hb dX11_game_69 (lv_at hl 0 rfl) ?_
              have G := G.sub (bs' := [[zO10 xo t im mk rd po co tr wa wb_ fi cd], wt, z0_, z1_, w2_16, wwB]) [3, 2, 5, 0, 4, 1] rfl
              exact z_back hQz_ (z_iret C hr hlocks G (Nat.le_of_ble_eq_true rfl) (by omega) dX11_game_71 ⟨l0, m2_17, wy2_18, pc2_19, g1_20, g2_21, f3A, g4_22, g5_23, g6_24, (zMk mdA n4A (zPl cr0_ inn0_ k10_)), w2_16, laB, mdB, wyB, pc_B, f1B, f2B, f3B, f4B, f5B, f6B, n4B, wwB, rfl, h_26, (Or.inr rfl), hwy9, hNAm.symm, (zMk_pw hpwA), (fun _ => h_28), (Or.inr h_29), hwwB, hmdB, hwmB, (by first | exact hNAo.symm | exact (zNA_n (by first | omega | grind)).symm), hpwB, (fun q => q), hTbB, (Or.inr (Or.inl ⟨by first | with_reducible assumption | assumption, by first | with_reducible assumption | assumption, (by unfold kGame; rw [if_pos ⟨⟨by omega, by omega⟩, by decide, by decide⟩]; unfold rGame; rw [if_pos (by first | with_reducible assumption | assumption)]; have q8 := gV_0 (W := (aW cr0_ inn0_ k10_)) (L := k20_) (inn := inn0_) (x := a_) 1 true (aRs (aW cr0_ inn0_ k10_) k30_ 7); have q6 := Int32.toInt_lt r_37; have q7 : r_37.toInt = gV (aW cr0_ inn0_ k10_) k20_ inn0_ a_ 1 true (aRs (aW cr0_ inn0_ k10_) k30_ 7) := h_36; exact (z_nI (m := (gV (aW cr0_ inn0_ k10_) k20_ inn0_ a_ 1 true (aRs (aW cr0_ inn0_ k10_) k30_ 7)).toNat) (by omega) (by omega)))⟩))⟩)
          · obtain rfl : n = 2 := Int32.toInt_inj.mp hnn9
            refine lv_aload hx hb dX11_game_52 (lv_at hl 1 rfl) ?_
            refine lv_iload hx hb dX11_game_54 (lv_at hl 0 rfl) ?_
            refine lv_iload_n hx hb dX11_game_56 rfl (lv_at hl 5 rfl) ?_
            refine lv_iload_n hx hb dX11_game_57 rfl (lv_at hl 6 rfl) ?_
            refine lv_iconst (v := 1) hx hb dX11_game_58 (by decide) ?_
            refine z_Si (bc := [w2_16, z0_]) (br := [z1_, wwB, wt, [zO10 xo t im mk rd po co tr wa wb_ fi cd]]) (As := [.ref wa, .int (nI (aRs (aW cr0_ inn0_ k10_) k30_ 7)), .int a_, .int 2, .int 1]) (rest := []) C G (c_f_worth2 l T wa l0 m2_17 wy2_18 pc2_19 g1_20 g2_21 f3A g4_22 g5_23 g6_24 (zMk mdA n4A (zPl cr0_ inn0_ k10_)) w2_16 cr0_ inn0_ k10_ k20_ k30_ k40_ z0_ (aRs (aW cr0_ inn0_ k10_) k30_ 7) a_ 1 h_26 hz0_ hI0_ hn9 h_29.2.2.1 hOk9 h_29 ⟨by omega, by omega, by omega⟩ htl9 hLq0) (kS_RX11_278 C.2.2.2.2 (Nat.le_of_ble_eq_true rfl) (Nat.le_of_ble_eq_true rfl)) [4, 5] [4, 0] rfl rfl rfl rfl hl.1 dX11_game_59 (Nat.le_of_ble_eq_true rfl) (by show _ + 0 ≤ 6 * (zNA (i1.toInt = 0 ∧ 0 < (fk 0).toInt ∧ 0 ≤ a_.toInt ∧ a_.toInt < cr0_.toInt ∧ a_.toInt < 7 ∧ 0 ≤ (2 : Int32).toInt ∧ (2 : Int32).toInt ≤ 3) mdA n4A (zPl cr0_ inn0_ k10_) - n4A) + 6 * (zNA (i1.toInt = 1 ∧ 1 < (fk 0).toInt ∧ 0 ≤ a_.toInt ∧ a_.toInt < cr1_.toInt ∧ a_.toInt < 7 ∧ 0 ≤ (2 : Int32).toInt ∧ (2 : Int32).toInt ≤ 3) mdB n4B (zPl cr1_ inn1_ k11_) - n4B); omega) (fun r_42 b1 H locs hw G => ?_)
            refine zAn2 hw ?_
            intro hbs9 h_41
            clear hw
            subst hbs9
            have G : zS T A s.heap s [z1_, wwB, wt, [zO10 xo t im mk rd po co tr wa wb_ fi cd], w2_16, z0_] _ _ := G
            refine lv_istore (lv' := [(8, .int r_42), (7, .int (nI (aRs (aW cr0_ inn0_ k10_) k30_ 7))), (6, .ref wa), (5, .ref l0), (0, .ref xo), (1, .int i1), (2, .int a_), (3, .int 2), (4, .int w_)]) hx hb dX11_game_62 hl (by decide) (zLvf_h rfl) (fun ls hl => ?_)
            refine lv_iload hx hb dX11_game_64 (lv_at hl 8 rfl) ?_
            refine lv_if_ne (tgt := 72) hx hb dX11_game_66 (by decide) (fun c_43 => ?_) (fun c_43 => ?_)
            · have c_43n : ¬ w_.toInt = (0 : Int) := fun q => c_43 ((fa_eq _ _).mpr q)
              refine lv_iload_n hx hb dX11_game_72 rfl (lv_at hl 7 rfl) ?_
              refine lv_if_ne (tgt := 80) hx hb dX11_game_73 (by decide) (fun _ => ?_) (fun q => absurd q (by decide))
              refine lv_aload hx hb dX11_game_80 (lv_at hl 2 rfl) ?_
              refine lv_iload hx hb dX11_game_82 (lv_at hl 1 rfl) ?_
              refine lv_iload_n hx hb dX11_game_84 rfl (lv_at hl 6 rfl) ?_
              refine lv_iload_n hx hb dX11_game_85 rfl (lv_at hl 7 rfl) ?_
              refine lv_iload hx hb dX11_game_86 (lv_at hl 0 rfl) ?_
              refine z_Si (bc := [w2_16, z0_]) (br := [z1_, wwB, wt, [zO10 xo t im mk rd po co tr wa wb_ fi cd]]) (As := [.ref wa, .int (nI (aRs (aW cr0_ inn0_ k10_) k30_ 7)), .int a_, .int 2, .int r_42]) (rest := []) C G (c_f_bestTurn2 l T wa l0 m2_17 wy2_18 pc2_19 g1_20 g2_21 f3A g4_22 g5_23 g6_24 (zMk mdA n4A (zPl cr0_ inn0_ k10_)) w2_16 cr0_ inn0_ k10_ k20_ k30_ k40_ z0_ (aRs (aW cr0_ inn0_ k10_) k30_ 7) a_ r_42 h_26 hz0_ hI0_ hn9 h_29.2.2.1 hOk9 h_29 ⟨by omega, by omega, by omega⟩ htl9 hLq0) (kS_RX11_282 C.2.2.2.2 (Nat.le_of_ble_eq_true rfl) (Nat.le_of_ble_eq_true rfl)) [4, 5] [4, 0] rfl rfl rfl rfl hl.1 dX11_game_88 (Nat.le_of_ble_eq_true rfl) (by show _ + 0 ≤ 6 * (zNA (i1.toInt = 0 ∧ 0 < (fk 0).toInt ∧ 0 ≤ a_.toInt ∧ a_.toInt < cr0_.toInt ∧ a_.toInt < 7 ∧ 0 ≤ (2 : Int32).toInt ∧ (2 : Int32).toInt ≤ 3) mdA n4A (zPl cr0_ inn0_ k10_) - n4A) + 6 * (zNA (i1.toInt = 1 ∧ 1 < (fk 0).toInt ∧ 0 ≤ a_.toInt ∧ a_.toInt < cr1_.toInt ∧ a_.toInt < 7 ∧ 0 ≤ (2 : Int32).toInt ∧ (2 : Int32).toInt ≤ 3) mdB n4B (zPl cr1_ inn1_ k11_) - n4B); omega) (fun r_45 b1 H locs hw G => ?_)
              refine zAn2 hw ?_
              intro hbs9 h_44
              clear hw
              subst hbs9
              have G : zS T A s.heap s [z1_, wwB, wt, [zO10 xo t im mk rd po co tr wa wb_ fi cd], w2_16, z0_] _ _ := G
              obtain ⟨tb9, htb1, htb2, htb3, htb4⟩ := h_44
              have G := G.sub (bs' := [[zO10 xo t im mk rd po co tr wa wb_ fi cd], wt, z0_, z1_, w2_16, wwB]) [3, 2, 5, 0, 4, 1] rfl
              exact z_back hQz_ (z_iret C hr hlocks G (Nat.le_of_ble_eq_true rfl) (by omega) dX11_game_91 ⟨l0, m2_17, wy2_18, pc2_19, g1_20, g2_21, f3A, g4_22, g5_23, g6_24, (zMk mdA n4A (zPl cr0_ inn0_ k10_)), w2_16, laB, mdB, wyB, pc_B, f1B, f2B, f3B, f4B, f5B, f6B, n4B, wwB, rfl, h_26, (Or.inr rfl), hwy9, hNAm.symm, (zMk_pw hpwA), (fun _ => h_28), (Or.inr h_29), hwwB, hmdB, hwmB, (by first | exact hNAo.symm | exact (zNA_n (by first | omega | grind)).symm), hpwB, (fun q => q), hTbB, (Or.inr (Or.inl ⟨by first | with_reducible assumption | assumption, by first | with_reducible assumption | assumption, (by unfold kGame; rw [if_pos ⟨⟨by omega, by omega⟩, by decide, by decide⟩]; unfold rGame; rw [if_neg (by first | with_reducible assumption | assumption), if_neg (by decide)]; have q8 := gIx_f (ok := gOk (aW cr0_ inn0_ k10_)) (v := (fun c => gV (aW cr0_ inn0_ k10_) k20_ inn0_ a_ 1 false (gTn (aW cr0_ inn0_ k10_) (aRs (aW cr0_ inn0_ k10_) k30_ 7) c))) (mn := true) (b := r_42.toInt) (r := tb9) (fun j _ => gV_0 1 false _) gOk_7 ((show r_42.toInt = gMm (gOk (aW cr0_ inn0_ k10_)) (fun c => gV (aW cr0_ inn0_ k10_) k20_ inn0_ a_ 1 false (gTn (aW cr0_ inn0_ k10_) (aRs (aW cr0_ inn0_ k10_) k30_ 7) c)) true 8 from h_41)).symm htb1 htb3 htb4; rw [htb2]; exact congrArg nI (show tb9 = (gIx (gOk (aW cr0_ inn0_ k10_)) (fun c => gV (aW cr0_ inn0_ k10_) k20_ inn0_ a_ 1 false (gTn (aW cr0_ inn0_ k10_) (aRs (aW cr0_ inn0_ k10_) k30_ 7) c)) true 8).toNat from by rw [q8]; rfl))⟩))⟩)
            · have c_43n : w_.toInt = (0 : Int) := (fa_eq _ _).mp c_43
              refine lv_iload hx hb dX11_game_69 (lv_at hl 0 rfl) ?_
              have G := G.sub (bs' := [[zO10 xo t im mk rd po co tr wa wb_ fi cd], wt, z0_, z1_, w2_16, wwB]) [3, 2, 5, 0, 4, 1] rfl
              exact z_back hQz_ (z_iret C hr hlocks G (Nat.le_of_ble_eq_true rfl) (by omega) dX11_game_71 ⟨l0, m2_17, wy2_18, pc2_19, g1_20, g2_21, f3A, g4_22, g5_23, g6_24, (zMk mdA n4A (zPl cr0_ inn0_ k10_)), w2_16, laB, mdB, wyB, pc_B, f1B, f2B, f3B, f4B, f5B, f6B, n4B, wwB, rfl, h_26, (Or.inr rfl), hwy9, hNAm.symm, (zMk_pw hpwA), (fun _ => h_28), (Or.inr h_29), hwwB, hmdB, hwmB, (by first | exact hNAo.symm | exact (zNA_n (by first | omega | grind)).symm), hpwB, (fun q => q), hTbB, (Or.inr (Or.inl ⟨by first | with_reducible assumption | assumption, by first | with_reducible assumption | assumption, (by unfold kGame; rw [if_pos ⟨⟨by omega, by omega⟩, by decide, by decide⟩]; unfold rGame; rw [if_pos (by first | with_reducible assumption | assumption)]; have q8 := gV_0 (W := (aW cr0_ inn0_ k10_)) (L := k20_) (inn := inn0_) (x := a_) 2 true (aRs (aW cr0_ inn0_ k10_) k30_ 7); have q6 := Int32.toInt_lt r_42; have q7 : r_42.toInt = gV (aW cr0_ inn0_ k10_) k20_ inn0_ a_ 2 true (aRs (aW cr0_ inn0_ k10_) k30_ 7) := h_41; exact (z_nI (m := (gV (aW cr0_ inn0_ k10_) k20_ inn0_ a_ 2 true (aRs (aW cr0_ inn0_ k10_) k30_ 7)).toNat) (by omega) (by omega)))⟩))⟩)
          · obtain rfl : n = 3 := Int32.toInt_inj.mp hnn9
            refine lv_aload hx hb dX11_game_52 (lv_at hl 1 rfl) ?_
            refine lv_iload hx hb dX11_game_54 (lv_at hl 0 rfl) ?_
            refine lv_iload_n hx hb dX11_game_56 rfl (lv_at hl 5 rfl) ?_
            refine lv_iload_n hx hb dX11_game_57 rfl (lv_at hl 6 rfl) ?_
            refine lv_iconst (v := 1) hx hb dX11_game_58 (by decide) ?_
            refine z_Si (bc := [w2_16, z0_]) (br := [z1_, wwB, wt, [zO10 xo t im mk rd po co tr wa wb_ fi cd]]) (As := [.ref wa, .int (nI (aRs (aW cr0_ inn0_ k10_) k30_ 7)), .int a_, .int 3, .int 1]) (rest := []) C G (c_f_worth3 l T wa l0 m2_17 wy2_18 pc2_19 g1_20 g2_21 f3A g4_22 g5_23 g6_24 (zMk mdA n4A (zPl cr0_ inn0_ k10_)) w2_16 cr0_ inn0_ k10_ k20_ k30_ k40_ z0_ (aRs (aW cr0_ inn0_ k10_) k30_ 7) a_ 1 h_26 hz0_ hI0_ hn9 h_29.2.2.1 hOk9 h_29 ⟨by omega, by omega, by omega⟩ htl9 hLq0) (kS_RX11_278 C.2.2.2.2 (Nat.le_of_ble_eq_true rfl) (Nat.le_of_ble_eq_true rfl)) [4, 5] [4, 0] rfl rfl rfl rfl hl.1 dX11_game_59 (Nat.le_of_ble_eq_true rfl) (by show _ + 0 ≤ 6 * (zNA (i1.toInt = 0 ∧ 0 < (fk 0).toInt ∧ 0 ≤ a_.toInt ∧ a_.toInt < cr0_.toInt ∧ a_.toInt < 7 ∧ 0 ≤ (3 : Int32).toInt ∧ (3 : Int32).toInt ≤ 3) mdA n4A (zPl cr0_ inn0_ k10_) - n4A) + 6 * (zNA (i1.toInt = 1 ∧ 1 < (fk 0).toInt ∧ 0 ≤ a_.toInt ∧ a_.toInt < cr1_.toInt ∧ a_.toInt < 7 ∧ 0 ≤ (3 : Int32).toInt ∧ (3 : Int32).toInt ≤ 3) mdB n4B (zPl cr1_ inn1_ k11_) - n4B); omega) (fun r_47 b1 H locs hw G => ?_)
            refine zAn2 hw ?_
            intro hbs9 h_46
            clear hw
            subst hbs9
            have G : zS T A s.heap s [z1_, wwB, wt, [zO10 xo t im mk rd po co tr wa wb_ fi cd], w2_16, z0_] _ _ := G
            refine lv_istore (lv' := [(8, .int r_47), (7, .int (nI (aRs (aW cr0_ inn0_ k10_) k30_ 7))), (6, .ref wa), (5, .ref l0), (0, .ref xo), (1, .int i1), (2, .int a_), (3, .int 3), (4, .int w_)]) hx hb dX11_game_62 hl (by decide) (zLvf_h rfl) (fun ls hl => ?_)
            refine lv_iload hx hb dX11_game_64 (lv_at hl 8 rfl) ?_
            refine lv_if_ne (tgt := 72) hx hb dX11_game_66 (by decide) (fun c_48 => ?_) (fun c_48 => ?_)
            · have c_48n : ¬ w_.toInt = (0 : Int) := fun q => c_48 ((fa_eq _ _).mpr q)
              refine lv_iload_n hx hb dX11_game_72 rfl (lv_at hl 7 rfl) ?_
              refine lv_if_ne (tgt := 80) hx hb dX11_game_73 (by decide) (fun _ => ?_) (fun q => absurd q (by decide))
              refine lv_aload hx hb dX11_game_80 (lv_at hl 2 rfl) ?_
              refine lv_iload hx hb dX11_game_82 (lv_at hl 1 rfl) ?_
              refine lv_iload_n hx hb dX11_game_84 rfl (lv_at hl 6 rfl) ?_
              refine lv_iload_n hx hb dX11_game_85 rfl (lv_at hl 7 rfl) ?_
              refine lv_iload hx hb dX11_game_86 (lv_at hl 0 rfl) ?_
              refine z_Si (bc := [w2_16, z0_]) (br := [z1_, wwB, wt, [zO10 xo t im mk rd po co tr wa wb_ fi cd]]) (As := [.ref wa, .int (nI (aRs (aW cr0_ inn0_ k10_) k30_ 7)), .int a_, .int 3, .int r_47]) (rest := []) C G (c_f_bestTurn3 l T wa l0 m2_17 wy2_18 pc2_19 g1_20 g2_21 f3A g4_22 g5_23 g6_24 (zMk mdA n4A (zPl cr0_ inn0_ k10_)) w2_16 cr0_ inn0_ k10_ k20_ k30_ k40_ z0_ (aRs (aW cr0_ inn0_ k10_) k30_ 7) a_ r_47 h_26 hz0_ hI0_ hn9 h_29.2.2.1 hOk9 h_29 ⟨by omega, by omega, by omega⟩ htl9 hLq0) (kS_RX11_282 C.2.2.2.2 (Nat.le_of_ble_eq_true rfl) (Nat.le_of_ble_eq_true rfl)) [4, 5] [4, 0] rfl rfl rfl rfl hl.1 dX11_game_88 (Nat.le_of_ble_eq_true rfl) (by show _ + 0 ≤ 6 * (zNA (i1.toInt = 0 ∧ 0 < (fk 0).toInt ∧ 0 ≤ a_.toInt ∧ a_.toInt < cr0_.toInt ∧ a_.toInt < 7 ∧ 0 ≤ (3 : Int32).toInt ∧ (3 : Int32).toInt ≤ 3) mdA n4A (zPl cr0_ inn0_ k10_) - n4A) + 6 * (zNA (i1.toInt = 1 ∧ 1 < (fk 0).toInt ∧ 0 ≤ a_.toInt ∧ a_.toInt < cr1_.toInt ∧ a_.toInt < 7 ∧ 0 ≤ (3 : Int32).toInt ∧ (3 : Int32).toInt ≤ 3) mdB n4B (zPl cr1_ inn1_ k11_) - n4B); omega) (fun r_50 b1 H locs hw G => ?_)
              refine zAn2 hw ?_
              intro hbs9 h_49
              clear hw
              subst hbs9
              have G : zS T A s.heap s [z1_, wwB, wt, [zO10 xo t im mk rd po co tr wa wb_ fi cd], w2_16, z0_] _ _ := G
              obtain ⟨tb9, htb1, htb2, htb3, htb4⟩ := h_49
              have G := G.sub (bs' := [[zO10 xo t im mk rd po co tr wa wb_ fi cd], wt, z0_, z1_, w2_16, wwB]) [3, 2, 5, 0, 4, 1] rfl
              exact z_back hQz_ (z_iret C hr hlocks G (Nat.le_of_ble_eq_true rfl) (by omega) dX11_game_91 ⟨l0, m2_17, wy2_18, pc2_19, g1_20, g2_21, f3A, g4_22, g5_23, g6_24, (zMk mdA n4A (zPl cr0_ inn0_ k10_)), w2_16, laB, mdB, wyB, pc_B, f1B, f2B, f3B, f4B, f5B, f6B, n4B, wwB, rfl, h_26, (Or.inr rfl), hwy9, hNAm.symm, (zMk_pw hpwA), (fun _ => h_28), (Or.inr h_29), hwwB, hmdB, hwmB, (by first | exact hNAo.symm | exact (zNA_n (by first | omega | grind)).symm), hpwB, (fun q => q), hTbB, (Or.inr (Or.inl ⟨by first | with_reducible assumption | assumption, by first | with_reducible assumption | assumption, (by unfold kGame; rw [if_pos ⟨⟨by omega, by omega⟩, by decide, by decide⟩]; unfold rGame; rw [if_neg (by first | with_reducible assumption | assumption), if_neg (by decide)]; have q8 := gIx_f (ok := gOk (aW cr0_ inn0_ k10_)) (v := (fun c => gV (aW cr0_ inn0_ k10_) k20_ inn0_ a_ 2 false (gTn (aW cr0_ inn0_ k10_) (aRs (aW cr0_ inn0_ k10_) k30_ 7) c))) (mn := true) (b := r_47.toInt) (r := tb9) (fun j _ => gV_0 2 false _) gOk_7 ((show r_47.toInt = gMm (gOk (aW cr0_ inn0_ k10_)) (fun c => gV (aW cr0_ inn0_ k10_) k20_ inn0_ a_ 2 false (gTn (aW cr0_ inn0_ k10_) (aRs (aW cr0_ inn0_ k10_) k30_ 7) c)) true 8 from h_46)).symm htb1 htb3 htb4; rw [htb2]; exact congrArg nI (show tb9 = (gIx (gOk (aW cr0_ inn0_ k10_)) (fun c => gV (aW cr0_ inn0_ k10_) k20_ inn0_ a_ 2 false (gTn (aW cr0_ inn0_ k10_) (aRs (aW cr0_ inn0_ k10_) k30_ 7) c)) true 8).toNat from by rw [q8]; rfl))⟩))⟩)
            · have c_48n : w_.toInt = (0 : Int) := (fa_eq _ _).mp c_48
              refine lv_iload hx hb dX11_game_69 (lv_at hl 0 rfl) ?_
              have G := G.sub (bs' := [[zO10 xo t im mk rd po co tr wa wb_ fi cd], wt, z0_, z1_, w2_16, wwB]) [3, 2, 5, 0, 4, 1] rfl
              exact z_back hQz_ (z_iret C hr hlocks G (Nat.le_of_ble_eq_true rfl) (by omega) dX11_game_71 ⟨l0, m2_17, wy2_18, pc2_19, g1_20, g2_21, f3A, g4_22, g5_23, g6_24, (zMk mdA n4A (zPl cr0_ inn0_ k10_)), w2_16, laB, mdB, wyB, pc_B, f1B, f2B, f3B, f4B, f5B, f6B, n4B, wwB, rfl, h_26, (Or.inr rfl), hwy9, hNAm.symm, (zMk_pw hpwA), (fun _ => h_28), (Or.inr h_29), hwwB, hmdB, hwmB, (by first | exact hNAo.symm | exact (zNA_n (by first | omega | grind)).symm), hpwB, (fun q => q), hTbB, (Or.inr (Or.inl ⟨by first | with_reducible assumption | assumption, by first | with_reducible assumption | assumption, (by unfold kGame; rw [if_pos ⟨⟨by omega, by omega⟩, by decide, by decide⟩]; unfold rGame; rw [if_pos (by first | with_reducible assumption | assumption)]; have q8 := gV_0 (W := (aW cr0_ inn0_ k10_)) (L := k20_) (inn := inn0_) (x := a_) 3 true (aRs (aW cr0_ inn0_ k10_) k30_ 7); have q6 := Int32.toInt_lt r_47; have q7 : r_47.toInt = gV (aW cr0_ inn0_ k10_) k20_ inn0_ a_ 3 true (aRs (aW cr0_ inn0_ k10_) k30_ 7) := h_46; exact (z_nI (m := (gV (aW cr0_ inn0_ k10_) k20_ inn0_ a_ 3 true (aRs (aW cr0_ inn0_ k10_) k30_ 7)).toNat) (by omega) (by omega)))⟩))⟩)
        · have c_15n : ¬ n.toInt ≤ (3 : Int) := fun q => c_15 ((fa_le _ _).mpr q)
          refine lv_bipush (v := (-9)) hx hb dX11_game_33 (by decide) ?_
          have G := G.sub (bs' := [[zO10 xo t im mk rd po co tr wa wb_ fi cd], wt, z0_, z1_, wwA, wwB]) [0, 4, 5, 1, 2, 3] rfl
          exact z_back hQz_ (z_iret C hr hlocks G (Nat.le_of_ble_eq_true rfl) (by omega) dX11_game_35 ⟨laA, mdA, wyA, pc_A, f1A, f2A, f3A, f4A, f5A, f6A, n4A, wwA, laB, mdB, wyB, pc_B, f1B, f2B, f3B, f4B, f5B, f6B, n4B, wwB, rfl, hwwA, hmdA, hwmA, (by first | exact hNAo.symm | exact (zNA_n (by first | omega | grind)).symm), hpwA, (fun q => q), hTbA, hwwB, hmdB, hwmB, (by first | exact hNAo.symm | exact (zNA_n (by first | omega | grind)).symm), hpwB, (fun q => q), hTbB, (Or.inr (Or.inl ⟨by first | with_reducible assumption | assumption, by first | with_reducible assumption | assumption, (by unfold kGame; rw [if_neg (fun q8 => by have q7 := hI0_.1; omega)])⟩))⟩)
    · have h_13 : (a_.toInt < 0 ∨ cr0_.toInt ≤ a_.toInt ∨ 7 ≤ a_.toInt) := h_13
      refine lv_if_eq (tgt := 33) hx hb dX11_game_21 (by decide) (fun _ => ?_) (fun q => absurd (by decide) q)
      refine lv_bipush (v := (-9)) hx hb dX11_game_33 (by decide) ?_
      have G := G.sub (bs' := [[zO10 xo t im mk rd po co tr wa wb_ fi cd], wt, z0_, z1_, wwA, wwB]) [0, 4, 5, 1, 2, 3] rfl
      exact z_back hQz_ (z_iret C hr hlocks G (Nat.le_of_ble_eq_true rfl) (by omega) dX11_game_35 ⟨laA, mdA, wyA, pc_A, f1A, f2A, f3A, f4A, f5A, f6A, n4A, wwA, laB, mdB, wyB, pc_B, f1B, f2B, f3B, f4B, f5B, f6B, n4B, wwB, rfl, hwwA, hmdA, hwmA, (by first | exact hNAo.symm | exact (zNA_n (by first | omega | grind)).symm), hpwA, (fun q => q), hTbA, hwwB, hmdB, hwmB, (by first | exact hNAo.symm | exact (zNA_n (by first | omega | grind)).symm), hpwB, (fun q => q), hTbB, (Or.inr (Or.inl ⟨by first | with_reducible assumption | assumption, by first | with_reducible assumption | assumption, (by unfold kGame; rw [if_neg (fun q8 => by have q7 := hI0_.1; omega)])⟩))⟩)
  · have h_6 : i1.toInt = 1 := h_6
    have h_7 : 1 < (fk 0).toInt := h_7
    refine lv_astore (lv' := [(5, .ref l1), (0, .ref xo), (1, .int i1), (2, .int a_), (3, .int n), (4, .int w_)]) hx hb dX11_game_8 hl (by decide) (zLvf_h rfl) (fun ls hl => ?_)
    refine lv_aload hx hb dX11_game_10 (lv_at hl 0 rfl) ?_
    refine lv_ifnull hx hb dX11_game_12 ?_
    refine lv_aload hx hb dX11_game_15 (lv_at hl 0 rfl) ?_
    refine lv_iload_n hx hb dX11_game_17 rfl (lv_at hl 3 rfl) ?_
    refine z_Vi (bc := [z1_]) (br := [[zO10 xo t im mk rd po co tr wa wb_ fi cd], z0_, wwA, wwB, wt]) (As := [.int a_]) (rest := []) C G (c_has l T l1 cr1_ inn1_ k11_ k21_ k31_ k41_ z1_ a_ hz1_) (kV_RX11_160 C.2.2.2.2 (Nat.le_of_ble_eq_true rfl) (Nat.le_of_ble_eq_true rfl)) [2] [2] rfl rfl (ci := 4) (qc := (RX4, TX4, 6)) rfl rfl (List.mem_flatten.mpr ⟨_, List.mem_of_getElem? (i := 0) rfl, (bLand_mem hz1_).choose_spec⟩) rfl rfl hl.1 dX11_game_18 (Nat.le_of_ble_eq_true rfl) (by show _ + 0 ≤ 6 * (zNA (i1.toInt = 0 ∧ 0 < (fk 0).toInt ∧ 0 ≤ a_.toInt ∧ a_.toInt < cr0_.toInt ∧ a_.toInt < 7 ∧ 0 ≤ n.toInt ∧ n.toInt ≤ 3) mdA n4A (zPl cr0_ inn0_ k10_) - n4A) + 6 * (zNA (i1.toInt = 1 ∧ 1 < (fk 0).toInt ∧ 0 ≤ a_.toInt ∧ a_.toInt < cr1_.toInt ∧ a_.toInt < 7 ∧ 0 ≤ n.toInt ∧ n.toInt ≤ 3) mdB n4B (zPl cr1_ inn1_ k11_) - n4B); omega) (fun r_52 b1 H locs hw G => ?_)
    refine zAn2 hw ?_
    intro hbs9 hc_51
    clear hw
    subst hbs9
    have G : zS T A s.heap s [[zO10 xo t im mk rd po co tr wa wb_ fi cd], z0_, wwA, wwB, wt, z1_] _ _ := G
    rcases hc_51 with ⟨rfl, h_53, h_54, h_55⟩ | ⟨rfl, h_56⟩
    · have h_53 : 0 ≤ a_.toInt := h_53
      have h_54 : a_.toInt < cr1_.toInt := h_54
      have h_55 : a_.toInt < 7 := h_55
      refine lv_if_eq (tgt := 33) hx hb dX11_game_21 (by decide) (fun q => absurd q (by decide)) (fun _ => ?_)
      refine lv_iload_n hx hb dX11_game_24 rfl (lv_at hl 4 rfl) ?_
      refine lv_if_lt (tgt := 33) hx hb dX11_game_25 (by decide) (fun c_57 => ?_) (fun c_57 => ?_)
      · have c_57n : n.toInt < (0 : Int) := (fa_lt _ _).mp c_57
        refine lv_bipush (v := (-9)) hx hb dX11_game_33 (by decide) ?_
        have G := G.sub (bs' := [[zO10 xo t im mk rd po co tr wa wb_ fi cd], wt, z0_, z1_, wwA, wwB]) [0, 4, 1, 5, 2, 3] rfl
        exact z_back hQz_ (z_iret C hr hlocks G (Nat.le_of_ble_eq_true rfl) (by omega) dX11_game_35 ⟨laA, mdA, wyA, pc_A, f1A, f2A, f3A, f4A, f5A, f6A, n4A, wwA, laB, mdB, wyB, pc_B, f1B, f2B, f3B, f4B, f5B, f6B, n4B, wwB, rfl, hwwA, hmdA, hwmA, (by first | exact hNAo.symm | exact (zNA_n (by first | omega | grind)).symm), hpwA, (fun q => q), hTbA, hwwB, hmdB, hwmB, (by first | exact hNAo.symm | exact (zNA_n (by first | omega | grind)).symm), hpwB, (fun q => q), hTbB, (Or.inr (Or.inr ⟨by first | with_reducible assumption | assumption, by first | with_reducible assumption | assumption, (by unfold kGame; rw [if_neg (fun q8 => by have q7 := hI1_.1; omega)])⟩))⟩)
      · have c_57n : ¬ n.toInt < (0 : Int) := fun q => c_57 ((fa_lt _ _).mpr q)
        refine lv_iload_n hx hb dX11_game_28 rfl (lv_at hl 4 rfl) ?_
        refine lv_iconst (v := 3) hx hb dX11_game_29 (by decide) ?_
        refine lv_icmp_le (tgt := 36) hx hb dX11_game_30 (by decide) (fun c_58 => ?_) (fun c_58 => ?_)
        · have c_58n : n.toInt ≤ (3 : Int) := (fa_le _ _).mp c_58
          refine lv_aload_n hx hb dX11_game_36 rfl (lv_at hl 1 rfl) ?_
          refine lv_iload_n hx hb dX11_game_37 rfl (lv_at hl 2 rfl) ?_
          refine lv_aload hx hb dX11_game_38 (lv_at hl 0 rfl) ?_
          have hNAm : zNA (i1.toInt = 1 ∧ 1 < (fk 0).toInt ∧ 0 ≤ a_.toInt ∧ a_.toInt < cr1_.toInt ∧ a_.toInt < 7 ∧ 0 ≤ n.toInt ∧ n.toInt ≤ 3) mdB n4B (zPl cr1_ inn1_ k11_) = zMk mdB n4B (zPl cr1_ inn1_ k11_) := zNA_y (by first | omega | (repeat' (first | omega | assumption | constructor)))
          have hNAo : zNA (i1.toInt = 0 ∧ 0 < (fk 0).toInt ∧ 0 ≤ a_.toInt ∧ a_.toInt < cr0_.toInt ∧ a_.toInt < 7 ∧ 0 ≤ n.toInt ∧ n.toInt ≤ 3) mdA n4A (zPl cr0_ inn0_ k10_) = n4A := zNA_n (by omega)
          have hn9 : zMk mdB n4B (zPl cr1_ inn1_ k11_) ≤ 131072 := zPw_le (zMk_pw hpwB)
          refine z_Vq (bc := [[zO10 xo t im mk rd po co tr wa wb_ fi cd], wwB, z1_]) (br := [z0_, wwA, wt]) (As := [.int i1, .ref l1]) (rest := []) C G (c_f_waysInB l T xo t im mk rd po co tr wa wb_ fi cd i1 laB mdB wyB pc_B f1B f2B f3B f4B f5B f6B n4B wwB l1 cr1_ inn1_ k11_ k21_ k31_ k41_ z1_ hwwB hz1_ hI1_ hpwB hmdB (kaOk hI1_ hLq1).1 hTbB (by omega)) (kV_RX11_235 C.2.2.2.2 (Nat.le_of_ble_eq_true rfl) (Nat.le_of_ble_eq_true rfl)) [0, 3, 5] [0, 2, 1] rfl rfl (ci := 10) (qc := (RX11, TX11, 11)) rfl rfl (List.mem_flatten.mpr ⟨_, List.mem_of_getElem? (i := 0) rfl, List.mem_cons_self⟩) rfl rfl hl.1 dX11_game_40 (Nat.le_of_ble_eq_true rfl) (by show _ + (6 * (zMk mdB n4B (zPl cr1_ inn1_ k11_) - n4B)) ≤ 6 * (zNA (i1.toInt = 0 ∧ 0 < (fk 0).toInt ∧ 0 ≤ a_.toInt ∧ a_.toInt < cr0_.toInt ∧ a_.toInt < 7 ∧ 0 ≤ n.toInt ∧ n.toInt ≤ 3) mdA n4A (zPl cr0_ inn0_ k10_) - n4A) + 6 * (zNA (i1.toInt = 1 ∧ 1 < (fk 0).toInt ∧ 0 ≤ a_.toInt ∧ a_.toInt < cr1_.toInt ∧ a_.toInt < 7 ∧ 0 ≤ n.toInt ∧ n.toInt ≤ 3) mdB n4B (zPl cr1_ inn1_ k11_) - n4B); omega) (fun r_73 b1 H locs hw G => ?_)
          refine zEx9 hw ?_
          intro w2_59 m2_60 wy2_61 pc2_62 g1_63 g2_64 g4_65 g5_66 g6_67
          refine zCu6 ?_
          intro hbs9 h_68 h_69 h_70 h_71 h_72
          clear hw
          subst hbs9
          have G : zS T A s.heap s [z0_, wwA, wt, [zO10 xo t im mk rd po co tr wa wb_ fi cd], w2_59, z1_] _ _ := G
          subst h_68
          have hwy9 : 0 ≤ wy2_61.toInt ∧ wy2_61.toInt ≤ 16384 := by have q9 := zWy_in (inn := inn1_) hI1_; rw [h_70]; exact ⟨by omega, q9.2⟩
          have hp79 : aPr (aW cr1_ inn1_ k11_) 7 ≤ 16384 := aPr_7 hI1_
          have hwN9 : wy2_61 = nI (aPr (aW cr1_ inn1_ k11_) 7) := h_70.trans (zWy_z hI1_)
          have hwT9 : wy2_61.toInt = ((aPr (aW cr1_ inn1_ k11_) 7 : Nat) : Int) := by rw [hwN9, nI_toInt (by omega)]
          have hOk9 := (kaOk (inn := inn1_) hI1_ hLq1).1
          have hc79 := hI1_.1
          refine lv_astore (lv' := [(6, .ref wb_), (5, .ref l1), (0, .ref xo), (1, .int i1), (2, .int a_), (3, .int n), (4, .int w_)]) hx hb dX11_game_43 hl (by decide) (zLvf_h rfl) (fun ls hl => ?_)
          refine lv_aload hx hb dX11_game_45 (lv_at hl 0 rfl) ?_
          refine z_Vi (bc := [w2_59, z1_]) (br := [z0_, wwA, wt, [zO10 xo t im mk rd po co tr wa wb_ fi cd]]) (As := []) (rest := []) C G (c_f_wayTold l T wb_ l1 m2_60 wy2_61 pc2_62 g1_63 g2_64 f3B g4_65 g5_66 g6_67 (zMk mdB n4B (zPl cr1_ inn1_ k11_)) w2_59 cr1_ inn1_ k11_ k21_ k31_ k41_ z1_ h_69 hz1_ hI1_ h_72.2.2.1 hOk9) (kV_RX11_242 C.2.2.2.2 (Nat.le_of_ble_eq_true rfl) (Nat.le_of_ble_eq_true rfl)) [4, 5] [4, 0] rfl rfl (ci := 0) (qc := (RX0, TX0, 10)) rfl rfl (List.mem_flatten.mpr ⟨_, List.mem_of_getElem? (i := 0) rfl, (bWays_mem h_69).choose_spec⟩) rfl rfl hl.1 dX11_game_47 (Nat.le_of_ble_eq_true rfl) (by show _ + 0 ≤ 6 * (zNA (i1.toInt = 0 ∧ 0 < (fk 0).toInt ∧ 0 ≤ a_.toInt ∧ a_.toInt < cr0_.toInt ∧ a_.toInt < 7 ∧ 0 ≤ n.toInt ∧ n.toInt ≤ 3) mdA n4A (zPl cr0_ inn0_ k10_) - n4A) + 6 * (zNA (i1.toInt = 1 ∧ 1 < (fk 0).toInt ∧ 0 ≤ a_.toInt ∧ a_.toInt < cr1_.toInt ∧ a_.toInt < 7 ∧ 0 ≤ n.toInt ∧ n.toInt ≤ 3) mdB n4B (zPl cr1_ inn1_ k11_) - n4B); omega) (fun r_75 b1 H locs hw G => ?_)
          refine zAn2 hw ?_
          intro hbs9 h_74
          clear hw
          subst hbs9
          have G : zS T A s.heap s [z0_, wwA, wt, [zO10 xo t im mk rd po co tr wa wb_ fi cd], w2_59, z1_] _ _ := G
          have htl9 : (aRs (aW cr1_ inn1_ k11_) k31_ 7) < aPr (aW cr1_ inn1_ k11_) 7 := aRs_lt hPo1 7 (Nat.le_refl _)
          obtain rfl : r_75 = nI (aRs (aW cr1_ inn1_ k11_) k31_ 7) := h_74
          refine lv_istore (lv' := [(7, .int (nI (aRs (aW cr1_ inn1_ k11_) k31_ 7))), (6, .ref wb_), (5, .ref l1), (0, .ref xo), (1, .int i1), (2, .int a_), (3, .int n), (4, .int w_)]) hx hb dX11_game_50 hl (by decide) (zLvf_h rfl) (fun ls hl => ?_)
          rcases (show n.toInt = 0 ∨ n.toInt = 1 ∨ n.toInt = 2 ∨ n.toInt = 3 from by omega) with hnn9 | hnn9 | hnn9 | hnn9
          · obtain rfl : n = 0 := Int32.toInt_inj.mp hnn9
            refine lv_aload hx hb dX11_game_52 (lv_at hl 1 rfl) ?_
            refine lv_iload hx hb dX11_game_54 (lv_at hl 0 rfl) ?_
            refine lv_iload_n hx hb dX11_game_56 rfl (lv_at hl 5 rfl) ?_
            refine lv_iload_n hx hb dX11_game_57 rfl (lv_at hl 6 rfl) ?_
            refine lv_iconst (v := 1) hx hb dX11_game_58 (by decide) ?_
            refine z_Si (bc := [w2_59, z1_]) (br := [z0_, wwA, wt, [zO10 xo t im mk rd po co tr wa wb_ fi cd]]) (As := [.ref wb_, .int (nI (aRs (aW cr1_ inn1_ k11_) k31_ 7)), .int a_, .int 0, .int 1]) (rest := []) C G (c_f_worth0 l T wb_ l1 m2_60 wy2_61 pc2_62 g1_63 g2_64 f3B g4_65 g5_66 g6_67 (zMk mdB n4B (zPl cr1_ inn1_ k11_)) w2_59 cr1_ inn1_ k11_ k21_ k31_ k41_ z1_ (aRs (aW cr1_ inn1_ k11_) k31_ 7) a_ 1 h_69 hz1_ hI1_ hn9 h_72.2.2.1 hOk9 h_72 ⟨by omega, by omega, by omega⟩ htl9 hLq1) (kS_RX11_278 C.2.2.2.2 (Nat.le_of_ble_eq_true rfl) (Nat.le_of_ble_eq_true rfl)) [4, 5] [4, 0] rfl rfl rfl rfl hl.1 dX11_game_59 (Nat.le_of_ble_eq_true rfl) (by show _ + 0 ≤ 6 * (zNA (i1.toInt = 0 ∧ 0 < (fk 0).toInt ∧ 0 ≤ a_.toInt ∧ a_.toInt < cr0_.toInt ∧ a_.toInt < 7 ∧ 0 ≤ (0 : Int32).toInt ∧ (0 : Int32).toInt ≤ 3) mdA n4A (zPl cr0_ inn0_ k10_) - n4A) + 6 * (zNA (i1.toInt = 1 ∧ 1 < (fk 0).toInt ∧ 0 ≤ a_.toInt ∧ a_.toInt < cr1_.toInt ∧ a_.toInt < 7 ∧ 0 ≤ (0 : Int32).toInt ∧ (0 : Int32).toInt ≤ 3) mdB n4B (zPl cr1_ inn1_ k11_) - n4B); omega) (fun r_77 b1 H locs hw G => ?_)
            refine zAn2 hw ?_
            intro hbs9 h_76
            clear hw
            subst hbs9
            have G : zS T A s.heap s [z0_, wwA, wt, [zO10 xo t im mk rd po co tr wa wb_ fi cd], w2_59, z1_] _ _ := G
            refine lv_istore (lv' := [(8, .int r_77), (7, .int (nI (aRs (aW cr1_ inn1_ k11_) k31_ 7))), (6, .ref wb_), (5, .ref l1), (0, .ref xo), (1, .int i1), (2, .int a_), (3, .int 0), (4, .int w_)]) hx hb dX11_game_62 hl (by decide) (zLvf_h rfl) (fun ls hl => ?_)
            refine lv_iload hx hb dX11_game_64 (lv_at hl 8 rfl) ?_
            refine lv_if_ne (tgt := 72) hx hb dX11_game_66 (by decide) (fun c_78 => ?_) (fun c_78 => ?_)
            · have c_78n : ¬ w_.toInt = (0 : Int) := fun q => c_78 ((fa_eq _ _).mpr q)
              refine lv_iload_n hx hb dX11_game_72 rfl (lv_at hl 7 rfl) ?_
              refine lv_if_ne (tgt := 80) hx hb dX11_game_73 (by decide) (fun q => absurd (by decide) q) (fun _ => ?_)
              refine lv_iconst (v := (-1)) hx hb dX11_game_76 (by decide) ?_
              refine lv_goto (tgt := 91) hx hb dX11_game_77 (by decide) ?_
              have G := G.sub (bs' := [[zO10 xo t im mk rd po co tr wa wb_ fi cd], wt, z0_, z1_, wwA, w2_59]) [3, 2, 0, 5, 1, 4] rfl
              exact z_back hQz_ (z_iret C hr hlocks G (Nat.le_of_ble_eq_true rfl) (by omega) dX11_game_91 ⟨laA, mdA, wyA, pc_A, f1A, f2A, f3A, f4A, f5A, f6A, n4A, wwA, l1, m2_60, wy2_61, pc2_62, g1_63, g2_64, f3B, g4_65, g5_66, g6_67, (zMk mdB n4B (zPl cr1_ inn1_ k11_)), w2_59, rfl, hwwA, hmdA, hwmA, (by first | exact hNAo.symm | exact (zNA_n (by first | omega | grind)).symm), hpwA, (fun q => q), hTbA, h_69, (Or.inr rfl), hwy9, hNAm.symm, (zMk_pw hpwB), (fun _ => h_71), (Or.inr h_72), (Or.inr (Or.inr ⟨by first | with_reducible assumption | assumption, by first | with_reducible assumption | assumption, (by unfold kGame; rw [if_pos ⟨⟨by omega, by omega⟩, by decide, by decide⟩]; unfold rGame; rw [if_neg (by first | with_reducible assumption | assumption), if_pos (by decide)])⟩))⟩)
            · have c_78n : w_.toInt = (0 : Int) := (fa_eq _ _).mp c_78
              refine lv_iload hx hb dX11_game_69 (lv_at hl 0 rfl) ?_
              have G := G.sub (bs' := [[zO10 xo t im mk rd po co tr wa wb_ fi cd], wt, z0_, z1_, wwA, w2_59]) [3, 2, 0, 5, 1, 4] rfl
              exact z_back hQz_ (z_iret C hr hlocks G (Nat.le_of_ble_eq_true rfl) (by omega) dX11_game_71 ⟨laA, mdA, wyA, pc_A, f1A, f2A, f3A, f4A, f5A, f6A, n4A, wwA, l1, m2_60, wy2_61, pc2_62, g1_63, g2_64, f3B, g4_65, g5_66, g6_67, (zMk mdB n4B (zPl cr1_ inn1_ k11_)), w2_59, rfl, hwwA, hmdA, hwmA, (by first | exact hNAo.symm | exact (zNA_n (by first | omega | grind)).symm), hpwA, (fun q => q), hTbA, h_69, (Or.inr rfl), hwy9, hNAm.symm, (zMk_pw hpwB), (fun _ => h_71), (Or.inr h_72), (Or.inr (Or.inr ⟨by first | with_reducible assumption | assumption, by first | with_reducible assumption | assumption, (by unfold kGame; rw [if_pos ⟨⟨by omega, by omega⟩, by decide, by decide⟩]; unfold rGame; rw [if_pos (by first | with_reducible assumption | assumption)]; have q8 := gV_0 (W := (aW cr1_ inn1_ k11_)) (L := k21_) (inn := inn1_) (x := a_) 0 true (aRs (aW cr1_ inn1_ k11_) k31_ 7); have q6 := Int32.toInt_lt r_77; have q7 : r_77.toInt = gV (aW cr1_ inn1_ k11_) k21_ inn1_ a_ 0 true (aRs (aW cr1_ inn1_ k11_) k31_ 7) := h_76; exact (z_nI (m := (gV (aW cr1_ inn1_ k11_) k21_ inn1_ a_ 0 true (aRs (aW cr1_ inn1_ k11_) k31_ 7)).toNat) (by omega) (by omega)))⟩))⟩)
          · obtain rfl : n = 1 := Int32.toInt_inj.mp hnn9
            refine lv_aload hx hb dX11_game_52 (lv_at hl 1 rfl) ?_
            refine lv_iload hx hb dX11_game_54 (lv_at hl 0 rfl) ?_
            refine lv_iload_n hx hb dX11_game_56 rfl (lv_at hl 5 rfl) ?_
            refine lv_iload_n hx hb dX11_game_57 rfl (lv_at hl 6 rfl) ?_
            refine lv_iconst (v := 1) hx hb dX11_game_58 (by decide) ?_
            refine z_Si (bc := [w2_59, z1_]) (br := [z0_, wwA, wt, [zO10 xo t im mk rd po co tr wa wb_ fi cd]]) (As := [.ref wb_, .int (nI (aRs (aW cr1_ inn1_ k11_) k31_ 7)), .int a_, .int 1, .int 1]) (rest := []) C G (c_f_worth1 l T wb_ l1 m2_60 wy2_61 pc2_62 g1_63 g2_64 f3B g4_65 g5_66 g6_67 (zMk mdB n4B (zPl cr1_ inn1_ k11_)) w2_59 cr1_ inn1_ k11_ k21_ k31_ k41_ z1_ (aRs (aW cr1_ inn1_ k11_) k31_ 7) a_ 1 h_69 hz1_ hI1_ hn9 h_72.2.2.1 hOk9 h_72 ⟨by omega, by omega, by omega⟩ htl9 hLq1) (kS_RX11_278 C.2.2.2.2 (Nat.le_of_ble_eq_true rfl) (Nat.le_of_ble_eq_true rfl)) [4, 5] [4, 0] rfl rfl rfl rfl hl.1 dX11_game_59 (Nat.le_of_ble_eq_true rfl) (by show _ + 0 ≤ 6 * (zNA (i1.toInt = 0 ∧ 0 < (fk 0).toInt ∧ 0 ≤ a_.toInt ∧ a_.toInt < cr0_.toInt ∧ a_.toInt < 7 ∧ 0 ≤ (1 : Int32).toInt ∧ (1 : Int32).toInt ≤ 3) mdA n4A (zPl cr0_ inn0_ k10_) - n4A) + 6 * (zNA (i1.toInt = 1 ∧ 1 < (fk 0).toInt ∧ 0 ≤ a_.toInt ∧ a_.toInt < cr1_.toInt ∧ a_.toInt < 7 ∧ 0 ≤ (1 : Int32).toInt ∧ (1 : Int32).toInt ≤ 3) mdB n4B (zPl cr1_ inn1_ k11_) - n4B); omega) (fun r_80 b1 H locs hw G => ?_)
            refine zAn2 hw ?_
            intro hbs9 h_79
            clear hw
            subst hbs9
            have G : zS T A s.heap s [z0_, wwA, wt, [zO10 xo t im mk rd po co tr wa wb_ fi cd], w2_59, z1_] _ _ := G
            refine lv_istore (lv' := [(8, .int r_80), (7, .int (nI (aRs (aW cr1_ inn1_ k11_) k31_ 7))), (6, .ref wb_), (5, .ref l1), (0, .ref xo), (1, .int i1), (2, .int a_), (3, .int 1), (4, .int w_)]) hx hb dX11_game_62 hl (by decide) (zLvf_h rfl) (fun ls hl => ?_)
            refine lv_iload hx hb dX11_game_64 (lv_at hl 8 rfl) ?_
            refine lv_if_ne (tgt := 72) hx hb dX11_game_66 (by decide) (fun c_81 => ?_) (fun c_81 => ?_)
            · have c_81n : ¬ w_.toInt = (0 : Int) := fun q => c_81 ((fa_eq _ _).mpr q)
              refine lv_iload_n hx hb dX11_game_72 rfl (lv_at hl 7 rfl) ?_
              refine lv_if_ne (tgt := 80) hx hb dX11_game_73 (by decide) (fun _ => ?_) (fun q => absurd q (by decide))
              refine lv_aload hx hb dX11_game_80 (lv_at hl 2 rfl) ?_
              refine lv_iload hx hb dX11_game_82 (lv_at hl 1 rfl) ?_
              refine lv_iload_n hx hb dX11_game_84 rfl (lv_at hl 6 rfl) ?_
              refine lv_iload_n hx hb dX11_game_85 rfl (lv_at hl 7 rfl) ?_
              refine lv_iload hx hb dX11_game_86 (lv_at hl 0 rfl) ?_
              refine z_Si (bc := [w2_59, z1_]) (br := [z0_, wwA, wt, [zO10 xo t im mk rd po co tr wa wb_ fi cd]]) (As := [.ref wb_, .int (nI (aRs (aW cr1_ inn1_ k11_) k31_ 7)), .int a_, .int 1, .int r_80]) (rest := []) C G (c_f_bestTurn1 l T wb_ l1 m2_60 wy2_61 pc2_62 g1_63 g2_64 f3B g4_65 g5_66 g6_67 (zMk mdB n4B (zPl cr1_ inn1_ k11_)) w2_59 cr1_ inn1_ k11_ k21_ k31_ k41_ z1_ (aRs (aW cr1_ inn1_ k11_) k31_ 7) a_ r_80 h_69 hz1_ hI1_ hn9 h_72.2.2.1 hOk9 h_72 ⟨by omega, by omega, by omega⟩ htl9 hLq1) (kS_RX11_282 C.2.2.2.2 (Nat.le_of_ble_eq_true rfl) (Nat.le_of_ble_eq_true rfl)) [4, 5] [4, 0] rfl rfl rfl rfl hl.1 dX11_game_88 (Nat.le_of_ble_eq_true rfl) (by show _ + 0 ≤ 6 * (zNA (i1.toInt = 0 ∧ 0 < (fk 0).toInt ∧ 0 ≤ a_.toInt ∧ a_.toInt < cr0_.toInt ∧ a_.toInt < 7 ∧ 0 ≤ (1 : Int32).toInt ∧ (1 : Int32).toInt ≤ 3) mdA n4A (zPl cr0_ inn0_ k10_) - n4A) + 6 * (zNA (i1.toInt = 1 ∧ 1 < (fk 0).toInt ∧ 0 ≤ a_.toInt ∧ a_.toInt < cr1_.toInt ∧ a_.toInt < 7 ∧ 0 ≤ (1 : Int32).toInt ∧ (1 : Int32).toInt ≤ 3) mdB n4B (zPl cr1_ inn1_ k11_) - n4B); omega) (fun r_83 b1 H locs hw G => ?_)
              refine zAn2 hw ?_
              intro hbs9 h_82
              clear hw
              subst hbs9
              have G : zS T A s.heap s [z0_, wwA, wt, [zO10 xo t im mk rd po co tr wa wb_ fi cd], w2_59, z1_] _ _ := G
              obtain ⟨tb9, htb1, htb2, htb3, htb4⟩ := h_82
              have G := G.sub (bs' := [[zO10 xo t im mk rd po co tr wa wb_ fi cd], wt, z0_, z1_, wwA, w2_59]) [3, 2, 0, 5, 1, 4] rfl
              exact z_back hQz_ (z_iret C hr hlocks G (Nat.le_of_ble_eq_true rfl) (by omega) dX11_game_91 ⟨laA, mdA, wyA, pc_A, f1A, f2A, f3A, f4A, f5A, f6A, n4A, wwA, l1, m2_60, wy2_61, pc2_62, g1_63, g2_64, f3B, g4_65, g5_66, g6_67, (zMk mdB n4B (zPl cr1_ inn1_ k11_)), w2_59, rfl, hwwA, hmdA, hwmA, (by first | exact hNAo.symm | exact (zNA_n (by first | omega | grind)).symm), hpwA, (fun q => q), hTbA, h_69, (Or.inr rfl), hwy9, hNAm.symm, (zMk_pw hpwB), (fun _ => h_71), (Or.inr h_72), (Or.inr (Or.inr ⟨by first | with_reducible assumption | assumption, by first | with_reducible assumption | assumption, (by unfold kGame; rw [if_pos ⟨⟨by omega, by omega⟩, by decide, by decide⟩]; unfold rGame; rw [if_neg (by first | with_reducible assumption | assumption), if_neg (by decide)]; have q8 := gIx_f (ok := gOk (aW cr1_ inn1_ k11_)) (v := (fun c => gV (aW cr1_ inn1_ k11_) k21_ inn1_ a_ 0 false (gTn (aW cr1_ inn1_ k11_) (aRs (aW cr1_ inn1_ k11_) k31_ 7) c))) (mn := true) (b := r_80.toInt) (r := tb9) (fun j _ => gV_0 0 false _) gOk_7 ((show r_80.toInt = gMm (gOk (aW cr1_ inn1_ k11_)) (fun c => gV (aW cr1_ inn1_ k11_) k21_ inn1_ a_ 0 false (gTn (aW cr1_ inn1_ k11_) (aRs (aW cr1_ inn1_ k11_) k31_ 7) c)) true 8 from h_79)).symm htb1 htb3 htb4; rw [htb2]; exact congrArg nI (show tb9 = (gIx (gOk (aW cr1_ inn1_ k11_)) (fun c => gV (aW cr1_ inn1_ k11_) k21_ inn1_ a_ 0 false (gTn (aW cr1_ inn1_ k11_) (aRs (aW cr1_ inn1_ k11_) k31_ 7) c)) true 8).toNat from by rw [q8]; rfl))⟩))⟩)
            · have c_81n : w_.toInt = (0 : Int) := (fa_eq _ _).mp c_81
              refine lv_iload hx hb dX11_game_69 (lv_at hl 0 rfl) ?_
              have G := G.sub (bs' := [[zO10 xo t im mk rd po co tr wa wb_ fi cd], wt, z0_, z1_, wwA, w2_59]) [3, 2, 0, 5, 1, 4] rfl
              exact z_back hQz_ (z_iret C hr hlocks G (Nat.le_of_ble_eq_true rfl) (by omega) dX11_game_71 ⟨laA, mdA, wyA, pc_A, f1A, f2A, f3A, f4A, f5A, f6A, n4A, wwA, l1, m2_60, wy2_61, pc2_62, g1_63, g2_64, f3B, g4_65, g5_66, g6_67, (zMk mdB n4B (zPl cr1_ inn1_ k11_)), w2_59, rfl, hwwA, hmdA, hwmA, (by first | exact hNAo.symm | exact (zNA_n (by first | omega | grind)).symm), hpwA, (fun q => q), hTbA, h_69, (Or.inr rfl), hwy9, hNAm.symm, (zMk_pw hpwB), (fun _ => h_71), (Or.inr h_72), (Or.inr (Or.inr ⟨by first | with_reducible assumption | assumption, by first | with_reducible assumption | assumption, (by unfold kGame; rw [if_pos ⟨⟨by omega, by omega⟩, by decide, by decide⟩]; unfold rGame; rw [if_pos (by first | with_reducible assumption | assumption)]; have q8 := gV_0 (W := (aW cr1_ inn1_ k11_)) (L := k21_) (inn := inn1_) (x := a_) 1 true (aRs (aW cr1_ inn1_ k11_) k31_ 7); have q6 := Int32.toInt_lt r_80; have q7 : r_80.toInt = gV (aW cr1_ inn1_ k11_) k21_ inn1_ a_ 1 true (aRs (aW cr1_ inn1_ k11_) k31_ 7) := h_79; exact (z_nI (m := (gV (aW cr1_ inn1_ k11_) k21_ inn1_ a_ 1 true (aRs (aW cr1_ inn1_ k11_) k31_ 7)).toNat) (by omega) (by omega)))⟩))⟩)
          · obtain rfl : n = 2 := Int32.toInt_inj.mp hnn9
            refine lv_aload hx hb dX11_game_52 (lv_at hl 1 rfl) ?_
            refine lv_iload hx hb dX11_game_54 (lv_at hl 0 rfl) ?_
            refine lv_iload_n hx hb dX11_game_56 rfl (lv_at hl 5 rfl) ?_
            refine lv_iload_n hx hb dX11_game_57 rfl (lv_at hl 6 rfl) ?_
            refine lv_iconst (v := 1) hx hb dX11_game_58 (by decide) ?_
            refine z_Si (bc := [w2_59, z1_]) (br := [z0_, wwA, wt, [zO10 xo t im mk rd po co tr wa wb_ fi cd]]) (As := [.ref wb_, .int (nI (aRs (aW cr1_ inn1_ k11_) k31_ 7)), .int a_, .int 2, .int 1]) (rest := []) C G (c_f_worth2 l T wb_ l1 m2_60 wy2_61 pc2_62 g1_63 g2_64 f3B g4_65 g5_66 g6_67 (zMk mdB n4B (zPl cr1_ inn1_ k11_)) w2_59 cr1_ inn1_ k11_ k21_ k31_ k41_ z1_ (aRs (aW cr1_ inn1_ k11_) k31_ 7) a_ 1 h_69 hz1_ hI1_ hn9 h_72.2.2.1 hOk9 h_72 ⟨by omega, by omega, by omega⟩ htl9 hLq1) (kS_RX11_278 C.2.2.2.2 (Nat.le_of_ble_eq_true rfl) (Nat.le_of_ble_eq_true rfl)) [4, 5] [4, 0] rfl rfl rfl rfl hl.1 dX11_game_59 (Nat.le_of_ble_eq_true rfl) (by show _ + 0 ≤ 6 * (zNA (i1.toInt = 0 ∧ 0 < (fk 0).toInt ∧ 0 ≤ a_.toInt ∧ a_.toInt < cr0_.toInt ∧ a_.toInt < 7 ∧ 0 ≤ (2 : Int32).toInt ∧ (2 : Int32).toInt ≤ 3) mdA n4A (zPl cr0_ inn0_ k10_) - n4A) + 6 * (zNA (i1.toInt = 1 ∧ 1 < (fk 0).toInt ∧ 0 ≤ a_.toInt ∧ a_.toInt < cr1_.toInt ∧ a_.toInt < 7 ∧ 0 ≤ (2 : Int32).toInt ∧ (2 : Int32).toInt ≤ 3) mdB n4B (zPl cr1_ inn1_ k11_) - n4B); omega) (fun r_85 b1 H locs hw G => ?_)
            refine zAn2 hw ?_
            intro hbs9 h_84
            clear hw
            subst hbs9
            have G : zS T A s.heap s [z0_, wwA, wt, [zO10 xo t im mk rd po co tr wa wb_ fi cd], w2_59, z1_] _ _ := G
            refine lv_istore (lv' := [(8, .int r_85), (7, .int (nI (aRs (aW cr1_ inn1_ k11_) k31_ 7))), (6, .ref wb_), (5, .ref l1), (0, .ref xo), (1, .int i1), (2, .int a_), (3, .int 2), (4, .int w_)]) hx hb dX11_game_62 hl (by decide) (zLvf_h rfl) (fun ls hl => ?_)
            refine lv_iload hx hb dX11_game_64 (lv_at hl 8 rfl) ?_
            refine lv_if_ne (tgt := 72) hx hb dX11_game_66 (by decide) (fun c_86 => ?_) (fun c_86 => ?_)
            · have c_86n : ¬ w_.toInt = (0 : Int) := fun q => c_86 ((fa_eq _ _).mpr q)
              refine lv_iload_n hx hb dX11_game_72 rfl (lv_at hl 7 rfl) ?_
              refine lv_if_ne (tgt := 80) hx hb dX11_game_73 (by decide) (fun _ => ?_) (fun q => absurd q (by decide))
              refine lv_aload hx hb dX11_game_80 (lv_at hl 2 rfl) ?_
              refine lv_iload hx hb dX11_game_82 (lv_at hl 1 rfl) ?_
              refine lv_iload_n hx hb dX11_game_84 rfl (lv_at hl 6 rfl) ?_
              refine lv_iload_n hx hb dX11_game_85 rfl (lv_at hl 7 rfl) ?_
              refine lv_iload hx hb dX11_game_86 (lv_at hl 0 rfl) ?_
              refine z_Si (bc := [w2_59, z1_]) (br := [z0_, wwA, wt, [zO10 xo t im mk rd po co tr wa wb_ fi cd]]) (As := [.ref wb_, .int (nI (aRs (aW cr1_ inn1_ k11_) k31_ 7)), .int a_, .int 2, .int r_85]) (rest := []) C G (c_f_bestTurn2 l T wb_ l1 m2_60 wy2_61 pc2_62 g1_63 g2_64 f3B g4_65 g5_66 g6_67 (zMk mdB n4B (zPl cr1_ inn1_ k11_)) w2_59 cr1_ inn1_ k11_ k21_ k31_ k41_ z1_ (aRs (aW cr1_ inn1_ k11_) k31_ 7) a_ r_85 h_69 hz1_ hI1_ hn9 h_72.2.2.1 hOk9 h_72 ⟨by omega, by omega, by omega⟩ htl9 hLq1) (kS_RX11_282 C.2.2.2.2 (Nat.le_of_ble_eq_true rfl) (Nat.le_of_ble_eq_true rfl)) [4, 5] [4, 0] rfl rfl rfl rfl hl.1 dX11_game_88 (Nat.le_of_ble_eq_true rfl) (by show _ + 0 ≤ 6 * (zNA (i1.toInt = 0 ∧ 0 < (fk 0).toInt ∧ 0 ≤ a_.toInt ∧ a_.toInt < cr0_.toInt ∧ a_.toInt < 7 ∧ 0 ≤ (2 : Int32).toInt ∧ (2 : Int32).toInt ≤ 3) mdA n4A (zPl cr0_ inn0_ k10_) - n4A) + 6 * (zNA (i1.toInt = 1 ∧ 1 < (fk 0).toInt ∧ 0 ≤ a_.toInt ∧ a_.toInt < cr1_.toInt ∧ a_.toInt < 7 ∧ 0 ≤ (2 : Int32).toInt ∧ (2 : Int32).toInt ≤ 3) mdB n4B (zPl cr1_ inn1_ k11_) - n4B); omega) (fun r_88 b1 H locs hw G => ?_)
              refine zAn2 hw ?_
              intro hbs9 h_87
              clear hw
              subst hbs9
              have G : zS T A s.heap s [z0_, wwA, wt, [zO10 xo t im mk rd po co tr wa wb_ fi cd], w2_59, z1_] _ _ := G
              obtain ⟨tb9, htb1, htb2, htb3, htb4⟩ := h_87
              have G := G.sub (bs' := [[zO10 xo t im mk rd po co tr wa wb_ fi cd], wt, z0_, z1_, wwA, w2_59]) [3, 2, 0, 5, 1, 4] rfl
              exact z_back hQz_ (z_iret C hr hlocks G (Nat.le_of_ble_eq_true rfl) (by omega) dX11_game_91 ⟨laA, mdA, wyA, pc_A, f1A, f2A, f3A, f4A, f5A, f6A, n4A, wwA, l1, m2_60, wy2_61, pc2_62, g1_63, g2_64, f3B, g4_65, g5_66, g6_67, (zMk mdB n4B (zPl cr1_ inn1_ k11_)), w2_59, rfl, hwwA, hmdA, hwmA, (by first | exact hNAo.symm | exact (zNA_n (by first | omega | grind)).symm), hpwA, (fun q => q), hTbA, h_69, (Or.inr rfl), hwy9, hNAm.symm, (zMk_pw hpwB), (fun _ => h_71), (Or.inr h_72), (Or.inr (Or.inr ⟨by first | with_reducible assumption | assumption, by first | with_reducible assumption | assumption, (by unfold kGame; rw [if_pos ⟨⟨by omega, by omega⟩, by decide, by decide⟩]; unfold rGame; rw [if_neg (by first | with_reducible assumption | assumption), if_neg (by decide)]; have q8 := gIx_f (ok := gOk (aW cr1_ inn1_ k11_)) (v := (fun c => gV (aW cr1_ inn1_ k11_) k21_ inn1_ a_ 1 false (gTn (aW cr1_ inn1_ k11_) (aRs (aW cr1_ inn1_ k11_) k31_ 7) c))) (mn := true) (b := r_85.toInt) (r := tb9) (fun j _ => gV_0 1 false _) gOk_7 ((show r_85.toInt = gMm (gOk (aW cr1_ inn1_ k11_)) (fun c => gV (aW cr1_ inn1_ k11_) k21_ inn1_ a_ 1 false (gTn (aW cr1_ inn1_ k11_) (aRs (aW cr1_ inn1_ k11_) k31_ 7) c)) true 8 from h_84)).symm htb1 htb3 htb4; rw [htb2]; exact congrArg nI (show tb9 = (gIx (gOk (aW cr1_ inn1_ k11_)) (fun c => gV (aW cr1_ inn1_ k11_) k21_ inn1_ a_ 1 false (gTn (aW cr1_ inn1_ k11_) (aRs (aW cr1_ inn1_ k11_) k31_ 7) c)) true 8).toNat from by rw [q8]; rfl))⟩))⟩)
            · have c_86n : w_.toInt = (0 : Int) := (fa_eq _ _).mp c_86
              refine lv_iload hx hb dX11_game_69 (lv_at hl 0 rfl) ?_
              have G := G.sub (bs' := [[zO10 xo t im mk rd po co tr wa wb_ fi cd], wt, z0_, z1_, wwA, w2_59]) [3, 2, 0, 5, 1, 4] rfl
              exact z_back hQz_ (z_iret C hr hlocks G (Nat.le_of_ble_eq_true rfl) (by omega) dX11_game_71 ⟨laA, mdA, wyA, pc_A, f1A, f2A, f3A, f4A, f5A, f6A, n4A, wwA, l1, m2_60, wy2_61, pc2_62, g1_63, g2_64, f3B, g4_65, g5_66, g6_67, (zMk mdB n4B (zPl cr1_ inn1_ k11_)), w2_59, rfl, hwwA, hmdA, hwmA, (by first | exact hNAo.symm | exact (zNA_n (by first | omega | grind)).symm), hpwA, (fun q => q), hTbA, h_69, (Or.inr rfl), hwy9, hNAm.symm, (zMk_pw hpwB), (fun _ => h_71), (Or.inr h_72), (Or.inr (Or.inr ⟨by first | with_reducible assumption | assumption, by first | with_reducible assumption | assumption, (by unfold kGame; rw [if_pos ⟨⟨by omega, by omega⟩, by decide, by decide⟩]; unfold rGame; rw [if_pos (by first | with_reducible assumption | assumption)]; have q8 := gV_0 (W := (aW cr1_ inn1_ k11_)) (L := k21_) (inn := inn1_) (x := a_) 2 true (aRs (aW cr1_ inn1_ k11_) k31_ 7); have q6 := Int32.toInt_lt r_85; have q7 : r_85.toInt = gV (aW cr1_ inn1_ k11_) k21_ inn1_ a_ 2 true (aRs (aW cr1_ inn1_ k11_) k31_ 7) := h_84; exact (z_nI (m := (gV (aW cr1_ inn1_ k11_) k21_ inn1_ a_ 2 true (aRs (aW cr1_ inn1_ k11_) k31_ 7)).toNat) (by omega) (by omega)))⟩))⟩)
          · obtain rfl : n = 3 := Int32.toInt_inj.mp hnn9
            refine lv_aload hx hb dX11_game_52 (lv_at hl 1 rfl) ?_
            refine lv_iload hx hb dX11_game_54 (lv_at hl 0 rfl) ?_
            refine lv_iload_n hx hb dX11_game_56 rfl (lv_at hl 5 rfl) ?_
            refine lv_iload_n hx hb dX11_game_57 rfl (lv_at hl 6 rfl) ?_
            refine lv_iconst (v := 1) hx hb dX11_game_58 (by decide) ?_
            refine z_Si (bc := [w2_59, z1_]) (br := [z0_, wwA, wt, [zO10 xo t im mk rd po co tr wa wb_ fi cd]]) (As := [.ref wb_, .int (nI (aRs (aW cr1_ inn1_ k11_) k31_ 7)), .int a_, .int 3, .int 1]) (rest := []) C G (c_f_worth3 l T wb_ l1 m2_60 wy2_61 pc2_62 g1_63 g2_64 f3B g4_65 g5_66 g6_67 (zMk mdB n4B (zPl cr1_ inn1_ k11_)) w2_59 cr1_ inn1_ k11_ k21_ k31_ k41_ z1_ (aRs (aW cr1_ inn1_ k11_) k31_ 7) a_ 1 h_69 hz1_ hI1_ hn9 h_72.2.2.1 hOk9 h_72 ⟨by omega, by omega, by omega⟩ htl9 hLq1) (kS_RX11_278 C.2.2.2.2 (Nat.le_of_ble_eq_true rfl) (Nat.le_of_ble_eq_true rfl)) [4, 5] [4, 0] rfl rfl rfl rfl hl.1 dX11_game_59 (Nat.le_of_ble_eq_true rfl) (by show _ + 0 ≤ 6 * (zNA (i1.toInt = 0 ∧ 0 < (fk 0).toInt ∧ 0 ≤ a_.toInt ∧ a_.toInt < cr0_.toInt ∧ a_.toInt < 7 ∧ 0 ≤ (3 : Int32).toInt ∧ (3 : Int32).toInt ≤ 3) mdA n4A (zPl cr0_ inn0_ k10_) - n4A) + 6 * (zNA (i1.toInt = 1 ∧ 1 < (fk 0).toInt ∧ 0 ≤ a_.toInt ∧ a_.toInt < cr1_.toInt ∧ a_.toInt < 7 ∧ 0 ≤ (3 : Int32).toInt ∧ (3 : Int32).toInt ≤ 3) mdB n4B (zPl cr1_ inn1_ k11_) - n4B); omega) (fun r_90 b1 H locs hw G => ?_)
            refine zAn2 hw ?_
            intro hbs9 h_89
            clear hw
            subst hbs9
            have G : zS T A s.heap s [z0_, wwA, wt, [zO10 xo t im mk rd po co tr wa wb_ fi cd], w2_59, z1_] _ _ := G
            refine lv_istore (lv' := [(8, .int r_90), (7, .int (nI (aRs (aW cr1_ inn1_ k11_) k31_ 7))), (6, .ref wb_), (5, .ref l1), (0, .ref xo), (1, .int i1), (2, .int a_), (3, .int 3), (4, .int w_)]) hx hb dX11_game_62 hl (by decide) (zLvf_h rfl) (fun ls hl => ?_)
            refine lv_iload hx hb dX11_game_64 (lv_at hl 8 rfl) ?_
            refine lv_if_ne (tgt := 72) hx hb dX11_game_66 (by decide) (fun c_91 => ?_) (fun c_91 => ?_)
            · have c_91n : ¬ w_.toInt = (0 : Int) := fun q => c_91 ((fa_eq _ _).mpr q)
              refine lv_iload_n hx hb dX11_game_72 rfl (lv_at hl 7 rfl) ?_
              refine lv_if_ne (tgt := 80) hx hb dX11_game_73 (by decide) (fun _ => ?_) (fun q => absurd q (by decide))
              refine lv_aload hx hb dX11_game_80 (lv_at hl 2 rfl) ?_
              refine lv_iload hx hb dX11_game_82 (lv_at hl 1 rfl) ?_
              refine lv_iload_n hx hb dX11_game_84 rfl (lv_at hl 6 rfl) ?_
              refine lv_iload_n hx hb dX11_game_85 rfl (lv_at hl 7 rfl) ?_
              refine lv_iload hx hb dX11_game_86 (lv_at hl 0 rfl) ?_
              refine z_Si (bc := [w2_59, z1_]) (br := [z0_, wwA, wt, [zO10 xo t im mk rd po co tr wa wb_ fi cd]]) (As := [.ref wb_, .int (nI (aRs (aW cr1_ inn1_ k11_) k31_ 7)), .int a_, .int 3, .int r_90]) (rest := []) C G (c_f_bestTurn3 l T wb_ l1 m2_60 wy2_61 pc2_62 g1_63 g2_64 f3B g4_65 g5_66 g6_67 (zMk mdB n4B (zPl cr1_ inn1_ k11_)) w2_59 cr1_ inn1_ k11_ k21_ k31_ k41_ z1_ (aRs (aW cr1_ inn1_ k11_) k31_ 7) a_ r_90 h_69 hz1_ hI1_ hn9 h_72.2.2.1 hOk9 h_72 ⟨by omega, by omega, by omega⟩ htl9 hLq1) (kS_RX11_282 C.2.2.2.2 (Nat.le_of_ble_eq_true rfl) (Nat.le_of_ble_eq_true rfl)) [4, 5] [4, 0] rfl rfl rfl rfl hl.1 dX11_game_88 (Nat.le_of_ble_eq_true rfl) (by show _ + 0 ≤ 6 * (zNA (i1.toInt = 0 ∧ 0 < (fk 0).toInt ∧ 0 ≤ a_.toInt ∧ a_.toInt < cr0_.toInt ∧ a_.toInt < 7 ∧ 0 ≤ (3 : Int32).toInt ∧ (3 : Int32).toInt ≤ 3) mdA n4A (zPl cr0_ inn0_ k10_) - n4A) + 6 * (zNA (i1.toInt = 1 ∧ 1 < (fk 0).toInt ∧ 0 ≤ a_.toInt ∧ a_.toInt < cr1_.toInt ∧ a_.toInt < 7 ∧ 0 ≤ (3 : Int32).toInt ∧ (3 : Int32).toInt ≤ 3) mdB n4B (zPl cr1_ inn1_ k11_) - n4B); omega) (fun r_93 b1 H locs hw G => ?_)
              refine zAn2 hw ?_
              intro hbs9 h_92
              clear hw
              subst hbs9
              have G : zS T A s.heap s [z0_, wwA, wt, [zO10 xo t im mk rd po co tr wa wb_ fi cd], w2_59, z1_] _ _ := G
              obtain ⟨tb9, htb1, htb2, htb3, htb4⟩ := h_92
              have G := G.sub (bs' := [[zO10 xo t im mk rd po co tr wa wb_ fi cd], wt, z0_, z1_, wwA, w2_59]) [3, 2, 0, 5, 1, 4] rfl
              exact z_back hQz_ (z_iret C hr hlocks G (Nat.le_of_ble_eq_true rfl) (by omega) dX11_game_91 ⟨laA, mdA, wyA, pc_A, f1A, f2A, f3A, f4A, f5A, f6A, n4A, wwA, l1, m2_60, wy2_61, pc2_62, g1_63, g2_64, f3B, g4_65, g5_66, g6_67, (zMk mdB n4B (zPl cr1_ inn1_ k11_)), w2_59, rfl, hwwA, hmdA, hwmA, (by first | exact hNAo.symm | exact (zNA_n (by first | omega | grind)).symm), hpwA, (fun q => q), hTbA, h_69, (Or.inr rfl), hwy9, hNAm.symm, (zMk_pw hpwB), (fun _ => h_71), (Or.inr h_72), (Or.inr (Or.inr ⟨by first | with_reducible assumption | assumption, by first | with_reducible assumption | assumption, (by unfold kGame; rw [if_pos ⟨⟨by omega, by omega⟩, by decide, by decide⟩]; unfold rGame; rw [if_neg (by first | with_reducible assumption | assumption), if_neg (by decide)]; have q8 := gIx_f (ok := gOk (aW cr1_ inn1_ k11_)) (v := (fun c => gV (aW cr1_ inn1_ k11_) k21_ inn1_ a_ 2 false (gTn (aW cr1_ inn1_ k11_) (aRs (aW cr1_ inn1_ k11_) k31_ 7) c))) (mn := true) (b := r_90.toInt) (r := tb9) (fun j _ => gV_0 2 false _) gOk_7 ((show r_90.toInt = gMm (gOk (aW cr1_ inn1_ k11_)) (fun c => gV (aW cr1_ inn1_ k11_) k21_ inn1_ a_ 2 false (gTn (aW cr1_ inn1_ k11_) (aRs (aW cr1_ inn1_ k11_) k31_ 7) c)) true 8 from h_89)).symm htb1 htb3 htb4; rw [htb2]; exact congrArg nI (show tb9 = (gIx (gOk (aW cr1_ inn1_ k11_)) (fun c => gV (aW cr1_ inn1_ k11_) k21_ inn1_ a_ 2 false (gTn (aW cr1_ inn1_ k11_) (aRs (aW cr1_ inn1_ k11_) k31_ 7) c)) true 8).toNat from by rw [q8]; rfl))⟩))⟩)
            · have c_91n : w_.toInt = (0 : Int) := (fa_eq _ _).mp c_91
              refine lv_iload hx hb dX11_game_69 (lv_at hl 0 rfl) ?_
              have G := G.sub (bs' := [[zO10 xo t im mk rd po co tr wa wb_ fi cd], wt, z0_, z1_, wwA, w2_59]) [3, 2, 0, 5, 1, 4] rfl
              exact z_back hQz_ (z_iret C hr hlocks G (Nat.le_of_ble_eq_true rfl) (by omega) dX11_game_71 ⟨laA, mdA, wyA, pc_A, f1A, f2A, f3A, f4A, f5A, f6A, n4A, wwA, l1, m2_60, wy2_61, pc2_62, g1_63, g2_64, f3B, g4_65, g5_66, g6_67, (zMk mdB n4B (zPl cr1_ inn1_ k11_)), w2_59, rfl, hwwA, hmdA, hwmA, (by first | exact hNAo.symm | exact (zNA_n (by first | omega | grind)).symm), hpwA, (fun q => q), hTbA, h_69, (Or.inr rfl), hwy9, hNAm.symm, (zMk_pw hpwB), (fun _ => h_71), (Or.inr h_72), (Or.inr (Or.inr ⟨by first | with_reducible assumption | assumption, by first | with_reducible assumption | assumption, (by unfold kGame; rw [if_pos ⟨⟨by omega, by omega⟩, by decide, by decide⟩]; unfold rGame; rw [if_pos (by first | with_reducible assumption | assumption)]; have q8 := gV_0 (W := (aW cr1_ inn1_ k11_)) (L := k21_) (inn := inn1_) (x := a_) 3 true (aRs (aW cr1_ inn1_ k11_) k31_ 7); have q6 := Int32.toInt_lt r_90; have q7 : r_90.toInt = gV (aW cr1_ inn1_ k11_) k21_ inn1_ a_ 3 true (aRs (aW cr1_ inn1_ k11_) k31_ 7) := h_89; exact (z_nI (m := (gV (aW cr1_ inn1_ k11_) k21_ inn1_ a_ 3 true (aRs (aW cr1_ inn1_ k11_) k31_ 7)).toNat) (by omega) (by omega)))⟩))⟩)
        · have c_58n : ¬ n.toInt ≤ (3 : Int) := fun q => c_58 ((fa_le _ _).mpr q)
          refine lv_bipush (v := (-9)) hx hb dX11_game_33 (by decide) ?_
          have G := G.sub (bs' := [[zO10 xo t im mk rd po co tr wa wb_ fi cd], wt, z0_, z1_, wwA, wwB]) [0, 4, 1, 5, 2, 3] rfl
          exact z_back hQz_ (z_iret C hr hlocks G (Nat.le_of_ble_eq_true rfl) (by omega) dX11_game_35 ⟨laA, mdA, wyA, pc_A, f1A, f2A, f3A, f4A, f5A, f6A, n4A, wwA, laB, mdB, wyB, pc_B, f1B, f2B, f3B, f4B, f5B, f6B, n4B, wwB, rfl, hwwA, hmdA, hwmA, (by first | exact hNAo.symm | exact (zNA_n (by first | omega | grind)).symm), hpwA, (fun q => q), hTbA, hwwB, hmdB, hwmB, (by first | exact hNAo.symm | exact (zNA_n (by first | omega | grind)).symm), hpwB, (fun q => q), hTbB, (Or.inr (Or.inr ⟨by first | with_reducible assumption | assumption, by first | with_reducible assumption | assumption, (by unfold kGame; rw [if_neg (fun q8 => by have q7 := hI1_.1; omega)])⟩))⟩)
    · have h_56 : (a_.toInt < 0 ∨ cr1_.toInt ≤ a_.toInt ∨ 7 ≤ a_.toInt) := h_56
      refine lv_if_eq (tgt := 33) hx hb dX11_game_21 (by decide) (fun _ => ?_) (fun q => absurd (by decide) q)
      refine lv_bipush (v := (-9)) hx hb dX11_game_33 (by decide) ?_
      have G := G.sub (bs' := [[zO10 xo t im mk rd po co tr wa wb_ fi cd], wt, z0_, z1_, wwA, wwB]) [0, 4, 1, 5, 2, 3] rfl
      exact z_back hQz_ (z_iret C hr hlocks G (Nat.le_of_ble_eq_true rfl) (by omega) dX11_game_35 ⟨laA, mdA, wyA, pc_A, f1A, f2A, f3A, f4A, f5A, f6A, n4A, wwA, laB, mdB, wyB, pc_B, f1B, f2B, f3B, f4B, f5B, f6B, n4B, wwB, rfl, hwwA, hmdA, hwmA, (by first | exact hNAo.symm | exact (zNA_n (by first | omega | grind)).symm), hpwA, (fun q => q), hTbA, hwwB, hmdB, hwmB, (by first | exact hNAo.symm | exact (zNA_n (by first | omega | grind)).symm), hpwB, (fun q => q), hTbB, (Or.inr (Or.inr ⟨by first | with_reducible assumption | assumption, by first | with_reducible assumption | assumption, (by unfold kGame; rw [if_neg (fun q8 => by have q7 := hI1_.1; omega)])⟩))⟩)


/-- the greatest crowd at a crossing that is no inn -/ 
def zCw (inn : Int32) (H : Nat → Int32) (cw : Int32) : Nat → Int32
  | 0 => cw
  | i + 1 => if zBit inn (nI i) = 1 then zCw inn H cw i else (if zCw inn H cw i < H i then H i else zCw inn H cw i)
theorem zCw_cg {inn cw : Int32} {H H' : Nat → Int32} (h : ∀ j, j < 7 → H j = H' j) : ∀ i, i ≤ 7 → zCw inn H cw i = zCw inn H' cw i
  | 0, _ => rfl
  | i + 1, hi => by
    show (if zBit inn (nI i) = 1 then zCw inn H cw i else (if zCw inn H cw i < H i then H i else zCw inn H cw i)) = (if zBit inn (nI i) = 1 then zCw inn H' cw i else (if zCw inn H' cw i < H' i then H' i else zCw inn H' cw i))
    rw [zCw_cg h i (by omega), h i (by omega)]
theorem zCw_i {inn cw u : Int32} {H : Nat → Int32} {i : Nat} (h : u = zCw inn H cw i) (q : zBit inn (nI i) = 1) : u = zCw inn H cw (i + 1) := by
  show u = (if zBit inn (nI i) = 1 then zCw inn H cw i else (if zCw inn H cw i < H i then H i else zCw inn H cw i))
  rw [if_pos q]
  exact h
theorem zCw_n {inn cw u : Int32} {H : Nat → Int32} {i : Nat} (h : u = zCw inn H cw i) (q : ¬ zBit inn (nI i) = 1) : (if u < H i then H i else u) = zCw inn H cw (i + 1) := by
  show _ = (if zBit inn (nI i) = 1 then zCw inn H cw i else (if zCw inn H cw i < H i then H i else zCw inn H cw i))
  rw [if_neg q, h]
/-- who came first, the longest run, how many moved, the crowd -/
abbrev zXs : Type := Int32 × Int32 × Int32 × Int32
def zXt (W L : Nat → Int32) (d x : Int32) (D : zK) : Int32 := if d.toInt = 0 then zStep D.1 D.2.1 W L x else (zRunN D.2.1 W L 499 D.1 x 0).2.1
def zXf (inn fc k x t : Int32) : Int32 := if fc.toInt = -1 ∧ zBit inn t = 1 ∧ ¬ zBit inn x = 1 then k else fc
def zXm (mv x t : Int32) : Int32 := if x = t then mv else mv + 1
def zXl (lr g : Int32) : Int32 := if lr < g then g else lr
def zXe (cr inn : Int32) (W L : Nat → Int32) (d x k : Int32) (D E : zK) (X : zXs) : zXs := (if d.toInt = 0 ∨ d.toInt = 1 then zXf inn X.1 k x (zXt W L d x D) else X.1, if d.toInt = 1 then zXl X.2.1 (nI (zRunN D.2.1 W L 499 D.1 x 0).2.2) else X.2.1, if d.toInt = 0 ∨ d.toInt = 1 then zXm X.2.2.1 x (zXt W L d x D) else X.2.2.1, zCw inn E.2.2.1 X.2.2.2 cr.toInt.toNat)
theorem zXe_0 {cr inn d x k : Int32} {W L : Nat → Int32} {D E : zK} {X : zXs} (h : d.toInt = 0) : zXe cr inn W L d x k D E X = (zXf inn X.1 k x (zStep D.1 D.2.1 W L x), X.2.1, zXm X.2.2.1 x (zStep D.1 D.2.1 W L x), zCw inn E.2.2.1 X.2.2.2 cr.toInt.toNat) := by
  unfold zXe zXt
  rw [if_pos (Or.inl h), if_pos (Or.inl h), if_pos h, if_neg (show ¬ d.toInt = 1 by omega)]
theorem zXe_1 {cr inn d x k : Int32} {W L : Nat → Int32} {D E : zK} {X : zXs} (h : d.toInt = 1) : zXe cr inn W L d x k D E X = (zXf inn X.1 k x (zRunN D.2.1 W L 499 D.1 x 0).2.1, zXl X.2.1 (nI (zRunN D.2.1 W L 499 D.1 x 0).2.2), zXm X.2.2.1 x (zRunN D.2.1 W L 499 D.1 x 0).2.1, zCw inn E.2.2.1 X.2.2.2 cr.toInt.toNat) := by
  unfold zXe zXt
  rw [if_pos (Or.inr h), if_pos (Or.inr h), if_pos h, if_neg (by omega)]
theorem zXe_o {cr inn d x k : Int32} {W L : Nat → Int32} {D E : zK} {X : zXs} (h : ¬ d.toInt = 0 ∧ ¬ d.toInt = 1) : zXe cr inn W L d x k D E X = (X.1, X.2.1, X.2.2.1, zCw inn E.2.2.1 X.2.2.2 cr.toInt.toNat) := by
  unfold zXe
  rw [if_neg (by omega), if_neg h.2, if_neg (by omega)]
def zDayX (F : Nat → zK → Option zK) (G : Nat → zK → zK → zXs → zXs) : Nat → Nat → zK → zXs → zXs
  | 0, _, _, X => X
  | n + 1, k, D, X => match F k D with
    | none => X
    | some E => zDayX F G n (k + 1) E (G k D E X)
theorem zDayX_z {F : Nat → zK → Option zK} {G : Nat → zK → zK → zXs → zXs} {n k : Nat} {D : zK} {X : zXs} (h : n = 0) : zDayX F G n k D X = X := by
  subst h
  rfl
theorem zDayX_s {F : Nat → zK → Option zK} {G : Nat → zK → zK → zXs → zXs} {n k : Nat} {D E : zK} {X : zXs} (h : F k D = some E) : zDayX F G (n + 1) k D X = zDayX F G n (k + 1) E (G k D E X) := by
  rw [zDayX, h]
theorem zDayX_n {F : Nat → zK → Option zK} {G : Nat → zK → zK → zXs → zXs} {n k : Nat} {D : zK} {X : zXs} (h : F k D = none) : zDayX F G n k D X = X := by
  cases n with
  | zero => rfl
  | succ n => rw [zDayX, h]
theorem zDayX_cg {W : Nat → Int32} {F F' : Nat → zK → Option zK} {G G' : Nat → zK → zK → zXs → zXs} : ∀ (n k : Nat) (D E : zK) (X : zXs), zP3 D.1 W → zKe D E → (∀ j, k ≤ j → j < k + n → ∀ D E, zP3 D.1 W → zKe D E → zOe W (F j D) (F' j E)) → (∀ j, k ≤ j → j < k + n → ∀ D E D2 E2 X, zP3 D.1 W → zKe D E → zKe D2 E2 → G j D D2 X = G' j E E2 X) → zDayX F G n k D X = zDayX F' G' n k E X
  | 0, k, D, E, X, _, h, _, _ => rfl
  | n + 1, k, D, E, X, hI, h, hF, hG => by
    rcases hF k (Nat.le_refl k) (by omega) D E hI h with ⟨a, b⟩ | ⟨D2, E2, a, b, h2, hI2⟩
    · rw [zDayX_n a, zDayX_n b]
    · rw [zDayX_s a, zDayX_s b, hG k (Nat.le_refl k) (by omega) D E D2 E2 X hI h h2]
      exact zDayX_cg n (k + 1) D2 E2 _ hI2 h2 (fun j h1 h3 => hF j (by omega) (by omega)) (fun j h1 h3 => hG j (by omega) (by omega))
theorem zXe_cg {cr inn d x k : Int32} {W W' L L' : Nat → Int32} {D E D2 E2 : zK} {X : zXs} (hc : cr.toInt ≤ 7) (h3 : ∀ j, j < 7 → W j = W' j) (hl : zLs W L L') (hI : zP3 D.1 W) (h : zKe D E) (h2 : zKe D2 E2) : zXe cr inn W L d x k D D2 X = zXe cr inn W' L' d x k E E2 X := by
  obtain ⟨p, s, -, -⟩ := h
  have eS := zStep_cg hI p s h3 hl x
  have eR := (zRunN_cg s h3 hl 499 D.1 E.1 x 0 hI p).2
  unfold zXe zXt
  rw [eS, eR, zCw_cg h2.2.2.1 _ (by omega)]
/-- posts that are not as told, as bits -/
def zUn (P T : Nat → Int32) : Nat → Int32
  | 0 => 0
  | i + 1 => zUn P T i ||| (if P i = T i then (0 : Int32) else (1 : Int32) <<< (nI i &&& 31))
theorem zUn_cg {P P' T T' : Nat → Int32} (h : ∀ j, j < 7 → P j = P' j) (g : ∀ j, j < 7 → T j = T' j) : ∀ i, i ≤ 7 → zUn P T i = zUn P' T' i
  | 0, _ => rfl
  | i + 1, hi => by
    show zUn P T i ||| (if P i = T i then (0 : Int32) else (1 : Int32) <<< (nI i &&& 31)) = zUn P' T' i ||| (if P' i = T' i then (0 : Int32) else (1 : Int32) <<< (nI i &&& 31))
    rw [zUn_cg h g i (by omega), h i (by omega), g i (by omega)]
theorem zUn_y {P T : Nat → Int32} {u : Int32} {i : Nat} (h : u = zUn P T i) (q : P i = T i) : u ||| 0 = zUn P T (i + 1) := by
  show _ = zUn P T i ||| (if P i = T i then (0 : Int32) else (1 : Int32) <<< (nI i &&& 31))
  rw [if_pos q, h]
theorem zUn_n {P T : Nat → Int32} {u : Int32} {i : Nat} (h : u = zUn P T i) (q : ¬ P i = T i) : u ||| 1 <<< (nI i &&& 31) = zUn P T (i + 1) := by
  show _ = zUn P T i ||| (if P i = T i then (0 : Int32) else (1 : Int32) <<< (nI i &&& 31))
  rw [if_neg q, h]
def zAft (cr : Int32) (T : Nat → Int32) (w r : Int32) (D : zK) (X : zXs) : Prop := (w.toInt = 0 ∧ r = X.1) ∨ (w.toInt = 1 ∧ r = X.2.1) ∨ (w.toInt = 2 ∧ r = X.2.2.1) ∨ (w.toInt = 3 ∧ r = X.2.2.2) ∨ (w.toInt = 4 ∧ r = zUn D.1 T cr.toInt.toNat) ∨ ((w.toInt < 0 ∨ 4 < w.toInt) ∧ r = -2)
theorem zAft_e {cr w r r' : Int32} {T T' : Nat → Int32} {D D' : zK} {X : zXs} (hc : cr.toInt ≤ 7) (hD : ∀ j, j < 7 → D.1 j = D'.1 j) (hT : ∀ j, j < 7 → T j = T' j) (x : zAft cr T w r D X) (y : zAft cr T' w r' D' X) : r = r' := by
  rcases x with ⟨a, b⟩ | ⟨a, b⟩ | ⟨a, b⟩ | ⟨a, b⟩ | ⟨a, b⟩ | ⟨a, b⟩ <;> rcases y with ⟨c, d⟩ | ⟨c, d⟩ | ⟨c, d⟩ | ⟨c, d⟩ | ⟨c, d⟩ | ⟨c, d⟩ <;> first | (exfalso; omega) | (rw [b, d]; done) | (rw [b, d]; exact zUn_cg hD hT _ (by omega))
def zDayA (F : Nat → zK → Option zK) (cr inn : Int32) (W L d1 d2 : Nat → Int32) (n : Nat) (D : zK) : zXs := zDayX F (fun k D E X => zXe cr inn W L (d1 k) (d2 k) (nI k) D E X) n 0 D (-1, 0, 0, zCw inn D.2.2.1 0 cr.toInt.toNat)
def kAfter (cr inn : Int32) (k1 k2 k3 k4 : Nat → Int32) (dd : Int32) (d1 d2 d3 : Nat → Int32) (w r : Int32) : Prop := ∃ P0 S0 W0 H0 : Nat → Int32, (zP3 P0 W0 ∧ (∀ j, j < 7 → P0 j = k3 j) ∧ (∀ j, j < 7 → S0 j = 0) ∧ (∀ j, j < 7 → W0 j = zWays cr inn k1 (nI j)) ∧ ∀ j, j < 7 → H0 j = k4 j) ∧ zAft cr k3 w r (zDayN (fun k D => zDe cr inn W0 k1 k2 (d1 k) (d2 k) (d3 k) D) (min (min 40 dd.toInt) 40).toNat 0 (P0, S0, H0, 0, 0)).2 (zDayA (fun k D => zDe cr inn W0 k1 k2 (d1 k) (d2 k) (d3 k) D) cr inn W0 k2 d1 d2 (min (min 40 dd.toInt) 40).toNat (P0, S0, H0, 0, 0))
def pAfter (f : Nat → Int32) (z : Int32) (d : Nat) (w r : Int32) : Prop := ∃ P0 S0 H0 : Nat → Int32, ((∀ j, j < 7 → P0 j = zPo f z j) ∧ (∀ j, j < 7 → S0 j = 0) ∧ ∀ j, j < 7 → H0 j = f (z.toInt.toNat + (16 + j))) ∧ zAft (f z.toInt.toNat) (zPo f z) w r (zDayN (fun k D => zDe (f z.toInt.toNat) (f (z.toInt.toNat + 1)) (pW f z) (zRo f z) (zLo f z) (f (d + (1 + 3 * k))) (f (d + (2 + 3 * k))) (f (d + (3 + 3 * k))) D) (min (min 40 (f d).toInt) 40).toNat 0 (P0, S0, H0, 0, 0)).2 (zDayA (fun k D => zDe (f z.toInt.toNat) (f (z.toInt.toNat + 1)) (pW f z) (zRo f z) (zLo f z) (f (d + (1 + 3 * k))) (f (d + (2 + 3 * k))) (f (d + (3 + 3 * k))) D) (f z.toInt.toNat) (f (z.toInt.toNat + 1)) (pW f z) (zLo f z) (fun k => f (d + (1 + 3 * k))) (fun k => f (d + (2 + 3 * k))) (min (min 40 (f d).toInt) 40).toNat (P0, S0, H0, 0, 0))
theorem kAfter_e {cr inn z dd w r r' : Int32} {k1 k2 k3 k4 d1 d2 d3 f : Nat → Int32} {B d : Nat} (h : zLnd cr inn k1 k2 k3 k4 (fun j => f (B + j))) (hF : zLF (fun j => f (B + j))) (hz : z.toInt.toNat = B) (hd : zDyd dd d1 d2 d3 (fun j => f (d + j))) (F1 : kAfter cr inn k1 k2 k3 k4 dd d1 d2 d3 w r) (F2 : pAfter f z d w r') : r = r' := by
  obtain ⟨a1, a2, a3, a4, a5, a6⟩ := zLnd_w h hF hz
  have hc : 0 ≤ (f B).toInt ∧ (f B).toInt ≤ 7 := hF.1
  have hc7 : cr.toInt ≤ 7 := by rw [a5, hz]; exact hc.2
  obtain ⟨-, -, -, hk, -⟩ := h
  obtain ⟨e0, -, e1⟩ := hd
  have e0 : dd = f d := e0
  have e1 : ∀ j : Nat, (j : Int) < (f d).toInt → d1 j = f (d + (1 + 3 * j)) ∧ d2 j = f (d + (2 + 3 * j)) ∧ d3 j = f (d + (3 + 3 * j)) := e1
  obtain ⟨P0, S0, W0, H0, ⟨b0, b1, b2, b3, b4⟩, x⟩ := F1
  obtain ⟨P1, S1, H1, ⟨c1, c2, c4⟩, y⟩ := F2
  rw [← a5, ← a6, ← e0] at y
  have hW : ∀ j, j < 7 → W0 j = pW f z j := fun q hq => (b3 q hq).trans (a1 q hq)
  have hL := zLs_c a2 (fun q hq => b3 q hq) (W' := W0)
  have hK : zKe (P0, S0, H0, 0, 0) (P1, S1, H1, 0, 0) := ⟨fun j hj => (b1 j hj).trans ((a3 j hj).trans (c1 j hj).symm), fun j hj => (b2 j hj).trans (c2 j hj).symm, fun j hj => (b4 j hj).trans ((hk j hj).2.2.trans (by show _ = H1 j; rw [c4 j hj, hz])), rfl⟩
  have hFg : ∀ j, 0 ≤ j → j < 0 + (min (min 40 dd.toInt) 40).toNat → ∀ D E, zP3 D.1 W0 → zKe D E → zOe W0 (zDe cr inn W0 k1 k2 (d1 j) (d2 j) (d3 j) D) (zDe cr inn (pW f z) (zRo f z) (zLo f z) (f (d + (1 + 3 * j))) (f (d + (2 + 3 * j))) (f (d + (3 + 3 * j))) E) := by
    intro j _ hj D E hI hDE
    have t := e1 j (by rw [← e0]; omega)
    rw [t.1, t.2.1, t.2.2]
    refine zDe_cg hW (fun q hq => (hk q hq).1.trans ?_) hL _ hI hDE
    unfold zRo
    rw [hz]
  have g1 := zDayN_cg (W := W0) (F := fun k D => zDe cr inn W0 k1 k2 (d1 k) (d2 k) (d3 k) D) (F' := fun k D => zDe cr inn (pW f z) (zRo f z) (zLo f z) (f (d + (1 + 3 * k))) (f (d + (2 + 3 * k))) (f (d + (3 + 3 * k))) D) _ 0 _ _ b0 hK hFg
  have g2 : zDayA (fun k D => zDe cr inn W0 k1 k2 (d1 k) (d2 k) (d3 k) D) cr inn W0 k2 d1 d2 (min (min 40 dd.toInt) 40).toNat (P0, S0, H0, 0, 0) = zDayA (fun k D => zDe cr inn (pW f z) (zRo f z) (zLo f z) (f (d + (1 + 3 * k))) (f (d + (2 + 3 * k))) (f (d + (3 + 3 * k))) D) cr inn (pW f z) (zLo f z) (fun k => f (d + (1 + 3 * k))) (fun k => f (d + (2 + 3 * k))) (min (min 40 dd.toInt) 40).toNat (P1, S1, H1, 0, 0) := by
    unfold zDayA
    rw [show zCw inn (P0, S0, H0, (0 : Int32), (0 : Int32)).2.2.1 0 cr.toInt.toNat = zCw inn (P1, S1, H1, (0 : Int32), (0 : Int32)).2.2.1 0 cr.toInt.toNat from zCw_cg hK.2.2.1 _ (by omega)]
    refine zDayX_cg (W := W0) _ 0 _ _ _ b0 hK hFg ?_
    intro j _ hj D E D2 E2 X hI hDE h2
    have t := e1 j (by rw [← e0]; omega)
    show zXe cr inn W0 k2 (d1 j) (d2 j) (nI j) D D2 X = zXe cr inn (pW f z) (zLo f z) (f (d + (1 + 3 * j))) (f (d + (2 + 3 * j))) (nI j) E E2 X
    rw [t.1, t.2.1]
    exact zXe_cg hc7 hW hL hI hDE h2
  rw [g2] at x
  exact zAft_e hc7 g1.2.1 a3 x y
set_option maxHeartbeats 4000000 in
set_option maxRecDepth 100000 in
/-- c_x_move -/
theorem c_x_move (l : Launch) (T : zTy) (h : Nat) (po : Nat) (la : Nat) (fw : Nat → Int32) (v0 : Int32) (v1 : Int32) (v2 : Int32) (v3 : Int32) (v4 : Int32) (v5 : Int32) (v6 : Int32) (v7 : Int32) (wc : va_W) (cr : Int32) (inn : Int32) (k1 : Nat → Int32) (k2 : Nat → Int32) (k3 : Nat → Int32) (k4 : Nat → Int32) (z : va_W) (x : Int32) (y : Int32) (hc : bCourse T h po la fw v0 v1 v2 v3 v4 v5 v6 v7 wc) (hz : bLand T la cr inn k1 k2 k3 k4 z) (hhx : zHas cr x) (hhy : zHas cr y) : zMv l T yX1_move cX1_move 3 3 0 0 [.ref h, .int x, .int y] [wc, z] (fun bs => ∃ (wc2 : va_W) (gw : Nat → Int32) (u3 : Int32) (u5 : Int32), bs = [wc2, z] ∧ bCourse T h po la gw v0 v1 v2 u3 v4 u5 v6 v7 wc2 ∧ gw = zMvH fw x y ∧ u3 = zXf inn v3 v2 x y ∧ u5 = zXm v5 x y) := by
  refine zMv_of (own := RX1) (by decide) rfl (Nat.le_of_ble_eq_true rfl) ?_
  intro p e s m args below meth c A ls C hr hlocks hnm hAe G hl
  have hx := C.1
  have hb := C.2.1
  have hl : lv_has ls 3 [(0, .ref h), (1, .int x), (2, .int y)] := hl
  refine lv_aload_n hx hb dX1_move_0 rfl (lv_at hl 0 rfl) ?_
  obtain ⟨a1_1, rfl⟩ := hc
  have G : zS T A s.heap s [[(h, .inr (1, [.ref po, .ref a1_1, .int v0, .ref la, .int v1, .int v2, .int v3, .int v4, .int v5, .int v6, .int v7]))], [(a1_1, .inl (T.2 0, 7, .inl fw))], z] _ _ := G.re rfl
  refine z_get C G clX1 0 rfl 3 (by decide) m_fl_RX1_25 rfl dX1_move_1 ?_
  refine lv_iload_n hx hb dX1_move_4 rfl (lv_at hl 1 rfl) ?_
  refine z_Vi (bc := [z]) (br := [[(h, .inr (1, [.ref po, .ref a1_1, .int v0, .ref la, .int v1, .int v2, .int v3, .int v4, .int v5, .int v6, .int v7]))], [(a1_1, .inl (T.2 0, 7, .inl fw))]]) (As := [.int x]) (rest := []) C G (c_has l T la cr inn k1 k2 k3 k4 z x hz) (kV_RX1_112 C.2.2.2.2 (Nat.le_of_ble_eq_true rfl) (Nat.le_of_ble_eq_true rfl)) [2] [0, 1] rfl rfl (ci := 4) (qc := (RX4, TX4, 6)) rfl rfl (List.mem_flatten.mpr ⟨_, List.mem_of_getElem? (i := 0) rfl, (bLand_mem hz).choose_spec⟩) rfl rfl hl.1 dX1_move_5 (Nat.le_of_ble_eq_true rfl) (Nat.le_of_ble_eq_true rfl) (fun r_3 b1 H locs hw G => ?_)
  obtain ⟨rfl, hc_2⟩ := hw
  have G : zS T A s.heap s [[(h, .inr (1, [.ref po, .ref a1_1, .int v0, .ref la, .int v1, .int v2, .int v3, .int v4, .int v5, .int v6, .int v7]))], [(a1_1, .inl (T.2 0, 7, .inl fw))], z] _ _ := G
  rcases hc_2 with ⟨rfl, h_4, h_5, h_6⟩ | ⟨rfl, h_7⟩
  · have h_4 : 0 ≤ x.toInt := h_4
    have h_5 : x.toInt < cr.toInt := h_5
    have h_6 : x.toInt < 7 := h_6
    refine lv_if_eq (tgt := 22) hx hb dX1_move_8 (by decide) (fun q => absurd q (by decide)) (fun _ => ?_)
    refine lv_aload_n hx hb dX1_move_11 rfl (lv_at hl 0 rfl) ?_
    refine z_get C G clX1 0 rfl 3 (by decide) m_fl_RX1_25 rfl dX1_move_12 ?_
    refine lv_iload_n hx hb dX1_move_15 rfl (lv_at hl 2 rfl) ?_
    refine z_Vi (bc := [z]) (br := [[(h, .inr (1, [.ref po, .ref a1_1, .int v0, .ref la, .int v1, .int v2, .int v3, .int v4, .int v5, .int v6, .int v7]))], [(a1_1, .inl (T.2 0, 7, .inl fw))]]) (As := [.int y]) (rest := []) C G (c_has l T la cr inn k1 k2 k3 k4 z y hz) (kV_RX1_112 C.2.2.2.2 (Nat.le_of_ble_eq_true rfl) (Nat.le_of_ble_eq_true rfl)) [2] [0, 1] rfl rfl (ci := 4) (qc := (RX4, TX4, 6)) rfl rfl (List.mem_flatten.mpr ⟨_, List.mem_of_getElem? (i := 0) rfl, (bLand_mem hz).choose_spec⟩) rfl rfl hl.1 dX1_move_16 (Nat.le_of_ble_eq_true rfl) (Nat.le_of_ble_eq_true rfl) (fun r_9 b1 H locs hw G => ?_)
    obtain ⟨rfl, hc_8⟩ := hw
    have G : zS T A s.heap s [[(h, .inr (1, [.ref po, .ref a1_1, .int v0, .ref la, .int v1, .int v2, .int v3, .int v4, .int v5, .int v6, .int v7]))], [(a1_1, .inl (T.2 0, 7, .inl fw))], z] _ _ := G
    rcases hc_8 with ⟨rfl, h_10, h_11, h_12⟩ | ⟨rfl, h_13⟩
    · have h_10 : 0 ≤ y.toInt := h_10
      have h_11 : y.toInt < cr.toInt := h_11
      have h_12 : y.toInt < 7 := h_12
      refine lv_if_ne (tgt := 23) hx hb dX1_move_19 (by decide) (fun _ => ?_) (fun q => absurd q (by decide))
      refine lv_aload_n hx hb dX1_move_23 rfl (lv_at hl 0 rfl) ?_
      refine z_get C G clX1 0 rfl 1 (by decide) m_fl_RX1_18 rfl dX1_move_24 ?_
      refine lv_iload_n hx hb dX1_move_27 rfl (lv_at hl 1 rfl) ?_
      refine lv_dup2_11 hx hb dX1_move_28 rfl rfl ?_
      refine z_ild C G 1 rfl (vp_in_iff.mpr ⟨by omega, by omega⟩) dX1_move_29 ?_
      refine lv_topi (fun v_14 ev_14 => ?_)
      subst ev_14
      refine lv_iconst (v := 1) hx hb dX1_move_30 (by decide) ?_
      refine lv_isub hx hb dX1_move_31 ?_
      refine z_ist C G 1 rfl (vp_in_iff.mpr ⟨by omega, by omega⟩) dX1_move_32 (fun H locs G => ?_)
      have G : zS T A s.heap s [[(h, .inr (1, [.ref po, .ref a1_1, .int v0, .ref la, .int v1, .int v2, .int v3, .int v4, .int v5, .int v6, .int v7]))], [(a1_1, .inl (T.2 0, 7, .inl (upd fw x.toNatClampNeg ((fw x.toNatClampNeg) - 1))))], z] _ _ := G
      refine lv_aload_n hx hb dX1_move_33 rfl (lv_at hl 0 rfl) ?_
      refine z_get C G clX1 0 rfl 1 (by decide) m_fl_RX1_18 rfl dX1_move_34 ?_
      refine lv_iload_n hx hb dX1_move_37 rfl (lv_at hl 2 rfl) ?_
      refine lv_dup2_11 hx hb dX1_move_38 rfl rfl ?_
      refine z_ild C G 1 rfl (vp_in_iff.mpr ⟨by omega, by omega⟩) dX1_move_39 ?_
      refine lv_topi (fun v_15 ev_15 => ?_)
      subst ev_15
      refine lv_iconst (v := 1) hx hb dX1_move_40 (by decide) ?_
      refine lv_iadd hx hb dX1_move_41 ?_
      refine z_ist C G 1 rfl (vp_in_iff.mpr ⟨by omega, by omega⟩) dX1_move_42 (fun H locs G => ?_)
      have G : zS T A s.heap s [[(h, .inr (1, [.ref po, .ref a1_1, .int v0, .ref la, .int v1, .int v2, .int v3, .int v4, .int v5, .int v6, .int v7]))], [(a1_1, .inl (T.2 0, 7, .inl (upd (upd fw x.toNatClampNeg ((fw x.toNatClampNeg) - 1)) y.toNatClampNeg (((upd fw x.toNatClampNeg ((fw x.toNatClampNeg) - 1)) y.toNatClampNeg) + 1))))], z] _ _ := G
      refine lv_iload_n hx hb dX1_move_43 rfl (lv_at hl 1 rfl) ?_
      refine lv_iload_n hx hb dX1_move_44 rfl (lv_at hl 2 rfl) ?_
      refine lv_icmp_eq (tgt := 58) hx hb dX1_move_45 (by decide) (fun c_16 => ?_) (fun c_16 => ?_)
      · have c_16n : x.toInt = y.toInt := (fa_eq _ _).mp c_16
        refine lv_aload_n hx hb dX1_move_58 rfl (lv_at hl 0 rfl) ?_
        refine z_get C G clX1 0 rfl 6 (by decide) m_fl_RX1_44 rfl dX1_move_59 ?_
        refine lv_iconst (v := (-1)) hx hb dX1_move_62 (by decide) ?_
        refine lv_icmp_ne (tgt := 96) hx hb dX1_move_63 (by decide) (fun c_17 => ?_) (fun c_17 => ?_)
        · have c_17n : ¬ v3.toInt = (-1 : Int) := fun q => c_17 ((fa_eq _ _).mpr q)
          have hw_18 : bCourse T h po la (upd (upd fw x.toNatClampNeg ((fw x.toNatClampNeg) - 1)) y.toNatClampNeg (((upd fw x.toNatClampNeg ((fw x.toNatClampNeg) - 1)) y.toNatClampNeg) + 1)) v0 v1 v2 v3 v4 v5 v6 v7 [(h, .inr (1, [.ref po, .ref a1_1, .int v0, .ref la, .int v1, .int v2, .int v3, .int v4, .int v5, .int v6, .int v7])), (a1_1, .inl (T.2 0, 7, .inl (upd (upd fw x.toNatClampNeg ((fw x.toNatClampNeg) - 1)) y.toNatClampNeg (((upd fw x.toNatClampNeg ((fw x.toNatClampNeg) - 1)) y.toNatClampNeg) + 1))))] := ⟨a1_1, rfl⟩
          have G : zS T A s.heap s [[(h, .inr (1, [.ref po, .ref a1_1, .int v0, .ref la, .int v1, .int v2, .int v3, .int v4, .int v5, .int v6, .int v7])), (a1_1, .inl (T.2 0, 7, .inl (upd (upd fw x.toNatClampNeg ((fw x.toNatClampNeg) - 1)) y.toNatClampNeg (((upd fw x.toNatClampNeg ((fw x.toNatClampNeg) - 1)) y.toNatClampNeg) + 1))))], z] _ _ := G.re rfl
          exact z_vret C hr hlocks G (Nat.le_of_ble_eq_true rfl) (Nat.le_of_ble_eq_true rfl) dX1_move_96 ⟨([(h, .inr (1, [.ref po, .ref a1_1, .int v0, .ref la, .int v1, .int v2, .int v3, .int v4, .int v5, .int v6, .int v7])), (a1_1, .inl (T.2 0, 7, .inl (upd (upd fw x.toNatClampNeg ((fw x.toNatClampNeg) - 1)) y.toNatClampNeg (((upd fw x.toNatClampNeg ((fw x.toNatClampNeg) - 1)) y.toNatClampNeg) + 1))))]), (upd (upd fw x.toNatClampNeg ((fw x.toNatClampNeg) - 1)) y.toNatClampNeg (((upd fw x.toNatClampNeg ((fw x.toNatClampNeg) - 1)) y.toNatClampNeg) + 1)), v3, v5, rfl, hw_18, rfl, (if_neg (fun q8 => absurd q8.1 (by omega))).symm, (if_pos (by assumption)).symm⟩
        · have c_17n : v3.toInt = (-1 : Int) := (fa_eq _ _).mp c_17
          refine lv_aload_n hx hb dX1_move_66 rfl (lv_at hl 0 rfl) ?_
          refine z_get C G clX1 0 rfl 3 (by decide) m_fl_RX1_25 rfl dX1_move_67 ?_
          refine lv_iload_n hx hb dX1_move_70 rfl (lv_at hl 2 rfl) ?_
          refine z_Vi (bc := [z]) (br := [[(h, .inr (1, [.ref po, .ref a1_1, .int v0, .ref la, .int v1, .int v2, .int v3, .int v4, .int v5, .int v6, .int v7]))], [(a1_1, .inl (T.2 0, 7, .inl (upd (upd fw x.toNatClampNeg ((fw x.toNatClampNeg) - 1)) y.toNatClampNeg (((upd fw x.toNatClampNeg ((fw x.toNatClampNeg) - 1)) y.toNatClampNeg) + 1))))]]) (As := [.int y]) (rest := []) C G (c_isInn l T la cr inn k1 k2 k3 k4 z y hz) (kV_RX1_135 C.2.2.2.2 (Nat.le_of_ble_eq_true rfl) (Nat.le_of_ble_eq_true rfl)) [2] [0, 1] rfl rfl (ci := 4) (qc := (RX4, TX4, 6)) rfl rfl (List.mem_flatten.mpr ⟨_, List.mem_of_getElem? (i := 0) rfl, (bLand_mem hz).choose_spec⟩) rfl rfl hl.1 dX1_move_71 (Nat.le_of_ble_eq_true rfl) (Nat.le_of_ble_eq_true rfl) (fun r_20 b1 H locs hw G => ?_)
          obtain ⟨rfl, hc_19⟩ := hw
          have G : zS T A s.heap s [[(h, .inr (1, [.ref po, .ref a1_1, .int v0, .ref la, .int v1, .int v2, .int v3, .int v4, .int v5, .int v6, .int v7]))], [(a1_1, .inl (T.2 0, 7, .inl (upd (upd fw x.toNatClampNeg ((fw x.toNatClampNeg) - 1)) y.toNatClampNeg (((upd fw x.toNatClampNeg ((fw x.toNatClampNeg) - 1)) y.toNatClampNeg) + 1))))], z] _ _ := G
          rcases hc_19 with ⟨rfl, h_21, h_22, h_23, h_24⟩ | ⟨rfl, h_25⟩
          · have h_21 : 0 ≤ y.toInt := h_21
            have h_22 : y.toInt < cr.toInt := h_22
            have h_23 : y.toInt < 7 := h_23
            have h_24 : ¬ zBit inn y = 0 := h_24
            refine lv_if_eq (tgt := 96) hx hb dX1_move_74 (by decide) (fun q => absurd q (by decide)) (fun _ => ?_)
            refine lv_aload_n hx hb dX1_move_77 rfl (lv_at hl 0 rfl) ?_
            refine z_get C G clX1 0 rfl 3 (by decide) m_fl_RX1_25 rfl dX1_move_78 ?_
            refine lv_iload_n hx hb dX1_move_81 rfl (lv_at hl 1 rfl) ?_
            refine z_Vi (bc := [z]) (br := [[(h, .inr (1, [.ref po, .ref a1_1, .int v0, .ref la, .int v1, .int v2, .int v3, .int v4, .int v5, .int v6, .int v7]))], [(a1_1, .inl (T.2 0, 7, .inl (upd (upd fw x.toNatClampNeg ((fw x.toNatClampNeg) - 1)) y.toNatClampNeg (((upd fw x.toNatClampNeg ((fw x.toNatClampNeg) - 1)) y.toNatClampNeg) + 1))))]]) (As := [.int x]) (rest := []) C G (c_isInn l T la cr inn k1 k2 k3 k4 z x hz) (kV_RX1_135 C.2.2.2.2 (Nat.le_of_ble_eq_true rfl) (Nat.le_of_ble_eq_true rfl)) [2] [0, 1] rfl rfl (ci := 4) (qc := (RX4, TX4, 6)) rfl rfl (List.mem_flatten.mpr ⟨_, List.mem_of_getElem? (i := 0) rfl, (bLand_mem hz).choose_spec⟩) rfl rfl hl.1 dX1_move_82 (Nat.le_of_ble_eq_true rfl) (Nat.le_of_ble_eq_true rfl) (fun r_27 b1 H locs hw G => ?_)
            obtain ⟨rfl, hc_26⟩ := hw
            have G : zS T A s.heap s [[(h, .inr (1, [.ref po, .ref a1_1, .int v0, .ref la, .int v1, .int v2, .int v3, .int v4, .int v5, .int v6, .int v7]))], [(a1_1, .inl (T.2 0, 7, .inl (upd (upd fw x.toNatClampNeg ((fw x.toNatClampNeg) - 1)) y.toNatClampNeg (((upd fw x.toNatClampNeg ((fw x.toNatClampNeg) - 1)) y.toNatClampNeg) + 1))))], z] _ _ := G
            rcases hc_26 with ⟨rfl, h_28, h_29, h_30, h_31⟩ | ⟨rfl, h_32⟩
            · have h_28 : 0 ≤ x.toInt := h_28
              have h_29 : x.toInt < cr.toInt := h_29
              have h_30 : x.toInt < 7 := h_30
              have h_31 : ¬ zBit inn x = 0 := h_31
              refine lv_if_ne (tgt := 96) hx hb dX1_move_85 (by decide) (fun _ => ?_) (fun q => absurd q (by decide))
              have hw_33 : bCourse T h po la (upd (upd fw x.toNatClampNeg ((fw x.toNatClampNeg) - 1)) y.toNatClampNeg (((upd fw x.toNatClampNeg ((fw x.toNatClampNeg) - 1)) y.toNatClampNeg) + 1)) v0 v1 v2 v3 v4 v5 v6 v7 [(h, .inr (1, [.ref po, .ref a1_1, .int v0, .ref la, .int v1, .int v2, .int v3, .int v4, .int v5, .int v6, .int v7])), (a1_1, .inl (T.2 0, 7, .inl (upd (upd fw x.toNatClampNeg ((fw x.toNatClampNeg) - 1)) y.toNatClampNeg (((upd fw x.toNatClampNeg ((fw x.toNatClampNeg) - 1)) y.toNatClampNeg) + 1))))] := ⟨a1_1, rfl⟩
              have G : zS T A s.heap s [[(h, .inr (1, [.ref po, .ref a1_1, .int v0, .ref la, .int v1, .int v2, .int v3, .int v4, .int v5, .int v6, .int v7])), (a1_1, .inl (T.2 0, 7, .inl (upd (upd fw x.toNatClampNeg ((fw x.toNatClampNeg) - 1)) y.toNatClampNeg (((upd fw x.toNatClampNeg ((fw x.toNatClampNeg) - 1)) y.toNatClampNeg) + 1))))], z] _ _ := G.re rfl
              exact z_vret C hr hlocks G (Nat.le_of_ble_eq_true rfl) (Nat.le_of_ble_eq_true rfl) dX1_move_96 ⟨([(h, .inr (1, [.ref po, .ref a1_1, .int v0, .ref la, .int v1, .int v2, .int v3, .int v4, .int v5, .int v6, .int v7])), (a1_1, .inl (T.2 0, 7, .inl (upd (upd fw x.toNatClampNeg ((fw x.toNatClampNeg) - 1)) y.toNatClampNeg (((upd fw x.toNatClampNeg ((fw x.toNatClampNeg) - 1)) y.toNatClampNeg) + 1))))]), (upd (upd fw x.toNatClampNeg ((fw x.toNatClampNeg) - 1)) y.toNatClampNeg (((upd fw x.toNatClampNeg ((fw x.toNatClampNeg) - 1)) y.toNatClampNeg) + 1)), v3, v5, rfl, hw_33, rfl, (if_neg (fun q8 => q8.2.2 (zBit_p h_31))).symm, (if_pos (by assumption)).symm⟩
            · have h_32 : (x.toInt < 0 ∨ cr.toInt ≤ x.toInt ∨ 7 ≤ x.toInt ∨ zBit inn x = 0) := h_32
              refine lv_if_ne (tgt := 96) hx hb dX1_move_85 (by decide) (fun q => absurd (by decide) q) (fun _ => ?_)
              refine lv_aload_n hx hb dX1_move_88 rfl (lv_at hl 0 rfl) ?_
              refine lv_aload_n hx hb dX1_move_89 rfl (lv_at hl 0 rfl) ?_
              refine z_get C G clX1 0 rfl 5 (by decide) m_fl_RX1_41 rfl dX1_move_90 ?_
              refine z_put C G clX1 0 rfl 6 (by decide) m_fl_RX1_44 rfl rfl rfl (Nat.le_of_ble_eq_true rfl) dX1_move_93 (fun H locs G => ?_)
              have G : zS T A s.heap s [[(h, .inr (1, [.ref po, .ref a1_1, .int v0, .ref la, .int v1, .int v2, .int v2, .int v4, .int v5, .int v6, .int v7]))], [(a1_1, .inl (T.2 0, 7, .inl (upd (upd fw x.toNatClampNeg ((fw x.toNatClampNeg) - 1)) y.toNatClampNeg (((upd fw x.toNatClampNeg ((fw x.toNatClampNeg) - 1)) y.toNatClampNeg) + 1))))], z] _ _ := G
              have hw_34 : bCourse T h po la (upd (upd fw x.toNatClampNeg ((fw x.toNatClampNeg) - 1)) y.toNatClampNeg (((upd fw x.toNatClampNeg ((fw x.toNatClampNeg) - 1)) y.toNatClampNeg) + 1)) v0 v1 v2 v2 v4 v5 v6 v7 [(h, .inr (1, [.ref po, .ref a1_1, .int v0, .ref la, .int v1, .int v2, .int v2, .int v4, .int v5, .int v6, .int v7])), (a1_1, .inl (T.2 0, 7, .inl (upd (upd fw x.toNatClampNeg ((fw x.toNatClampNeg) - 1)) y.toNatClampNeg (((upd fw x.toNatClampNeg ((fw x.toNatClampNeg) - 1)) y.toNatClampNeg) + 1))))] := ⟨a1_1, rfl⟩
              have G : zS T A s.heap s [[(h, .inr (1, [.ref po, .ref a1_1, .int v0, .ref la, .int v1, .int v2, .int v2, .int v4, .int v5, .int v6, .int v7])), (a1_1, .inl (T.2 0, 7, .inl (upd (upd fw x.toNatClampNeg ((fw x.toNatClampNeg) - 1)) y.toNatClampNeg (((upd fw x.toNatClampNeg ((fw x.toNatClampNeg) - 1)) y.toNatClampNeg) + 1))))], z] _ _ := G.re rfl
              exact z_vret C hr hlocks G (Nat.le_of_ble_eq_true rfl) (Nat.le_of_ble_eq_true rfl) dX1_move_96 ⟨([(h, .inr (1, [.ref po, .ref a1_1, .int v0, .ref la, .int v1, .int v2, .int v2, .int v4, .int v5, .int v6, .int v7])), (a1_1, .inl (T.2 0, 7, .inl (upd (upd fw x.toNatClampNeg ((fw x.toNatClampNeg) - 1)) y.toNatClampNeg (((upd fw x.toNatClampNeg ((fw x.toNatClampNeg) - 1)) y.toNatClampNeg) + 1))))]), (upd (upd fw x.toNatClampNeg ((fw x.toNatClampNeg) - 1)) y.toNatClampNeg (((upd fw x.toNatClampNeg ((fw x.toNatClampNeg) - 1)) y.toNatClampNeg) + 1)), v2, v5, rfl, hw_34, rfl, (if_pos ⟨by omega, zBit_p h_24, fun q8 => by rcases h_32 with e9 | e9 | e9 | e9 <;> first | (exfalso; omega) | (exfalso; have ti9 := nI_toInt (n := i) (by omega); omega) | exact zBit_o q8 e9⟩).symm, (if_pos (by assumption)).symm⟩
          · have h_25 : (y.toInt < 0 ∨ cr.toInt ≤ y.toInt ∨ 7 ≤ y.toInt ∨ zBit inn y = 0) := h_25
            refine lv_if_eq (tgt := 96) hx hb dX1_move_74 (by decide) (fun _ => ?_) (fun q => absurd (by decide) q)
            have hw_35 : bCourse T h po la (upd (upd fw x.toNatClampNeg ((fw x.toNatClampNeg) - 1)) y.toNatClampNeg (((upd fw x.toNatClampNeg ((fw x.toNatClampNeg) - 1)) y.toNatClampNeg) + 1)) v0 v1 v2 v3 v4 v5 v6 v7 [(h, .inr (1, [.ref po, .ref a1_1, .int v0, .ref la, .int v1, .int v2, .int v3, .int v4, .int v5, .int v6, .int v7])), (a1_1, .inl (T.2 0, 7, .inl (upd (upd fw x.toNatClampNeg ((fw x.toNatClampNeg) - 1)) y.toNatClampNeg (((upd fw x.toNatClampNeg ((fw x.toNatClampNeg) - 1)) y.toNatClampNeg) + 1))))] := ⟨a1_1, rfl⟩
            have G : zS T A s.heap s [[(h, .inr (1, [.ref po, .ref a1_1, .int v0, .ref la, .int v1, .int v2, .int v3, .int v4, .int v5, .int v6, .int v7])), (a1_1, .inl (T.2 0, 7, .inl (upd (upd fw x.toNatClampNeg ((fw x.toNatClampNeg) - 1)) y.toNatClampNeg (((upd fw x.toNatClampNeg ((fw x.toNatClampNeg) - 1)) y.toNatClampNeg) + 1))))], z] _ _ := G.re rfl
            exact z_vret C hr hlocks G (Nat.le_of_ble_eq_true rfl) (Nat.le_of_ble_eq_true rfl) dX1_move_96 ⟨([(h, .inr (1, [.ref po, .ref a1_1, .int v0, .ref la, .int v1, .int v2, .int v3, .int v4, .int v5, .int v6, .int v7])), (a1_1, .inl (T.2 0, 7, .inl (upd (upd fw x.toNatClampNeg ((fw x.toNatClampNeg) - 1)) y.toNatClampNeg (((upd fw x.toNatClampNeg ((fw x.toNatClampNeg) - 1)) y.toNatClampNeg) + 1))))]), (upd (upd fw x.toNatClampNeg ((fw x.toNatClampNeg) - 1)) y.toNatClampNeg (((upd fw x.toNatClampNeg ((fw x.toNatClampNeg) - 1)) y.toNatClampNeg) + 1)), v3, v5, rfl, hw_35, rfl, (if_neg (fun q8 => by rcases h_25 with e9 | e9 | e9 | e9 <;> first | (exfalso; omega) | (exfalso; have ti9 := nI_toInt (n := i) (by omega); omega) | exact zBit_o q8.2.1 e9)).symm, (if_pos (by assumption)).symm⟩
      · have c_16n : ¬ x.toInt = y.toInt := fun q => c_16 ((fa_eq _ _).mpr q)
        refine lv_aload_n hx hb dX1_move_48 rfl (lv_at hl 0 rfl) ?_
        refine lv_dup hx hb dX1_move_49 rfl ?_
        refine z_get C G clX1 0 rfl 8 (by decide) m_fl_RX1_50 rfl dX1_move_50 ?_
        refine lv_iconst (v := 1) hx hb dX1_move_53 (by decide) ?_
        refine lv_iadd hx hb dX1_move_54 ?_
        refine z_put C G clX1 0 rfl 8 (by decide) m_fl_RX1_50 rfl rfl rfl (Nat.le_of_ble_eq_true rfl) dX1_move_55 (fun H locs G => ?_)
        have G : zS T A s.heap s [[(h, .inr (1, [.ref po, .ref a1_1, .int v0, .ref la, .int v1, .int v2, .int v3, .int v4, .int (v5 + 1), .int v6, .int v7]))], [(a1_1, .inl (T.2 0, 7, .inl (upd (upd fw x.toNatClampNeg ((fw x.toNatClampNeg) - 1)) y.toNatClampNeg (((upd fw x.toNatClampNeg ((fw x.toNatClampNeg) - 1)) y.toNatClampNeg) + 1))))], z] _ _ := G
        refine lv_aload_n hx hb dX1_move_58 rfl (lv_at hl 0 rfl) ?_
        refine z_get C G clX1 0 rfl 6 (by decide) m_fl_RX1_44 rfl dX1_move_59 ?_
        refine lv_iconst (v := (-1)) hx hb dX1_move_62 (by decide) ?_
        refine lv_icmp_ne (tgt := 96) hx hb dX1_move_63 (by decide) (fun c_36 => ?_) (fun c_36 => ?_)
        · have c_36n : ¬ v3.toInt = (-1 : Int) := fun q => c_36 ((fa_eq _ _).mpr q)
          have hw_37 : bCourse T h po la (upd (upd fw x.toNatClampNeg ((fw x.toNatClampNeg) - 1)) y.toNatClampNeg (((upd fw x.toNatClampNeg ((fw x.toNatClampNeg) - 1)) y.toNatClampNeg) + 1)) v0 v1 v2 v3 v4 (v5 + 1) v6 v7 [(h, .inr (1, [.ref po, .ref a1_1, .int v0, .ref la, .int v1, .int v2, .int v3, .int v4, .int (v5 + 1), .int v6, .int v7])), (a1_1, .inl (T.2 0, 7, .inl (upd (upd fw x.toNatClampNeg ((fw x.toNatClampNeg) - 1)) y.toNatClampNeg (((upd fw x.toNatClampNeg ((fw x.toNatClampNeg) - 1)) y.toNatClampNeg) + 1))))] := ⟨a1_1, rfl⟩
          have G : zS T A s.heap s [[(h, .inr (1, [.ref po, .ref a1_1, .int v0, .ref la, .int v1, .int v2, .int v3, .int v4, .int (v5 + 1), .int v6, .int v7])), (a1_1, .inl (T.2 0, 7, .inl (upd (upd fw x.toNatClampNeg ((fw x.toNatClampNeg) - 1)) y.toNatClampNeg (((upd fw x.toNatClampNeg ((fw x.toNatClampNeg) - 1)) y.toNatClampNeg) + 1))))], z] _ _ := G.re rfl
          exact z_vret C hr hlocks G (Nat.le_of_ble_eq_true rfl) (Nat.le_of_ble_eq_true rfl) dX1_move_96 ⟨([(h, .inr (1, [.ref po, .ref a1_1, .int v0, .ref la, .int v1, .int v2, .int v3, .int v4, .int (v5 + 1), .int v6, .int v7])), (a1_1, .inl (T.2 0, 7, .inl (upd (upd fw x.toNatClampNeg ((fw x.toNatClampNeg) - 1)) y.toNatClampNeg (((upd fw x.toNatClampNeg ((fw x.toNatClampNeg) - 1)) y.toNatClampNeg) + 1))))]), (upd (upd fw x.toNatClampNeg ((fw x.toNatClampNeg) - 1)) y.toNatClampNeg (((upd fw x.toNatClampNeg ((fw x.toNatClampNeg) - 1)) y.toNatClampNeg) + 1)), v3, (v5 + 1), rfl, hw_37, rfl, (if_neg (fun q8 => absurd q8.1 (by omega))).symm, (if_neg (by assumption)).symm⟩
        · have c_36n : v3.toInt = (-1 : Int) := (fa_eq _ _).mp c_36
          refine lv_aload_n hx hb dX1_move_66 rfl (lv_at hl 0 rfl) ?_
          refine z_get C G clX1 0 rfl 3 (by decide) m_fl_RX1_25 rfl dX1_move_67 ?_
          refine lv_iload_n hx hb dX1_move_70 rfl (lv_at hl 2 rfl) ?_
          refine z_Vi (bc := [z]) (br := [[(h, .inr (1, [.ref po, .ref a1_1, .int v0, .ref la, .int v1, .int v2, .int v3, .int v4, .int (v5 + 1), .int v6, .int v7]))], [(a1_1, .inl (T.2 0, 7, .inl (upd (upd fw x.toNatClampNeg ((fw x.toNatClampNeg) - 1)) y.toNatClampNeg (((upd fw x.toNatClampNeg ((fw x.toNatClampNeg) - 1)) y.toNatClampNeg) + 1))))]]) (As := [.int y]) (rest := []) C G (c_isInn l T la cr inn k1 k2 k3 k4 z y hz) (kV_RX1_135 C.2.2.2.2 (Nat.le_of_ble_eq_true rfl) (Nat.le_of_ble_eq_true rfl)) [2] [0, 1] rfl rfl (ci := 4) (qc := (RX4, TX4, 6)) rfl rfl (List.mem_flatten.mpr ⟨_, List.mem_of_getElem? (i := 0) rfl, (bLand_mem hz).choose_spec⟩) rfl rfl hl.1 dX1_move_71 (Nat.le_of_ble_eq_true rfl) (Nat.le_of_ble_eq_true rfl) (fun r_39 b1 H locs hw G => ?_)
          obtain ⟨rfl, hc_38⟩ := hw
          have G : zS T A s.heap s [[(h, .inr (1, [.ref po, .ref a1_1, .int v0, .ref la, .int v1, .int v2, .int v3, .int v4, .int (v5 + 1), .int v6, .int v7]))], [(a1_1, .inl (T.2 0, 7, .inl (upd (upd fw x.toNatClampNeg ((fw x.toNatClampNeg) - 1)) y.toNatClampNeg (((upd fw x.toNatClampNeg ((fw x.toNatClampNeg) - 1)) y.toNatClampNeg) + 1))))], z] _ _ := G
          rcases hc_38 with ⟨rfl, h_40, h_41, h_42, h_43⟩ | ⟨rfl, h_44⟩
          · have h_40 : 0 ≤ y.toInt := h_40
            have h_41 : y.toInt < cr.toInt := h_41
            have h_42 : y.toInt < 7 := h_42
            have h_43 : ¬ zBit inn y = 0 := h_43
            refine lv_if_eq (tgt := 96) hx hb dX1_move_74 (by decide) (fun q => absurd q (by decide)) (fun _ => ?_)
            refine lv_aload_n hx hb dX1_move_77 rfl (lv_at hl 0 rfl) ?_
            refine z_get C G clX1 0 rfl 3 (by decide) m_fl_RX1_25 rfl dX1_move_78 ?_
            refine lv_iload_n hx hb dX1_move_81 rfl (lv_at hl 1 rfl) ?_
            refine z_Vi (bc := [z]) (br := [[(h, .inr (1, [.ref po, .ref a1_1, .int v0, .ref la, .int v1, .int v2, .int v3, .int v4, .int (v5 + 1), .int v6, .int v7]))], [(a1_1, .inl (T.2 0, 7, .inl (upd (upd fw x.toNatClampNeg ((fw x.toNatClampNeg) - 1)) y.toNatClampNeg (((upd fw x.toNatClampNeg ((fw x.toNatClampNeg) - 1)) y.toNatClampNeg) + 1))))]]) (As := [.int x]) (rest := []) C G (c_isInn l T la cr inn k1 k2 k3 k4 z x hz) (kV_RX1_135 C.2.2.2.2 (Nat.le_of_ble_eq_true rfl) (Nat.le_of_ble_eq_true rfl)) [2] [0, 1] rfl rfl (ci := 4) (qc := (RX4, TX4, 6)) rfl rfl (List.mem_flatten.mpr ⟨_, List.mem_of_getElem? (i := 0) rfl, (bLand_mem hz).choose_spec⟩) rfl rfl hl.1 dX1_move_82 (Nat.le_of_ble_eq_true rfl) (Nat.le_of_ble_eq_true rfl) (fun r_46 b1 H locs hw G => ?_)
            obtain ⟨rfl, hc_45⟩ := hw
            have G : zS T A s.heap s [[(h, .inr (1, [.ref po, .ref a1_1, .int v0, .ref la, .int v1, .int v2, .int v3, .int v4, .int (v5 + 1), .int v6, .int v7]))], [(a1_1, .inl (T.2 0, 7, .inl (upd (upd fw x.toNatClampNeg ((fw x.toNatClampNeg) - 1)) y.toNatClampNeg (((upd fw x.toNatClampNeg ((fw x.toNatClampNeg) - 1)) y.toNatClampNeg) + 1))))], z] _ _ := G
            rcases hc_45 with ⟨rfl, h_47, h_48, h_49, h_50⟩ | ⟨rfl, h_51⟩
            · have h_47 : 0 ≤ x.toInt := h_47
              have h_48 : x.toInt < cr.toInt := h_48
              have h_49 : x.toInt < 7 := h_49
              have h_50 : ¬ zBit inn x = 0 := h_50
              refine lv_if_ne (tgt := 96) hx hb dX1_move_85 (by decide) (fun _ => ?_) (fun q => absurd q (by decide))
              have hw_52 : bCourse T h po la (upd (upd fw x.toNatClampNeg ((fw x.toNatClampNeg) - 1)) y.toNatClampNeg (((upd fw x.toNatClampNeg ((fw x.toNatClampNeg) - 1)) y.toNatClampNeg) + 1)) v0 v1 v2 v3 v4 (v5 + 1) v6 v7 [(h, .inr (1, [.ref po, .ref a1_1, .int v0, .ref la, .int v1, .int v2, .int v3, .int v4, .int (v5 + 1), .int v6, .int v7])), (a1_1, .inl (T.2 0, 7, .inl (upd (upd fw x.toNatClampNeg ((fw x.toNatClampNeg) - 1)) y.toNatClampNeg (((upd fw x.toNatClampNeg ((fw x.toNatClampNeg) - 1)) y.toNatClampNeg) + 1))))] := ⟨a1_1, rfl⟩
              have G : zS T A s.heap s [[(h, .inr (1, [.ref po, .ref a1_1, .int v0, .ref la, .int v1, .int v2, .int v3, .int v4, .int (v5 + 1), .int v6, .int v7])), (a1_1, .inl (T.2 0, 7, .inl (upd (upd fw x.toNatClampNeg ((fw x.toNatClampNeg) - 1)) y.toNatClampNeg (((upd fw x.toNatClampNeg ((fw x.toNatClampNeg) - 1)) y.toNatClampNeg) + 1))))], z] _ _ := G.re rfl
              exact z_vret C hr hlocks G (Nat.le_of_ble_eq_true rfl) (Nat.le_of_ble_eq_true rfl) dX1_move_96 ⟨([(h, .inr (1, [.ref po, .ref a1_1, .int v0, .ref la, .int v1, .int v2, .int v3, .int v4, .int (v5 + 1), .int v6, .int v7])), (a1_1, .inl (T.2 0, 7, .inl (upd (upd fw x.toNatClampNeg ((fw x.toNatClampNeg) - 1)) y.toNatClampNeg (((upd fw x.toNatClampNeg ((fw x.toNatClampNeg) - 1)) y.toNatClampNeg) + 1))))]), (upd (upd fw x.toNatClampNeg ((fw x.toNatClampNeg) - 1)) y.toNatClampNeg (((upd fw x.toNatClampNeg ((fw x.toNatClampNeg) - 1)) y.toNatClampNeg) + 1)), v3, (v5 + 1), rfl, hw_52, rfl, (if_neg (fun q8 => q8.2.2 (zBit_p h_50))).symm, (if_neg (by assumption)).symm⟩
            · have h_51 : (x.toInt < 0 ∨ cr.toInt ≤ x.toInt ∨ 7 ≤ x.toInt ∨ zBit inn x = 0) := h_51
              refine lv_if_ne (tgt := 96) hx hb dX1_move_85 (by decide) (fun q => absurd (by decide) q) (fun _ => ?_)
              refine lv_aload_n hx hb dX1_move_88 rfl (lv_at hl 0 rfl) ?_
              refine lv_aload_n hx hb dX1_move_89 rfl (lv_at hl 0 rfl) ?_
              refine z_get C G clX1 0 rfl 5 (by decide) m_fl_RX1_41 rfl dX1_move_90 ?_
              refine z_put C G clX1 0 rfl 6 (by decide) m_fl_RX1_44 rfl rfl rfl (Nat.le_of_ble_eq_true rfl) dX1_move_93 (fun H locs G => ?_)
              have G : zS T A s.heap s [[(h, .inr (1, [.ref po, .ref a1_1, .int v0, .ref la, .int v1, .int v2, .int v2, .int v4, .int (v5 + 1), .int v6, .int v7]))], [(a1_1, .inl (T.2 0, 7, .inl (upd (upd fw x.toNatClampNeg ((fw x.toNatClampNeg) - 1)) y.toNatClampNeg (((upd fw x.toNatClampNeg ((fw x.toNatClampNeg) - 1)) y.toNatClampNeg) + 1))))], z] _ _ := G
              have hw_53 : bCourse T h po la (upd (upd fw x.toNatClampNeg ((fw x.toNatClampNeg) - 1)) y.toNatClampNeg (((upd fw x.toNatClampNeg ((fw x.toNatClampNeg) - 1)) y.toNatClampNeg) + 1)) v0 v1 v2 v2 v4 (v5 + 1) v6 v7 [(h, .inr (1, [.ref po, .ref a1_1, .int v0, .ref la, .int v1, .int v2, .int v2, .int v4, .int (v5 + 1), .int v6, .int v7])), (a1_1, .inl (T.2 0, 7, .inl (upd (upd fw x.toNatClampNeg ((fw x.toNatClampNeg) - 1)) y.toNatClampNeg (((upd fw x.toNatClampNeg ((fw x.toNatClampNeg) - 1)) y.toNatClampNeg) + 1))))] := ⟨a1_1, rfl⟩
              have G : zS T A s.heap s [[(h, .inr (1, [.ref po, .ref a1_1, .int v0, .ref la, .int v1, .int v2, .int v2, .int v4, .int (v5 + 1), .int v6, .int v7])), (a1_1, .inl (T.2 0, 7, .inl (upd (upd fw x.toNatClampNeg ((fw x.toNatClampNeg) - 1)) y.toNatClampNeg (((upd fw x.toNatClampNeg ((fw x.toNatClampNeg) - 1)) y.toNatClampNeg) + 1))))], z] _ _ := G.re rfl
              exact z_vret C hr hlocks G (Nat.le_of_ble_eq_true rfl) (Nat.le_of_ble_eq_true rfl) dX1_move_96 ⟨([(h, .inr (1, [.ref po, .ref a1_1, .int v0, .ref la, .int v1, .int v2, .int v2, .int v4, .int (v5 + 1), .int v6, .int v7])), (a1_1, .inl (T.2 0, 7, .inl (upd (upd fw x.toNatClampNeg ((fw x.toNatClampNeg) - 1)) y.toNatClampNeg (((upd fw x.toNatClampNeg ((fw x.toNatClampNeg) - 1)) y.toNatClampNeg) + 1))))]), (upd (upd fw x.toNatClampNeg ((fw x.toNatClampNeg) - 1)) y.toNatClampNeg (((upd fw x.toNatClampNeg ((fw x.toNatClampNeg) - 1)) y.toNatClampNeg) + 1)), v2, (v5 + 1), rfl, hw_53, rfl, (if_pos ⟨by omega, zBit_p h_43, fun q8 => by rcases h_51 with e9 | e9 | e9 | e9 <;> first | (exfalso; omega) | (exfalso; have ti9 := nI_toInt (n := i) (by omega); omega) | exact zBit_o q8 e9⟩).symm, (if_neg (by assumption)).symm⟩
          · have h_44 : (y.toInt < 0 ∨ cr.toInt ≤ y.toInt ∨ 7 ≤ y.toInt ∨ zBit inn y = 0) := h_44
            refine lv_if_eq (tgt := 96) hx hb dX1_move_74 (by decide) (fun _ => ?_) (fun q => absurd (by decide) q)
            have hw_54 : bCourse T h po la (upd (upd fw x.toNatClampNeg ((fw x.toNatClampNeg) - 1)) y.toNatClampNeg (((upd fw x.toNatClampNeg ((fw x.toNatClampNeg) - 1)) y.toNatClampNeg) + 1)) v0 v1 v2 v3 v4 (v5 + 1) v6 v7 [(h, .inr (1, [.ref po, .ref a1_1, .int v0, .ref la, .int v1, .int v2, .int v3, .int v4, .int (v5 + 1), .int v6, .int v7])), (a1_1, .inl (T.2 0, 7, .inl (upd (upd fw x.toNatClampNeg ((fw x.toNatClampNeg) - 1)) y.toNatClampNeg (((upd fw x.toNatClampNeg ((fw x.toNatClampNeg) - 1)) y.toNatClampNeg) + 1))))] := ⟨a1_1, rfl⟩
            have G : zS T A s.heap s [[(h, .inr (1, [.ref po, .ref a1_1, .int v0, .ref la, .int v1, .int v2, .int v3, .int v4, .int (v5 + 1), .int v6, .int v7])), (a1_1, .inl (T.2 0, 7, .inl (upd (upd fw x.toNatClampNeg ((fw x.toNatClampNeg) - 1)) y.toNatClampNeg (((upd fw x.toNatClampNeg ((fw x.toNatClampNeg) - 1)) y.toNatClampNeg) + 1))))], z] _ _ := G.re rfl
            exact z_vret C hr hlocks G (Nat.le_of_ble_eq_true rfl) (Nat.le_of_ble_eq_true rfl) dX1_move_96 ⟨([(h, .inr (1, [.ref po, .ref a1_1, .int v0, .ref la, .int v1, .int v2, .int v3, .int v4, .int (v5 + 1), .int v6, .int v7])), (a1_1, .inl (T.2 0, 7, .inl (upd (upd fw x.toNatClampNeg ((fw x.toNatClampNeg) - 1)) y.toNatClampNeg (((upd fw x.toNatClampNeg ((fw x.toNatClampNeg) - 1)) y.toNatClampNeg) + 1))))]), (upd (upd fw x.toNatClampNeg ((fw x.toNatClampNeg) - 1)) y.toNatClampNeg (((upd fw x.toNatClampNeg ((fw x.toNatClampNeg) - 1)) y.toNatClampNeg) + 1)), v3, (v5 + 1), rfl, hw_54, rfl, (if_neg (fun q8 => by rcases h_44 with e9 | e9 | e9 | e9 <;> first | (exfalso; omega) | (exfalso; have ti9 := nI_toInt (n := i) (by omega); omega) | exact zBit_o q8.2.1 e9)).symm, (if_neg (by assumption)).symm⟩
    · have h_13 : (y.toInt < 0 ∨ cr.toInt ≤ y.toInt ∨ 7 ≤ y.toInt) := h_13
      refine lv_if_ne (tgt := 23) hx hb dX1_move_19 (by decide) (fun q => absurd (by decide) q) (fun _ => ?_)
      have hw_55 : bCourse T h po la fw v0 v1 v2 v3 v4 v5 v6 v7 [(h, .inr (1, [.ref po, .ref a1_1, .int v0, .ref la, .int v1, .int v2, .int v3, .int v4, .int v5, .int v6, .int v7])), (a1_1, .inl (T.2 0, 7, .inl fw))] := ⟨a1_1, rfl⟩
      have G : zS T A s.heap s [[(h, .inr (1, [.ref po, .ref a1_1, .int v0, .ref la, .int v1, .int v2, .int v3, .int v4, .int v5, .int v6, .int v7])), (a1_1, .inl (T.2 0, 7, .inl fw))], z] _ _ := G.re rfl
      exact z_vret C hr hlocks G (Nat.le_of_ble_eq_true rfl) (Nat.le_of_ble_eq_true rfl) dX1_move_22 ⟨([(h, .inr (1, [.ref po, .ref a1_1, .int v0, .ref la, .int v1, .int v2, .int v3, .int v4, .int v5, .int v6, .int v7])), (a1_1, .inl (T.2 0, 7, .inl fw))]), fw, v3, v5, rfl, hw_55, (by exfalso; omega), (by exfalso; omega), (by exfalso; omega)⟩
  · have h_7 : (x.toInt < 0 ∨ cr.toInt ≤ x.toInt ∨ 7 ≤ x.toInt) := h_7
    refine lv_if_eq (tgt := 22) hx hb dX1_move_8 (by decide) (fun _ => ?_) (fun q => absurd (by decide) q)
    have hw_56 : bCourse T h po la fw v0 v1 v2 v3 v4 v5 v6 v7 [(h, .inr (1, [.ref po, .ref a1_1, .int v0, .ref la, .int v1, .int v2, .int v3, .int v4, .int v5, .int v6, .int v7])), (a1_1, .inl (T.2 0, 7, .inl fw))] := ⟨a1_1, rfl⟩
    have G : zS T A s.heap s [[(h, .inr (1, [.ref po, .ref a1_1, .int v0, .ref la, .int v1, .int v2, .int v3, .int v4, .int v5, .int v6, .int v7])), (a1_1, .inl (T.2 0, 7, .inl fw))], z] _ _ := G.re rfl
    exact z_vret C hr hlocks G (Nat.le_of_ble_eq_true rfl) (Nat.le_of_ble_eq_true rfl) dX1_move_22 ⟨([(h, .inr (1, [.ref po, .ref a1_1, .int v0, .ref la, .int v1, .int v2, .int v3, .int v4, .int v5, .int v6, .int v7])), (a1_1, .inl (T.2 0, 7, .inl fw))]), fw, v3, v5, rfl, hw_56, (by exfalso; omega), (by exfalso; omega), (by exfalso; omega)⟩
set_option maxHeartbeats 4000000 in
set_option maxRecDepth 100000 in
/-- c_x_lookAtCrowd -/
theorem c_x_lookAtCrowd (l : Launch) (T : zTy) (h : Nat) (po : Nat) (la : Nat) (fw : Nat → Int32) (v0 : Int32) (v1 : Int32) (v2 : Int32) (v3 : Int32) (v4 : Int32) (v5 : Int32) (v6 : Int32) (v7 : Int32) (wc : va_W) (cr : Int32) (inn : Int32) (k1 : Nat → Int32) (k2 : Nat → Int32) (k3 : Nat → Int32) (k4 : Nat → Int32) (z : va_W) (hc : bCourse T h po la fw v0 v1 v2 v3 v4 v5 v6 v7 wc) (hz : bLand T la cr inn k1 k2 k3 k4 z) (hI : zLI cr k1 k3) : zMv l T yX1_lookAtCrowd cX1_lookAtCrowd 2 3 0 0 [.ref h] [wc, z] (fun bs => ∃ (wc2 : va_W) (u6 : Int32), bs = [wc2, z] ∧ bCourse T h po la fw v0 v1 v2 v3 v4 v5 u6 v7 wc2 ∧ u6 = zCw inn fw v6 cr.toInt.toNat) := by
  refine zMv_of (own := RX1) (by decide) rfl (Nat.le_of_ble_eq_true rfl) ?_
  intro p e s m args below meth c A ls C hr hlocks hnm hAe G hl
  have hx := C.1
  have hb := C.2.1
  have hl : lv_has ls 2 [(0, .ref h)] := hl
  have hcr := hI.1
  refine lv_iconst (v := 0) hx hb dX1_lookAtCrowd_0 (by decide) ?_
  refine lv_istore_n (lv' := [(1, .int 0), (0, .ref h)]) hx hb dX1_lookAtCrowd_1 rfl hl (by decide) rfl (fun ls hl => ?_)
  obtain ⟨a1_1, rfl⟩ := hc
  have G : zS T A s.heap s [[(h, .inr (1, [.ref po, .ref a1_1, .int v0, .ref la, .int v1, .int v2, .int v3, .int v4, .int v5, .int v6, .int v7]))], [(a1_1, .inl (T.2 0, 7, .inl fw))], z] _ _ := G.re rfl
  obtain ⟨a1_2, a2_3, a3_4, a4_5, rfl⟩ := hz
  have G : zS T A s.heap s [[(h, .inr (1, [.ref po, .ref a1_1, .int v0, .ref la, .int v1, .int v2, .int v3, .int v4, .int v5, .int v6, .int v7]))], [(a1_1, .inl (T.2 0, 7, .inl fw))], [(la, .inr (4, [.int cr, .int inn, .ref a1_2, .ref a2_3, .ref a3_4, .ref a4_5]))], [(a1_2, .inl (T.2 0, 7, .inl k1))], [(a2_3, .inl (T.2 0, 28, .inl k2))], [(a3_4, .inl (T.2 0, 7, .inl k3))], [(a4_5, .inl (T.2 0, 7, .inl k4))]] _ _ := G.re rfl
  have hw_6 : bCourse T h po la fw v0 v1 v2 v3 v4 v5 v6 v7 [(h, .inr (1, [.ref po, .ref a1_1, .int v0, .ref la, .int v1, .int v2, .int v3, .int v4, .int v5, .int v6, .int v7])), (a1_1, .inl (T.2 0, 7, .inl fw))] := ⟨a1_1, rfl⟩
  have G : zS T A s.heap s [[(h, .inr (1, [.ref po, .ref a1_1, .int v0, .ref la, .int v1, .int v2, .int v3, .int v4, .int v5, .int v6, .int v7])), (a1_1, .inl (T.2 0, 7, .inl fw))], [(la, .inr (4, [.int cr, .int inn, .ref a1_2, .ref a2_3, .ref a3_4, .ref a4_5]))], [(a1_2, .inl (T.2 0, 7, .inl k1))], [(a2_3, .inl (T.2 0, 28, .inl k2))], [(a3_4, .inl (T.2 0, 7, .inl k3))], [(a4_5, .inl (T.2 0, 7, .inl k4))]] _ _ := G.re rfl
  have hw_7 : bLand T la cr inn k1 k2 k3 k4 [(la, .inr (4, [.int cr, .int inn, .ref a1_2, .ref a2_3, .ref a3_4, .ref a4_5])), (a1_2, .inl (T.2 0, 7, .inl k1)), (a2_3, .inl (T.2 0, 28, .inl k2)), (a3_4, .inl (T.2 0, 7, .inl k3)), (a4_5, .inl (T.2 0, 7, .inl k4))] := ⟨a1_2, a2_3, a3_4, a4_5, rfl⟩
  have G : zS T A s.heap s [[(h, .inr (1, [.ref po, .ref a1_1, .int v0, .ref la, .int v1, .int v2, .int v3, .int v4, .int v5, .int v6, .int v7])), (a1_1, .inl (T.2 0, 7, .inl fw))], [(la, .inr (4, [.int cr, .int inn, .ref a1_2, .ref a2_3, .ref a3_4, .ref a4_5])), (a1_2, .inl (T.2 0, 7, .inl k1)), (a2_3, .inl (T.2 0, 28, .inl k2)), (a3_4, .inl (T.2 0, 7, .inl k3)), (a4_5, .inl (T.2 0, 7, .inl k4))]] _ _ := G.re rfl
  refine z_loop (T := T) (α := Nat × va_W × Int32) 2 (fun (i, wc3, y6) => [wc3, [(la, .inr (4, [.int cr, .int inn, .ref a1_2, .ref a2_3, .ref a3_4, .ref a4_5])), (a1_2, .inl (T.2 0, 7, .inl k1)), (a2_3, .inl (T.2 0, 28, .inl k2)), (a3_4, .inl (T.2 0, 7, .inl k3)), (a4_5, .inl (T.2 0, 7, .inl k4))]]) (fun (i, wc3, y6) => [(1, .int (nI i)), (0, .ref h)]) (fun (i, wc3, y6) => bCourse T h po la fw v0 v1 v2 v3 v4 v5 y6 v7 wc3 ∧ i ≤ cr.toInt.toNat ∧ i ≤ 7 ∧ y6 = zCw inn fw v6 i) (fun (i, wc3, y6) => 7 - i) ?_ (0, ([(h, .inr (1, [.ref po, .ref a1_1, .int v0, .ref la, .int v1, .int v2, .int v3, .int v4, .int v5, .int v6, .int v7])), (a1_1, .inl (T.2 0, 7, .inl fw))]), v6) (show bCourse T h po la fw v0 v1 v2 v3 v4 v5 v6 v7 ([(h, .inr (1, [.ref po, .ref a1_1, .int v0, .ref la, .int v1, .int v2, .int v3, .int v4, .int v5, .int v6, .int v7])), (a1_1, .inl (T.2 0, 7, .inl fw))]) ∧ 0 ≤ cr.toInt.toNat ∧ 0 ≤ 7 ∧ v6 = zCw inn fw v6 0 from ⟨hw_6, by omega, by omega, rfl⟩) G (lv_sub hl [0, 1] rfl)
  rintro ⟨i, wc3, y6⟩ ⟨hc3, hi, hi7, hU⟩ ih_2 H locs ls G hl
  replace hc3 : bCourse T h po la fw v0 v1 v2 v3 v4 v5 y6 v7 wc3 := hc3
  replace hi : i ≤ cr.toInt.toNat := hi
  replace hi7 : i ≤ 7 := hi7
  replace hU : y6 = zCw inn fw v6 i := hU
  replace G : zS T A s.heap s [wc3, [(la, .inr (4, [.int cr, .int inn, .ref a1_2, .ref a2_3, .ref a3_4, .ref a4_5])), (a1_2, .inl (T.2 0, 7, .inl k1)), (a2_3, .inl (T.2 0, 28, .inl k2)), (a3_4, .inl (T.2 0, 7, .inl k3)), (a4_5, .inl (T.2 0, 7, .inl k4))]] _ _ := G
  replace hl : lv_has ls 2 [(1, .int (nI i)), (0, .ref h)] := hl
  refine lv_iload_n hx hb dX1_lookAtCrowd_2 rfl (lv_at hl 0 rfl) ?_
  refine lv_aload_n hx hb dX1_lookAtCrowd_3 rfl (lv_at hl 1 rfl) ?_
  obtain ⟨a1_8, rfl⟩ := hc3
  have G : zS T A s.heap s [[(h, .inr (1, [.ref po, .ref a1_8, .int v0, .ref la, .int v1, .int v2, .int v3, .int v4, .int v5, .int y6, .int v7]))], [(a1_8, .inl (T.2 0, 7, .inl fw))], [(la, .inr (4, [.int cr, .int inn, .ref a1_2, .ref a2_3, .ref a3_4, .ref a4_5])), (a1_2, .inl (T.2 0, 7, .inl k1)), (a2_3, .inl (T.2 0, 28, .inl k2)), (a3_4, .inl (T.2 0, 7, .inl k3)), (a4_5, .inl (T.2 0, 7, .inl k4))]] _ _ := G.re rfl
  refine z_get C G clX1 0 rfl 3 (by decide) m_fl_RX1_25 rfl dX1_lookAtCrowd_4 ?_
  have G : zS T A s.heap s [[(h, .inr (1, [.ref po, .ref a1_8, .int v0, .ref la, .int v1, .int v2, .int v3, .int v4, .int v5, .int y6, .int v7]))], [(a1_8, .inl (T.2 0, 7, .inl fw))], [(la, .inr (4, [.int cr, .int inn, .ref a1_2, .ref a2_3, .ref a3_4, .ref a4_5]))], [(a1_2, .inl (T.2 0, 7, .inl k1))], [(a2_3, .inl (T.2 0, 28, .inl k2))], [(a3_4, .inl (T.2 0, 7, .inl k3))], [(a4_5, .inl (T.2 0, 7, .inl k4))]] _ _ := G.re rfl
  refine z_get C G clX4 2 rfl 0 (by decide) m_fl_RX1_88 rfl dX1_lookAtCrowd_7 ?_
  refine lv_icmp_ge (tgt := 53) hx hb dX1_lookAtCrowd_10 (by decide) (fun c_9 => ?_) (fun c_9 => ?_)
  · have c_9n : cr.toInt ≤ (i : Int) := by have q := (fa_le _ _).mp c_9; rw [nI_toInt (n := i) (by omega)] at q; exact q
    have hw_10 : bCourse T h po la fw v0 v1 v2 v3 v4 v5 y6 v7 [(h, .inr (1, [.ref po, .ref a1_8, .int v0, .ref la, .int v1, .int v2, .int v3, .int v4, .int v5, .int y6, .int v7])), (a1_8, .inl (T.2 0, 7, .inl fw))] := ⟨a1_8, rfl⟩
    have G : zS T A s.heap s [[(h, .inr (1, [.ref po, .ref a1_8, .int v0, .ref la, .int v1, .int v2, .int v3, .int v4, .int v5, .int y6, .int v7])), (a1_8, .inl (T.2 0, 7, .inl fw))], [(la, .inr (4, [.int cr, .int inn, .ref a1_2, .ref a2_3, .ref a3_4, .ref a4_5]))], [(a1_2, .inl (T.2 0, 7, .inl k1))], [(a2_3, .inl (T.2 0, 28, .inl k2))], [(a3_4, .inl (T.2 0, 7, .inl k3))], [(a4_5, .inl (T.2 0, 7, .inl k4))]] _ _ := G.re rfl
    have hw_11 : bLand T la cr inn k1 k2 k3 k4 [(la, .inr (4, [.int cr, .int inn, .ref a1_2, .ref a2_3, .ref a3_4, .ref a4_5])), (a1_2, .inl (T.2 0, 7, .inl k1)), (a2_3, .inl (T.2 0, 28, .inl k2)), (a3_4, .inl (T.2 0, 7, .inl k3)), (a4_5, .inl (T.2 0, 7, .inl k4))] := ⟨a1_2, a2_3, a3_4, a4_5, rfl⟩
    have G : zS T A s.heap s [[(h, .inr (1, [.ref po, .ref a1_8, .int v0, .ref la, .int v1, .int v2, .int v3, .int v4, .int v5, .int y6, .int v7])), (a1_8, .inl (T.2 0, 7, .inl fw))], [(la, .inr (4, [.int cr, .int inn, .ref a1_2, .ref a2_3, .ref a3_4, .ref a4_5])), (a1_2, .inl (T.2 0, 7, .inl k1)), (a2_3, .inl (T.2 0, 28, .inl k2)), (a3_4, .inl (T.2 0, 7, .inl k3)), (a4_5, .inl (T.2 0, 7, .inl k4))]] _ _ := G.re rfl
    exact z_vret C hr hlocks G (Nat.le_of_ble_eq_true rfl) (Nat.le_of_ble_eq_true rfl) dX1_lookAtCrowd_53 ⟨([(h, .inr (1, [.ref po, .ref a1_8, .int v0, .ref la, .int v1, .int v2, .int v3, .int v4, .int v5, .int y6, .int v7])), (a1_8, .inl (T.2 0, 7, .inl fw))]), y6, rfl, hw_10, (by rw [hU, show i = cr.toInt.toNat by omega])⟩
  · have c_9n : ¬ cr.toInt ≤ (i : Int) := fun q => c_9 ((fa_le _ _).mpr (by rw [nI_toInt (n := i) (by omega)]; exact q))
    refine lv_iload_n hx hb dX1_lookAtCrowd_13 rfl (lv_at hl 0 rfl) ?_
    refine lv_bipush (v := 7) hx hb dX1_lookAtCrowd_14 (by decide) ?_
    refine lv_icmp_ge (tgt := 53) hx hb dX1_lookAtCrowd_16 (by decide) (fun c_12 => ?_) (fun c_12 => ?_)
    · have c_12n : 7 ≤ i := (nI_leI (a := 7) (b := i) (by omega) (by omega)).mp c_12
      have hw_13 : bCourse T h po la fw v0 v1 v2 v3 v4 v5 y6 v7 [(h, .inr (1, [.ref po, .ref a1_8, .int v0, .ref la, .int v1, .int v2, .int v3, .int v4, .int v5, .int y6, .int v7])), (a1_8, .inl (T.2 0, 7, .inl fw))] := ⟨a1_8, rfl⟩
      have G : zS T A s.heap s [[(h, .inr (1, [.ref po, .ref a1_8, .int v0, .ref la, .int v1, .int v2, .int v3, .int v4, .int v5, .int y6, .int v7])), (a1_8, .inl (T.2 0, 7, .inl fw))], [(la, .inr (4, [.int cr, .int inn, .ref a1_2, .ref a2_3, .ref a3_4, .ref a4_5]))], [(a1_2, .inl (T.2 0, 7, .inl k1))], [(a2_3, .inl (T.2 0, 28, .inl k2))], [(a3_4, .inl (T.2 0, 7, .inl k3))], [(a4_5, .inl (T.2 0, 7, .inl k4))]] _ _ := G.re rfl
      have hw_14 : bLand T la cr inn k1 k2 k3 k4 [(la, .inr (4, [.int cr, .int inn, .ref a1_2, .ref a2_3, .ref a3_4, .ref a4_5])), (a1_2, .inl (T.2 0, 7, .inl k1)), (a2_3, .inl (T.2 0, 28, .inl k2)), (a3_4, .inl (T.2 0, 7, .inl k3)), (a4_5, .inl (T.2 0, 7, .inl k4))] := ⟨a1_2, a2_3, a3_4, a4_5, rfl⟩
      have G : zS T A s.heap s [[(h, .inr (1, [.ref po, .ref a1_8, .int v0, .ref la, .int v1, .int v2, .int v3, .int v4, .int v5, .int y6, .int v7])), (a1_8, .inl (T.2 0, 7, .inl fw))], [(la, .inr (4, [.int cr, .int inn, .ref a1_2, .ref a2_3, .ref a3_4, .ref a4_5])), (a1_2, .inl (T.2 0, 7, .inl k1)), (a2_3, .inl (T.2 0, 28, .inl k2)), (a3_4, .inl (T.2 0, 7, .inl k3)), (a4_5, .inl (T.2 0, 7, .inl k4))]] _ _ := G.re rfl
      exact z_vret C hr hlocks G (Nat.le_of_ble_eq_true rfl) (Nat.le_of_ble_eq_true rfl) dX1_lookAtCrowd_53 ⟨([(h, .inr (1, [.ref po, .ref a1_8, .int v0, .ref la, .int v1, .int v2, .int v3, .int v4, .int v5, .int y6, .int v7])), (a1_8, .inl (T.2 0, 7, .inl fw))]), y6, rfl, hw_13, (by rw [hU, show i = cr.toInt.toNat by omega])⟩
    · have c_12n : ¬ 7 ≤ i := fun q => c_12 ((nI_leI (a := 7) (b := i) (by omega) (by omega)).mpr q)
      refine lv_aload_n hx hb dX1_lookAtCrowd_19 rfl (lv_at hl 1 rfl) ?_
      refine z_get C G clX1 0 rfl 3 (by decide) m_fl_RX1_25 rfl dX1_lookAtCrowd_20 ?_
      refine lv_iload_n hx hb dX1_lookAtCrowd_23 rfl (lv_at hl 0 rfl) ?_
      have hw_15 : bLand T la cr inn k1 k2 k3 k4 [(la, .inr (4, [.int cr, .int inn, .ref a1_2, .ref a2_3, .ref a3_4, .ref a4_5])), (a1_2, .inl (T.2 0, 7, .inl k1)), (a2_3, .inl (T.2 0, 28, .inl k2)), (a3_4, .inl (T.2 0, 7, .inl k3)), (a4_5, .inl (T.2 0, 7, .inl k4))] := ⟨a1_2, a2_3, a3_4, a4_5, rfl⟩
      have G : zS T A s.heap s [[(h, .inr (1, [.ref po, .ref a1_8, .int v0, .ref la, .int v1, .int v2, .int v3, .int v4, .int v5, .int y6, .int v7]))], [(a1_8, .inl (T.2 0, 7, .inl fw))], [(la, .inr (4, [.int cr, .int inn, .ref a1_2, .ref a2_3, .ref a3_4, .ref a4_5])), (a1_2, .inl (T.2 0, 7, .inl k1)), (a2_3, .inl (T.2 0, 28, .inl k2)), (a3_4, .inl (T.2 0, 7, .inl k3)), (a4_5, .inl (T.2 0, 7, .inl k4))]] _ _ := G.re rfl
      refine z_Vi (bc := [[(la, .inr (4, [.int cr, .int inn, .ref a1_2, .ref a2_3, .ref a3_4, .ref a4_5])), (a1_2, .inl (T.2 0, 7, .inl k1)), (a2_3, .inl (T.2 0, 28, .inl k2)), (a3_4, .inl (T.2 0, 7, .inl k3)), (a4_5, .inl (T.2 0, 7, .inl k4))]]) (br := [[(h, .inr (1, [.ref po, .ref a1_8, .int v0, .ref la, .int v1, .int v2, .int v3, .int v4, .int v5, .int y6, .int v7]))], [(a1_8, .inl (T.2 0, 7, .inl fw))]]) (As := [.int (nI i)]) (rest := []) C G (c_isInn l T la cr inn k1 k2 k3 k4 ([(la, .inr (4, [.int cr, .int inn, .ref a1_2, .ref a2_3, .ref a3_4, .ref a4_5])), (a1_2, .inl (T.2 0, 7, .inl k1)), (a2_3, .inl (T.2 0, 28, .inl k2)), (a3_4, .inl (T.2 0, 7, .inl k3)), (a4_5, .inl (T.2 0, 7, .inl k4))]) (nI i) hw_15) (kV_RX1_135 C.2.2.2.2 (Nat.le_of_ble_eq_true rfl) (Nat.le_of_ble_eq_true rfl)) [2] [0, 1] rfl rfl (ci := 4) (qc := (RX4, TX4, 6)) rfl rfl (List.mem_flatten.mpr ⟨_, List.mem_of_getElem? (i := 0) rfl, (bLand_mem hw_15).choose_spec⟩) rfl rfl hl.1 dX1_lookAtCrowd_24 (Nat.le_of_ble_eq_true rfl) (Nat.le_of_ble_eq_true rfl) (fun r_17 b1 H locs hw G => ?_)
      obtain ⟨rfl, hc_16⟩ := hw
      have G : zS T A s.heap s [[(h, .inr (1, [.ref po, .ref a1_8, .int v0, .ref la, .int v1, .int v2, .int v3, .int v4, .int v5, .int y6, .int v7]))], [(a1_8, .inl (T.2 0, 7, .inl fw))], [(la, .inr (4, [.int cr, .int inn, .ref a1_2, .ref a2_3, .ref a3_4, .ref a4_5])), (a1_2, .inl (T.2 0, 7, .inl k1)), (a2_3, .inl (T.2 0, 28, .inl k2)), (a3_4, .inl (T.2 0, 7, .inl k3)), (a4_5, .inl (T.2 0, 7, .inl k4))]] _ _ := G
      rcases hc_16 with ⟨rfl, h_18, h_19, h_20, h_21⟩ | ⟨rfl, h_22⟩
      · have h_18 : 0 ≤ (nI i).toInt := h_18
        have h_19 : (nI i).toInt < cr.toInt := h_19
        have h_20 : (nI i).toInt < 7 := h_20
        have h_21 : ¬ zBit inn (nI i) = 0 := h_21
        refine lv_if_ne (tgt := 47) hx hb dX1_lookAtCrowd_27 (by decide) (fun _ => ?_) (fun q => absurd q (by decide))
        refine lv_iinc (v := nI (i + 1)) (lv' := [(1, .int (nI (i + 1))), (0, .ref h)]) hx hb dX1_lookAtCrowd_47 hl (k := 0) rfl (z_inc i 1) (by decide) rfl (fun ls hl => ?_)
        refine lv_goto (tgt := 2) hx hb dX1_lookAtCrowd_50 (by decide) ?_
        have hw_23 : bCourse T h po la fw v0 v1 v2 v3 v4 v5 y6 v7 [(h, .inr (1, [.ref po, .ref a1_8, .int v0, .ref la, .int v1, .int v2, .int v3, .int v4, .int v5, .int y6, .int v7])), (a1_8, .inl (T.2 0, 7, .inl fw))] := ⟨a1_8, rfl⟩
        have G : zS T A s.heap s [[(h, .inr (1, [.ref po, .ref a1_8, .int v0, .ref la, .int v1, .int v2, .int v3, .int v4, .int v5, .int y6, .int v7])), (a1_8, .inl (T.2 0, 7, .inl fw))], [(la, .inr (4, [.int cr, .int inn, .ref a1_2, .ref a2_3, .ref a3_4, .ref a4_5])), (a1_2, .inl (T.2 0, 7, .inl k1)), (a2_3, .inl (T.2 0, 28, .inl k2)), (a3_4, .inl (T.2 0, 7, .inl k3)), (a4_5, .inl (T.2 0, 7, .inl k4))]] _ _ := G.re rfl
        exact ih_2 ((i + 1), ([(h, .inr (1, [.ref po, .ref a1_8, .int v0, .ref la, .int v1, .int v2, .int v3, .int v4, .int v5, .int y6, .int v7])), (a1_8, .inl (T.2 0, 7, .inl fw))]), y6) (show bCourse T h po la fw v0 v1 v2 v3 v4 v5 y6 v7 ([(h, .inr (1, [.ref po, .ref a1_8, .int v0, .ref la, .int v1, .int v2, .int v3, .int v4, .int v5, .int y6, .int v7])), (a1_8, .inl (T.2 0, 7, .inl fw))]) ∧ (i + 1) ≤ cr.toInt.toNat ∧ (i + 1) ≤ 7 ∧ y6 = zCw inn fw v6 (i + 1) from ⟨hw_23, by omega, by omega, (zCw_i hU (zBit_p h_21))⟩) (show 7 - (i + 1) < 7 - i from by omega) _ _ ls G (lv_sub hl [0, 1] rfl)
      · have h_22 : ((nI i).toInt < 0 ∨ cr.toInt ≤ (nI i).toInt ∨ 7 ≤ (nI i).toInt ∨ zBit inn (nI i) = 0) := h_22
        refine lv_if_ne (tgt := 47) hx hb dX1_lookAtCrowd_27 (by decide) (fun q => absurd (by decide) q) (fun _ => ?_)
        refine lv_aload_n hx hb dX1_lookAtCrowd_30 rfl (lv_at hl 1 rfl) ?_
        refine lv_aload_n hx hb dX1_lookAtCrowd_31 rfl (lv_at hl 1 rfl) ?_
        refine z_get C G clX1 0 rfl 9 (by decide) m_fl_RX1_53 rfl dX1_lookAtCrowd_32 ?_
        refine lv_aload_n hx hb dX1_lookAtCrowd_35 rfl (lv_at hl 1 rfl) ?_
        refine z_get C G clX1 0 rfl 1 (by decide) m_fl_RX1_18 rfl dX1_lookAtCrowd_36 ?_
        refine lv_iload_n hx hb dX1_lookAtCrowd_39 rfl (lv_at hl 0 rfl) ?_
        refine z_ild C G 1 rfl (vp_in_nI (by omega) (by omega)) dX1_lookAtCrowd_40 ?_
        refine lv_topi (fun v_24 ev_24 => ?_)
        rw [nI_clamp (by omega)] at ev_24
        subst ev_24
        refine va_mmax hx hb (C.2.2.1.trans hl.1.symm) C.2.2.2.1 (C.2.2.2.2 _ m_ml_RX1_126) (C.2.2.2.2 _ m_st_math_max) (C.2.2.2.2 _ m_ii_math) (C.2.2.2.2 _ m_co_math_max) (Nat.le_of_ble_eq_true rfl) (Nat.le_of_ble_eq_true rfl) (Nat.le_of_ble_eq_true rfl) (Nat.le_of_ble_eq_true rfl) dX1_lookAtCrowd_41 ?_
        refine lv_topi (fun v_25 ev_25 => ?_)
        subst ev_25
        refine z_put C G clX1 0 rfl 9 (by decide) m_fl_RX1_53 rfl rfl rfl (Nat.le_of_ble_eq_true rfl) dX1_lookAtCrowd_44 (fun H locs G => ?_)
        have G : zS T A s.heap s [[(h, .inr (1, [.ref po, .ref a1_8, .int v0, .ref la, .int v1, .int v2, .int v3, .int v4, .int v5, .int (if y6 < (fw i) then (fw i) else y6), .int v7]))], [(a1_8, .inl (T.2 0, 7, .inl fw))], [(la, .inr (4, [.int cr, .int inn, .ref a1_2, .ref a2_3, .ref a3_4, .ref a4_5])), (a1_2, .inl (T.2 0, 7, .inl k1)), (a2_3, .inl (T.2 0, 28, .inl k2)), (a3_4, .inl (T.2 0, 7, .inl k3)), (a4_5, .inl (T.2 0, 7, .inl k4))]] _ _ := G
        refine lv_iinc (v := nI (i + 1)) (lv' := [(1, .int (nI (i + 1))), (0, .ref h)]) hx hb dX1_lookAtCrowd_47 hl (k := 0) rfl (z_inc i 1) (by decide) rfl (fun ls hl => ?_)
        refine lv_goto (tgt := 2) hx hb dX1_lookAtCrowd_50 (by decide) ?_
        have hw_26 : bCourse T h po la fw v0 v1 v2 v3 v4 v5 (if y6 < (fw i) then (fw i) else y6) v7 [(h, .inr (1, [.ref po, .ref a1_8, .int v0, .ref la, .int v1, .int v2, .int v3, .int v4, .int v5, .int (if y6 < (fw i) then (fw i) else y6), .int v7])), (a1_8, .inl (T.2 0, 7, .inl fw))] := ⟨a1_8, rfl⟩
        have G : zS T A s.heap s [[(h, .inr (1, [.ref po, .ref a1_8, .int v0, .ref la, .int v1, .int v2, .int v3, .int v4, .int v5, .int (if y6 < (fw i) then (fw i) else y6), .int v7])), (a1_8, .inl (T.2 0, 7, .inl fw))], [(la, .inr (4, [.int cr, .int inn, .ref a1_2, .ref a2_3, .ref a3_4, .ref a4_5])), (a1_2, .inl (T.2 0, 7, .inl k1)), (a2_3, .inl (T.2 0, 28, .inl k2)), (a3_4, .inl (T.2 0, 7, .inl k3)), (a4_5, .inl (T.2 0, 7, .inl k4))]] _ _ := G.re rfl
        exact ih_2 ((i + 1), ([(h, .inr (1, [.ref po, .ref a1_8, .int v0, .ref la, .int v1, .int v2, .int v3, .int v4, .int v5, .int (if y6 < (fw i) then (fw i) else y6), .int v7])), (a1_8, .inl (T.2 0, 7, .inl fw))]), (if y6 < (fw i) then (fw i) else y6)) (show bCourse T h po la fw v0 v1 v2 v3 v4 v5 (if y6 < (fw i) then (fw i) else y6) v7 ([(h, .inr (1, [.ref po, .ref a1_8, .int v0, .ref la, .int v1, .int v2, .int v3, .int v4, .int v5, .int (if y6 < (fw i) then (fw i) else y6), .int v7])), (a1_8, .inl (T.2 0, 7, .inl fw))]) ∧ (i + 1) ≤ cr.toInt.toNat ∧ (i + 1) ≤ 7 ∧ (if y6 < (fw i) then (fw i) else y6) = zCw inn fw v6 (i + 1) from ⟨hw_26, by omega, by omega, (zCw_n hU (fun q8 => by rcases h_22 with e9 | e9 | e9 | e9 <;> first | (exfalso; omega) | (exfalso; have ti9 := nI_toInt (n := i) (by omega); omega) | exact zBit_o q8 e9))⟩) (show 7 - (i + 1) < 7 - i from by omega) _ _ ls G (lv_sub hl [0, 1] rfl)
set_option maxHeartbeats 4000000 in
set_option maxRecDepth 100000 in
/-- c_x_go -/
theorem c_x_go (l : Launch) (T : zTy) (h : Nat) (po : Nat) (la : Nat) (fw : Nat → Int32) (v0 : Int32) (v1 : Int32) (v2 : Int32) (v3 : Int32) (v4 : Int32) (v5 : Int32) (v6 : Int32) (v7 : Int32) (wc : va_W) (f1 : Nat → Int32) (f2 : Nat → Int32) (f3 : Nat → Int32) (st : Int32) (wh : Int32) (wp : va_W) (cr : Int32) (inn : Int32) (k1 : Nat → Int32) (k2 : Nat → Int32) (k3 : Nat → Int32) (k4 : Nat → Int32) (z : va_W) (x : Int32) (hc : bCourse T h po la fw v0 v1 v2 v3 v4 v5 v6 v7 wc) (hp : bPosts T po la f1 f2 f3 st wh wp) (hz : bLand T la cr inn k1 k2 k3 k4 z) (hP : zP3 f1 f3) (hI : zLI cr k1 k3) (hW : ∀ j, j < 7 → f3 j = zWays cr inn k1 (nI j)) (hLq : zLq cr k1 k2) : zMi l T yX1_go cX1_go 3 (some .boolean) 4 0 0 [.ref h, .int x] [wc, wp, z] (fun (r : Int32) bs => ∃ (wc2 : va_W) (gw : Nat → Int32) (u0 : Int32) (u1 : Int32) (u2 : Int32) (u3 : Int32) (u4 : Int32) (u5 : Int32) (u6 : Int32) (u7 : Int32) (wp2 : va_W) (g1 : Nat → Int32) (g2 : Nat → Int32) (sa : Int32) (wa : Int32), bs = [wc2, wp2, z] ∧ bCourse T h po la gw u0 u1 u2 u3 u4 u5 u6 u7 wc2 ∧ bPosts T po la g1 g2 f3 sa wa wp2 ∧ zP3 g1 f3 ∧ (r = 1 ∧ zGoF cr f3 k2 x (f1, f2, fw, v0, v1) = some (g1, g2, gw, u0, u1) ∨ r = 0 ∧ zGoF cr f3 k2 x (f1, f2, fw, v0, v1) = none ∧ g1 = f1 ∧ g2 = f2 ∧ gw = fw ∧ u0 = v0 ∧ u1 = v1) ∧ (u2 = v2 ∧ u7 = v7) ∧ (r = 1 → u3 = zXf inn v3 v2 x (zStep f1 f2 f3 k2 x) ∧ u4 = v4 ∧ u5 = zXm v5 x (zStep f1 f2 f3 k2 x) ∧ u6 = v6) ∧ (r = 0 → u3 = v3 ∧ u4 = v4 ∧ u5 = v5 ∧ u6 = v6)) := by
  refine zMi_of (own := RX1) (by decide) rfl (Nat.le_of_ble_eq_true rfl) ?_
  intro p e s m args below meth c A ls C hr hlocks hnm hAe G hl
  have hx := C.1
  have hb := C.2.1
  have hl : lv_has ls 3 [(0, .ref h), (1, .int x)] := hl
  have h7 := hI.1.2
  have hWr := zWays_r hI hW
  have hLb := zLq_b (inn := inn) hWr hLq
  refine lv_aload_n hx hb dX1_go_0 rfl (lv_at hl 0 rfl) ?_
  obtain ⟨a1_1, rfl⟩ := hc
  have G : zS T A s.heap s [[(h, .inr (1, [.ref po, .ref a1_1, .int v0, .ref la, .int v1, .int v2, .int v3, .int v4, .int v5, .int v6, .int v7]))], [(a1_1, .inl (T.2 0, 7, .inl fw))], wp, z] _ _ := G.re rfl
  refine z_get C G clX1 0 rfl 3 (by decide) m_fl_RX1_25 rfl dX1_go_1 ?_
  refine lv_iload_n hx hb dX1_go_4 rfl (lv_at hl 1 rfl) ?_
  refine z_Vi (bc := [z]) (br := [[(h, .inr (1, [.ref po, .ref a1_1, .int v0, .ref la, .int v1, .int v2, .int v3, .int v4, .int v5, .int v6, .int v7]))], [(a1_1, .inl (T.2 0, 7, .inl fw))], wp]) (As := [.int x]) (rest := []) C G (c_has l T la cr inn k1 k2 k3 k4 z x hz) (kV_RX1_112 C.2.2.2.2 (Nat.le_of_ble_eq_true rfl) (Nat.le_of_ble_eq_true rfl)) [3] [0, 1, 2] rfl rfl (ci := 4) (qc := (RX4, TX4, 6)) rfl rfl (List.mem_flatten.mpr ⟨_, List.mem_of_getElem? (i := 0) rfl, (bLand_mem hz).choose_spec⟩) rfl rfl hl.1 dX1_go_5 (Nat.le_of_ble_eq_true rfl) (Nat.le_of_ble_eq_true rfl) (fun r_3 b1 H locs hw G => ?_)
  obtain ⟨rfl, hc_2⟩ := hw
  have G : zS T A s.heap s [[(h, .inr (1, [.ref po, .ref a1_1, .int v0, .ref la, .int v1, .int v2, .int v3, .int v4, .int v5, .int v6, .int v7]))], [(a1_1, .inl (T.2 0, 7, .inl fw))], wp, z] _ _ := G
  rcases hc_2 with ⟨rfl, h_4, h_5, h_6⟩ | ⟨rfl, h_7⟩
  · have h_4 : 0 ≤ x.toInt := h_4
    have h_5 : x.toInt < cr.toInt := h_5
    have h_6 : x.toInt < 7 := h_6
    refine lv_if_eq (tgt := 21) hx hb dX1_go_8 (by decide) (fun q => absurd q (by decide)) (fun _ => ?_)
    refine lv_aload_n hx hb dX1_go_11 rfl (lv_at hl 0 rfl) ?_
    refine z_get C G clX1 0 rfl 1 (by decide) m_fl_RX1_18 rfl dX1_go_12 ?_
    refine lv_iload_n hx hb dX1_go_15 rfl (lv_at hl 1 rfl) ?_
    refine z_ild C G 1 rfl (vp_in_iff.mpr ⟨by omega, by omega⟩) dX1_go_16 ?_
    refine lv_topi (fun v_8 ev_8 => ?_)
    subst ev_8
    refine lv_iconst (v := 1) hx hb dX1_go_17 (by decide) ?_
    refine lv_icmp_ge (tgt := 23) hx hb dX1_go_18 (by decide) (fun c_9 => ?_) (fun c_9 => ?_)
    · have c_9n : (1 : Int) ≤ (fw x.toNatClampNeg).toInt := (fa_le _ _).mp c_9
      refine lv_aload_n hx hb dX1_go_23 rfl (lv_at hl 0 rfl) ?_
      refine z_get C G clX1 0 rfl 0 (by decide) m_fl_RX1_12 rfl dX1_go_24 ?_
      refine lv_iload_n hx hb dX1_go_27 rfl (lv_at hl 1 rfl) ?_
      refine z_Vi (bc := [wp, z]) (br := [[(h, .inr (1, [.ref po, .ref a1_1, .int v0, .ref la, .int v1, .int v2, .int v3, .int v4, .int v5, .int v6, .int v7]))], [(a1_1, .inl (T.2 0, 7, .inl fw))]]) (As := [.int x]) (rest := []) C G (c_step l T po la f1 f2 f3 st wh wp cr inn k1 k2 k3 k4 z x hp hz hP) (kV_RX1_115 C.2.2.2.2 (Nat.le_of_ble_eq_true rfl) (Nat.le_of_ble_eq_true rfl)) [2, 3] [0, 1] rfl rfl (ci := 6) (qc := (RX6, TX6, 6)) rfl rfl (List.mem_flatten.mpr ⟨_, List.mem_of_getElem? (i := 0) rfl, (bPosts_mem hp).choose_spec⟩) rfl rfl hl.1 dX1_go_28 (Nat.le_of_ble_eq_true rfl) (Nat.le_of_ble_eq_true rfl) (fun r_15 b1 H locs hw G => ?_)
      obtain ⟨w2_10, g1_11, rfl, h_12, h_13, h_14⟩ := hw
      have G : zS T A s.heap s [[(h, .inr (1, [.ref po, .ref a1_1, .int v0, .ref la, .int v1, .int v2, .int v3, .int v4, .int v5, .int v6, .int v7]))], [(a1_1, .inl (T.2 0, 7, .inl fw))], w2_10, z] _ _ := G
      subst h_12
      have hQ2 : zP3 g1_11 f3 := by rw [h_14]; exact zPost_I hP _
      refine lv_istore_n (lv' := [(2, .int (zStep f1 f2 f3 k2 x)), (0, .ref h), (1, .int x)]) hx hb dX1_go_31 rfl hl (by decide) rfl (fun ls hl => ?_)
      refine lv_iload_n hx hb dX1_go_32 rfl (lv_at hl 0 rfl) ?_
      refine lv_iconst (v := (-1)) hx hb dX1_go_33 (by decide) ?_
      refine lv_icmp_ne (tgt := 39) hx hb dX1_go_34 (by decide) (fun c_16 => ?_) (fun c_16 => ?_)
      · have c_16n : ¬ (zStep f1 f2 f3 k2 x).toInt = (-1 : Int) := fun q => c_16 ((fa_eq _ _).mpr q)
        have hhs : zHas cr (zStep f1 f2 f3 k2 x) := zStep_h hP hW hWr hLq h7 (by assumption)
        refine lv_aload_n hx hb dX1_go_39 rfl (lv_at hl 1 rfl) ?_
        refine lv_dup hx hb dX1_go_40 rfl ?_
        refine z_get C G clX1 0 rfl 2 (by decide) m_fl_RX1_34 rfl dX1_go_41 ?_
        refine lv_iconst (v := 1) hx hb dX1_go_44 (by decide) ?_
        refine lv_iadd hx hb dX1_go_45 ?_
        refine z_put C G clX1 0 rfl 2 (by decide) m_fl_RX1_34 rfl rfl rfl (Nat.le_of_ble_eq_true rfl) dX1_go_46 (fun H locs G => ?_)
        have G : zS T A s.heap s [[(h, .inr (1, [.ref po, .ref a1_1, .int (v0 + 1), .ref la, .int v1, .int v2, .int v3, .int v4, .int v5, .int v6, .int v7]))], [(a1_1, .inl (T.2 0, 7, .inl fw))], w2_10, z] _ _ := G
        refine lv_aload_n hx hb dX1_go_49 rfl (lv_at hl 1 rfl) ?_
        refine lv_iload_n hx hb dX1_go_50 rfl (lv_at hl 2 rfl) ?_
        refine lv_iload_n hx hb dX1_go_51 rfl (lv_at hl 0 rfl) ?_
        have hw_17 : bCourse T h po la fw (v0 + 1) v1 v2 v3 v4 v5 v6 v7 [(h, .inr (1, [.ref po, .ref a1_1, .int (v0 + 1), .ref la, .int v1, .int v2, .int v3, .int v4, .int v5, .int v6, .int v7])), (a1_1, .inl (T.2 0, 7, .inl fw))] := ⟨a1_1, rfl⟩
        have G : zS T A s.heap s [[(h, .inr (1, [.ref po, .ref a1_1, .int (v0 + 1), .ref la, .int v1, .int v2, .int v3, .int v4, .int v5, .int v6, .int v7])), (a1_1, .inl (T.2 0, 7, .inl fw))], w2_10, z] _ _ := G.re rfl
        refine z_Vv (bc := [[(h, .inr (1, [.ref po, .ref a1_1, .int (v0 + 1), .ref la, .int v1, .int v2, .int v3, .int v4, .int v5, .int v6, .int v7])), (a1_1, .inl (T.2 0, 7, .inl fw))], z]) (br := [w2_10]) (As := [.int x, .int (zStep f1 f2 f3 k2 x)]) (rest := []) C G (c_x_move l T h po la fw (v0 + 1) v1 v2 v3 v4 v5 v6 v7 ([(h, .inr (1, [.ref po, .ref a1_1, .int (v0 + 1), .ref la, .int v1, .int v2, .int v3, .int v4, .int v5, .int v6, .int v7])), (a1_1, .inl (T.2 0, 7, .inl fw))]) cr inn k1 k2 k3 k4 z x (zStep f1 f2 f3 k2 x) hw_17 hz ⟨by omega, by omega, by omega⟩ hhs) (kV_RX1_118 C.2.2.2.2 (Nat.le_of_ble_eq_true rfl) (Nat.le_of_ble_eq_true rfl)) [0, 2] [1] rfl rfl (ci := 1) (qc := (RX1, TX1, 11)) rfl rfl (List.mem_flatten.mpr ⟨_, List.mem_of_getElem? (i := 0) rfl, (bCourse_mem hw_17).choose_spec⟩) rfl rfl hl.1 dX1_go_52 (Nat.le_of_ble_eq_true rfl) (Nat.le_of_ble_eq_true rfl) (fun b1 H locs hw G => ?_)
        obtain ⟨wc2_18, gw_19, u3_20, u5_21, rfl, h_22, h_23, h_24, h_25⟩ := hw
        have G : zS T A s.heap s [w2_10, wc2_18, z] _ _ := G
        refine lv_iconst (v := 1) hx hb dX1_go_55 (by decide) ?_
        have G := G.sub (bs' := [wc2_18, w2_10, z]) [1, 0, 2] rfl
        exact z_zret C hr hlocks G (Nat.le_of_ble_eq_true rfl) (Nat.le_of_ble_eq_true rfl) dX1_go_56 rfl ⟨wc2_18, gw_19, (v0 + 1), v1, v2, u3_20, v4, u5_21, v6, v7, w2_10, g1_11, f2, st, wh, rfl, h_22, h_13, hQ2, (Or.inl ⟨rfl, by unfold zGoF; rw [if_pos ⟨⟨⟨by omega, by omega, by omega⟩, by omega⟩, by assumption⟩, h_23, h_14]⟩), ⟨rfl, rfl⟩, (fun _ => ⟨h_24, rfl, h_25, rfl⟩), (fun q8 => absurd q8 (by decide))⟩
      · have c_16n : (zStep f1 f2 f3 k2 x).toInt = (-1 : Int) := (fa_eq _ _).mp c_16
        refine lv_iconst (v := 0) hx hb dX1_go_37 (by decide) ?_
        have hw_27 : bCourse T h po la fw v0 v1 v2 v3 v4 v5 v6 v7 [(h, .inr (1, [.ref po, .ref a1_1, .int v0, .ref la, .int v1, .int v2, .int v3, .int v4, .int v5, .int v6, .int v7])), (a1_1, .inl (T.2 0, 7, .inl fw))] := ⟨a1_1, rfl⟩
        have G : zS T A s.heap s [[(h, .inr (1, [.ref po, .ref a1_1, .int v0, .ref la, .int v1, .int v2, .int v3, .int v4, .int v5, .int v6, .int v7])), (a1_1, .inl (T.2 0, 7, .inl fw))], w2_10, z] _ _ := G.re rfl
        exact z_zret C hr hlocks G (Nat.le_of_ble_eq_true rfl) (Nat.le_of_ble_eq_true rfl) dX1_go_38 rfl ⟨([(h, .inr (1, [.ref po, .ref a1_1, .int v0, .ref la, .int v1, .int v2, .int v3, .int v4, .int v5, .int v6, .int v7])), (a1_1, .inl (T.2 0, 7, .inl fw))]), fw, v0, v1, v2, v3, v4, v5, v6, v7, w2_10, g1_11, f2, st, wh, rfl, hw_27, h_13, hQ2, (Or.inr ⟨rfl, by unfold zGoF; rw [if_neg (fun q8 => q8.2 (by assumption))], by rw [h_14]; unfold zPost; rw [if_pos (zStep_t (by assumption) hP hLb)], rfl, rfl, rfl, rfl⟩), ⟨rfl, rfl⟩, (fun q8 => absurd q8 (by decide)), (fun _ => ⟨rfl, rfl, rfl, rfl⟩)⟩
    · have c_9n : ¬ (1 : Int) ≤ (fw x.toNatClampNeg).toInt := fun q => c_9 ((fa_le _ _).mpr q)
      refine lv_iconst (v := 0) hx hb dX1_go_21 (by decide) ?_
      have hw_28 : bCourse T h po la fw v0 v1 v2 v3 v4 v5 v6 v7 [(h, .inr (1, [.ref po, .ref a1_1, .int v0, .ref la, .int v1, .int v2, .int v3, .int v4, .int v5, .int v6, .int v7])), (a1_1, .inl (T.2 0, 7, .inl fw))] := ⟨a1_1, rfl⟩
      have G : zS T A s.heap s [[(h, .inr (1, [.ref po, .ref a1_1, .int v0, .ref la, .int v1, .int v2, .int v3, .int v4, .int v5, .int v6, .int v7])), (a1_1, .inl (T.2 0, 7, .inl fw))], wp, z] _ _ := G.re rfl
      exact z_zret C hr hlocks G (Nat.le_of_ble_eq_true rfl) (Nat.le_of_ble_eq_true rfl) dX1_go_22 rfl ⟨([(h, .inr (1, [.ref po, .ref a1_1, .int v0, .ref la, .int v1, .int v2, .int v3, .int v4, .int v5, .int v6, .int v7])), (a1_1, .inl (T.2 0, 7, .inl fw))]), fw, v0, v1, v2, v3, v4, v5, v6, v7, wp, f1, f2, st, wh, rfl, hw_28, hp, hP, (Or.inr ⟨rfl, by unfold zGoF; rw [if_neg (fun q8 => by dsimp only at q8; omega)], rfl, rfl, rfl, rfl, rfl⟩), ⟨rfl, rfl⟩, (fun q8 => absurd q8 (by decide)), (fun _ => ⟨rfl, rfl, rfl, rfl⟩)⟩
  · have h_7 : (x.toInt < 0 ∨ cr.toInt ≤ x.toInt ∨ 7 ≤ x.toInt) := h_7
    refine lv_if_eq (tgt := 21) hx hb dX1_go_8 (by decide) (fun _ => ?_) (fun q => absurd (by decide) q)
    refine lv_iconst (v := 0) hx hb dX1_go_21 (by decide) ?_
    have hw_29 : bCourse T h po la fw v0 v1 v2 v3 v4 v5 v6 v7 [(h, .inr (1, [.ref po, .ref a1_1, .int v0, .ref la, .int v1, .int v2, .int v3, .int v4, .int v5, .int v6, .int v7])), (a1_1, .inl (T.2 0, 7, .inl fw))] := ⟨a1_1, rfl⟩
    have G : zS T A s.heap s [[(h, .inr (1, [.ref po, .ref a1_1, .int v0, .ref la, .int v1, .int v2, .int v3, .int v4, .int v5, .int v6, .int v7])), (a1_1, .inl (T.2 0, 7, .inl fw))], wp, z] _ _ := G.re rfl
    exact z_zret C hr hlocks G (Nat.le_of_ble_eq_true rfl) (Nat.le_of_ble_eq_true rfl) dX1_go_22 rfl ⟨([(h, .inr (1, [.ref po, .ref a1_1, .int v0, .ref la, .int v1, .int v2, .int v3, .int v4, .int v5, .int v6, .int v7])), (a1_1, .inl (T.2 0, 7, .inl fw))]), fw, v0, v1, v2, v3, v4, v5, v6, v7, wp, f1, f2, st, wh, rfl, hw_29, hp, hP, (Or.inr ⟨rfl, by unfold zGoF; rw [if_neg (fun q8 => by dsimp only at q8; omega)], rfl, rfl, rfl, rfl, rfl⟩), ⟨rfl, rfl⟩, (fun q8 => absurd q8 (by decide)), (fun _ => ⟨rfl, rfl, rfl, rfl⟩)⟩
set_option maxHeartbeats 4000000 in
set_option maxRecDepth 100000 in
/-- c_x_Course_run -/
theorem c_x_Course_run (l : Launch) (T : zTy) (h : Nat) (po : Nat) (la : Nat) (fw : Nat → Int32) (v0 : Int32) (v1 : Int32) (v2 : Int32) (v3 : Int32) (v4 : Int32) (v5 : Int32) (v6 : Int32) (v7 : Int32) (wc : va_W) (f1 : Nat → Int32) (f2 : Nat → Int32) (f3 : Nat → Int32) (st : Int32) (wh : Int32) (wp : va_W) (cr : Int32) (inn : Int32) (k1 : Nat → Int32) (k2 : Nat → Int32) (k3 : Nat → Int32) (k4 : Nat → Int32) (z : va_W) (x : Int32) (hc : bCourse T h po la fw v0 v1 v2 v3 v4 v5 v6 v7 wc) (hp : bPosts T po la f1 f2 f3 st wh wp) (hz : bLand T la cr inn k1 k2 k3 k4 z) (hP : zP3 f1 f3) (hI : zLI cr k1 k3) (hW : ∀ j, j < 7 → f3 j = zWays cr inn k1 (nI j)) (hLq : zLq cr k1 k2) : zMi l T yX1_run cX1_run 2 (some .boolean) 4 0 0 [.ref h, .int x] [wc, wp, z] (fun (r : Int32) bs => ∃ (wc2 : va_W) (gw : Nat → Int32) (u0 : Int32) (u1 : Int32) (u2 : Int32) (u3 : Int32) (u4 : Int32) (u5 : Int32) (u6 : Int32) (u7 : Int32) (wp2 : va_W) (g1 : Nat → Int32) (g2 : Nat → Int32) (sa : Int32) (wa : Int32), bs = [wc2, wp2, z] ∧ bCourse T h po la gw u0 u1 u2 u3 u4 u5 u6 u7 wc2 ∧ bPosts T po la g1 g2 f3 sa wa wp2 ∧ zP3 g1 f3 ∧ (r = 1 ∧ zRuF cr inn f3 k2 x (f1, f2, fw, v0, v1) = some (g1, g2, gw, u0, u1) ∨ r = 0 ∧ zRuF cr inn f3 k2 x (f1, f2, fw, v0, v1) = none ∧ g1 = f1 ∧ g2 = f2 ∧ gw = fw ∧ u0 = v0 ∧ u1 = v1) ∧ (u2 = v2 ∧ u7 = v7) ∧ (r = 1 → u3 = zXf inn v3 v2 x (zRunN f2 f3 k2 499 f1 x 0).2.1 ∧ u4 = zXl v4 (nI (zRunN f2 f3 k2 499 f1 x 0).2.2) ∧ u5 = zXm v5 x (zRunN f2 f3 k2 499 f1 x 0).2.1 ∧ u6 = v6) ∧ (r = 0 → u3 = v3 ∧ u4 = v4 ∧ u5 = v5 ∧ u6 = v6)) := by
  refine zMi_of (own := RX1) (by decide) rfl (Nat.le_of_ble_eq_true rfl) ?_
  intro p e s m args below meth c A ls C hr hlocks hnm hAe G hl
  have hx := C.1
  have hb := C.2.1
  have hl : lv_has ls 2 [(0, .ref h), (1, .int x)] := hl
  have h7 := hI.1.2
  have hWr := zWays_r hI hW
  have hLb := zLq_b (inn := inn) hWr hLq
  refine lv_aload_n hx hb dX1_run_0 rfl (lv_at hl 0 rfl) ?_
  obtain ⟨a1_1, rfl⟩ := hc
  have G : zS T A s.heap s [[(h, .inr (1, [.ref po, .ref a1_1, .int v0, .ref la, .int v1, .int v2, .int v3, .int v4, .int v5, .int v6, .int v7]))], [(a1_1, .inl (T.2 0, 7, .inl fw))], wp, z] _ _ := G.re rfl
  refine z_get C G clX1 0 rfl 3 (by decide) m_fl_RX1_25 rfl dX1_run_1 ?_
  refine lv_iload_n hx hb dX1_run_4 rfl (lv_at hl 1 rfl) ?_
  refine z_Vi (bc := [z]) (br := [[(h, .inr (1, [.ref po, .ref a1_1, .int v0, .ref la, .int v1, .int v2, .int v3, .int v4, .int v5, .int v6, .int v7]))], [(a1_1, .inl (T.2 0, 7, .inl fw))], wp]) (As := [.int x]) (rest := []) C G (c_has l T la cr inn k1 k2 k3 k4 z x hz) (kV_RX1_112 C.2.2.2.2 (Nat.le_of_ble_eq_true rfl) (Nat.le_of_ble_eq_true rfl)) [3] [0, 1, 2] rfl rfl (ci := 4) (qc := (RX4, TX4, 6)) rfl rfl (List.mem_flatten.mpr ⟨_, List.mem_of_getElem? (i := 0) rfl, (bLand_mem hz).choose_spec⟩) rfl rfl hl.1 dX1_run_5 (Nat.le_of_ble_eq_true rfl) (Nat.le_of_ble_eq_true rfl) (fun r_3 b1 H locs hw G => ?_)
  obtain ⟨rfl, hc_2⟩ := hw
  have G : zS T A s.heap s [[(h, .inr (1, [.ref po, .ref a1_1, .int v0, .ref la, .int v1, .int v2, .int v3, .int v4, .int v5, .int v6, .int v7]))], [(a1_1, .inl (T.2 0, 7, .inl fw))], wp, z] _ _ := G
  rcases hc_2 with ⟨rfl, h_4, h_5, h_6⟩ | ⟨rfl, h_7⟩
  · have h_4 : 0 ≤ x.toInt := h_4
    have h_5 : x.toInt < cr.toInt := h_5
    have h_6 : x.toInt < 7 := h_6
    refine lv_if_eq (tgt := 21) hx hb dX1_run_8 (by decide) (fun q => absurd q (by decide)) (fun _ => ?_)
    refine lv_aload_n hx hb dX1_run_11 rfl (lv_at hl 0 rfl) ?_
    refine z_get C G clX1 0 rfl 1 (by decide) m_fl_RX1_18 rfl dX1_run_12 ?_
    refine lv_iload_n hx hb dX1_run_15 rfl (lv_at hl 1 rfl) ?_
    refine z_ild C G 1 rfl (vp_in_iff.mpr ⟨by omega, by omega⟩) dX1_run_16 ?_
    refine lv_topi (fun v_8 ev_8 => ?_)
    subst ev_8
    refine lv_iconst (v := 1) hx hb dX1_run_17 (by decide) ?_
    refine lv_icmp_ge (tgt := 23) hx hb dX1_run_18 (by decide) (fun c_9 => ?_) (fun c_9 => ?_)
    · have c_9n : (1 : Int) ≤ (fw x.toNatClampNeg).toInt := (fa_le _ _).mp c_9
      refine lv_aload_n hx hb dX1_run_23 rfl (lv_at hl 0 rfl) ?_
      refine z_get C G clX1 0 rfl 0 (by decide) m_fl_RX1_12 rfl dX1_run_24 ?_
      refine lv_iload_n hx hb dX1_run_27 rfl (lv_at hl 1 rfl) ?_
      refine z_Vv (bc := [wp, z]) (br := [[(h, .inr (1, [.ref po, .ref a1_1, .int v0, .ref la, .int v1, .int v2, .int v3, .int v4, .int v5, .int v6, .int v7]))], [(a1_1, .inl (T.2 0, 7, .inl fw))]]) (As := [.int x]) (rest := []) C G (c_Posts_run l T po la f1 f2 f3 st wh wp cr inn k1 k2 k3 k4 z x hp hz hP) (kV_RX1_122 C.2.2.2.2 (Nat.le_of_ble_eq_true rfl) (Nat.le_of_ble_eq_true rfl)) [2, 3] [0, 1] rfl rfl (ci := 6) (qc := (RX6, TX6, 6)) rfl rfl (List.mem_flatten.mpr ⟨_, List.mem_of_getElem? (i := 0) rfl, (bPosts_mem hp).choose_spec⟩) rfl rfl hl.1 dX1_run_28 (Nat.le_of_ble_eq_true rfl) (Nat.le_of_ble_eq_true rfl) (fun b1 H locs hw G => ?_)
      obtain ⟨w2_10, g1_11, s2_12, x2_13, rfl, h_14, h_15, h_16, h_17⟩ := hw
      have G : zS T A s.heap s [[(h, .inr (1, [.ref po, .ref a1_1, .int v0, .ref la, .int v1, .int v2, .int v3, .int v4, .int v5, .int v6, .int v7]))], [(a1_1, .inl (T.2 0, 7, .inl fw))], w2_10, z] _ _ := G
      have hQ2 : zP3 g1_11 f3 := by rw [h_15]; exact zRunN_I _ _ _ _ hP
      have hhs : zHas cr x2_13 := by rw [h_17]; exact zRunN_h hW hWr hLq h7 499 _ _ _ hP ⟨by omega, by omega, by omega⟩
      refine lv_aload_n hx hb dX1_run_31 rfl (lv_at hl 0 rfl) ?_
      refine lv_dup hx hb dX1_run_32 rfl ?_
      refine z_get C G clX1 0 rfl 2 (by decide) m_fl_RX1_34 rfl dX1_run_33 ?_
      refine lv_aload_n hx hb dX1_run_36 rfl (lv_at hl 0 rfl) ?_
      refine z_get C G clX1 0 rfl 0 (by decide) m_fl_RX1_12 rfl dX1_run_37 ?_
      obtain ⟨a1_19, a2_20, a3_21, rfl⟩ := h_14
      have G : zS T A s.heap s [[(h, .inr (1, [.ref po, .ref a1_1, .int v0, .ref la, .int v1, .int v2, .int v3, .int v4, .int v5, .int v6, .int v7]))], [(a1_1, .inl (T.2 0, 7, .inl fw))], [(po, .inr (6, [.ref la, .ref a1_19, .ref a2_20, .int s2_12, .int x2_13, .ref a3_21]))], [(a1_19, .inl (T.2 0, 7, .inl g1_11))], [(a2_20, .inl (T.2 0, 7, .inl f2))], [(a3_21, .inl (T.2 0, 7, .inl f3))], z] _ _ := G.re rfl
      refine z_get C G clX6 2 rfl 3 (by decide) m_fl_RX1_125 rfl dX1_run_40 ?_
      refine lv_iadd hx hb dX1_run_43 ?_
      refine z_put C G clX1 0 rfl 2 (by decide) m_fl_RX1_34 rfl rfl rfl (Nat.le_of_ble_eq_true rfl) dX1_run_44 (fun H locs G => ?_)
      have G : zS T A s.heap s [[(h, .inr (1, [.ref po, .ref a1_1, .int (v0 + s2_12), .ref la, .int v1, .int v2, .int v3, .int v4, .int v5, .int v6, .int v7]))], [(a1_1, .inl (T.2 0, 7, .inl fw))], [(po, .inr (6, [.ref la, .ref a1_19, .ref a2_20, .int s2_12, .int x2_13, .ref a3_21]))], [(a1_19, .inl (T.2 0, 7, .inl g1_11))], [(a2_20, .inl (T.2 0, 7, .inl f2))], [(a3_21, .inl (T.2 0, 7, .inl f3))], z] _ _ := G
      refine lv_aload_n hx hb dX1_run_47 rfl (lv_at hl 0 rfl) ?_
      refine lv_aload_n hx hb dX1_run_48 rfl (lv_at hl 0 rfl) ?_
      refine z_get C G clX1 0 rfl 7 (by decide) m_fl_RX1_47 rfl dX1_run_49 ?_
      refine lv_aload_n hx hb dX1_run_52 rfl (lv_at hl 0 rfl) ?_
      refine z_get C G clX1 0 rfl 0 (by decide) m_fl_RX1_12 rfl dX1_run_53 ?_
      refine z_get C G clX6 2 rfl 3 (by decide) m_fl_RX1_125 rfl dX1_run_56 ?_
      refine va_mmax hx hb (C.2.2.1.trans hl.1.symm) C.2.2.2.1 (C.2.2.2.2 _ m_ml_RX1_126) (C.2.2.2.2 _ m_st_math_max) (C.2.2.2.2 _ m_ii_math) (C.2.2.2.2 _ m_co_math_max) (Nat.le_of_ble_eq_true rfl) (Nat.le_of_ble_eq_true rfl) (Nat.le_of_ble_eq_true rfl) (Nat.le_of_ble_eq_true rfl) dX1_run_59 ?_
      refine lv_topi (fun v_22 ev_22 => ?_)
      subst ev_22
      refine z_put C G clX1 0 rfl 7 (by decide) m_fl_RX1_47 rfl rfl rfl (Nat.le_of_ble_eq_true rfl) dX1_run_62 (fun H locs G => ?_)
      have G : zS T A s.heap s [[(h, .inr (1, [.ref po, .ref a1_1, .int (v0 + s2_12), .ref la, .int v1, .int v2, .int v3, .int (if v4 < s2_12 then s2_12 else v4), .int v5, .int v6, .int v7]))], [(a1_1, .inl (T.2 0, 7, .inl fw))], [(po, .inr (6, [.ref la, .ref a1_19, .ref a2_20, .int s2_12, .int x2_13, .ref a3_21]))], [(a1_19, .inl (T.2 0, 7, .inl g1_11))], [(a2_20, .inl (T.2 0, 7, .inl f2))], [(a3_21, .inl (T.2 0, 7, .inl f3))], z] _ _ := G
      refine lv_aload_n hx hb dX1_run_65 rfl (lv_at hl 0 rfl) ?_
      refine z_get C G clX1 0 rfl 3 (by decide) m_fl_RX1_25 rfl dX1_run_66 ?_
      refine lv_aload_n hx hb dX1_run_69 rfl (lv_at hl 0 rfl) ?_
      refine z_get C G clX1 0 rfl 0 (by decide) m_fl_RX1_12 rfl dX1_run_70 ?_
      refine z_get C G clX6 2 rfl 4 (by decide) m_fl_RX1_132 rfl dX1_run_73 ?_
      refine z_Vi (bc := [z]) (br := [[(h, .inr (1, [.ref po, .ref a1_1, .int (v0 + s2_12), .ref la, .int v1, .int v2, .int v3, .int (if v4 < s2_12 then s2_12 else v4), .int v5, .int v6, .int v7]))], [(a1_1, .inl (T.2 0, 7, .inl fw))], [(po, .inr (6, [.ref la, .ref a1_19, .ref a2_20, .int s2_12, .int x2_13, .ref a3_21]))], [(a1_19, .inl (T.2 0, 7, .inl g1_11))], [(a2_20, .inl (T.2 0, 7, .inl f2))], [(a3_21, .inl (T.2 0, 7, .inl f3))]]) (As := [.int x2_13]) (rest := []) C G (c_isInn l T la cr inn k1 k2 k3 k4 z x2_13 hz) (kV_RX1_135 C.2.2.2.2 (Nat.le_of_ble_eq_true rfl) (Nat.le_of_ble_eq_true rfl)) [6] [0, 1, 2, 3, 4, 5] rfl rfl (ci := 4) (qc := (RX4, TX4, 6)) rfl rfl (List.mem_flatten.mpr ⟨_, List.mem_of_getElem? (i := 0) rfl, (bLand_mem hz).choose_spec⟩) rfl rfl hl.1 dX1_run_76 (Nat.le_of_ble_eq_true rfl) (Nat.le_of_ble_eq_true rfl) (fun r_24 b1 H locs hw G => ?_)
      obtain ⟨rfl, hc_23⟩ := hw
      have G : zS T A s.heap s [[(h, .inr (1, [.ref po, .ref a1_1, .int (v0 + s2_12), .ref la, .int v1, .int v2, .int v3, .int (if v4 < s2_12 then s2_12 else v4), .int v5, .int v6, .int v7]))], [(a1_1, .inl (T.2 0, 7, .inl fw))], [(po, .inr (6, [.ref la, .ref a1_19, .ref a2_20, .int s2_12, .int x2_13, .ref a3_21]))], [(a1_19, .inl (T.2 0, 7, .inl g1_11))], [(a2_20, .inl (T.2 0, 7, .inl f2))], [(a3_21, .inl (T.2 0, 7, .inl f3))], z] _ _ := G
      rcases hc_23 with ⟨rfl, h_25, h_26, h_27, h_28⟩ | ⟨rfl, h_29⟩
      · have h_25 : 0 ≤ x2_13.toInt := h_25
        have h_26 : x2_13.toInt < cr.toInt := h_26
        have h_27 : x2_13.toInt < 7 := h_27
        have h_28 : ¬ zBit inn x2_13 = 0 := h_28
        refine lv_if_ne (tgt := 92) hx hb dX1_run_79 (by decide) (fun _ => ?_) (fun q => absurd q (by decide))
        refine lv_aload_n hx hb dX1_run_92 rfl (lv_at hl 0 rfl) ?_
        refine lv_iload_n hx hb dX1_run_93 rfl (lv_at hl 1 rfl) ?_
        refine lv_aload_n hx hb dX1_run_94 rfl (lv_at hl 0 rfl) ?_
        refine z_get C G clX1 0 rfl 0 (by decide) m_fl_RX1_12 rfl dX1_run_95 ?_
        refine z_get C G clX6 2 rfl 4 (by decide) m_fl_RX1_132 rfl dX1_run_98 ?_
        have hw_30 : bCourse T h po la fw (v0 + s2_12) v1 v2 v3 (if v4 < s2_12 then s2_12 else v4) v5 v6 v7 [(h, .inr (1, [.ref po, .ref a1_1, .int (v0 + s2_12), .ref la, .int v1, .int v2, .int v3, .int (if v4 < s2_12 then s2_12 else v4), .int v5, .int v6, .int v7])), (a1_1, .inl (T.2 0, 7, .inl fw))] := ⟨a1_1, rfl⟩
        have G : zS T A s.heap s [[(h, .inr (1, [.ref po, .ref a1_1, .int (v0 + s2_12), .ref la, .int v1, .int v2, .int v3, .int (if v4 < s2_12 then s2_12 else v4), .int v5, .int v6, .int v7])), (a1_1, .inl (T.2 0, 7, .inl fw))], [(po, .inr (6, [.ref la, .ref a1_19, .ref a2_20, .int s2_12, .int x2_13, .ref a3_21]))], [(a1_19, .inl (T.2 0, 7, .inl g1_11))], [(a2_20, .inl (T.2 0, 7, .inl f2))], [(a3_21, .inl (T.2 0, 7, .inl f3))], z] _ _ := G.re rfl
        refine z_Vv (bc := [[(h, .inr (1, [.ref po, .ref a1_1, .int (v0 + s2_12), .ref la, .int v1, .int v2, .int v3, .int (if v4 < s2_12 then s2_12 else v4), .int v5, .int v6, .int v7])), (a1_1, .inl (T.2 0, 7, .inl fw))], z]) (br := [[(po, .inr (6, [.ref la, .ref a1_19, .ref a2_20, .int s2_12, .int x2_13, .ref a3_21]))], [(a1_19, .inl (T.2 0, 7, .inl g1_11))], [(a2_20, .inl (T.2 0, 7, .inl f2))], [(a3_21, .inl (T.2 0, 7, .inl f3))]]) (As := [.int x, .int x2_13]) (rest := []) C G (c_x_move l T h po la fw (v0 + s2_12) v1 v2 v3 (if v4 < s2_12 then s2_12 else v4) v5 v6 v7 ([(h, .inr (1, [.ref po, .ref a1_1, .int (v0 + s2_12), .ref la, .int v1, .int v2, .int v3, .int (if v4 < s2_12 then s2_12 else v4), .int v5, .int v6, .int v7])), (a1_1, .inl (T.2 0, 7, .inl fw))]) cr inn k1 k2 k3 k4 z x x2_13 hw_30 hz ⟨by omega, by omega, by omega⟩ hhs) (kV_RX1_118 C.2.2.2.2 (Nat.le_of_ble_eq_true rfl) (Nat.le_of_ble_eq_true rfl)) [0, 5] [1, 2, 3, 4] rfl rfl (ci := 1) (qc := (RX1, TX1, 11)) rfl rfl (List.mem_flatten.mpr ⟨_, List.mem_of_getElem? (i := 0) rfl, (bCourse_mem hw_30).choose_spec⟩) rfl rfl hl.1 dX1_run_101 (Nat.le_of_ble_eq_true rfl) (Nat.le_of_ble_eq_true rfl) (fun b1 H locs hw G => ?_)
        obtain ⟨wc2_31, gw_32, u3_33, u5_34, rfl, h_35, h_36, h_37, h_38⟩ := hw
        have G : zS T A s.heap s [[(po, .inr (6, [.ref la, .ref a1_19, .ref a2_20, .int s2_12, .int x2_13, .ref a3_21]))], [(a1_19, .inl (T.2 0, 7, .inl g1_11))], [(a2_20, .inl (T.2 0, 7, .inl f2))], [(a3_21, .inl (T.2 0, 7, .inl f3))], wc2_31, z] _ _ := G
        refine lv_iconst (v := 1) hx hb dX1_run_104 (by decide) ?_
        have hw_40 : bPosts T po la g1_11 f2 f3 s2_12 x2_13 [(po, .inr (6, [.ref la, .ref a1_19, .ref a2_20, .int s2_12, .int x2_13, .ref a3_21])), (a1_19, .inl (T.2 0, 7, .inl g1_11)), (a2_20, .inl (T.2 0, 7, .inl f2)), (a3_21, .inl (T.2 0, 7, .inl f3))] := ⟨a1_19, a2_20, a3_21, rfl⟩
        have G : zS T A s.heap s [[(po, .inr (6, [.ref la, .ref a1_19, .ref a2_20, .int s2_12, .int x2_13, .ref a3_21])), (a1_19, .inl (T.2 0, 7, .inl g1_11)), (a2_20, .inl (T.2 0, 7, .inl f2)), (a3_21, .inl (T.2 0, 7, .inl f3))], wc2_31, z] _ _ := G.re rfl
        have G := G.sub (bs' := [wc2_31, [(po, .inr (6, [.ref la, .ref a1_19, .ref a2_20, .int s2_12, .int x2_13, .ref a3_21])), (a1_19, .inl (T.2 0, 7, .inl g1_11)), (a2_20, .inl (T.2 0, 7, .inl f2)), (a3_21, .inl (T.2 0, 7, .inl f3))], z]) [1, 0, 2] rfl
        exact z_zret C hr hlocks G (Nat.le_of_ble_eq_true rfl) (Nat.le_of_ble_eq_true rfl) dX1_run_105 rfl ⟨wc2_31, gw_32, (v0 + s2_12), v1, v2, u3_33, (if v4 < s2_12 then s2_12 else v4), u5_34, v6, v7, ([(po, .inr (6, [.ref la, .ref a1_19, .ref a2_20, .int s2_12, .int x2_13, .ref a3_21])), (a1_19, .inl (T.2 0, 7, .inl g1_11)), (a2_20, .inl (T.2 0, 7, .inl f2)), (a3_21, .inl (T.2 0, 7, .inl f3))]), g1_11, f2, s2_12, x2_13, rfl, h_35, hw_40, hQ2, (Or.inl ⟨rfl, zRuF_i ⟨⟨by omega, by omega, by omega⟩, by omega⟩ h_15 h_16 h_17 h_36 (if_pos (zBit_p h_28))⟩), ⟨rfl, rfl⟩, (fun _ => ⟨by rw [h_37, h_17], by rw [h_16]; rfl, by rw [h_38, h_17], rfl⟩), (fun q8 => absurd q8 (by decide))⟩
      · have h_29 : (x2_13.toInt < 0 ∨ cr.toInt ≤ x2_13.toInt ∨ 7 ≤ x2_13.toInt ∨ zBit inn x2_13 = 0) := h_29
        refine lv_if_ne (tgt := 92) hx hb dX1_run_79 (by decide) (fun q => absurd (by decide) q) (fun _ => ?_)
        refine lv_aload_n hx hb dX1_run_82 rfl (lv_at hl 0 rfl) ?_
        refine lv_dup hx hb dX1_run_83 rfl ?_
        refine z_get C G clX1 0 rfl 4 (by decide) m_fl_RX1_38 rfl dX1_run_84 ?_
        refine lv_iconst (v := 1) hx hb dX1_run_87 (by decide) ?_
        refine lv_iadd hx hb dX1_run_88 ?_
        refine z_put C G clX1 0 rfl 4 (by decide) m_fl_RX1_38 rfl rfl rfl (Nat.le_of_ble_eq_true rfl) dX1_run_89 (fun H locs G => ?_)
        have G : zS T A s.heap s [[(h, .inr (1, [.ref po, .ref a1_1, .int (v0 + s2_12), .ref la, .int (v1 + 1), .int v2, .int v3, .int (if v4 < s2_12 then s2_12 else v4), .int v5, .int v6, .int v7]))], [(a1_1, .inl (T.2 0, 7, .inl fw))], [(po, .inr (6, [.ref la, .ref a1_19, .ref a2_20, .int s2_12, .int x2_13, .ref a3_21]))], [(a1_19, .inl (T.2 0, 7, .inl g1_11))], [(a2_20, .inl (T.2 0, 7, .inl f2))], [(a3_21, .inl (T.2 0, 7, .inl f3))], z] _ _ := G
        refine lv_aload_n hx hb dX1_run_92 rfl (lv_at hl 0 rfl) ?_
        refine lv_iload_n hx hb dX1_run_93 rfl (lv_at hl 1 rfl) ?_
        refine lv_aload_n hx hb dX1_run_94 rfl (lv_at hl 0 rfl) ?_
        refine z_get C G clX1 0 rfl 0 (by decide) m_fl_RX1_12 rfl dX1_run_95 ?_
        refine z_get C G clX6 2 rfl 4 (by decide) m_fl_RX1_132 rfl dX1_run_98 ?_
        have hw_41 : bCourse T h po la fw (v0 + s2_12) (v1 + 1) v2 v3 (if v4 < s2_12 then s2_12 else v4) v5 v6 v7 [(h, .inr (1, [.ref po, .ref a1_1, .int (v0 + s2_12), .ref la, .int (v1 + 1), .int v2, .int v3, .int (if v4 < s2_12 then s2_12 else v4), .int v5, .int v6, .int v7])), (a1_1, .inl (T.2 0, 7, .inl fw))] := ⟨a1_1, rfl⟩
        have G : zS T A s.heap s [[(h, .inr (1, [.ref po, .ref a1_1, .int (v0 + s2_12), .ref la, .int (v1 + 1), .int v2, .int v3, .int (if v4 < s2_12 then s2_12 else v4), .int v5, .int v6, .int v7])), (a1_1, .inl (T.2 0, 7, .inl fw))], [(po, .inr (6, [.ref la, .ref a1_19, .ref a2_20, .int s2_12, .int x2_13, .ref a3_21]))], [(a1_19, .inl (T.2 0, 7, .inl g1_11))], [(a2_20, .inl (T.2 0, 7, .inl f2))], [(a3_21, .inl (T.2 0, 7, .inl f3))], z] _ _ := G.re rfl
        refine z_Vv (bc := [[(h, .inr (1, [.ref po, .ref a1_1, .int (v0 + s2_12), .ref la, .int (v1 + 1), .int v2, .int v3, .int (if v4 < s2_12 then s2_12 else v4), .int v5, .int v6, .int v7])), (a1_1, .inl (T.2 0, 7, .inl fw))], z]) (br := [[(po, .inr (6, [.ref la, .ref a1_19, .ref a2_20, .int s2_12, .int x2_13, .ref a3_21]))], [(a1_19, .inl (T.2 0, 7, .inl g1_11))], [(a2_20, .inl (T.2 0, 7, .inl f2))], [(a3_21, .inl (T.2 0, 7, .inl f3))]]) (As := [.int x, .int x2_13]) (rest := []) C G (c_x_move l T h po la fw (v0 + s2_12) (v1 + 1) v2 v3 (if v4 < s2_12 then s2_12 else v4) v5 v6 v7 ([(h, .inr (1, [.ref po, .ref a1_1, .int (v0 + s2_12), .ref la, .int (v1 + 1), .int v2, .int v3, .int (if v4 < s2_12 then s2_12 else v4), .int v5, .int v6, .int v7])), (a1_1, .inl (T.2 0, 7, .inl fw))]) cr inn k1 k2 k3 k4 z x x2_13 hw_41 hz ⟨by omega, by omega, by omega⟩ hhs) (kV_RX1_118 C.2.2.2.2 (Nat.le_of_ble_eq_true rfl) (Nat.le_of_ble_eq_true rfl)) [0, 5] [1, 2, 3, 4] rfl rfl (ci := 1) (qc := (RX1, TX1, 11)) rfl rfl (List.mem_flatten.mpr ⟨_, List.mem_of_getElem? (i := 0) rfl, (bCourse_mem hw_41).choose_spec⟩) rfl rfl hl.1 dX1_run_101 (Nat.le_of_ble_eq_true rfl) (Nat.le_of_ble_eq_true rfl) (fun b1 H locs hw G => ?_)
        obtain ⟨wc2_42, gw_43, u3_44, u5_45, rfl, h_46, h_47, h_48, h_49⟩ := hw
        have G : zS T A s.heap s [[(po, .inr (6, [.ref la, .ref a1_19, .ref a2_20, .int s2_12, .int x2_13, .ref a3_21]))], [(a1_19, .inl (T.2 0, 7, .inl g1_11))], [(a2_20, .inl (T.2 0, 7, .inl f2))], [(a3_21, .inl (T.2 0, 7, .inl f3))], wc2_42, z] _ _ := G
        refine lv_iconst (v := 1) hx hb dX1_run_104 (by decide) ?_
        have hw_51 : bPosts T po la g1_11 f2 f3 s2_12 x2_13 [(po, .inr (6, [.ref la, .ref a1_19, .ref a2_20, .int s2_12, .int x2_13, .ref a3_21])), (a1_19, .inl (T.2 0, 7, .inl g1_11)), (a2_20, .inl (T.2 0, 7, .inl f2)), (a3_21, .inl (T.2 0, 7, .inl f3))] := ⟨a1_19, a2_20, a3_21, rfl⟩
        have G : zS T A s.heap s [[(po, .inr (6, [.ref la, .ref a1_19, .ref a2_20, .int s2_12, .int x2_13, .ref a3_21])), (a1_19, .inl (T.2 0, 7, .inl g1_11)), (a2_20, .inl (T.2 0, 7, .inl f2)), (a3_21, .inl (T.2 0, 7, .inl f3))], wc2_42, z] _ _ := G.re rfl
        have G := G.sub (bs' := [wc2_42, [(po, .inr (6, [.ref la, .ref a1_19, .ref a2_20, .int s2_12, .int x2_13, .ref a3_21])), (a1_19, .inl (T.2 0, 7, .inl g1_11)), (a2_20, .inl (T.2 0, 7, .inl f2)), (a3_21, .inl (T.2 0, 7, .inl f3))], z]) [1, 0, 2] rfl
        exact z_zret C hr hlocks G (Nat.le_of_ble_eq_true rfl) (Nat.le_of_ble_eq_true rfl) dX1_run_105 rfl ⟨wc2_42, gw_43, (v0 + s2_12), (v1 + 1), v2, u3_44, (if v4 < s2_12 then s2_12 else v4), u5_45, v6, v7, ([(po, .inr (6, [.ref la, .ref a1_19, .ref a2_20, .int s2_12, .int x2_13, .ref a3_21])), (a1_19, .inl (T.2 0, 7, .inl g1_11)), (a2_20, .inl (T.2 0, 7, .inl f2)), (a3_21, .inl (T.2 0, 7, .inl f3))]), g1_11, f2, s2_12, x2_13, rfl, h_46, hw_51, hQ2, (Or.inl ⟨rfl, zRuF_i ⟨⟨by omega, by omega, by omega⟩, by omega⟩ h_15 h_16 h_17 h_47 (if_neg (fun q8 => by rcases h_29 with e9 | e9 | e9 | e9 <;> first | omega | exact zBit_o q8 e9))⟩), ⟨rfl, rfl⟩, (fun _ => ⟨by rw [h_48, h_17], by rw [h_16]; rfl, by rw [h_49, h_17], rfl⟩), (fun q8 => absurd q8 (by decide))⟩
    · have c_9n : ¬ (1 : Int) ≤ (fw x.toNatClampNeg).toInt := fun q => c_9 ((fa_le _ _).mpr q)
      refine lv_iconst (v := 0) hx hb dX1_run_21 (by decide) ?_
      have hw_52 : bCourse T h po la fw v0 v1 v2 v3 v4 v5 v6 v7 [(h, .inr (1, [.ref po, .ref a1_1, .int v0, .ref la, .int v1, .int v2, .int v3, .int v4, .int v5, .int v6, .int v7])), (a1_1, .inl (T.2 0, 7, .inl fw))] := ⟨a1_1, rfl⟩
      have G : zS T A s.heap s [[(h, .inr (1, [.ref po, .ref a1_1, .int v0, .ref la, .int v1, .int v2, .int v3, .int v4, .int v5, .int v6, .int v7])), (a1_1, .inl (T.2 0, 7, .inl fw))], wp, z] _ _ := G.re rfl
      exact z_zret C hr hlocks G (Nat.le_of_ble_eq_true rfl) (Nat.le_of_ble_eq_true rfl) dX1_run_22 rfl ⟨([(h, .inr (1, [.ref po, .ref a1_1, .int v0, .ref la, .int v1, .int v2, .int v3, .int v4, .int v5, .int v6, .int v7])), (a1_1, .inl (T.2 0, 7, .inl fw))]), fw, v0, v1, v2, v3, v4, v5, v6, v7, wp, f1, f2, st, wh, rfl, hw_52, hp, hP, (Or.inr ⟨rfl, by unfold zRuF; rw [if_neg (fun q8 => by dsimp only at q8; omega)], rfl, rfl, rfl, rfl, rfl⟩), ⟨rfl, rfl⟩, (fun q8 => absurd q8 (by decide)), (fun _ => ⟨rfl, rfl, rfl, rfl⟩)⟩
  · have h_7 : (x.toInt < 0 ∨ cr.toInt ≤ x.toInt ∨ 7 ≤ x.toInt) := h_7
    refine lv_if_eq (tgt := 21) hx hb dX1_run_8 (by decide) (fun _ => ?_) (fun q => absurd (by decide) q)
    refine lv_iconst (v := 0) hx hb dX1_run_21 (by decide) ?_
    have hw_53 : bCourse T h po la fw v0 v1 v2 v3 v4 v5 v6 v7 [(h, .inr (1, [.ref po, .ref a1_1, .int v0, .ref la, .int v1, .int v2, .int v3, .int v4, .int v5, .int v6, .int v7])), (a1_1, .inl (T.2 0, 7, .inl fw))] := ⟨a1_1, rfl⟩
    have G : zS T A s.heap s [[(h, .inr (1, [.ref po, .ref a1_1, .int v0, .ref la, .int v1, .int v2, .int v3, .int v4, .int v5, .int v6, .int v7])), (a1_1, .inl (T.2 0, 7, .inl fw))], wp, z] _ _ := G.re rfl
    exact z_zret C hr hlocks G (Nat.le_of_ble_eq_true rfl) (Nat.le_of_ble_eq_true rfl) dX1_run_22 rfl ⟨([(h, .inr (1, [.ref po, .ref a1_1, .int v0, .ref la, .int v1, .int v2, .int v3, .int v4, .int v5, .int v6, .int v7])), (a1_1, .inl (T.2 0, 7, .inl fw))]), fw, v0, v1, v2, v3, v4, v5, v6, v7, wp, f1, f2, st, wh, rfl, hw_53, hp, hP, (Or.inr ⟨rfl, by unfold zRuF; rw [if_neg (fun q8 => by dsimp only at q8; omega)], rfl, rfl, rfl, rfl, rfl⟩), ⟨rfl, rfl⟩, (fun q8 => absurd q8 (by decide)), (fun _ => ⟨rfl, rfl, rfl, rfl⟩)⟩
set_option maxHeartbeats 4000000 in
set_option maxRecDepth 100000 in
/-- c_x_does -/
theorem c_x_does (l : Launch) (T : zTy) (h : Nat) (po : Nat) (la : Nat) (fw : Nat → Int32) (v0 : Int32) (v1 : Int32) (v2 : Int32) (v3 : Int32) (v4 : Int32) (v5 : Int32) (v6 : Int32) (v7 : Int32) (wc : va_W) (f1 : Nat → Int32) (f2 : Nat → Int32) (f3 : Nat → Int32) (st : Int32) (wh : Int32) (wp : va_W) (cr : Int32) (inn : Int32) (k1 : Nat → Int32) (k2 : Nat → Int32) (k3 : Nat → Int32) (k4 : Nat → Int32) (z : va_W) (d : Int32) (x : Int32) (y : Int32) (hc : bCourse T h po la fw v0 v1 v2 v3 v4 v5 v6 v7 wc) (hp : bPosts T po la f1 f2 f3 st wh wp) (hz : bLand T la cr inn k1 k2 k3 k4 z) (hP : zP3 f1 f3) (hI : zLI cr k1 k3) (hW : ∀ j, j < 7 → f3 j = zWays cr inn k1 (nI j)) (hLq : zLq cr k1 k2) : zMi l T yX1_does cX1_does 5 (some .boolean) 6 0 0 [.ref h, .int d, .int x, .int y] [wc, wp, z] (fun (r : Int32) bs => ∃ (wc2 : va_W) (gw : Nat → Int32) (u0 : Int32) (u1 : Int32) (u2 : Int32) (u3 : Int32) (u4 : Int32) (u5 : Int32) (u6 : Int32) (u7 : Int32) (wp2 : va_W) (g1 : Nat → Int32) (g2 : Nat → Int32) (sa : Int32) (wa : Int32), bs = [wc2, wp2, z] ∧ bCourse T h po la gw u0 u1 u2 u3 u4 u5 u6 u7 wc2 ∧ bPosts T po la g1 g2 f3 sa wa wp2 ∧ zP3 g1 f3 ∧ (r = 1 ∧ zDe cr inn f3 k1 k2 d x y (f1, f2, fw, v0, v1) = some (g1, g2, gw, u0, u1) ∧ u2 = v2 + 1 ∨ r = 0 ∧ zDe cr inn f3 k1 k2 d x y (f1, f2, fw, v0, v1) = none ∧ g1 = f1 ∧ g2 = f2 ∧ gw = fw ∧ u0 = v0 ∧ u1 = v1 ∧ u2 = v2) ∧ u7 = v7 ∧ (r = 1 → (u3, u4, u5, u6) = zXe cr inn f3 k2 d x v2 (f1, f2, fw, v0, v1) (g1, g2, gw, u0, u1) (v3, v4, v5, v6)) ∧ (r = 0 → u3 = v3 ∧ u4 = v4 ∧ u5 = v5 ∧ u6 = v6)) := by
  refine zMi_of (own := RX1) (by decide) rfl (Nat.le_of_ble_eq_true rfl) ?_
  intro p e s m args below meth c A ls C hr hlocks hnm hAe G hl
  have hx := C.1
  have hb := C.2.1
  have hl : lv_has ls 5 [(0, .ref h), (1, .int d), (2, .int x), (3, .int y)] := hl
  refine lv_iload_n hx hb dX1_does_0 rfl (lv_at hl 1 rfl) ?_
  by_cases c_1o : d.toInt < 0 ∨ 5 < d.toInt
  · refine lv_tableOut (tgt := 114) hx hb dX1_does_1 c_1o (by decide) ?_
    refine lv_iconst (v := 0) hx hb dX1_does_114 (by decide) ?_
    refine lv_istore (lv' := [(4, .int 0), (0, .ref h), (1, .int d), (2, .int x), (3, .int y)]) hx hb dX1_does_115 hl (by decide) rfl (fun ls hl => ?_)
    refine lv_iload hx hb dX1_does_117 (lv_at hl 0 rfl) ?_
    refine lv_if_eq (tgt := 136) hx hb dX1_does_119 (by decide) (fun _ => ?_) (fun q => absurd (by decide) q)
    refine lv_iload hx hb dX1_does_136 (lv_at hl 0 rfl) ?_
    exact z_zret C hr hlocks G (Nat.le_of_ble_eq_true rfl) (Nat.le_of_ble_eq_true rfl) dX1_does_138 rfl ⟨wc, fw, v0, v1, v2, v3, v4, v5, v6, v7, wp, f1, f2, st, wh, rfl, hc, hp, hP, (Or.inr ⟨rfl, zDe_kn (by omega), rfl, rfl, rfl, rfl, rfl, rfl⟩), rfl, (fun q8 => absurd q8 (by decide)), (fun _ => ⟨rfl, rfl, rfl, rfl⟩)⟩
  · have c_1r : d.toInt = 0 ∨ d.toInt = 1 ∨ d.toInt = 2 ∨ d.toInt = 3 ∨ d.toInt = 4 ∨ d.toInt = 5 := by omega
    rcases c_1r with c_1 | c_1 | c_1 | c_1 | c_1 | c_1
    · refine lv_tableIn (tgt := 40) hx hb dX1_does_1 (by omega) (by omega) (by rw [c_1]; rfl) (by decide) ?_
      refine lv_aload_n hx hb dX1_does_40 rfl (lv_at hl 0 rfl) ?_
      refine lv_iload_n hx hb dX1_does_41 rfl (lv_at hl 2 rfl) ?_
      refine z_Vi (bc := [wc, wp, z]) (br := []) (As := [.int x]) (rest := []) C G (c_x_go l T h po la fw v0 v1 v2 v3 v4 v5 v6 v7 wc f1 f2 f3 st wh wp cr inn k1 k2 k3 k4 z x hc hp hz hP hI hW hLq) (kV_RX1_96 C.2.2.2.2 (Nat.le_of_ble_eq_true rfl) (Nat.le_of_ble_eq_true rfl)) [0, 1, 2] [] rfl rfl (ci := 1) (qc := (RX1, TX1, 11)) rfl rfl (List.mem_flatten.mpr ⟨_, List.mem_of_getElem? (i := 0) rfl, (bCourse_mem hc).choose_spec⟩) rfl rfl hl.1 dX1_does_42 (Nat.le_of_ble_eq_true rfl) (Nat.le_of_ble_eq_true rfl) (fun r_24 b1 H locs hw G => ?_)
      obtain ⟨wc2_2, gw_3, u0_4, u1_5, u2_6, u3_7, u4_8, u5_9, u6_10, u7_11, wp2_12, g1_13, g2_14, sa_15, wa_16, rfl, h_17, h_18, h_19, h_20, h_21, h_22, h_23⟩ := hw
      have G : zS T A s.heap s [wc2_2, wp2_12, z] _ _ := G
      refine lv_istore (lv' := [(4, .int r_24), (0, .ref h), (1, .int d), (2, .int x), (3, .int y)]) hx hb dX1_does_45 hl (by decide) rfl (fun ls hl => ?_)
      refine lv_goto (tgt := 117) hx hb dX1_does_47 (by decide) ?_
      refine lv_iload hx hb dX1_does_117 (lv_at hl 0 rfl) ?_
      refine lv_if_eq (tgt := 136) hx hb dX1_does_119 (by decide) (fun c_25 => ?_) (fun c_25 => ?_)
      · have c_25n : r_24.toInt = (0 : Int) := (fa_eq _ _).mp c_25
        have hs := (h_20).resolve_left (fun q8 => by have e8 : r_24.toInt = 1 := (by rw [q8.1]; rfl); omega)
        refine lv_iload hx hb dX1_does_136 (lv_at hl 0 rfl) ?_
        exact z_zret C hr hlocks G (Nat.le_of_ble_eq_true rfl) (Nat.le_of_ble_eq_true rfl) dX1_does_138 (by rcases h_20 with q | q <;> rw [q.1] <;> rfl) ⟨wc2_2, gw_3, u0_4, u1_5, u2_6, u3_7, u4_8, u5_9, u6_10, u7_11, wp2_12, g1_13, g2_14, sa_15, wa_16, rfl, h_17, h_18, (show zP3 g1_13 f3 from h_19), (Or.inr ⟨hs.1, (zDe_k0 (by omega)).trans hs.2.1, hs.2.2.1, hs.2.2.2.1, hs.2.2.2.2.1, hs.2.2.2.2.2.1, hs.2.2.2.2.2.2, h_21.1⟩), h_21.2, (fun q8 => absurd (hs.1.symm.trans q8) (by decide)), (fun _ => h_23 hs.1)⟩
      · have c_25n : ¬ r_24.toInt = (0 : Int) := fun q => c_25 ((fa_eq _ _).mpr q)
        have hs := (h_20).resolve_right (fun q8 => by have e8 : r_24.toInt = 0 := (by rw [q8.1]; rfl); omega)
        refine lv_aload_n hx hb dX1_does_122 rfl (lv_at hl 1 rfl) ?_
        refine lv_dup hx hb dX1_does_123 rfl ?_
        obtain ⟨a1_26, rfl⟩ := h_17
        have G : zS T A s.heap s [[(h, .inr (1, [.ref po, .ref a1_26, .int u0_4, .ref la, .int u1_5, .int u2_6, .int u3_7, .int u4_8, .int u5_9, .int u6_10, .int u7_11]))], [(a1_26, .inl (T.2 0, 7, .inl gw_3))], wp2_12, z] _ _ := G.re rfl
        refine z_get C G clX1 0 rfl 5 (by decide) m_fl_RX1_41 rfl dX1_does_124 ?_
        refine lv_iconst (v := 1) hx hb dX1_does_127 (by decide) ?_
        refine lv_iadd hx hb dX1_does_128 ?_
        refine z_put C G clX1 0 rfl 5 (by decide) m_fl_RX1_41 rfl rfl rfl (Nat.le_of_ble_eq_true rfl) dX1_does_129 (fun H locs G => ?_)
        have G : zS T A s.heap s [[(h, .inr (1, [.ref po, .ref a1_26, .int u0_4, .ref la, .int u1_5, .int (u2_6 + 1), .int u3_7, .int u4_8, .int u5_9, .int u6_10, .int u7_11]))], [(a1_26, .inl (T.2 0, 7, .inl gw_3))], wp2_12, z] _ _ := G
        refine lv_aload_n hx hb dX1_does_132 rfl (lv_at hl 1 rfl) ?_
        have hw_27 : bCourse T h po la gw_3 u0_4 u1_5 (u2_6 + 1) u3_7 u4_8 u5_9 u6_10 u7_11 [(h, .inr (1, [.ref po, .ref a1_26, .int u0_4, .ref la, .int u1_5, .int (u2_6 + 1), .int u3_7, .int u4_8, .int u5_9, .int u6_10, .int u7_11])), (a1_26, .inl (T.2 0, 7, .inl gw_3))] := ⟨a1_26, rfl⟩
        have G : zS T A s.heap s [[(h, .inr (1, [.ref po, .ref a1_26, .int u0_4, .ref la, .int u1_5, .int (u2_6 + 1), .int u3_7, .int u4_8, .int u5_9, .int u6_10, .int u7_11])), (a1_26, .inl (T.2 0, 7, .inl gw_3))], wp2_12, z] _ _ := G.re rfl
        refine z_Vv (bc := [[(h, .inr (1, [.ref po, .ref a1_26, .int u0_4, .ref la, .int u1_5, .int (u2_6 + 1), .int u3_7, .int u4_8, .int u5_9, .int u6_10, .int u7_11])), (a1_26, .inl (T.2 0, 7, .inl gw_3))], z]) (br := [wp2_12]) (As := []) (rest := []) C G (c_x_lookAtCrowd l T h po la gw_3 u0_4 u1_5 (u2_6 + 1) u3_7 u4_8 u5_9 u6_10 u7_11 ([(h, .inr (1, [.ref po, .ref a1_26, .int u0_4, .ref la, .int u1_5, .int (u2_6 + 1), .int u3_7, .int u4_8, .int u5_9, .int u6_10, .int u7_11])), (a1_26, .inl (T.2 0, 7, .inl gw_3))]) cr inn k1 k2 k3 k4 z hw_27 hz (by first | assumption | omega | rfl)) (kV_RX1_56 C.2.2.2.2 (Nat.le_of_ble_eq_true rfl) (Nat.le_of_ble_eq_true rfl)) [0, 2] [1] rfl rfl (ci := 1) (qc := (RX1, TX1, 11)) rfl rfl (List.mem_flatten.mpr ⟨_, List.mem_of_getElem? (i := 0) rfl, (bCourse_mem hw_27).choose_spec⟩) rfl rfl hl.1 dX1_does_133 (Nat.le_of_ble_eq_true rfl) (Nat.le_of_ble_eq_true rfl) (fun b1 H locs hw G => ?_)
        obtain ⟨wc2_28, u6_29, rfl, h_30, h_31⟩ := hw
        have G : zS T A s.heap s [wp2_12, wc2_28, z] _ _ := G
        refine lv_iload hx hb dX1_does_136 (lv_at hl 0 rfl) ?_
        have G := G.sub (bs' := [wc2_28, wp2_12, z]) [1, 0, 2] rfl
        exact z_zret C hr hlocks G (Nat.le_of_ble_eq_true rfl) (Nat.le_of_ble_eq_true rfl) dX1_does_138 (by rcases h_20 with q | q <;> rw [q.1] <;> rfl) ⟨wc2_28, gw_3, u0_4, u1_5, (u2_6 + 1), u3_7, u4_8, u5_9, u6_29, u7_11, wp2_12, g1_13, g2_14, sa_15, wa_16, rfl, h_30, h_18, (show zP3 g1_13 f3 from h_19), (Or.inl ⟨hs.1, (zDe_k0 (by omega)).trans hs.2, by rw [h_21.1]⟩), h_21.2, (fun _ => by rw [zXe_0 (by omega)]; have q7 := h_22 hs.1; rw [q7.1, q7.2.1, q7.2.2.1, h_31, q7.2.2.2]), (fun q8 => absurd (hs.1.symm.trans q8) (by decide))⟩
    · refine lv_tableIn (tgt := 50) hx hb dX1_does_1 (by omega) (by omega) (by rw [c_1]; rfl) (by decide) ?_
      refine lv_aload_n hx hb dX1_does_50 rfl (lv_at hl 0 rfl) ?_
      refine lv_iload_n hx hb dX1_does_51 rfl (lv_at hl 2 rfl) ?_
      refine z_Vi (bc := [wc, wp, z]) (br := []) (As := [.int x]) (rest := []) C G (c_x_Course_run l T h po la fw v0 v1 v2 v3 v4 v5 v6 v7 wc f1 f2 f3 st wh wp cr inn k1 k2 k3 k4 z x hc hp hz hP hI hW hLq) (kV_RX1_92 C.2.2.2.2 (Nat.le_of_ble_eq_true rfl) (Nat.le_of_ble_eq_true rfl)) [0, 1, 2] [] rfl rfl (ci := 1) (qc := (RX1, TX1, 11)) rfl rfl (List.mem_flatten.mpr ⟨_, List.mem_of_getElem? (i := 0) rfl, (bCourse_mem hc).choose_spec⟩) rfl rfl hl.1 dX1_does_52 (Nat.le_of_ble_eq_true rfl) (Nat.le_of_ble_eq_true rfl) (fun r_55 b1 H locs hw G => ?_)
      obtain ⟨wc2_33, gw_34, u0_35, u1_36, u2_37, u3_38, u4_39, u5_40, u6_41, u7_42, wp2_43, g1_44, g2_45, sa_46, wa_47, rfl, h_48, h_49, h_50, h_51, h_52, h_53, h_54⟩ := hw
      have G : zS T A s.heap s [wc2_33, wp2_43, z] _ _ := G
      refine lv_istore (lv' := [(4, .int r_55), (0, .ref h), (1, .int d), (2, .int x), (3, .int y)]) hx hb dX1_does_55 hl (by decide) rfl (fun ls hl => ?_)
      refine lv_goto (tgt := 117) hx hb dX1_does_57 (by decide) ?_
      refine lv_iload hx hb dX1_does_117 (lv_at hl 0 rfl) ?_
      refine lv_if_eq (tgt := 136) hx hb dX1_does_119 (by decide) (fun c_56 => ?_) (fun c_56 => ?_)
      · have c_56n : r_55.toInt = (0 : Int) := (fa_eq _ _).mp c_56
        have hs := (h_51).resolve_left (fun q8 => by have e8 : r_55.toInt = 1 := (by rw [q8.1]; rfl); omega)
        refine lv_iload hx hb dX1_does_136 (lv_at hl 0 rfl) ?_
        exact z_zret C hr hlocks G (Nat.le_of_ble_eq_true rfl) (Nat.le_of_ble_eq_true rfl) dX1_does_138 (by rcases h_51 with q | q <;> rw [q.1] <;> rfl) ⟨wc2_33, gw_34, u0_35, u1_36, u2_37, u3_38, u4_39, u5_40, u6_41, u7_42, wp2_43, g1_44, g2_45, sa_46, wa_47, rfl, h_48, h_49, (show zP3 g1_44 f3 from h_50), (Or.inr ⟨hs.1, (zDe_k1 (by omega)).trans hs.2.1, hs.2.2.1, hs.2.2.2.1, hs.2.2.2.2.1, hs.2.2.2.2.2.1, hs.2.2.2.2.2.2, h_52.1⟩), h_52.2, (fun q8 => absurd (hs.1.symm.trans q8) (by decide)), (fun _ => h_54 hs.1)⟩
      · have c_56n : ¬ r_55.toInt = (0 : Int) := fun q => c_56 ((fa_eq _ _).mpr q)
        have hs := (h_51).resolve_right (fun q8 => by have e8 : r_55.toInt = 0 := (by rw [q8.1]; rfl); omega)
        refine lv_aload_n hx hb dX1_does_122 rfl (lv_at hl 1 rfl) ?_
        refine lv_dup hx hb dX1_does_123 rfl ?_
        obtain ⟨a1_57, rfl⟩ := h_48
        have G : zS T A s.heap s [[(h, .inr (1, [.ref po, .ref a1_57, .int u0_35, .ref la, .int u1_36, .int u2_37, .int u3_38, .int u4_39, .int u5_40, .int u6_41, .int u7_42]))], [(a1_57, .inl (T.2 0, 7, .inl gw_34))], wp2_43, z] _ _ := G.re rfl
        refine z_get C G clX1 0 rfl 5 (by decide) m_fl_RX1_41 rfl dX1_does_124 ?_
        refine lv_iconst (v := 1) hx hb dX1_does_127 (by decide) ?_
        refine lv_iadd hx hb dX1_does_128 ?_
        refine z_put C G clX1 0 rfl 5 (by decide) m_fl_RX1_41 rfl rfl rfl (Nat.le_of_ble_eq_true rfl) dX1_does_129 (fun H locs G => ?_)
        have G : zS T A s.heap s [[(h, .inr (1, [.ref po, .ref a1_57, .int u0_35, .ref la, .int u1_36, .int (u2_37 + 1), .int u3_38, .int u4_39, .int u5_40, .int u6_41, .int u7_42]))], [(a1_57, .inl (T.2 0, 7, .inl gw_34))], wp2_43, z] _ _ := G
        refine lv_aload_n hx hb dX1_does_132 rfl (lv_at hl 1 rfl) ?_
        have hw_58 : bCourse T h po la gw_34 u0_35 u1_36 (u2_37 + 1) u3_38 u4_39 u5_40 u6_41 u7_42 [(h, .inr (1, [.ref po, .ref a1_57, .int u0_35, .ref la, .int u1_36, .int (u2_37 + 1), .int u3_38, .int u4_39, .int u5_40, .int u6_41, .int u7_42])), (a1_57, .inl (T.2 0, 7, .inl gw_34))] := ⟨a1_57, rfl⟩
        have G : zS T A s.heap s [[(h, .inr (1, [.ref po, .ref a1_57, .int u0_35, .ref la, .int u1_36, .int (u2_37 + 1), .int u3_38, .int u4_39, .int u5_40, .int u6_41, .int u7_42])), (a1_57, .inl (T.2 0, 7, .inl gw_34))], wp2_43, z] _ _ := G.re rfl
        refine z_Vv (bc := [[(h, .inr (1, [.ref po, .ref a1_57, .int u0_35, .ref la, .int u1_36, .int (u2_37 + 1), .int u3_38, .int u4_39, .int u5_40, .int u6_41, .int u7_42])), (a1_57, .inl (T.2 0, 7, .inl gw_34))], z]) (br := [wp2_43]) (As := []) (rest := []) C G (c_x_lookAtCrowd l T h po la gw_34 u0_35 u1_36 (u2_37 + 1) u3_38 u4_39 u5_40 u6_41 u7_42 ([(h, .inr (1, [.ref po, .ref a1_57, .int u0_35, .ref la, .int u1_36, .int (u2_37 + 1), .int u3_38, .int u4_39, .int u5_40, .int u6_41, .int u7_42])), (a1_57, .inl (T.2 0, 7, .inl gw_34))]) cr inn k1 k2 k3 k4 z hw_58 hz (by first | assumption | omega | rfl)) (kV_RX1_56 C.2.2.2.2 (Nat.le_of_ble_eq_true rfl) (Nat.le_of_ble_eq_true rfl)) [0, 2] [1] rfl rfl (ci := 1) (qc := (RX1, TX1, 11)) rfl rfl (List.mem_flatten.mpr ⟨_, List.mem_of_getElem? (i := 0) rfl, (bCourse_mem hw_58).choose_spec⟩) rfl rfl hl.1 dX1_does_133 (Nat.le_of_ble_eq_true rfl) (Nat.le_of_ble_eq_true rfl) (fun b1 H locs hw G => ?_)
        obtain ⟨wc2_59, u6_60, rfl, h_61, h_62⟩ := hw
        have G : zS T A s.heap s [wp2_43, wc2_59, z] _ _ := G
        refine lv_iload hx hb dX1_does_136 (lv_at hl 0 rfl) ?_
        have G := G.sub (bs' := [wc2_59, wp2_43, z]) [1, 0, 2] rfl
        exact z_zret C hr hlocks G (Nat.le_of_ble_eq_true rfl) (Nat.le_of_ble_eq_true rfl) dX1_does_138 (by rcases h_51 with q | q <;> rw [q.1] <;> rfl) ⟨wc2_59, gw_34, u0_35, u1_36, (u2_37 + 1), u3_38, u4_39, u5_40, u6_60, u7_42, wp2_43, g1_44, g2_45, sa_46, wa_47, rfl, h_61, h_49, (show zP3 g1_44 f3 from h_50), (Or.inl ⟨hs.1, (zDe_k1 (by omega)).trans hs.2, by rw [h_52.1]⟩), h_52.2, (fun _ => by rw [zXe_1 (by omega)]; have q7 := h_53 hs.1; rw [q7.1, q7.2.1, q7.2.2.1, h_62, q7.2.2.2]), (fun q8 => absurd (hs.1.symm.trans q8) (by decide))⟩
    · refine lv_tableIn (tgt := 60) hx hb dX1_does_1 (by omega) (by omega) (by rw [c_1]; rfl) (by decide) ?_
      refine lv_aload_n hx hb dX1_does_60 rfl (lv_at hl 0 rfl) ?_
      obtain ⟨a1_64, rfl⟩ := hc
      have G : zS T A s.heap s [[(h, .inr (1, [.ref po, .ref a1_64, .int v0, .ref la, .int v1, .int v2, .int v3, .int v4, .int v5, .int v6, .int v7]))], [(a1_64, .inl (T.2 0, 7, .inl fw))], wp, z] _ _ := G.re rfl
      refine z_get C G clX1 0 rfl 0 (by decide) m_fl_RX1_12 rfl dX1_does_61 ?_
      refine lv_iload_n hx hb dX1_does_64 rfl (lv_at hl 2 rfl) ?_
      refine z_Vi (bc := [wp]) (br := [[(h, .inr (1, [.ref po, .ref a1_64, .int v0, .ref la, .int v1, .int v2, .int v3, .int v4, .int v5, .int v6, .int v7]))], [(a1_64, .inl (T.2 0, 7, .inl fw))], z]) (As := [.int x]) (rest := []) C G (c_turn l T po la f1 f2 f3 st wh wp x hp hP) (kV_RX1_99 C.2.2.2.2 (Nat.le_of_ble_eq_true rfl) (Nat.le_of_ble_eq_true rfl)) [2] [0, 1, 3] rfl rfl (ci := 6) (qc := (RX6, TX6, 6)) rfl rfl (List.mem_flatten.mpr ⟨_, List.mem_of_getElem? (i := 0) rfl, (bPosts_mem hp).choose_spec⟩) rfl rfl hl.1 dX1_does_65 (Nat.le_of_ble_eq_true rfl) (Nat.le_of_ble_eq_true rfl) (fun r_70 b1 H locs hw G => ?_)
      obtain ⟨w2_65, g1_66, rfl, h_67, h_68, h_69⟩ := hw
      have G : zS T A s.heap s [[(h, .inr (1, [.ref po, .ref a1_64, .int v0, .ref la, .int v1, .int v2, .int v3, .int v4, .int v5, .int v6, .int v7]))], [(a1_64, .inl (T.2 0, 7, .inl fw))], z, w2_65] _ _ := G
      subst h_67
      have hQt : zP3 g1_66 f3 := by rw [h_69]; exact zPost_I hP _
      refine lv_iconst (v := (-1)) hx hb dX1_does_68 (by decide) ?_
      refine lv_icmp_eq (tgt := 76) hx hb dX1_does_69 (by decide) (fun c_71 => ?_) (fun c_71 => ?_)
      · have c_71n : (zTurn f1 f2 f3 x).toInt = (-1 : Int) := (fa_eq _ _).mp c_71
        refine lv_iconst (v := 0) hx hb dX1_does_76 (by decide) ?_
        refine lv_istore (lv' := [(4, .int 0), (0, .ref h), (1, .int d), (2, .int x), (3, .int y)]) hx hb dX1_does_77 hl (by decide) rfl (fun ls hl => ?_)
        refine lv_goto (tgt := 117) hx hb dX1_does_79 (by decide) ?_
        refine lv_iload hx hb dX1_does_117 (lv_at hl 0 rfl) ?_
        refine lv_if_eq (tgt := 136) hx hb dX1_does_119 (by decide) (fun _ => ?_) (fun q => absurd (by decide) q)
        refine lv_iload hx hb dX1_does_136 (lv_at hl 0 rfl) ?_
        have hw_72 : bCourse T h po la fw v0 v1 v2 v3 v4 v5 v6 v7 [(h, .inr (1, [.ref po, .ref a1_64, .int v0, .ref la, .int v1, .int v2, .int v3, .int v4, .int v5, .int v6, .int v7])), (a1_64, .inl (T.2 0, 7, .inl fw))] := ⟨a1_64, rfl⟩
        have G : zS T A s.heap s [[(h, .inr (1, [.ref po, .ref a1_64, .int v0, .ref la, .int v1, .int v2, .int v3, .int v4, .int v5, .int v6, .int v7])), (a1_64, .inl (T.2 0, 7, .inl fw))], z, w2_65] _ _ := G.re rfl
        have G := G.sub (bs' := [[(h, .inr (1, [.ref po, .ref a1_64, .int v0, .ref la, .int v1, .int v2, .int v3, .int v4, .int v5, .int v6, .int v7])), (a1_64, .inl (T.2 0, 7, .inl fw))], w2_65, z]) [0, 2, 1] rfl
        exact z_zret C hr hlocks G (Nat.le_of_ble_eq_true rfl) (Nat.le_of_ble_eq_true rfl) dX1_does_138 rfl ⟨([(h, .inr (1, [.ref po, .ref a1_64, .int v0, .ref la, .int v1, .int v2, .int v3, .int v4, .int v5, .int v6, .int v7])), (a1_64, .inl (T.2 0, 7, .inl fw))]), fw, v0, v1, v2, v3, v4, v5, v6, v7, w2_65, g1_66, f2, st, wh, rfl, hw_72, h_68, hQt, (Or.inr ⟨rfl, (zDe_k2 (by omega)).trans (zTuF_n (by assumption) h_69).1, (zTuF_n (cr := cr) (H := fw) (st := v0) (nv := v1) (by assumption) h_69).2, rfl, rfl, rfl, rfl, rfl⟩), rfl, (fun q8 => absurd q8 (by decide)), (fun _ => ⟨rfl, rfl, rfl, rfl⟩)⟩
      · have c_71n : ¬ (zTurn f1 f2 f3 x).toInt = (-1 : Int) := fun q => c_71 ((fa_eq _ _).mpr q)
        refine lv_iconst (v := 1) hx hb dX1_does_72 (by decide) ?_
        refine lv_goto (tgt := 77) hx hb dX1_does_73 (by decide) ?_
        refine lv_istore (lv' := [(4, .int 1), (0, .ref h), (1, .int d), (2, .int x), (3, .int y)]) hx hb dX1_does_77 hl (by decide) rfl (fun ls hl => ?_)
        refine lv_goto (tgt := 117) hx hb dX1_does_79 (by decide) ?_
        refine lv_iload hx hb dX1_does_117 (lv_at hl 0 rfl) ?_
        refine lv_if_eq (tgt := 136) hx hb dX1_does_119 (by decide) (fun q => absurd q (by decide)) (fun _ => ?_)
        refine lv_aload_n hx hb dX1_does_122 rfl (lv_at hl 1 rfl) ?_
        refine lv_dup hx hb dX1_does_123 rfl ?_
        refine z_get C G clX1 0 rfl 5 (by decide) m_fl_RX1_41 rfl dX1_does_124 ?_
        refine lv_iconst (v := 1) hx hb dX1_does_127 (by decide) ?_
        refine lv_iadd hx hb dX1_does_128 ?_
        refine z_put C G clX1 0 rfl 5 (by decide) m_fl_RX1_41 rfl rfl rfl (Nat.le_of_ble_eq_true rfl) dX1_does_129 (fun H locs G => ?_)
        have G : zS T A s.heap s [[(h, .inr (1, [.ref po, .ref a1_64, .int v0, .ref la, .int v1, .int (v2 + 1), .int v3, .int v4, .int v5, .int v6, .int v7]))], [(a1_64, .inl (T.2 0, 7, .inl fw))], z, w2_65] _ _ := G
        refine lv_aload_n hx hb dX1_does_132 rfl (lv_at hl 1 rfl) ?_
        have hw_73 : bCourse T h po la fw v0 v1 (v2 + 1) v3 v4 v5 v6 v7 [(h, .inr (1, [.ref po, .ref a1_64, .int v0, .ref la, .int v1, .int (v2 + 1), .int v3, .int v4, .int v5, .int v6, .int v7])), (a1_64, .inl (T.2 0, 7, .inl fw))] := ⟨a1_64, rfl⟩
        have G : zS T A s.heap s [[(h, .inr (1, [.ref po, .ref a1_64, .int v0, .ref la, .int v1, .int (v2 + 1), .int v3, .int v4, .int v5, .int v6, .int v7])), (a1_64, .inl (T.2 0, 7, .inl fw))], z, w2_65] _ _ := G.re rfl
        refine z_Vv (bc := [[(h, .inr (1, [.ref po, .ref a1_64, .int v0, .ref la, .int v1, .int (v2 + 1), .int v3, .int v4, .int v5, .int v6, .int v7])), (a1_64, .inl (T.2 0, 7, .inl fw))], z]) (br := [w2_65]) (As := []) (rest := []) C G (c_x_lookAtCrowd l T h po la fw v0 v1 (v2 + 1) v3 v4 v5 v6 v7 ([(h, .inr (1, [.ref po, .ref a1_64, .int v0, .ref la, .int v1, .int (v2 + 1), .int v3, .int v4, .int v5, .int v6, .int v7])), (a1_64, .inl (T.2 0, 7, .inl fw))]) cr inn k1 k2 k3 k4 z hw_73 hz (by first | assumption | omega | rfl)) (kV_RX1_56 C.2.2.2.2 (Nat.le_of_ble_eq_true rfl) (Nat.le_of_ble_eq_true rfl)) [0, 1] [2] rfl rfl (ci := 1) (qc := (RX1, TX1, 11)) rfl rfl (List.mem_flatten.mpr ⟨_, List.mem_of_getElem? (i := 0) rfl, (bCourse_mem hw_73).choose_spec⟩) rfl rfl hl.1 dX1_does_133 (Nat.le_of_ble_eq_true rfl) (Nat.le_of_ble_eq_true rfl) (fun b1 H locs hw G => ?_)
        obtain ⟨wc2_74, u6_75, rfl, h_76, h_77⟩ := hw
        have G : zS T A s.heap s [w2_65, wc2_74, z] _ _ := G
        refine lv_iload hx hb dX1_does_136 (lv_at hl 0 rfl) ?_
        have G := G.sub (bs' := [wc2_74, w2_65, z]) [1, 0, 2] rfl
        exact z_zret C hr hlocks G (Nat.le_of_ble_eq_true rfl) (Nat.le_of_ble_eq_true rfl) dX1_does_138 rfl ⟨wc2_74, fw, v0, v1, (v2 + 1), v3, v4, v5, u6_75, v7, w2_65, g1_66, f2, st, wh, rfl, h_76, h_68, hQt, (Or.inl ⟨rfl, (zDe_k2 (by omega)).trans (zTuF_i ⟨zTurn_has hP hW (by assumption), by assumption⟩ h_69), rfl⟩), rfl, (fun _ => by rw [zXe_o ⟨by omega, by omega⟩, h_77]), (fun q8 => absurd ((rfl : (1 : Int32) = 1).symm.trans q8) (by decide))⟩
    · refine lv_tableIn (tgt := 82) hx hb dX1_does_1 (by omega) (by omega) (by rw [c_1]; rfl) (by decide) ?_
      refine lv_aload_n hx hb dX1_does_82 rfl (lv_at hl 0 rfl) ?_
      refine lv_iload_n hx hb dX1_does_83 rfl (lv_at hl 2 rfl) ?_
      refine z_Vi (bc := [wc, z]) (br := [wp]) (As := [.int x]) (rest := []) C G (c_f_Course_add l T h po la fw v0 v1 v2 v3 v4 v5 v6 v7 wc cr inn k1 k2 k3 k4 z x hc hz) (kV_RX1_102 C.2.2.2.2 (Nat.le_of_ble_eq_true rfl) (Nat.le_of_ble_eq_true rfl)) [0, 2] [1] rfl rfl (ci := 1) (qc := (RX1, TX1, 11)) rfl rfl (List.mem_flatten.mpr ⟨_, List.mem_of_getElem? (i := 0) rfl, (bCourse_mem hc).choose_spec⟩) rfl rfl hl.1 dX1_does_84 (Nat.le_of_ble_eq_true rfl) (Nat.le_of_ble_eq_true rfl) (fun r_83 b1 H locs hw G => ?_)
      obtain ⟨wc2_79, gw_80, rfl, h_81, h_82⟩ := hw
      have G : zS T A s.heap s [wp, wc2_79, z] _ _ := G
      refine lv_istore (lv' := [(4, .int r_83), (0, .ref h), (1, .int d), (2, .int x), (3, .int y)]) hx hb dX1_does_87 hl (by decide) rfl (fun ls hl => ?_)
      refine lv_goto (tgt := 117) hx hb dX1_does_89 (by decide) ?_
      refine lv_iload hx hb dX1_does_117 (lv_at hl 0 rfl) ?_
      refine lv_if_eq (tgt := 136) hx hb dX1_does_119 (by decide) (fun c_84 => ?_) (fun c_84 => ?_)
      · have c_84n : r_83.toInt = (0 : Int) := (fa_eq _ _).mp c_84
        have hs := (h_82 f1 f2).resolve_left (fun q8 => by have e8 : r_83.toInt = 1 := (by rw [q8.1]; rfl); omega)
        refine lv_iload hx hb dX1_does_136 (lv_at hl 0 rfl) ?_
        have G := G.sub (bs' := [wc2_79, wp, z]) [1, 0, 2] rfl
        exact z_zret C hr hlocks G (Nat.le_of_ble_eq_true rfl) (Nat.le_of_ble_eq_true rfl) dX1_does_138 (by rcases h_82 f1 f2 with q | q <;> rw [q.1] <;> rfl) ⟨wc2_79, gw_80, v0, v1, v2, v3, v4, v5, v6, v7, wp, f1, f2, st, wh, rfl, h_81, hp, hP, (Or.inr ⟨hs.1, (zDe_k3 (by omega)).trans hs.2.1, rfl, rfl, hs.2.2, rfl, rfl, rfl⟩), rfl, (fun q8 => absurd (hs.1.symm.trans q8) (by decide)), (fun _ => ⟨rfl, rfl, rfl, rfl⟩)⟩
      · have c_84n : ¬ r_83.toInt = (0 : Int) := fun q => c_84 ((fa_eq _ _).mpr q)
        have hs := (h_82 f1 f2).resolve_right (fun q8 => by have e8 : r_83.toInt = 0 := (by rw [q8.1]; rfl); omega)
        refine lv_aload_n hx hb dX1_does_122 rfl (lv_at hl 1 rfl) ?_
        refine lv_dup hx hb dX1_does_123 rfl ?_
        obtain ⟨a1_85, rfl⟩ := h_81
        have G : zS T A s.heap s [wp, [(h, .inr (1, [.ref po, .ref a1_85, .int v0, .ref la, .int v1, .int v2, .int v3, .int v4, .int v5, .int v6, .int v7]))], [(a1_85, .inl (T.2 0, 7, .inl gw_80))], z] _ _ := G.re rfl
        refine z_get C G clX1 1 rfl 5 (by decide) m_fl_RX1_41 rfl dX1_does_124 ?_
        refine lv_iconst (v := 1) hx hb dX1_does_127 (by decide) ?_
        refine lv_iadd hx hb dX1_does_128 ?_
        refine z_put C G clX1 1 rfl 5 (by decide) m_fl_RX1_41 rfl rfl rfl (Nat.le_of_ble_eq_true rfl) dX1_does_129 (fun H locs G => ?_)
        have G : zS T A s.heap s [wp, [(h, .inr (1, [.ref po, .ref a1_85, .int v0, .ref la, .int v1, .int (v2 + 1), .int v3, .int v4, .int v5, .int v6, .int v7]))], [(a1_85, .inl (T.2 0, 7, .inl gw_80))], z] _ _ := G
        refine lv_aload_n hx hb dX1_does_132 rfl (lv_at hl 1 rfl) ?_
        have hw_86 : bCourse T h po la gw_80 v0 v1 (v2 + 1) v3 v4 v5 v6 v7 [(h, .inr (1, [.ref po, .ref a1_85, .int v0, .ref la, .int v1, .int (v2 + 1), .int v3, .int v4, .int v5, .int v6, .int v7])), (a1_85, .inl (T.2 0, 7, .inl gw_80))] := ⟨a1_85, rfl⟩
        have G : zS T A s.heap s [wp, [(h, .inr (1, [.ref po, .ref a1_85, .int v0, .ref la, .int v1, .int (v2 + 1), .int v3, .int v4, .int v5, .int v6, .int v7])), (a1_85, .inl (T.2 0, 7, .inl gw_80))], z] _ _ := G.re rfl
        refine z_Vv (bc := [[(h, .inr (1, [.ref po, .ref a1_85, .int v0, .ref la, .int v1, .int (v2 + 1), .int v3, .int v4, .int v5, .int v6, .int v7])), (a1_85, .inl (T.2 0, 7, .inl gw_80))], z]) (br := [wp]) (As := []) (rest := []) C G (c_x_lookAtCrowd l T h po la gw_80 v0 v1 (v2 + 1) v3 v4 v5 v6 v7 ([(h, .inr (1, [.ref po, .ref a1_85, .int v0, .ref la, .int v1, .int (v2 + 1), .int v3, .int v4, .int v5, .int v6, .int v7])), (a1_85, .inl (T.2 0, 7, .inl gw_80))]) cr inn k1 k2 k3 k4 z hw_86 hz (by first | assumption | omega | rfl)) (kV_RX1_56 C.2.2.2.2 (Nat.le_of_ble_eq_true rfl) (Nat.le_of_ble_eq_true rfl)) [1, 2] [0] rfl rfl (ci := 1) (qc := (RX1, TX1, 11)) rfl rfl (List.mem_flatten.mpr ⟨_, List.mem_of_getElem? (i := 0) rfl, (bCourse_mem hw_86).choose_spec⟩) rfl rfl hl.1 dX1_does_133 (Nat.le_of_ble_eq_true rfl) (Nat.le_of_ble_eq_true rfl) (fun b1 H locs hw G => ?_)
        obtain ⟨wc2_87, u6_88, rfl, h_89, h_90⟩ := hw
        have G : zS T A s.heap s [wp, wc2_87, z] _ _ := G
        refine lv_iload hx hb dX1_does_136 (lv_at hl 0 rfl) ?_
        have G := G.sub (bs' := [wc2_87, wp, z]) [1, 0, 2] rfl
        exact z_zret C hr hlocks G (Nat.le_of_ble_eq_true rfl) (Nat.le_of_ble_eq_true rfl) dX1_does_138 (by rcases h_82 f1 f2 with q | q <;> rw [q.1] <;> rfl) ⟨wc2_87, gw_80, v0, v1, (v2 + 1), v3, v4, v5, u6_88, v7, wp, f1, f2, st, wh, rfl, h_89, hp, hP, (Or.inl ⟨hs.1, (zDe_k3 (by omega)).trans hs.2, rfl⟩), rfl, (fun _ => by rw [zXe_o ⟨by omega, by omega⟩, h_90]), (fun q8 => absurd (hs.1.symm.trans q8) (by decide))⟩
    · refine lv_tableIn (tgt := 92) hx hb dX1_does_1 (by omega) (by omega) (by rw [c_1]; rfl) (by decide) ?_
      refine lv_aload_n hx hb dX1_does_92 rfl (lv_at hl 0 rfl) ?_
      refine lv_iload_n hx hb dX1_does_93 rfl (lv_at hl 2 rfl) ?_
      refine lv_iload_n hx hb dX1_does_94 rfl (lv_at hl 3 rfl) ?_
      refine z_Vi (bc := [wc, wp, z]) (br := []) (As := [.int x, .int y]) (rest := []) C G (c_f_Course_shut l T h po la fw v0 v1 v2 v3 v4 v5 v6 v7 wc f1 f2 f3 st wh wp cr inn k1 k2 k3 k4 z x y hc hp hz) (kV_RX1_105 C.2.2.2.2 (Nat.le_of_ble_eq_true rfl) (Nat.le_of_ble_eq_true rfl)) [0, 1, 2] [] rfl rfl (ci := 1) (qc := (RX1, TX1, 11)) rfl rfl (List.mem_flatten.mpr ⟨_, List.mem_of_getElem? (i := 0) rfl, (bCourse_mem hc).choose_spec⟩) rfl rfl hl.1 dX1_does_95 (Nat.le_of_ble_eq_true rfl) (Nat.le_of_ble_eq_true rfl) (fun r_96 b1 H locs hw G => ?_)
      obtain ⟨wp2_92, g2_93, rfl, h_94, h_95⟩ := hw
      have G : zS T A s.heap s [wc, wp2_92, z] _ _ := G
      refine lv_istore (lv' := [(4, .int r_96), (0, .ref h), (1, .int d), (2, .int x), (3, .int y)]) hx hb dX1_does_98 hl (by decide) rfl (fun ls hl => ?_)
      refine lv_goto (tgt := 117) hx hb dX1_does_100 (by decide) ?_
      refine lv_iload hx hb dX1_does_117 (lv_at hl 0 rfl) ?_
      refine lv_if_eq (tgt := 136) hx hb dX1_does_119 (by decide) (fun c_97 => ?_) (fun c_97 => ?_)
      · have c_97n : r_96.toInt = (0 : Int) := (fa_eq _ _).mp c_97
        have hs := (h_95 fw v0 v1).resolve_left (fun q8 => by have e8 : r_96.toInt = 1 := (by rw [q8.1]; rfl); omega)
        refine lv_iload hx hb dX1_does_136 (lv_at hl 0 rfl) ?_
        exact z_zret C hr hlocks G (Nat.le_of_ble_eq_true rfl) (Nat.le_of_ble_eq_true rfl) dX1_does_138 (by rcases h_95 fw v0 v1 with q | q <;> rw [q.1] <;> rfl) ⟨wc, fw, v0, v1, v2, v3, v4, v5, v6, v7, wp2_92, f1, g2_93, st, wh, rfl, hc, h_94, hP, (Or.inr ⟨hs.1, (zDe_k4 (by omega)).trans hs.2.1, rfl, hs.2.2, rfl, rfl, rfl, rfl⟩), rfl, (fun q8 => absurd (hs.1.symm.trans q8) (by decide)), (fun _ => ⟨rfl, rfl, rfl, rfl⟩)⟩
      · have c_97n : ¬ r_96.toInt = (0 : Int) := fun q => c_97 ((fa_eq _ _).mpr q)
        have hs := (h_95 fw v0 v1).resolve_right (fun q8 => by have e8 : r_96.toInt = 0 := (by rw [q8.1]; rfl); omega)
        refine lv_aload_n hx hb dX1_does_122 rfl (lv_at hl 1 rfl) ?_
        refine lv_dup hx hb dX1_does_123 rfl ?_
        obtain ⟨a1_98, rfl⟩ := hc
        have G : zS T A s.heap s [[(h, .inr (1, [.ref po, .ref a1_98, .int v0, .ref la, .int v1, .int v2, .int v3, .int v4, .int v5, .int v6, .int v7]))], [(a1_98, .inl (T.2 0, 7, .inl fw))], wp2_92, z] _ _ := G.re rfl
        refine z_get C G clX1 0 rfl 5 (by decide) m_fl_RX1_41 rfl dX1_does_124 ?_
        refine lv_iconst (v := 1) hx hb dX1_does_127 (by decide) ?_
        refine lv_iadd hx hb dX1_does_128 ?_
        refine z_put C G clX1 0 rfl 5 (by decide) m_fl_RX1_41 rfl rfl rfl (Nat.le_of_ble_eq_true rfl) dX1_does_129 (fun H locs G => ?_)
        have G : zS T A s.heap s [[(h, .inr (1, [.ref po, .ref a1_98, .int v0, .ref la, .int v1, .int (v2 + 1), .int v3, .int v4, .int v5, .int v6, .int v7]))], [(a1_98, .inl (T.2 0, 7, .inl fw))], wp2_92, z] _ _ := G
        refine lv_aload_n hx hb dX1_does_132 rfl (lv_at hl 1 rfl) ?_
        have hw_99 : bCourse T h po la fw v0 v1 (v2 + 1) v3 v4 v5 v6 v7 [(h, .inr (1, [.ref po, .ref a1_98, .int v0, .ref la, .int v1, .int (v2 + 1), .int v3, .int v4, .int v5, .int v6, .int v7])), (a1_98, .inl (T.2 0, 7, .inl fw))] := ⟨a1_98, rfl⟩
        have G : zS T A s.heap s [[(h, .inr (1, [.ref po, .ref a1_98, .int v0, .ref la, .int v1, .int (v2 + 1), .int v3, .int v4, .int v5, .int v6, .int v7])), (a1_98, .inl (T.2 0, 7, .inl fw))], wp2_92, z] _ _ := G.re rfl
        refine z_Vv (bc := [[(h, .inr (1, [.ref po, .ref a1_98, .int v0, .ref la, .int v1, .int (v2 + 1), .int v3, .int v4, .int v5, .int v6, .int v7])), (a1_98, .inl (T.2 0, 7, .inl fw))], z]) (br := [wp2_92]) (As := []) (rest := []) C G (c_x_lookAtCrowd l T h po la fw v0 v1 (v2 + 1) v3 v4 v5 v6 v7 ([(h, .inr (1, [.ref po, .ref a1_98, .int v0, .ref la, .int v1, .int (v2 + 1), .int v3, .int v4, .int v5, .int v6, .int v7])), (a1_98, .inl (T.2 0, 7, .inl fw))]) cr inn k1 k2 k3 k4 z hw_99 hz (by first | assumption | omega | rfl)) (kV_RX1_56 C.2.2.2.2 (Nat.le_of_ble_eq_true rfl) (Nat.le_of_ble_eq_true rfl)) [0, 2] [1] rfl rfl (ci := 1) (qc := (RX1, TX1, 11)) rfl rfl (List.mem_flatten.mpr ⟨_, List.mem_of_getElem? (i := 0) rfl, (bCourse_mem hw_99).choose_spec⟩) rfl rfl hl.1 dX1_does_133 (Nat.le_of_ble_eq_true rfl) (Nat.le_of_ble_eq_true rfl) (fun b1 H locs hw G => ?_)
        obtain ⟨wc2_100, u6_101, rfl, h_102, h_103⟩ := hw
        have G : zS T A s.heap s [wp2_92, wc2_100, z] _ _ := G
        refine lv_iload hx hb dX1_does_136 (lv_at hl 0 rfl) ?_
        have G := G.sub (bs' := [wc2_100, wp2_92, z]) [1, 0, 2] rfl
        exact z_zret C hr hlocks G (Nat.le_of_ble_eq_true rfl) (Nat.le_of_ble_eq_true rfl) dX1_does_138 (by rcases h_95 fw v0 v1 with q | q <;> rw [q.1] <;> rfl) ⟨wc2_100, fw, v0, v1, (v2 + 1), v3, v4, v5, u6_101, v7, wp2_92, f1, g2_93, st, wh, rfl, h_102, h_94, hP, (Or.inl ⟨hs.1, (zDe_k4 (by omega)).trans hs.2, rfl⟩), rfl, (fun _ => by rw [zXe_o ⟨by omega, by omega⟩, h_103]), (fun q8 => absurd (hs.1.symm.trans q8) (by decide))⟩
    · refine lv_tableIn (tgt := 103) hx hb dX1_does_1 (by omega) (by omega) (by rw [c_1]; rfl) (by decide) ?_
      refine lv_aload_n hx hb dX1_does_103 rfl (lv_at hl 0 rfl) ?_
      refine lv_iload_n hx hb dX1_does_104 rfl (lv_at hl 2 rfl) ?_
      refine lv_iload_n hx hb dX1_does_105 rfl (lv_at hl 3 rfl) ?_
      refine z_Vi (bc := [wc, wp, z]) (br := []) (As := [.int x, .int y]) (rest := []) C G (c_f_Course_open l T h po la fw v0 v1 v2 v3 v4 v5 v6 v7 wc f1 f2 f3 st wh wp cr inn k1 k2 k3 k4 z x y hc hp hz) (kV_RX1_109 C.2.2.2.2 (Nat.le_of_ble_eq_true rfl) (Nat.le_of_ble_eq_true rfl)) [0, 1, 2] [] rfl rfl (ci := 1) (qc := (RX1, TX1, 11)) rfl rfl (List.mem_flatten.mpr ⟨_, List.mem_of_getElem? (i := 0) rfl, (bCourse_mem hc).choose_spec⟩) rfl rfl hl.1 dX1_does_106 (Nat.le_of_ble_eq_true rfl) (Nat.le_of_ble_eq_true rfl) (fun r_109 b1 H locs hw G => ?_)
      obtain ⟨wp2_105, g2_106, rfl, h_107, h_108⟩ := hw
      have G : zS T A s.heap s [wc, wp2_105, z] _ _ := G
      refine lv_istore (lv' := [(4, .int r_109), (0, .ref h), (1, .int d), (2, .int x), (3, .int y)]) hx hb dX1_does_109 hl (by decide) rfl (fun ls hl => ?_)
      refine lv_goto (tgt := 117) hx hb dX1_does_111 (by decide) ?_
      refine lv_iload hx hb dX1_does_117 (lv_at hl 0 rfl) ?_
      refine lv_if_eq (tgt := 136) hx hb dX1_does_119 (by decide) (fun c_110 => ?_) (fun c_110 => ?_)
      · have c_110n : r_109.toInt = (0 : Int) := (fa_eq _ _).mp c_110
        have hs := (h_108 fw v0 v1).resolve_left (fun q8 => by have e8 : r_109.toInt = 1 := (by rw [q8.1]; rfl); omega)
        refine lv_iload hx hb dX1_does_136 (lv_at hl 0 rfl) ?_
        exact z_zret C hr hlocks G (Nat.le_of_ble_eq_true rfl) (Nat.le_of_ble_eq_true rfl) dX1_does_138 (by rcases h_108 fw v0 v1 with q | q <;> rw [q.1] <;> rfl) ⟨wc, fw, v0, v1, v2, v3, v4, v5, v6, v7, wp2_105, f1, g2_106, st, wh, rfl, hc, h_107, hP, (Or.inr ⟨hs.1, (zDe_k5 (by omega)).trans hs.2.1, rfl, hs.2.2, rfl, rfl, rfl, rfl⟩), rfl, (fun q8 => absurd (hs.1.symm.trans q8) (by decide)), (fun _ => ⟨rfl, rfl, rfl, rfl⟩)⟩
      · have c_110n : ¬ r_109.toInt = (0 : Int) := fun q => c_110 ((fa_eq _ _).mpr q)
        have hs := (h_108 fw v0 v1).resolve_right (fun q8 => by have e8 : r_109.toInt = 0 := (by rw [q8.1]; rfl); omega)
        refine lv_aload_n hx hb dX1_does_122 rfl (lv_at hl 1 rfl) ?_
        refine lv_dup hx hb dX1_does_123 rfl ?_
        obtain ⟨a1_111, rfl⟩ := hc
        have G : zS T A s.heap s [[(h, .inr (1, [.ref po, .ref a1_111, .int v0, .ref la, .int v1, .int v2, .int v3, .int v4, .int v5, .int v6, .int v7]))], [(a1_111, .inl (T.2 0, 7, .inl fw))], wp2_105, z] _ _ := G.re rfl
        refine z_get C G clX1 0 rfl 5 (by decide) m_fl_RX1_41 rfl dX1_does_124 ?_
        refine lv_iconst (v := 1) hx hb dX1_does_127 (by decide) ?_
        refine lv_iadd hx hb dX1_does_128 ?_
        refine z_put C G clX1 0 rfl 5 (by decide) m_fl_RX1_41 rfl rfl rfl (Nat.le_of_ble_eq_true rfl) dX1_does_129 (fun H locs G => ?_)
        have G : zS T A s.heap s [[(h, .inr (1, [.ref po, .ref a1_111, .int v0, .ref la, .int v1, .int (v2 + 1), .int v3, .int v4, .int v5, .int v6, .int v7]))], [(a1_111, .inl (T.2 0, 7, .inl fw))], wp2_105, z] _ _ := G
        refine lv_aload_n hx hb dX1_does_132 rfl (lv_at hl 1 rfl) ?_
        have hw_112 : bCourse T h po la fw v0 v1 (v2 + 1) v3 v4 v5 v6 v7 [(h, .inr (1, [.ref po, .ref a1_111, .int v0, .ref la, .int v1, .int (v2 + 1), .int v3, .int v4, .int v5, .int v6, .int v7])), (a1_111, .inl (T.2 0, 7, .inl fw))] := ⟨a1_111, rfl⟩
        have G : zS T A s.heap s [[(h, .inr (1, [.ref po, .ref a1_111, .int v0, .ref la, .int v1, .int (v2 + 1), .int v3, .int v4, .int v5, .int v6, .int v7])), (a1_111, .inl (T.2 0, 7, .inl fw))], wp2_105, z] _ _ := G.re rfl
        refine z_Vv (bc := [[(h, .inr (1, [.ref po, .ref a1_111, .int v0, .ref la, .int v1, .int (v2 + 1), .int v3, .int v4, .int v5, .int v6, .int v7])), (a1_111, .inl (T.2 0, 7, .inl fw))], z]) (br := [wp2_105]) (As := []) (rest := []) C G (c_x_lookAtCrowd l T h po la fw v0 v1 (v2 + 1) v3 v4 v5 v6 v7 ([(h, .inr (1, [.ref po, .ref a1_111, .int v0, .ref la, .int v1, .int (v2 + 1), .int v3, .int v4, .int v5, .int v6, .int v7])), (a1_111, .inl (T.2 0, 7, .inl fw))]) cr inn k1 k2 k3 k4 z hw_112 hz (by first | assumption | omega | rfl)) (kV_RX1_56 C.2.2.2.2 (Nat.le_of_ble_eq_true rfl) (Nat.le_of_ble_eq_true rfl)) [0, 2] [1] rfl rfl (ci := 1) (qc := (RX1, TX1, 11)) rfl rfl (List.mem_flatten.mpr ⟨_, List.mem_of_getElem? (i := 0) rfl, (bCourse_mem hw_112).choose_spec⟩) rfl rfl hl.1 dX1_does_133 (Nat.le_of_ble_eq_true rfl) (Nat.le_of_ble_eq_true rfl) (fun b1 H locs hw G => ?_)
        obtain ⟨wc2_113, u6_114, rfl, h_115, h_116⟩ := hw
        have G : zS T A s.heap s [wp2_105, wc2_113, z] _ _ := G
        refine lv_iload hx hb dX1_does_136 (lv_at hl 0 rfl) ?_
        have G := G.sub (bs' := [wc2_113, wp2_105, z]) [1, 0, 2] rfl
        exact z_zret C hr hlocks G (Nat.le_of_ble_eq_true rfl) (Nat.le_of_ble_eq_true rfl) dX1_does_138 (by rcases h_108 fw v0 v1 with q | q <;> rw [q.1] <;> rfl) ⟨wc2_113, fw, v0, v1, (v2 + 1), v3, v4, v5, u6_114, v7, wp2_105, f1, g2_106, st, wh, rfl, h_115, h_107, hP, (Or.inl ⟨hs.1, (zDe_k5 (by omega)).trans hs.2, rfl⟩), rfl, (fun _ => by rw [zXe_o ⟨by omega, by omega⟩, h_116]), (fun q8 => absurd (hs.1.symm.trans q8) (by decide))⟩

/-- the way as told, by its last n digits -/
def aDg (W P : Nat → Int32) (c : Nat) : Nat := if 0 < (W c).toInt then (P c).toInt.toNat else 0
def aRs (W P : Nat → Int32) : Nat → Nat
  | 0 => 0
  | n + 1 => aDg W P (6 - n) * aPr W n + aRs W P n
/-- its first n digits -/
def aFs (W P : Nat → Int32) : Nat → Nat
  | 0 => 0
  | n + 1 => aFs W P n + aDg W P n * aPr W (6 - n)
theorem aFs_r {W P : Nat → Int32} : ∀ n, n ≤ 7 → aFs W P n + aRs W P (7 - n) = aRs W P 7
  | 0, _ => Nat.zero_add _
  | n + 1, h => by
    have ih := aFs_r (W := W) (P := P) n (by omega)
    have e : aRs W P (7 - n) = aDg W P n * aPr W (6 - n) + aRs W P (6 - n) := by
      rw [show 7 - n = (6 - n) + 1 by omega]
      show aDg W P (6 - (6 - n)) * aPr W (6 - n) + aRs W P (6 - n) = _
      rw [show 6 - (6 - n) = n by omega]
    rw [show 7 - (n + 1) = 6 - n by omega]
    show aFs W P n + aDg W P n * aPr W (6 - n) + aRs W P (6 - n) = aRs W P 7
    omega
theorem aFs_7 {W P : Nat → Int32} : aFs W P 7 = aRs W P 7 := by
  have e := aFs_r (W := W) (P := P) 7 (Nat.le_refl _)
  have e0 : aRs W P (7 - 7) = 0 := rfl
  omega
theorem aDg_lt {W P : Nat → Int32} {c : Nat} (h : 0 < (W c).toInt → (P c).toInt = 0 ∨ (P c).toInt < (W c).toInt) : aDg W P c < aCh W c := by
  have p := aCh_p (W := W) (c := c)
  unfold aDg
  by_cases q : 0 < (W c).toInt
  · rw [if_pos q]
    have e : aCh W c = (W c).toInt.toNat := if_neg (by omega)
    have h := h q
    omega
  · rw [if_neg q]
    exact p
theorem aRs_lt {W P : Nat → Int32} (h : ∀ c, c < 7 → 0 < (W c).toInt → (P c).toInt = 0 ∨ (P c).toInt < (W c).toInt) : ∀ n, n ≤ 7 → aRs W P n < aPr W n
  | 0, _ => Nat.zero_lt_one
  | n + 1, hn => by
    have ih := aRs_lt h n (by omega)
    have d := aDg_lt (h (6 - n) (by omega))
    have m : (aDg W P (6 - n) + 1) * aPr W n ≤ aCh W (6 - n) * aPr W n := Nat.mul_le_mul_right _ d
    rw [Nat.add_mul, Nat.one_mul, Nat.mul_comm (aCh W (6 - n))] at m
    show aDg W P (6 - n) * aPr W n + aRs W P n < aPr W n * aCh W (6 - n)
    omega
theorem aRs_q {W P : Nat → Int32} (m : Nat) : ∀ k, ∃ q, aRs W P (m + k) = q * aPr W m + aRs W P m
  | 0 => ⟨0, by rw [Nat.zero_mul, Nat.zero_add]; rfl⟩
  | k + 1 => by
    obtain ⟨q, e⟩ := aRs_q (W := W) (P := P) m k
    obtain ⟨s, hs⟩ := aPr_m (W := W) m k
    refine ⟨aDg W P (6 - (m + k)) * s + q, ?_⟩
    show aDg W P (6 - (m + k)) * aPr W (m + k) + aRs W P (m + k) = _
    rw [e, hs, Nat.add_mul, Nat.mul_comm (aPr W m) s, Nat.mul_assoc, Nat.add_assoc]
theorem aRs_d {W P : Nat → Int32} (h : ∀ c, c < 7 → 0 < (W c).toInt → (P c).toInt = 0 ∨ (P c).toInt < (W c).toInt) {c : Nat} (hc : c < 7) : aRd W (aRs W P 7) c = aDg W P c := by
  obtain ⟨q, e⟩ := aRs_q (W := W) (P := P) (7 - c) c
  rw [show 7 - c + c = 7 by omega] at e
  have e2 : aRs W P (7 - c) = aDg W P c * aPr W (6 - c) + aRs W P (6 - c) := by
    rw [show 7 - c = (6 - c) + 1 by omega]
    show aDg W P (6 - (6 - c)) * aPr W (6 - c) + aRs W P (6 - c) = _
    rw [show 6 - (6 - c) = c by omega]
  have e3 : aPr W (7 - c) = aPr W (6 - c) * aCh W c := by
    rw [show 7 - c = 6 - c + 1 by omega]
    exact aPr_s (by omega)
  have D := (aDq (q := q) (d := aDg W P c) (r := aRs W P (6 - c)) (p := aPr W (6 - c)) (m := aCh W c) (aPr_p _) (aDg_lt (h c hc)) (aRs_lt h _ (by omega))).2.1
  unfold aRd
  rw [e, e2, e3, ← Nat.add_assoc]
  exact D
theorem aDg_cg {W V P Q : Nat → Int32} {c : Nat} (h1 : W c = V c) (h2 : P c = Q c) : aDg W P c = aDg V Q c := by
  unfold aDg
  rw [h1, h2]
theorem aCh_cg {W V : Nat → Int32} {c : Nat} (h : W c = V c) : aCh W c = aCh V c := by
  unfold aCh
  rw [h]
theorem aPr_cg {W V : Nat → Int32} (h : ∀ j, j < 7 → W j = V j) : ∀ n, aPr W n = aPr V n
  | 0 => rfl
  | n + 1 => by
    show aPr W n * aCh W (6 - n) = aPr V n * aCh V (6 - n)
    rw [aPr_cg h n, aCh_cg (h (6 - n) (by omega))]
theorem aRs_cg {W V P Q : Nat → Int32} (h : ∀ j, j < 7 → W j = V j) (h2 : ∀ j, j < 7 → P j = Q j) : ∀ n, aRs W P n = aRs V Q n
  | 0 => rfl
  | n + 1 => by
    show aDg W P (6 - n) * aPr W n + aRs W P n = aDg V Q (6 - n) * aPr V n + aRs V Q n
    rw [aRs_cg h h2 n, aPr_cg h n, aDg_cg (h (6 - n) (by omega)) (h2 (6 - n) (by omega))]
theorem aRd_cg {W V : Nat → Int32} (h : ∀ j, j < 7 → W j = V j) {w c : Nat} (hc : c < 7) : aRd W w c = aRd V w c := by
  unfold aRd
  rw [aPr_cg h, aCh_cg (h c hc)]
theorem aTn_cg {W V : Nat → Int32} (h : ∀ j, j < 7 → W j = V j) {w c : Nat} (hc : c < 7) : aTn W w c = aTn V w c := by
  unfold aTn
  rw [aPr_cg h, aPr_cg h, aRd_cg h hc, aCh_cg (h c hc)]
theorem aN_cg {W V L M : Nat → Int32} (h : ∀ j, j < 7 → W j = V j) (hL : zLs W L M) (h4 : ∀ j, j < 7 → (W j).toInt ≤ 4) : ∀ n w c k, aN W L n w c k = aN V M n w c k
  | 0, w, c, k => rfl
  | n + 1, w, c, k => by
    by_cases q : c < 7 ∧ 0 < (W c).toInt
    · have e1 : aN W L (n + 1) w c k = aN W L n (aTn W w c) (L (4 * c + aRd W (aTn W w c) c)).toInt.toNat (k + 1) := if_pos q
      have e2 : aN V M (n + 1) w c k = aN V M n (aTn V w c) (M (4 * c + aRd V (aTn V w c) c)).toInt.toNat (k + 1) := if_pos ⟨q.1, by rw [← h c q.1]; exact q.2⟩
      have rl := aRd_lt (W := W) (w := aTn W w c) (c := c)
      have ch : aCh W c = (W c).toInt.toNat := if_neg (by omega)
      have b4 := h4 c q.1
      rw [e1, e2, ← aTn_cg h q.1, ← aRd_cg h q.1, ← hL c _ q.1 (show aRd W (aTn W w c) c < 4 by omega) (by omega)]
      exact aN_cg h hL h4 n _ _ _
    · rw [aN_s q, aN_s (fun z => q ⟨z.1, by rw [h c z.1]; exact z.2⟩)]
/-- the reference's ways out: those of the class -/
theorem aZd {f : Nat → Int32} {z c : Int32} (h : 0 ≤ c.toInt) : zRd f z c = zRo f z c.toInt.toNat := rfl
theorem aWo_1 {f : Nat → Int32} {z n c : Int32} (h : ¬ zInn n c) (h1 : 0 < (zRd f z c).toInt) (h0 : 0 ≤ c.toInt) (h6 : c.toInt ≤ 6) : zRd f z c = nI (aCh (zWo f z n) c.toInt.toNat) ∧ 0 < (zWo f z n c.toInt.toNat).toInt := by
  have e2 : nI c.toInt.toNat = c := (z_nI (by omega) (by omega)).symm
  have e : zWo f z n c.toInt.toNat = zRd f z c := if_neg (by rw [e2]; exact h)
  refine ⟨?_, by rw [e]; exact h1⟩
  unfold aCh
  rw [e, if_neg (by omega)]
  exact z_nI (by omega) (by have := Int32.toInt_lt (zRd f z c); omega)
theorem aWo_0 {f : Nat → Int32} {z n c : Int32} (h : zInn n c ∨ (zRd f z c).toInt ≤ 0) (h0 : 0 ≤ c.toInt) (h6 : c.toInt ≤ 6) : (zWo f z n c.toInt.toNat).toInt ≤ 0 ∧ aCh (zWo f z n) c.toInt.toNat = 1 := by
  have e2 : nI c.toInt.toNat = c := (z_nI (by omega) (by omega)).symm
  have q : (zWo f z n c.toInt.toNat).toInt ≤ 0 := by
    unfold zWo
    by_cases g : zBit n (nI c.toInt.toNat) = 1
    · rw [if_pos g]
      decide
    · rw [if_neg g]
      rw [e2] at g
      exact (h.resolve_left g)
  exact ⟨q, if_pos q⟩
theorem aCh_m {f : Nat → Int32} {z cr n : Int32} (h : zML f z cr) {c : Nat} (hc : c < 7) : aCh (zWo f z n) c ≤ 4 := by
  have r : 0 ≤ (zRo f z c).toInt ∧ (zRo f z c).toInt ≤ 4 := (h.2.2.2.1 c hc).1
  unfold aCh zWo
  by_cases g : zBit n (nI c) = 1
  · rw [if_pos g, if_pos (by decide)]
    decide
  · rw [if_neg g]
    split <;> omega
/-- behind the last crossing: no roads -/
def zVZ (f : Nat → Int32) (z : Int32) (cr : Int32) : Prop := ∀ j : Nat, j < 7 → cr.toInt ≤ (j : Int) → (zRo f z j).toInt ≤ 0
theorem zVZ_w {f : Nat → Int32} {z cr n : Int32} (h : zVZ f z cr) {j : Nat} (hj : j < 7) (hc : cr.toInt ≤ (j : Int)) : (zWo f z n j).toInt ≤ 0 := by
  unfold zWo
  split
  · decide
  · exact h j hj hc
def aQr (W : Nat → Int32) : Nat → Nat
  | 0 => 1
  | n + 1 => aQr W n * aCh W n
theorem aQr_e {W : Nat → Int32} : ∀ n, n ≤ 7 → aPr W n * aQr W (7 - n) = aQr W 7
  | 0, _ => Nat.one_mul _
  | n + 1, h => by
    have ih := aQr_e (W := W) n (by omega)
    have e : aQr W (7 - n) = aQr W (6 - n) * aCh W (6 - n) := by
      rw [show 7 - n = (6 - n) + 1 by omega]
      rfl
    rw [e] at ih
    rw [show 7 - (n + 1) = 6 - n by omega]
    show aPr W n * aCh W (6 - n) * aQr W (6 - n) = _
    rw [Nat.mul_assoc, Nat.mul_comm (aCh W (6 - n))]
    exact ih
theorem aQr_7 {W : Nat → Int32} : aPr W 7 = aQr W 7 := by
  have e := aQr_e (W := W) 7 (Nat.le_refl _)
  have e0 : aQr W (7 - 7) = 1 := rfl
  rw [e0, Nat.mul_one] at e
  exact e
theorem aQr_c {W : Nat → Int32} {c : Nat} (h : ∀ j, j < 7 → c ≤ j → aCh W j = 1) : ∀ n, c + n ≤ 7 → aQr W (c + n) = aQr W c
  | 0, _ => rfl
  | n + 1, hn => by
    show aQr W (c + n) * aCh W (c + n) = _
    rw [aQr_c h n (by omega), h (c + n) (by omega) (by omega), Nat.mul_one]
theorem aPr_c {W : Nat → Int32} {c : Nat} (h : ∀ j, j < 7 → c ≤ j → aCh W j = 1) : ∀ n, c + n ≤ 7 → aPr W n = 1
  | 0, _ => rfl
  | n + 1, hn => by
    show aPr W n * aCh W (6 - n) = 1
    rw [aPr_c h n (by omega), h (6 - n) (by omega) (by omega)]
theorem zVZ_c {f : Nat → Int32} {z cr n : Int32} (h : zVZ f z cr) {c : Nat} (hc : cr.toInt = (c : Int)) : ∀ j, j < 7 → c ≤ j → aCh (zWo f z n) j = 1 := fun j hj q => if_pos (zVZ_w h hj (by omega))
/-- the digits set from the last one on -/
def zMVp (R P : Nat → Int32) (c : Int) : Prop := ∀ k : Nat, k < 7 → c < (k : Int) → (R k).toInt ≤ 0 ∨ (P k).toInt = 0 ∨ (P k).toInt < (R k).toInt
theorem zMVp_u {R P : Nat → Int32} {c v : Int32} {d : Int} (h : zMVp R P c.toInt) (h0 : 0 ≤ c.toInt) (hd : d = c.toInt - 1) (hv : v.toInt = 0 ∨ v.toInt < (R c.toInt.toNat).toInt) : zMVp R (upd P c.toNatClampNeg v) d := by
  intro k hk hc
  have e := z_clI h0
  by_cases q : k = c.toNatClampNeg
  · rw [z_eq q, show R k = R c.toInt.toNat from congrArg R q]
    exact Or.inr hv
  · rw [z_ne q]
    exact h k hk (by omega)
def zPwp (W : Nat → Int32) (w : Nat) (P : Nat → Int32) (c cr : Int) : Prop := ∀ k : Nat, k < 7 → c < (k : Int) → (k : Int) < cr → P k = aPo W w k
theorem zPwp_u {W P : Nat → Int32} {w : Nat} {c v : Int32} {d cr : Int} (h : zPwp W w P c.toInt cr) (h0 : 0 ≤ c.toInt) (hd : d = c.toInt - 1) (hv : v = aPo W w c.toInt.toNat) : zPwp W w (upd P c.toNatClampNeg v) d cr := by
  intro k hk hc hr
  have e := z_clI h0
  by_cases q : k = c.toNatClampNeg
  · rw [z_eq q, hv]
    exact congrArg (aPo W w) q.symm
  · rw [z_ne q]
    exact h k hk (by omega) hr
/-- one digit more -/
theorem aSw {W : Nat → Int32} {w : Nat} {c lf rd : Int32} (hw : w < 2147483648) (h0 : 0 ≤ c.toInt) (h6 : c.toInt ≤ 6) (hl : lf = nI (w / aPr W (6 - c.toInt).toNat)) (hr : rd = nI (aCh W c.toInt.toNat)) (h4 : aCh W c.toInt.toNat ≤ 4) : lf - lf / rd * rd = aPo W w c.toInt.toNat ∧ lf / rd = nI (w / aPr W (7 - c.toInt).toNat) := by
  have p1 := aCh_p (W := W) (c := c.toInt.toNat)
  have d := Nat.div_le_self w (aPr W (6 - c.toInt).toNat)
  have e6 : 6 - c.toInt.toNat = (6 - c.toInt).toNat := by omega
  rw [hl, hr, pk_rem (by omega) (by omega) (by omega), pk_div (by omega) (by omega) (by omega)]
  constructor
  · unfold aPo aRd
    rw [e6]
  · rw [Nat.div_div_eq_div_mul, show (7 - c.toInt).toNat = (6 - c.toInt.toNat) + 1 by omega, aPr_s (by omega), e6]
theorem aPo_1 {W : Nat → Int32} {w c : Nat} (h : aCh W c = 1) : (0 : Int32) = aPo W w c := by
  unfold aPo aRd
  rw [h, Nat.mod_one]
  rfl
/-- which posts two ways set unlike -/
def aUn (W : Nat → Int32) (w v : Nat) : Nat → Int32
  | 0 => 0
  | n + 1 => aUn W w v n ||| (if aRd W w n = aRd W v n then (0 : Int32) else (1 : Int32) <<< (nI n &&& 31))
def aNu (W : Nat → Int32) (w : Nat) : Nat → Int32
  | 0 => 1
  | n + 1 => aNu W w n * 10 + nI (aRd W w n)
theorem aNu_m {W : Nat → Int32} {w i : Nat} {u p : Int32} (hu : u = aNu W w i) (hp : p = aPo W w i) : 10 * u + p = aNu W w (i + 1) := by
  have e : (10 : Int32) * u = aNu W w i * 10 := by
    rw [hu]
    exact Int32.mul_comm _ _
  rw [e, hp]
  rfl
theorem aPo_q {W : Nat → Int32} {w v c : Nat} {p t : Int32} (h4 : aCh W c ≤ 4) (hp : p = aPo W w c) (ht : t = aPo W v c) : p = t ↔ aRd W w c = aRd W v c := by
  have l1 := aRd_lt (W := W) (w := w) (c := c)
  have l2 := aRd_lt (W := W) (w := v) (c := c)
  rw [hp, ht]
  constructor
  · intro q
    have q := congrArg Int32.toInt q
    unfold aPo at q
    rw [nI_toInt (by omega), nI_toInt (by omega)] at q
    omega
  · intro q
    unfold aPo
    rw [q]
set_option maxHeartbeats 4000000 in
set_option maxRecDepth 100000 in
/-- c_fm_waysMany -/
theorem c_fm_waysMany (l : Launch) (T : zTy) (mo : Nat) (m_all : Nat) (m_has : Nat) (i_size : Int32) (i_next : Int32) (i_where : Int32) (i_token : Int32) (i_number : Int32) (i_word : Int32) (i_wrong : Int32) (i_farCrossing : Int32) (m_read : Nat) (i_z0 : Int32) (i_crossings : Int32) (i_inns : Int32) (m_posts : Nat) (m_shut : Nat) (m_here : Nat) (i_steps : Int32) (i_done : Int32) (i_at : Int32) (i_gone : Int32) (m_was : Nat) (m_came : Nat) (m_seenAt : Nat) (m_rowWorth : Nat) (m_farBy : Nat) (m_used : Nat) (i_everywhere : Int32) (i_again0 : Int32) (i_d0 : Int32) (i_never : Int32) (i_firstCame : Int32) (i_longRun : Int32) (i_moved : Int32) (i_crowd : Int32) (i_l0 : Int32) (i_fitMany : Int32) (i_fitLeast : Int32) (i_fitMost : Int32) (m_fitPost : Nat) (m_fitEnd : Nat) (m_keptPosts : Nat) (i_x0 : Int32) (f_all : Nat → Int32) (hL : zML f_all i_z0 i_crossings) (hZ : zVZ f_all i_z0 i_crossings) : zMi l T yX12_waysMany cX12_waysMany 3 (some .int) 3 0 0 [.ref mo] [[zO11 mo m_all m_has i_size i_next i_where i_token i_number i_word i_wrong i_farCrossing m_read i_z0 i_crossings i_inns m_posts m_shut m_here i_steps i_done i_at i_gone m_was m_came m_seenAt m_rowWorth m_farBy m_used i_everywhere i_again0 i_d0 i_never i_firstCame i_longRun i_moved i_crowd i_l0 i_fitMany i_fitLeast i_fitMost m_fitPost m_fitEnd m_keptPosts i_x0], [zAr T 0 m_all 3952 f_all]] (fun (r : Int32) bs => bs = [[zO11 mo m_all m_has i_size i_next i_where i_token i_number i_word i_wrong i_farCrossing m_read i_z0 i_crossings i_inns m_posts m_shut m_here i_steps i_done i_at i_gone m_was m_came m_seenAt m_rowWorth m_farBy m_used i_everywhere i_again0 i_d0 i_never i_firstCame i_longRun i_moved i_crowd i_l0 i_fitMany i_fitLeast i_fitMost m_fitPost m_fitEnd m_keptPosts i_x0], [zAr T 0 m_all 3952 f_all]] ∧ 1 ≤ r.toInt ∧ r.toInt ≤ 16384 ∧ r = nI (aPr (zWo f_all i_z0 i_inns) 7)) := by
  refine zMi_of (own := RX12) (by decide) rfl (Nat.le_of_ble_eq_true rfl) ?_
  intro p e s m args below meth c A ls C hr hlocks hnm hAe G hl
  refine zHide (fun Qz_ hQz_ => ?_)
  have hx := C.1
  have hb := C.2.1
  have hl : lv_has ls 3 [(0, .ref mo)] := hl
  have hz := hL.1
  have hcr := hL.cr
  refine lv_iconst (v := 1) hx hb dX12_waysMany_0 (by decide) ?_
  refine lv_istore_n (lv' := [(1, .int 1), (0, .ref mo)]) hx hb dX12_waysMany_1 rfl hl (by decide) (zLvf_h rfl) (fun ls hl => ?_)
  refine lv_iconst (v := 0) hx hb dX12_waysMany_2 (by decide) ?_
  refine lv_istore_n (lv' := [(2, .int 0), (1, .int 1), (0, .ref mo)]) hx hb dX12_waysMany_3 rfl hl (by decide) (zLvf_h rfl) (fun ls hl => ?_)
  refine z_lp2 (T := T) 4 (fun (i : Nat) (v : Int32) => [[zO11 mo m_all m_has i_size i_next i_where i_token i_number i_word i_wrong i_farCrossing m_read i_z0 i_crossings i_inns m_posts m_shut m_here i_steps i_done i_at i_gone m_was m_came m_seenAt m_rowWorth m_farBy m_used i_everywhere i_again0 i_d0 i_never i_firstCame i_longRun i_moved i_crowd i_l0 i_fitMany i_fitLeast i_fitMost m_fitPost m_fitEnd m_keptPosts i_x0], [zAr T 0 m_all 3952 f_all]]) (fun (i : Nat) (v : Int32) => [(2, .int (nI i)), (1, .int v), (0, .ref mo)]) (fun (i : Nat) (v : Int32) => i ≤ 7 ∧ (1 ≤ v.toInt ∧ v.toInt ≤ ((4 ^ i : Nat) : Int)) ∧ (i : Int) ≤ i_crossings.toInt ∧ v = nI (aQr (zWo f_all i_z0 i_inns) i)) (fun (i : Nat) (v : Int32) => 7 - i) ?_ 0 1 (show 0 ≤ 7 ∧ (1 ≤ (1 : Int32).toInt ∧ (1 : Int32).toInt ≤ ((4 ^ 0 : Nat) : Int)) ∧ (0 : Int) ≤ i_crossings.toInt ∧ 1 = nI (aQr (zWo f_all i_z0 i_inns) 0) from ⟨by omega, (by decide), by omega, rfl⟩) G (lv_sub hl [0, 1, 2] rfl)
  intro i v hI9 ih_4 H locs ls G hl
  replace hI9 : i ≤ 7 ∧ (1 ≤ v.toInt ∧ v.toInt ≤ ((4 ^ i : Nat) : Int)) ∧ (i : Int) ≤ i_crossings.toInt ∧ v = nI (aQr (zWo f_all i_z0 i_inns) i) := hI9
  refine zAn4 hI9 ?_
  intro hi hv hic hw
  clear hI9
  replace G : zS T A s.heap s [[zO11 mo m_all m_has i_size i_next i_where i_token i_number i_word i_wrong i_farCrossing m_read i_z0 i_crossings i_inns m_posts m_shut m_here i_steps i_done i_at i_gone m_was m_came m_seenAt m_rowWorth m_farBy m_used i_everywhere i_again0 i_d0 i_never i_firstCame i_longRun i_moved i_crowd i_l0 i_fitMany i_fitLeast i_fitMost m_fitPost m_fitEnd m_keptPosts i_x0], [zAr T 0 m_all 3952 f_all]] _ _ := G
  replace hl : lv_has ls 3 [(2, .int (nI i)), (1, .int v), (0, .ref mo)] := hl
  refine lv_iload_n hx hb dX12_waysMany_4 rfl (lv_at hl 0 rfl) ?_
  refine lv_aload_n hx hb dX12_waysMany_5 rfl (lv_at hl 2 rfl) ?_
  refine z_get C G clX12 0 rfl 12 (by decide) m_fl_RX12_169 rfl dX12_waysMany_6 ?_
  refine lv_icmp_ge (tgt := 38) hx hb dX12_waysMany_9 (by decide) (fun c_1 => ?_) (fun c_1 => ?_)
  · have c_1n : i_crossings.toInt ≤ (i : Int) := by have q := (fa_le _ _).mp c_1; rw [nI_toInt (n := i) (by omega)] at q; exact q
    refine lv_iload_n hx hb dX12_waysMany_38 rfl (lv_at hl 1 rfl) ?_
    exact z_back hQz_ (z_iret C hr hlocks G (Nat.le_of_ble_eq_true rfl) (Nat.le_of_ble_eq_true rfl) dX12_waysMany_39 ⟨rfl, hv.1, (Int.le_trans hv.2 (zP4 (by omega))), (by rw [hw, aQr_7]; exact congrArg nI ((congrArg (aQr (zWo f_all i_z0 i_inns)) (show 7 = i + (7 - i) by omega)).trans (aQr_c (zVZ_c hZ (by omega)) _ (by omega))).symm)⟩)
  · have c_1n : ¬ i_crossings.toInt ≤ (i : Int) := fun q => c_1 ((fa_le _ _).mpr (by rw [nI_toInt (n := i) (by omega)]; exact q))
    refine lv_iload_n hx hb dX12_waysMany_12 rfl (lv_at hl 1 rfl) ?_
    refine lv_aload_n hx hb dX12_waysMany_13 rfl (lv_at hl 2 rfl) ?_
    refine lv_iload_n hx hb dX12_waysMany_14 rfl (lv_at hl 0 rfl) ?_
    have ti_2 : (nI i).toInt = ((i : Nat) : Int) := nI_toInt (by omega)
    refine z_Vi (bc := [[zO11 mo m_all m_has i_size i_next i_where i_token i_number i_word i_wrong i_farCrossing m_read i_z0 i_crossings i_inns m_posts m_shut m_here i_steps i_done i_at i_gone m_was m_came m_seenAt m_rowWorth m_farBy m_used i_everywhere i_again0 i_d0 i_never i_firstCame i_longRun i_moved i_crowd i_l0 i_fitMany i_fitLeast i_fitMost m_fitPost m_fitEnd m_keptPosts i_x0], [zAr T 0 m_all 3952 f_all]]) (br := []) (As := [.int (nI i)]) (rest := [.int v]) C G (c_m_isFree l T mo m_all m_has i_size i_next i_where i_token i_number i_word i_wrong i_farCrossing m_read i_z0 i_crossings i_inns m_posts m_shut m_here i_steps i_done i_at i_gone m_was m_came m_seenAt m_rowWorth m_farBy m_used i_everywhere i_again0 i_d0 i_never i_firstCame i_longRun i_moved i_crowd i_l0 i_fitMany i_fitLeast i_fitMost m_fitPost m_fitEnd m_keptPosts i_x0 f_all (nI i) (by first | with_reducible assumption | with_reducible rfl | omega | assumption | rfl | decide) (by first | with_reducible assumption | with_reducible rfl | omega | assumption | rfl | decide) (by first | with_reducible assumption | with_reducible rfl | omega | assumption | rfl | decide)) (kV_RX12_223 C.2.2.2.2 (Nat.le_of_ble_eq_true rfl) (Nat.le_of_ble_eq_true rfl)) [0, 1] [0, 0] rfl rfl (ci := 11) (qc := (RX12, TX12, 43)) rfl rfl (List.mem_flatten.mpr ⟨_, List.mem_of_getElem? (i := 0) rfl, List.mem_cons_self⟩) rfl rfl hl.1 dX12_waysMany_15 (Nat.le_of_ble_eq_true rfl) (Nat.le_of_ble_eq_true rfl) (fun r_4 b1 H locs hw G => ?_)
    refine zAn2 hw ?_
    intro hbs9 hc_3
    clear hw
    subst hbs9
    have G : zS T A s.heap s [[zO11 mo m_all m_has i_size i_next i_where i_token i_number i_word i_wrong i_farCrossing m_read i_z0 i_crossings i_inns m_posts m_shut m_here i_steps i_done i_at i_gone m_was m_came m_seenAt m_rowWorth m_farBy m_used i_everywhere i_again0 i_d0 i_never i_firstCame i_longRun i_moved i_crowd i_l0 i_fitMany i_fitLeast i_fitMost m_fitPost m_fitEnd m_keptPosts i_x0], [zAr T 0 m_all 3952 f_all]] _ _ := G
    rcases hc_3 with ⟨rfl, h_5, h_6⟩ | ⟨rfl, h_7⟩
    · have h_5 : ¬ zInn i_inns (nI i) := h_5
      have h_6 : 0 < (zRd f_all i_z0 (nI i)).toInt := h_6
      refine lv_if_eq (tgt := 29) hx hb dX12_waysMany_18 (by decide) (fun q => absurd q (by decide)) (fun _ => ?_)
      refine lv_aload_n hx hb dX12_waysMany_21 rfl (lv_at hl 2 rfl) ?_
      refine lv_iload_n hx hb dX12_waysMany_22 rfl (lv_at hl 0 rfl) ?_
      have ti_8 : (nI i).toInt = ((i : Nat) : Int) := nI_toInt (by omega)
      refine z_Vi (bc := [[zO11 mo m_all m_has i_size i_next i_where i_token i_number i_word i_wrong i_farCrossing m_read i_z0 i_crossings i_inns m_posts m_shut m_here i_steps i_done i_at i_gone m_was m_came m_seenAt m_rowWorth m_farBy m_used i_everywhere i_again0 i_d0 i_never i_firstCame i_longRun i_moved i_crowd i_l0 i_fitMany i_fitLeast i_fitMost m_fitPost m_fitEnd m_keptPosts i_x0], [zAr T 0 m_all 3952 f_all]]) (br := []) (As := [.int (nI i)]) (rest := [.int v]) C G (c_m_roadsOf l T mo m_all m_has i_size i_next i_where i_token i_number i_word i_wrong i_farCrossing m_read i_z0 i_crossings i_inns m_posts m_shut m_here i_steps i_done i_at i_gone m_was m_came m_seenAt m_rowWorth m_farBy m_used i_everywhere i_again0 i_d0 i_never i_firstCame i_longRun i_moved i_crowd i_l0 i_fitMany i_fitLeast i_fitMost m_fitPost m_fitEnd m_keptPosts i_x0 f_all (nI i) (by first | with_reducible assumption | with_reducible rfl | omega | assumption | rfl | decide) (by first | with_reducible assumption | with_reducible rfl | omega | assumption | rfl | decide) (by first | with_reducible assumption | with_reducible rfl | omega | assumption | rfl | decide)) (kV_RX12_181 C.2.2.2.2 (Nat.le_of_ble_eq_true rfl) (Nat.le_of_ble_eq_true rfl)) [0, 1] [0, 0] rfl rfl (ci := 11) (qc := (RX12, TX12, 43)) rfl rfl (List.mem_flatten.mpr ⟨_, List.mem_of_getElem? (i := 0) rfl, List.mem_cons_self⟩) rfl rfl hl.1 dX12_waysMany_23 (Nat.le_of_ble_eq_true rfl) (Nat.le_of_ble_eq_true rfl) (fun r_12 b1 H locs hw G => ?_)
      refine zAn4 hw ?_
      intro hbs9 h_9 h_10 h_11
      clear hw
      subst hbs9
      have G : zS T A s.heap s [[zO11 mo m_all m_has i_size i_next i_where i_token i_number i_word i_wrong i_farCrossing m_read i_z0 i_crossings i_inns m_posts m_shut m_here i_steps i_done i_at i_gone m_was m_came m_seenAt m_rowWorth m_farBy m_used i_everywhere i_again0 i_d0 i_never i_firstCame i_longRun i_moved i_crowd i_l0 i_fitMany i_fitLeast i_fitMost m_fitPost m_fitEnd m_keptPosts i_x0], [zAr T 0 m_all 3952 f_all]] _ _ := G
      subst h_9
      refine lv_goto (tgt := 30) hx hb dX12_waysMany_26 (by decide) ?_
      have tn9 := nI_n (n := i) (by omega)
      have ti9 := nI_toInt (n := i) (by omega)
      have ha9 := aWo_1 (f := f_all) (z := i_z0) (n := i_inns) (c := (nI i)) (by first | with_reducible assumption | assumption) (by first | with_reducible assumption | assumption) (by omega) (by omega)
      rw [tn9] at ha9
      have hp9 := aCh_p (W := (zWo f_all i_z0 i_inns)) (c := i)
      have hq9 := aCh_m (n := i_inns) hL (c := i) (by omega)
      have hr9 := nI_toInt (n := aCh (zWo f_all i_z0 i_inns) i) (by omega)
      refine lv_topi (fun y_13 ey_13 => ?_)
      obtain rfl : y_13 = nI (aCh (zWo f_all i_z0 i_inns) i) := ey_13.trans (ha9.1)
      refine lv_imul hx hb dX12_waysMany_30 ?_
      refine lv_istore_n (lv' := [(1, .int (v * (nI (aCh (zWo f_all i_z0 i_inns) i)))), (2, .int (nI i)), (0, .ref mo)]) hx hb dX12_waysMany_31 rfl hl (by decide) (zLvf_h rfl) (fun ls hl => ?_)
      refine lv_iinc (v := nI (i + 1)) (lv' := [(2, .int (nI (i + 1))), (1, .int (v * (nI (aCh (zWo f_all i_z0 i_inns) i)))), (0, .ref mo)]) hx hb dX12_waysMany_32 hl (k := 1) rfl (z_inc i 1) (by decide) (zLvf_h rfl) (fun ls hl => ?_)
      refine lv_goto (tgt := 4) hx hb dX12_waysMany_35 (by decide) ?_
      exact ih_4 (i + 1) (v * (nI (aCh (zWo f_all i_z0 i_inns) i))) (show (i + 1) ≤ 7 ∧ (1 ≤ (v * (nI (aCh (zWo f_all i_z0 i_inns) i))).toInt ∧ (v * (nI (aCh (zWo f_all i_z0 i_inns) i))).toInt ≤ ((4 ^ (i + 1) : Nat) : Int)) ∧ ((i + 1) : Int) ≤ i_crossings.toInt ∧ (v * (nI (aCh (zWo f_all i_z0 i_inns) i))) = nI (aQr (zWo f_all i_z0 i_inns) (i + 1)) from ⟨by omega, (zW4 (r := nI (aCh (zWo f_all i_z0 i_inns) i)) (by omega) hv (by omega) (by omega)), by omega, (by rw [hw]; exact pk_mul _ _)⟩) (show 7 - (i + 1) < 7 - i from by omega) _ _ ls G (lv_sub hl [0, 1, 2] rfl)
    · have h_7 : (zInn i_inns (nI i) ∨ (zRd f_all i_z0 (nI i)).toInt ≤ 0) := h_7
      refine lv_if_eq (tgt := 29) hx hb dX12_waysMany_18 (by decide) (fun _ => ?_) (fun q => absurd (by decide) q)
      refine lv_iconst (v := 1) hx hb dX12_waysMany_29 (by decide) ?_
      have tn9 := nI_n (n := i) (by omega)
      have ti9 := nI_toInt (n := i) (by omega)
      have ha9 := aWo_0 (f := f_all) (z := i_z0) (n := i_inns) (c := (nI i)) (by first | with_reducible assumption | assumption) (by omega) (by omega)
      rw [tn9] at ha9
      have hp9 := aCh_p (W := (zWo f_all i_z0 i_inns)) (c := i)
      have hq9 := aCh_m (n := i_inns) hL (c := i) (by omega)
      have hr9 := nI_toInt (n := aCh (zWo f_all i_z0 i_inns) i) (by omega)
      refine lv_topi (fun y_14 ey_14 => ?_)
      obtain rfl : y_14 = nI (aCh (zWo f_all i_z0 i_inns) i) := ey_14.trans ((congrArg nI ha9.2).symm)
      refine lv_imul hx hb dX12_waysMany_30 ?_
      refine lv_istore_n (lv' := [(1, .int (v * (nI (aCh (zWo f_all i_z0 i_inns) i)))), (2, .int (nI i)), (0, .ref mo)]) hx hb dX12_waysMany_31 rfl hl (by decide) (zLvf_h rfl) (fun ls hl => ?_)
      refine lv_iinc (v := nI (i + 1)) (lv' := [(2, .int (nI (i + 1))), (1, .int (v * (nI (aCh (zWo f_all i_z0 i_inns) i)))), (0, .ref mo)]) hx hb dX12_waysMany_32 hl (k := 1) rfl (z_inc i 1) (by decide) (zLvf_h rfl) (fun ls hl => ?_)
      refine lv_goto (tgt := 4) hx hb dX12_waysMany_35 (by decide) ?_
      exact ih_4 (i + 1) (v * (nI (aCh (zWo f_all i_z0 i_inns) i))) (show (i + 1) ≤ 7 ∧ (1 ≤ (v * (nI (aCh (zWo f_all i_z0 i_inns) i))).toInt ∧ (v * (nI (aCh (zWo f_all i_z0 i_inns) i))).toInt ≤ ((4 ^ (i + 1) : Nat) : Int)) ∧ ((i + 1) : Int) ≤ i_crossings.toInt ∧ (v * (nI (aCh (zWo f_all i_z0 i_inns) i))) = nI (aQr (zWo f_all i_z0 i_inns) (i + 1)) from ⟨by omega, (zW4 (r := nI (aCh (zWo f_all i_z0 i_inns) i)) (by omega) hv (by omega) (by omega)), by omega, (by rw [hw]; exact pk_mul _ _)⟩) (show 7 - (i + 1) < 7 - i from by omega) _ _ ls G (lv_sub hl [0, 1, 2] rfl)
set_option maxHeartbeats 4000000 in
set_option maxRecDepth 100000 in
/-- c_fm_setsWay -/
theorem c_fm_setsWay (l : Launch) (T : zTy) (mo : Nat) (m_all : Nat) (m_has : Nat) (i_size : Int32) (i_next : Int32) (i_where : Int32) (i_token : Int32) (i_number : Int32) (i_word : Int32) (i_wrong : Int32) (i_farCrossing : Int32) (m_read : Nat) (i_z0 : Int32) (i_crossings : Int32) (i_inns : Int32) (m_posts : Nat) (m_shut : Nat) (m_here : Nat) (i_steps : Int32) (i_done : Int32) (i_at : Int32) (i_gone : Int32) (m_was : Nat) (m_came : Nat) (m_seenAt : Nat) (m_rowWorth : Nat) (m_farBy : Nat) (m_used : Nat) (i_everywhere : Int32) (i_again0 : Int32) (i_d0 : Int32) (i_never : Int32) (i_firstCame : Int32) (i_longRun : Int32) (i_moved : Int32) (i_crowd : Int32) (i_l0 : Int32) (i_fitMany : Int32) (i_fitLeast : Int32) (i_fitMost : Int32) (m_fitPost : Nat) (m_fitEnd : Nat) (m_keptPosts : Nat) (i_x0 : Int32) (f_all : Nat → Int32) (f_posts : Nat → Int32) (w_ : Int32) (hL : zML f_all i_z0 i_crossings) (hP : zMP f_posts) (hw0 : 0 ≤ w_.toInt) (hZ : zVZ f_all i_z0 i_crossings) : zMv l T yX12_setsWay cX12_setsWay 4 3 0 0 [.ref mo, .int w_] [[zO11 mo m_all m_has i_size i_next i_where i_token i_number i_word i_wrong i_farCrossing m_read i_z0 i_crossings i_inns m_posts m_shut m_here i_steps i_done i_at i_gone m_was m_came m_seenAt m_rowWorth m_farBy m_used i_everywhere i_again0 i_d0 i_never i_firstCame i_longRun i_moved i_crowd i_l0 i_fitMany i_fitLeast i_fitMost m_fitPost m_fitEnd m_keptPosts i_x0], [zAr T 0 m_all 3952 f_all], [zAr T 0 m_posts 7 f_posts]] (fun bs => ∃ (g_posts : Nat → Int32), bs = [[zO11 mo m_all m_has i_size i_next i_where i_token i_number i_word i_wrong i_farCrossing m_read i_z0 i_crossings i_inns m_posts m_shut m_here i_steps i_done i_at i_gone m_was m_came m_seenAt m_rowWorth m_farBy m_used i_everywhere i_again0 i_d0 i_never i_firstCame i_longRun i_moved i_crowd i_l0 i_fitMany i_fitLeast i_fitMost m_fitPost m_fitEnd m_keptPosts i_x0], [zAr T 0 m_all 3952 f_all], [zAr T 0 m_posts 7 g_posts]] ∧ zMP g_posts ∧ zMV (zRo f_all i_z0) g_posts ∧ (∀ k : Nat, k < 7 → (k : Int) < i_crossings.toInt → g_posts k = aPo (zWo f_all i_z0 i_inns) w_.toInt.toNat k)) := by
  refine zMv_of (own := RX12) (by decide) rfl (Nat.le_of_ble_eq_true rfl) ?_
  intro p e s m args below meth c A ls C hr hlocks hnm hAe G hl
  refine zHide (fun Qz_ hQz_ => ?_)
  have hx := C.1
  have hb := C.2.1
  have hl : lv_has ls 4 [(0, .ref mo), (1, .int w_)] := hl
  have hz := hL.1
  have hcr := hL.cr
  have hwl := Int32.toInt_lt w_
  refine lv_iload_n hx hb dX12_setsWay_0 rfl (lv_at hl 1 rfl) ?_
  refine lv_istore_n (lv' := [(2, .int w_), (0, .ref mo), (1, .int w_)]) hx hb dX12_setsWay_1 rfl hl (by decide) (zLvf_h rfl) (fun ls hl => ?_)
  refine lv_aload_n hx hb dX12_setsWay_2 rfl (lv_at hl 1 rfl) ?_
  refine z_get C G clX12 0 rfl 12 (by decide) m_fl_RX12_169 rfl dX12_setsWay_3 ?_
  refine lv_iconst (v := 1) hx hb dX12_setsWay_6 (by decide) ?_
  refine lv_isub hx hb dX12_setsWay_7 ?_
  refine lv_topi (fun y_1 ey_1 => ?_)
  have ey_1i : y_1.toInt = i_crossings.toInt - (1 : Int) := by rw [ey_1]; exact z_isubI (x := i_crossings) (y := (1 : Int32)) (by show -2147483648 ≤ i_crossings.toInt - (1 : Int); omega) (by show i_crossings.toInt - (1 : Int) < 2147483648; omega)
  refine lv_istore_n (lv' := [(3, .int y_1), (2, .int w_), (0, .ref mo), (1, .int w_)]) hx hb dX12_setsWay_8 rfl hl (by decide) (zLvf_h rfl) (fun ls hl => ?_)
  refine z_lp3 (T := T) 9 (fun (c9 : Int32) (lf : Int32) (xp : Nat → Int32) => [[zO11 mo m_all m_has i_size i_next i_where i_token i_number i_word i_wrong i_farCrossing m_read i_z0 i_crossings i_inns m_posts m_shut m_here i_steps i_done i_at i_gone m_was m_came m_seenAt m_rowWorth m_farBy m_used i_everywhere i_again0 i_d0 i_never i_firstCame i_longRun i_moved i_crowd i_l0 i_fitMany i_fitLeast i_fitMost m_fitPost m_fitEnd m_keptPosts i_x0], [zAr T 0 m_all 3952 f_all], [zAr T 0 m_posts 7 xp]]) (fun (c9 : Int32) (lf : Int32) (xp : Nat → Int32) => [(3, .int c9), (2, .int lf), (0, .ref mo), (1, .int w_)]) (fun (c9 : Int32) (lf : Int32) (xp : Nat → Int32) => -1 ≤ c9.toInt ∧ c9.toInt ≤ 6 ∧ 0 ≤ lf.toInt ∧ zMP xp ∧ c9.toInt < i_crossings.toInt ∧ lf = nI (w_.toInt.toNat / aPr (zWo f_all i_z0 i_inns) (6 - c9.toInt).toNat) ∧ zMVp (zRo f_all i_z0) xp c9.toInt ∧ zPwp (zWo f_all i_z0 i_inns) w_.toInt.toNat xp c9.toInt i_crossings.toInt) (fun (c9 : Int32) (lf : Int32) (xp : Nat → Int32) => (c9.toInt + 1).toNat) ?_ y_1 w_ f_posts (show -1 ≤ y_1.toInt ∧ y_1.toInt ≤ 6 ∧ 0 ≤ w_.toInt ∧ zMP f_posts ∧ y_1.toInt < i_crossings.toInt ∧ w_ = nI (w_.toInt.toNat / aPr (zWo f_all i_z0 i_inns) (6 - y_1.toInt).toNat) ∧ zMVp (zRo f_all i_z0) f_posts y_1.toInt ∧ zPwp (zWo f_all i_z0 i_inns) w_.toInt.toNat f_posts y_1.toInt i_crossings.toInt from ⟨by omega, by omega, by omega, hP, by omega, (by rw [aPr_c (zVZ_c (n := i_inns) hZ (c := i_crossings.toInt.toNat) (by omega)) _ (by omega), Nat.div_one]; exact z_nI (by omega) (by omega)), (fun k hk hq => Or.inl (hZ k hk (by omega))), (fun k hk hq hr => absurd hr (by omega))⟩) G (lv_sub hl [0, 1, 2, 3] rfl)
  intro c9 lf xp hI9 ih_9 H locs ls G hl
  replace hI9 : -1 ≤ c9.toInt ∧ c9.toInt ≤ 6 ∧ 0 ≤ lf.toInt ∧ zMP xp ∧ c9.toInt < i_crossings.toInt ∧ lf = nI (w_.toInt.toNat / aPr (zWo f_all i_z0 i_inns) (6 - c9.toInt).toNat) ∧ zMVp (zRo f_all i_z0) xp c9.toInt ∧ zPwp (zWo f_all i_z0 i_inns) w_.toInt.toNat xp c9.toInt i_crossings.toInt := hI9
  refine zAn8 hI9 ?_
  intro hc1 hc6 hlf hQ hcc hl9 hM9 hd9
  clear hI9
  replace G : zS T A s.heap s [[zO11 mo m_all m_has i_size i_next i_where i_token i_number i_word i_wrong i_farCrossing m_read i_z0 i_crossings i_inns m_posts m_shut m_here i_steps i_done i_at i_gone m_was m_came m_seenAt m_rowWorth m_farBy m_used i_everywhere i_again0 i_d0 i_never i_firstCame i_longRun i_moved i_crowd i_l0 i_fitMany i_fitLeast i_fitMost m_fitPost m_fitEnd m_keptPosts i_x0], [zAr T 0 m_all 3952 f_all], [zAr T 0 m_posts 7 xp]] _ _ := G
  replace hl : lv_has ls 4 [(3, .int c9), (2, .int lf), (0, .ref mo), (1, .int w_)] := hl
  refine lv_iload_n hx hb dX12_setsWay_9 rfl (lv_at hl 0 rfl) ?_
  refine lv_if_lt (tgt := 64) hx hb dX12_setsWay_10 (by decide) (fun c_2 => ?_) (fun c_2 => ?_)
  · have c_2n : c9.toInt < (0 : Int) := (fa_lt _ _).mp c_2
    exact z_back hQz_ (z_vret C hr hlocks G (Nat.le_of_ble_eq_true rfl) (Nat.le_of_ble_eq_true rfl) dX12_setsWay_64 ⟨xp, rfl, hQ, (fun k hk => hM9 k hk (by omega)), (fun k hk hr => hd9 k hk (by omega) hr)⟩)
  · have c_2n : ¬ c9.toInt < (0 : Int) := fun q => c_2 ((fa_lt _ _).mpr q)
    refine lv_aload_n hx hb dX12_setsWay_13 rfl (lv_at hl 2 rfl) ?_
    refine z_get C G clX12 0 rfl 14 (by decide) m_fl_RX12_20 rfl dX12_setsWay_14 ?_
    refine lv_iload_n hx hb dX12_setsWay_17 rfl (lv_at hl 0 rfl) ?_
    refine lv_aload_n hx hb dX12_setsWay_18 rfl (lv_at hl 2 rfl) ?_
    refine lv_iload_n hx hb dX12_setsWay_19 rfl (lv_at hl 0 rfl) ?_
    refine z_Vi (bc := [[zO11 mo m_all m_has i_size i_next i_where i_token i_number i_word i_wrong i_farCrossing m_read i_z0 i_crossings i_inns m_posts m_shut m_here i_steps i_done i_at i_gone m_was m_came m_seenAt m_rowWorth m_farBy m_used i_everywhere i_again0 i_d0 i_never i_firstCame i_longRun i_moved i_crowd i_l0 i_fitMany i_fitLeast i_fitMost m_fitPost m_fitEnd m_keptPosts i_x0], [zAr T 0 m_all 3952 f_all]]) (br := [[zAr T 0 m_posts 7 xp]]) (As := [.int c9]) (rest := [.int c9, .ref m_posts]) C G (c_m_isFree l T mo m_all m_has i_size i_next i_where i_token i_number i_word i_wrong i_farCrossing m_read i_z0 i_crossings i_inns m_posts m_shut m_here i_steps i_done i_at i_gone m_was m_came m_seenAt m_rowWorth m_farBy m_used i_everywhere i_again0 i_d0 i_never i_firstCame i_longRun i_moved i_crowd i_l0 i_fitMany i_fitLeast i_fitMost m_fitPost m_fitEnd m_keptPosts i_x0 f_all c9 (by first | with_reducible assumption | with_reducible rfl | omega | assumption | rfl | decide) (by first | with_reducible assumption | with_reducible rfl | omega | assumption | rfl | decide) (by first | with_reducible assumption | with_reducible rfl | omega | assumption | rfl | decide)) (kV_RX12_223 C.2.2.2.2 (Nat.le_of_ble_eq_true rfl) (Nat.le_of_ble_eq_true rfl)) [0, 1] [0, 0] rfl rfl (ci := 11) (qc := (RX12, TX12, 43)) rfl rfl (List.mem_flatten.mpr ⟨_, List.mem_of_getElem? (i := 0) rfl, List.mem_cons_self⟩) rfl rfl hl.1 dX12_setsWay_20 (Nat.le_of_ble_eq_true rfl) (Nat.le_of_ble_eq_true rfl) (fun r_4 b1 H locs hw G => ?_)
    refine zAn2 hw ?_
    intro hbs9 hc_3
    clear hw
    subst hbs9
    have G : zS T A s.heap s [[zAr T 0 m_posts 7 xp], [zO11 mo m_all m_has i_size i_next i_where i_token i_number i_word i_wrong i_farCrossing m_read i_z0 i_crossings i_inns m_posts m_shut m_here i_steps i_done i_at i_gone m_was m_came m_seenAt m_rowWorth m_farBy m_used i_everywhere i_again0 i_d0 i_never i_firstCame i_longRun i_moved i_crowd i_l0 i_fitMany i_fitLeast i_fitMost m_fitPost m_fitEnd m_keptPosts i_x0], [zAr T 0 m_all 3952 f_all]] _ _ := G
    rcases hc_3 with ⟨rfl, h_5, h_6⟩ | ⟨rfl, h_7⟩
    · have h_5 : ¬ zInn i_inns c9 := h_5
      have h_6 : 0 < (zRd f_all i_z0 c9).toInt := h_6
      refine lv_if_eq (tgt := 36) hx hb dX12_setsWay_23 (by decide) (fun q => absurd q (by decide)) (fun _ => ?_)
      refine lv_iload_n hx hb dX12_setsWay_26 rfl (lv_at hl 1 rfl) ?_
      refine lv_aload_n hx hb dX12_setsWay_27 rfl (lv_at hl 2 rfl) ?_
      refine lv_iload_n hx hb dX12_setsWay_28 rfl (lv_at hl 0 rfl) ?_
      refine z_Vi (bc := [[zO11 mo m_all m_has i_size i_next i_where i_token i_number i_word i_wrong i_farCrossing m_read i_z0 i_crossings i_inns m_posts m_shut m_here i_steps i_done i_at i_gone m_was m_came m_seenAt m_rowWorth m_farBy m_used i_everywhere i_again0 i_d0 i_never i_firstCame i_longRun i_moved i_crowd i_l0 i_fitMany i_fitLeast i_fitMost m_fitPost m_fitEnd m_keptPosts i_x0], [zAr T 0 m_all 3952 f_all]]) (br := [[zAr T 0 m_posts 7 xp]]) (As := [.int c9]) (rest := [.int lf, .int c9, .ref m_posts]) C G (c_m_roadsOf l T mo m_all m_has i_size i_next i_where i_token i_number i_word i_wrong i_farCrossing m_read i_z0 i_crossings i_inns m_posts m_shut m_here i_steps i_done i_at i_gone m_was m_came m_seenAt m_rowWorth m_farBy m_used i_everywhere i_again0 i_d0 i_never i_firstCame i_longRun i_moved i_crowd i_l0 i_fitMany i_fitLeast i_fitMost m_fitPost m_fitEnd m_keptPosts i_x0 f_all c9 (by first | with_reducible assumption | with_reducible rfl | omega | assumption | rfl | decide) (by first | with_reducible assumption | with_reducible rfl | omega | assumption | rfl | decide) (by first | with_reducible assumption | with_reducible rfl | omega | assumption | rfl | decide)) (kV_RX12_181 C.2.2.2.2 (Nat.le_of_ble_eq_true rfl) (Nat.le_of_ble_eq_true rfl)) [1, 2] [1, 0] rfl rfl (ci := 11) (qc := (RX12, TX12, 43)) rfl rfl (List.mem_flatten.mpr ⟨_, List.mem_of_getElem? (i := 0) rfl, List.mem_cons_self⟩) rfl rfl hl.1 dX12_setsWay_29 (Nat.le_of_ble_eq_true rfl) (Nat.le_of_ble_eq_true rfl) (fun r_11 b1 H locs hw G => ?_)
      refine zAn4 hw ?_
      intro hbs9 h_8 h_9 h_10
      clear hw
      subst hbs9
      have G : zS T A s.heap s [[zAr T 0 m_posts 7 xp], [zO11 mo m_all m_has i_size i_next i_where i_token i_number i_word i_wrong i_farCrossing m_read i_z0 i_crossings i_inns m_posts m_shut m_here i_steps i_done i_at i_gone m_was m_came m_seenAt m_rowWorth m_farBy m_used i_everywhere i_again0 i_d0 i_never i_firstCame i_longRun i_moved i_crowd i_l0 i_fitMany i_fitLeast i_fitMost m_fitPost m_fitEnd m_keptPosts i_x0], [zAr T 0 m_all 3952 f_all]] _ _ := G
      subst h_8
      refine lv_irem hx hb dX12_setsWay_32 (fun q => absurd (congrArg Int32.toInt q) (by show ¬ _ = (0 : Int); omega)) ?_
      refine lv_goto (tgt := 37) hx hb dX12_setsWay_33 (by decide) ?_
      have ha9 := aWo_1 (f := f_all) (z := i_z0) (n := i_inns) (c := c9) (by first | with_reducible assumption | assumption) (by first | with_reducible assumption | assumption) (by omega) (by omega)
      have hq9 := aCh_m (n := i_inns) hL (c := c9.toInt.toNat) (by omega)
      have hsw := aSw (W := (zWo f_all i_z0 i_inns)) (by omega) (by omega) (by omega) hl9 ha9.1 hq9
      have hrm := zRem (x := lf) (y := zRd f_all i_z0 c9) (by omega) (by omega)
      refine z_ist C G 0 rfl (vp_in_iff.mpr ⟨by omega, by omega⟩) dX12_setsWay_37 (fun H locs G => ?_)
      have G : zS T A s.heap s [[zAr T 0 m_posts 7 (upd xp c9.toNatClampNeg (lf - lf / (zRd f_all i_z0 c9) * (zRd f_all i_z0 c9)))], [zO11 mo m_all m_has i_size i_next i_where i_token i_number i_word i_wrong i_farCrossing m_read i_z0 i_crossings i_inns m_posts m_shut m_here i_steps i_done i_at i_gone m_was m_came m_seenAt m_rowWorth m_farBy m_used i_everywhere i_again0 i_d0 i_never i_firstCame i_longRun i_moved i_crowd i_l0 i_fitMany i_fitLeast i_fitMost m_fitPost m_fitEnd m_keptPosts i_x0], [zAr T 0 m_all 3952 f_all]] _ _ := G
      refine lv_iload_n hx hb dX12_setsWay_38 rfl (lv_at hl 1 rfl) ?_
      refine lv_aload_n hx hb dX12_setsWay_39 rfl (lv_at hl 2 rfl) ?_
      refine lv_iload_n hx hb dX12_setsWay_40 rfl (lv_at hl 0 rfl) ?_
      refine z_Vi (bc := [[zO11 mo m_all m_has i_size i_next i_where i_token i_number i_word i_wrong i_farCrossing m_read i_z0 i_crossings i_inns m_posts m_shut m_here i_steps i_done i_at i_gone m_was m_came m_seenAt m_rowWorth m_farBy m_used i_everywhere i_again0 i_d0 i_never i_firstCame i_longRun i_moved i_crowd i_l0 i_fitMany i_fitLeast i_fitMost m_fitPost m_fitEnd m_keptPosts i_x0], [zAr T 0 m_all 3952 f_all]]) (br := [[zAr T 0 m_posts 7 (upd xp c9.toNatClampNeg (lf - lf / (zRd f_all i_z0 c9) * (zRd f_all i_z0 c9)))]]) (As := [.int c9]) (rest := [.int lf]) C G (c_m_isFree l T mo m_all m_has i_size i_next i_where i_token i_number i_word i_wrong i_farCrossing m_read i_z0 i_crossings i_inns m_posts m_shut m_here i_steps i_done i_at i_gone m_was m_came m_seenAt m_rowWorth m_farBy m_used i_everywhere i_again0 i_d0 i_never i_firstCame i_longRun i_moved i_crowd i_l0 i_fitMany i_fitLeast i_fitMost m_fitPost m_fitEnd m_keptPosts i_x0 f_all c9 (by first | with_reducible assumption | with_reducible rfl | omega | assumption | rfl | decide) (by first | with_reducible assumption | with_reducible rfl | omega | assumption | rfl | decide) (by first | with_reducible assumption | with_reducible rfl | omega | assumption | rfl | decide)) (kV_RX12_223 C.2.2.2.2 (Nat.le_of_ble_eq_true rfl) (Nat.le_of_ble_eq_true rfl)) [1, 2] [1, 0] rfl rfl (ci := 11) (qc := (RX12, TX12, 43)) rfl rfl (List.mem_flatten.mpr ⟨_, List.mem_of_getElem? (i := 0) rfl, List.mem_cons_self⟩) rfl rfl hl.1 dX12_setsWay_41 (Nat.le_of_ble_eq_true rfl) (Nat.le_of_ble_eq_true rfl) (fun r_13 b1 H locs hw G => ?_)
      refine zAn2 hw ?_
      intro hbs9 hc_12
      clear hw
      subst hbs9
      have G : zS T A s.heap s [[zAr T 0 m_posts 7 (upd xp c9.toNatClampNeg (lf - lf / (zRd f_all i_z0 c9) * (zRd f_all i_z0 c9)))], [zO11 mo m_all m_has i_size i_next i_where i_token i_number i_word i_wrong i_farCrossing m_read i_z0 i_crossings i_inns m_posts m_shut m_here i_steps i_done i_at i_gone m_was m_came m_seenAt m_rowWorth m_farBy m_used i_everywhere i_again0 i_d0 i_never i_firstCame i_longRun i_moved i_crowd i_l0 i_fitMany i_fitLeast i_fitMost m_fitPost m_fitEnd m_keptPosts i_x0], [zAr T 0 m_all 3952 f_all]] _ _ := G
      rcases hc_12 with ⟨rfl, h_14, h_15⟩ | ⟨rfl, h_16⟩
      · have h_14 : ¬ zInn i_inns c9 := h_14
        have h_15 : 0 < (zRd f_all i_z0 c9).toInt := h_15
        refine lv_if_eq (tgt := 55) hx hb dX12_setsWay_44 (by decide) (fun q => absurd q (by decide)) (fun _ => ?_)
        refine lv_aload_n hx hb dX12_setsWay_47 rfl (lv_at hl 2 rfl) ?_
        refine lv_iload_n hx hb dX12_setsWay_48 rfl (lv_at hl 0 rfl) ?_
        refine z_Vi (bc := [[zO11 mo m_all m_has i_size i_next i_where i_token i_number i_word i_wrong i_farCrossing m_read i_z0 i_crossings i_inns m_posts m_shut m_here i_steps i_done i_at i_gone m_was m_came m_seenAt m_rowWorth m_farBy m_used i_everywhere i_again0 i_d0 i_never i_firstCame i_longRun i_moved i_crowd i_l0 i_fitMany i_fitLeast i_fitMost m_fitPost m_fitEnd m_keptPosts i_x0], [zAr T 0 m_all 3952 f_all]]) (br := [[zAr T 0 m_posts 7 (upd xp c9.toNatClampNeg (lf - lf / (zRd f_all i_z0 c9) * (zRd f_all i_z0 c9)))]]) (As := [.int c9]) (rest := [.int lf]) C G (c_m_roadsOf l T mo m_all m_has i_size i_next i_where i_token i_number i_word i_wrong i_farCrossing m_read i_z0 i_crossings i_inns m_posts m_shut m_here i_steps i_done i_at i_gone m_was m_came m_seenAt m_rowWorth m_farBy m_used i_everywhere i_again0 i_d0 i_never i_firstCame i_longRun i_moved i_crowd i_l0 i_fitMany i_fitLeast i_fitMost m_fitPost m_fitEnd m_keptPosts i_x0 f_all c9 (by first | with_reducible assumption | with_reducible rfl | omega | assumption | rfl | decide) (by first | with_reducible assumption | with_reducible rfl | omega | assumption | rfl | decide) (by first | with_reducible assumption | with_reducible rfl | omega | assumption | rfl | decide)) (kV_RX12_181 C.2.2.2.2 (Nat.le_of_ble_eq_true rfl) (Nat.le_of_ble_eq_true rfl)) [1, 2] [1, 0] rfl rfl (ci := 11) (qc := (RX12, TX12, 43)) rfl rfl (List.mem_flatten.mpr ⟨_, List.mem_of_getElem? (i := 0) rfl, List.mem_cons_self⟩) rfl rfl hl.1 dX12_setsWay_49 (Nat.le_of_ble_eq_true rfl) (Nat.le_of_ble_eq_true rfl) (fun r_20 b1 H locs hw G => ?_)
        refine zAn4 hw ?_
        intro hbs9 h_17 h_18 h_19
        clear hw
        subst hbs9
        have G : zS T A s.heap s [[zAr T 0 m_posts 7 (upd xp c9.toNatClampNeg (lf - lf / (zRd f_all i_z0 c9) * (zRd f_all i_z0 c9)))], [zO11 mo m_all m_has i_size i_next i_where i_token i_number i_word i_wrong i_farCrossing m_read i_z0 i_crossings i_inns m_posts m_shut m_here i_steps i_done i_at i_gone m_was m_came m_seenAt m_rowWorth m_farBy m_used i_everywhere i_again0 i_d0 i_never i_firstCame i_longRun i_moved i_crowd i_l0 i_fitMany i_fitLeast i_fitMost m_fitPost m_fitEnd m_keptPosts i_x0], [zAr T 0 m_all 3952 f_all]] _ _ := G
        subst h_17
        refine lv_goto (tgt := 56) hx hb dX12_setsWay_52 (by decide) ?_
        refine lv_idiv hx hb dX12_setsWay_56 (fun q => absurd (congrArg Int32.toInt q) (by show ¬ _ = (0 : Int); omega)) ?_
        have hb9 := aWo_1 (f := f_all) (z := i_z0) (n := i_inns) (c := c9) (by first | with_reducible assumption | assumption) (by first | with_reducible assumption | assumption) (by omega) (by omega)
        have hdv : 0 ≤ (lf / (zRd f_all i_z0 c9)).toInt := zDiv0 (by omega) (by omega)
        have hq8 := aCh_m (n := i_inns) hL (c := c9.toInt.toNat) (by omega)
        refine lv_istore_n (lv' := [(2, .int (lf / (zRd f_all i_z0 c9))), (3, .int c9), (0, .ref mo), (1, .int w_)]) hx hb dX12_setsWay_57 rfl hl (by decide) (zLvf_h rfl) (fun ls hl => ?_)
        obtain ⟨y_21, ey_21⟩ : ∃ q : Int32, q = c9 + (-1) := ⟨_, rfl⟩
        have ey_21i : y_21.toInt = c9.toInt - 1 := by rw [ey_21]; exact z_iaddI (x := c9) (y := (-1)) (by show -2147483648 ≤ c9.toInt + (-1 : Int); omega) (by show c9.toInt + (-1 : Int) < 2147483648; omega)
        refine lv_iinc (v := y_21) (lv' := [(3, .int y_21), (2, .int (lf / (zRd f_all i_z0 c9))), (0, .ref mo), (1, .int w_)]) hx hb dX12_setsWay_58 hl (k := 1) rfl ey_21.symm (by decide) (zLvf_h rfl) (fun ls hl => ?_)
        refine lv_goto (tgt := 9) hx hb dX12_setsWay_61 (by decide) ?_
        have G := G.sub (bs' := [[zO11 mo m_all m_has i_size i_next i_where i_token i_number i_word i_wrong i_farCrossing m_read i_z0 i_crossings i_inns m_posts m_shut m_here i_steps i_done i_at i_gone m_was m_came m_seenAt m_rowWorth m_farBy m_used i_everywhere i_again0 i_d0 i_never i_firstCame i_longRun i_moved i_crowd i_l0 i_fitMany i_fitLeast i_fitMost m_fitPost m_fitEnd m_keptPosts i_x0], [zAr T 0 m_all 3952 f_all], [zAr T 0 m_posts 7 (upd xp c9.toNatClampNeg (lf - lf / (zRd f_all i_z0 c9) * (zRd f_all i_z0 c9)))]]) [1, 2, 0] rfl
        exact ih_9 y_21 (lf / (zRd f_all i_z0 c9)) (upd xp c9.toNatClampNeg (lf - lf / (zRd f_all i_z0 c9) * (zRd f_all i_z0 c9))) (show -1 ≤ y_21.toInt ∧ y_21.toInt ≤ 6 ∧ 0 ≤ (lf / (zRd f_all i_z0 c9)).toInt ∧ zMP (upd xp c9.toNatClampNeg (lf - lf / (zRd f_all i_z0 c9) * (zRd f_all i_z0 c9))) ∧ y_21.toInt < i_crossings.toInt ∧ (lf / (zRd f_all i_z0 c9)) = nI (w_.toInt.toNat / aPr (zWo f_all i_z0 i_inns) (6 - y_21.toInt).toNat) ∧ zMVp (zRo f_all i_z0) (upd xp c9.toNatClampNeg (lf - lf / (zRd f_all i_z0 c9) * (zRd f_all i_z0 c9))) y_21.toInt ∧ zPwp (zWo f_all i_z0 i_inns) w_.toInt.toNat (upd xp c9.toNatClampNeg (lf - lf / (zRd f_all i_z0 c9) * (zRd f_all i_z0 c9))) y_21.toInt i_crossings.toInt from ⟨by omega, by omega, by omega, (zMP_upd hQ (by omega)), by omega, (by rw [show (6 - (y_21).toInt).toNat = (7 - c9.toInt).toNat by omega]; exact (aSw (W := (zWo f_all i_z0 i_inns)) (by omega) (by omega) (by omega) hl9 hb9.1 hq8).2), (zMVp_u hM9 (by omega) (by omega) (Or.inr (show (lf - lf / (zRd f_all i_z0 c9) * (zRd f_all i_z0 c9)).toInt < (zRd f_all i_z0 c9).toInt from by omega))), (zPwp_u hd9 (by omega) (by omega) hsw.1)⟩) (show (y_21.toInt + 1).toNat < (c9.toInt + 1).toNat from by omega) _ _ ls G (lv_sub hl [0, 1, 2, 3] rfl)
      · have h_16 : (zInn i_inns c9 ∨ (zRd f_all i_z0 c9).toInt ≤ 0) := h_16
        refine lv_if_eq (tgt := 55) hx hb dX12_setsWay_44 (by decide) (fun _ => ?_) (fun q => absurd (by decide) q)
        refine lv_iconst (v := 1) hx hb dX12_setsWay_55 (by decide) ?_
        refine lv_idiv hx hb dX12_setsWay_56 (by decide) ?_
        have hb9 := aWo_0 (f := f_all) (z := i_z0) (n := i_inns) (c := c9) (by first | with_reducible assumption | assumption) (by omega) (by omega)
        have hdv : 0 ≤ (lf / 1).toInt := zDiv0 (by omega) (by decide)
        have hq8 := aCh_m (n := i_inns) hL (c := c9.toInt.toNat) (by omega)
        refine lv_istore_n (lv' := [(2, .int (lf / 1)), (3, .int c9), (0, .ref mo), (1, .int w_)]) hx hb dX12_setsWay_57 rfl hl (by decide) (zLvf_h rfl) (fun ls hl => ?_)
        obtain ⟨y_22, ey_22⟩ : ∃ q : Int32, q = c9 + (-1) := ⟨_, rfl⟩
        have ey_22i : y_22.toInt = c9.toInt - 1 := by rw [ey_22]; exact z_iaddI (x := c9) (y := (-1)) (by show -2147483648 ≤ c9.toInt + (-1 : Int); omega) (by show c9.toInt + (-1 : Int) < 2147483648; omega)
        refine lv_iinc (v := y_22) (lv' := [(3, .int y_22), (2, .int (lf / 1)), (0, .ref mo), (1, .int w_)]) hx hb dX12_setsWay_58 hl (k := 1) rfl ey_22.symm (by decide) (zLvf_h rfl) (fun ls hl => ?_)
        refine lv_goto (tgt := 9) hx hb dX12_setsWay_61 (by decide) ?_
        have G := G.sub (bs' := [[zO11 mo m_all m_has i_size i_next i_where i_token i_number i_word i_wrong i_farCrossing m_read i_z0 i_crossings i_inns m_posts m_shut m_here i_steps i_done i_at i_gone m_was m_came m_seenAt m_rowWorth m_farBy m_used i_everywhere i_again0 i_d0 i_never i_firstCame i_longRun i_moved i_crowd i_l0 i_fitMany i_fitLeast i_fitMost m_fitPost m_fitEnd m_keptPosts i_x0], [zAr T 0 m_all 3952 f_all], [zAr T 0 m_posts 7 (upd xp c9.toNatClampNeg (lf - lf / (zRd f_all i_z0 c9) * (zRd f_all i_z0 c9)))]]) [1, 2, 0] rfl
        exact ih_9 y_22 (lf / 1) (upd xp c9.toNatClampNeg (lf - lf / (zRd f_all i_z0 c9) * (zRd f_all i_z0 c9))) (show -1 ≤ y_22.toInt ∧ y_22.toInt ≤ 6 ∧ 0 ≤ (lf / 1).toInt ∧ zMP (upd xp c9.toNatClampNeg (lf - lf / (zRd f_all i_z0 c9) * (zRd f_all i_z0 c9))) ∧ y_22.toInt < i_crossings.toInt ∧ (lf / 1) = nI (w_.toInt.toNat / aPr (zWo f_all i_z0 i_inns) (6 - y_22.toInt).toNat) ∧ zMVp (zRo f_all i_z0) (upd xp c9.toNatClampNeg (lf - lf / (zRd f_all i_z0 c9) * (zRd f_all i_z0 c9))) y_22.toInt ∧ zPwp (zWo f_all i_z0 i_inns) w_.toInt.toNat (upd xp c9.toNatClampNeg (lf - lf / (zRd f_all i_z0 c9) * (zRd f_all i_z0 c9))) y_22.toInt i_crossings.toInt from ⟨by omega, by omega, by omega, (zMP_upd hQ (by omega)), by omega, (by rw [show (6 - (y_22).toInt).toNat = (7 - c9.toInt).toNat by omega]; exact (aSw (W := (zWo f_all i_z0 i_inns)) (by omega) (by omega) (by omega) hl9 (congrArg nI hb9.2).symm hq8).2), (zMVp_u hM9 (by omega) (by omega) (Or.inr (show (lf - lf / (zRd f_all i_z0 c9) * (zRd f_all i_z0 c9)).toInt < (zRd f_all i_z0 c9).toInt from by omega))), (zPwp_u hd9 (by omega) (by omega) hsw.1)⟩) (show (y_22.toInt + 1).toNat < (c9.toInt + 1).toNat from by omega) _ _ ls G (lv_sub hl [0, 1, 2, 3] rfl)
    · have h_7 : (zInn i_inns c9 ∨ (zRd f_all i_z0 c9).toInt ≤ 0) := h_7
      refine lv_if_eq (tgt := 36) hx hb dX12_setsWay_23 (by decide) (fun _ => ?_) (fun q => absurd (by decide) q)
      refine lv_iconst (v := 0) hx hb dX12_setsWay_36 (by decide) ?_
      have ha9 := aWo_0 (f := f_all) (z := i_z0) (n := i_inns) (c := c9) (by first | with_reducible assumption | assumption) (by omega) (by omega)
      have hq9 := aCh_m (n := i_inns) hL (c := c9.toInt.toNat) (by omega)
      refine z_ist C G 0 rfl (vp_in_iff.mpr ⟨by omega, by omega⟩) dX12_setsWay_37 (fun H locs G => ?_)
      have G : zS T A s.heap s [[zAr T 0 m_posts 7 (upd xp c9.toNatClampNeg 0)], [zO11 mo m_all m_has i_size i_next i_where i_token i_number i_word i_wrong i_farCrossing m_read i_z0 i_crossings i_inns m_posts m_shut m_here i_steps i_done i_at i_gone m_was m_came m_seenAt m_rowWorth m_farBy m_used i_everywhere i_again0 i_d0 i_never i_firstCame i_longRun i_moved i_crowd i_l0 i_fitMany i_fitLeast i_fitMost m_fitPost m_fitEnd m_keptPosts i_x0], [zAr T 0 m_all 3952 f_all]] _ _ := G
      refine lv_iload_n hx hb dX12_setsWay_38 rfl (lv_at hl 1 rfl) ?_
      refine lv_aload_n hx hb dX12_setsWay_39 rfl (lv_at hl 2 rfl) ?_
      refine lv_iload_n hx hb dX12_setsWay_40 rfl (lv_at hl 0 rfl) ?_
      refine z_Vi (bc := [[zO11 mo m_all m_has i_size i_next i_where i_token i_number i_word i_wrong i_farCrossing m_read i_z0 i_crossings i_inns m_posts m_shut m_here i_steps i_done i_at i_gone m_was m_came m_seenAt m_rowWorth m_farBy m_used i_everywhere i_again0 i_d0 i_never i_firstCame i_longRun i_moved i_crowd i_l0 i_fitMany i_fitLeast i_fitMost m_fitPost m_fitEnd m_keptPosts i_x0], [zAr T 0 m_all 3952 f_all]]) (br := [[zAr T 0 m_posts 7 (upd xp c9.toNatClampNeg 0)]]) (As := [.int c9]) (rest := [.int lf]) C G (c_m_isFree l T mo m_all m_has i_size i_next i_where i_token i_number i_word i_wrong i_farCrossing m_read i_z0 i_crossings i_inns m_posts m_shut m_here i_steps i_done i_at i_gone m_was m_came m_seenAt m_rowWorth m_farBy m_used i_everywhere i_again0 i_d0 i_never i_firstCame i_longRun i_moved i_crowd i_l0 i_fitMany i_fitLeast i_fitMost m_fitPost m_fitEnd m_keptPosts i_x0 f_all c9 (by first | with_reducible assumption | with_reducible rfl | omega | assumption | rfl | decide) (by first | with_reducible assumption | with_reducible rfl | omega | assumption | rfl | decide) (by first | with_reducible assumption | with_reducible rfl | omega | assumption | rfl | decide)) (kV_RX12_223 C.2.2.2.2 (Nat.le_of_ble_eq_true rfl) (Nat.le_of_ble_eq_true rfl)) [1, 2] [1, 0] rfl rfl (ci := 11) (qc := (RX12, TX12, 43)) rfl rfl (List.mem_flatten.mpr ⟨_, List.mem_of_getElem? (i := 0) rfl, List.mem_cons_self⟩) rfl rfl hl.1 dX12_setsWay_41 (Nat.le_of_ble_eq_true rfl) (Nat.le_of_ble_eq_true rfl) (fun r_24 b1 H locs hw G => ?_)
      refine zAn2 hw ?_
      intro hbs9 hc_23
      clear hw
      subst hbs9
      have G : zS T A s.heap s [[zAr T 0 m_posts 7 (upd xp c9.toNatClampNeg 0)], [zO11 mo m_all m_has i_size i_next i_where i_token i_number i_word i_wrong i_farCrossing m_read i_z0 i_crossings i_inns m_posts m_shut m_here i_steps i_done i_at i_gone m_was m_came m_seenAt m_rowWorth m_farBy m_used i_everywhere i_again0 i_d0 i_never i_firstCame i_longRun i_moved i_crowd i_l0 i_fitMany i_fitLeast i_fitMost m_fitPost m_fitEnd m_keptPosts i_x0], [zAr T 0 m_all 3952 f_all]] _ _ := G
      rcases hc_23 with ⟨rfl, h_25, h_26⟩ | ⟨rfl, h_27⟩
      · have h_25 : ¬ zInn i_inns c9 := h_25
        have h_26 : 0 < (zRd f_all i_z0 c9).toInt := h_26
        refine lv_if_eq (tgt := 55) hx hb dX12_setsWay_44 (by decide) (fun q => absurd q (by decide)) (fun _ => ?_)
        refine lv_aload_n hx hb dX12_setsWay_47 rfl (lv_at hl 2 rfl) ?_
        refine lv_iload_n hx hb dX12_setsWay_48 rfl (lv_at hl 0 rfl) ?_
        refine z_Vi (bc := [[zO11 mo m_all m_has i_size i_next i_where i_token i_number i_word i_wrong i_farCrossing m_read i_z0 i_crossings i_inns m_posts m_shut m_here i_steps i_done i_at i_gone m_was m_came m_seenAt m_rowWorth m_farBy m_used i_everywhere i_again0 i_d0 i_never i_firstCame i_longRun i_moved i_crowd i_l0 i_fitMany i_fitLeast i_fitMost m_fitPost m_fitEnd m_keptPosts i_x0], [zAr T 0 m_all 3952 f_all]]) (br := [[zAr T 0 m_posts 7 (upd xp c9.toNatClampNeg 0)]]) (As := [.int c9]) (rest := [.int lf]) C G (c_m_roadsOf l T mo m_all m_has i_size i_next i_where i_token i_number i_word i_wrong i_farCrossing m_read i_z0 i_crossings i_inns m_posts m_shut m_here i_steps i_done i_at i_gone m_was m_came m_seenAt m_rowWorth m_farBy m_used i_everywhere i_again0 i_d0 i_never i_firstCame i_longRun i_moved i_crowd i_l0 i_fitMany i_fitLeast i_fitMost m_fitPost m_fitEnd m_keptPosts i_x0 f_all c9 (by first | with_reducible assumption | with_reducible rfl | omega | assumption | rfl | decide) (by first | with_reducible assumption | with_reducible rfl | omega | assumption | rfl | decide) (by first | with_reducible assumption | with_reducible rfl | omega | assumption | rfl | decide)) (kV_RX12_181 C.2.2.2.2 (Nat.le_of_ble_eq_true rfl) (Nat.le_of_ble_eq_true rfl)) [1, 2] [1, 0] rfl rfl (ci := 11) (qc := (RX12, TX12, 43)) rfl rfl (List.mem_flatten.mpr ⟨_, List.mem_of_getElem? (i := 0) rfl, List.mem_cons_self⟩) rfl rfl hl.1 dX12_setsWay_49 (Nat.le_of_ble_eq_true rfl) (Nat.le_of_ble_eq_true rfl) (fun r_31 b1 H locs hw G => ?_)
        refine zAn4 hw ?_
        intro hbs9 h_28 h_29 h_30
        clear hw
        subst hbs9
        have G : zS T A s.heap s [[zAr T 0 m_posts 7 (upd xp c9.toNatClampNeg 0)], [zO11 mo m_all m_has i_size i_next i_where i_token i_number i_word i_wrong i_farCrossing m_read i_z0 i_crossings i_inns m_posts m_shut m_here i_steps i_done i_at i_gone m_was m_came m_seenAt m_rowWorth m_farBy m_used i_everywhere i_again0 i_d0 i_never i_firstCame i_longRun i_moved i_crowd i_l0 i_fitMany i_fitLeast i_fitMost m_fitPost m_fitEnd m_keptPosts i_x0], [zAr T 0 m_all 3952 f_all]] _ _ := G
        subst h_28
        refine lv_goto (tgt := 56) hx hb dX12_setsWay_52 (by decide) ?_
        refine lv_idiv hx hb dX12_setsWay_56 (fun q => absurd (congrArg Int32.toInt q) (by show ¬ _ = (0 : Int); omega)) ?_
        have hb9 := aWo_1 (f := f_all) (z := i_z0) (n := i_inns) (c := c9) (by first | with_reducible assumption | assumption) (by first | with_reducible assumption | assumption) (by omega) (by omega)
        have hdv : 0 ≤ (lf / (zRd f_all i_z0 c9)).toInt := zDiv0 (by omega) (by omega)
        have hq8 := aCh_m (n := i_inns) hL (c := c9.toInt.toNat) (by omega)
        refine lv_istore_n (lv' := [(2, .int (lf / (zRd f_all i_z0 c9))), (3, .int c9), (0, .ref mo), (1, .int w_)]) hx hb dX12_setsWay_57 rfl hl (by decide) (zLvf_h rfl) (fun ls hl => ?_)
        obtain ⟨y_32, ey_32⟩ : ∃ q : Int32, q = c9 + (-1) := ⟨_, rfl⟩
        have ey_32i : y_32.toInt = c9.toInt - 1 := by rw [ey_32]; exact z_iaddI (x := c9) (y := (-1)) (by show -2147483648 ≤ c9.toInt + (-1 : Int); omega) (by show c9.toInt + (-1 : Int) < 2147483648; omega)
        refine lv_iinc (v := y_32) (lv' := [(3, .int y_32), (2, .int (lf / (zRd f_all i_z0 c9))), (0, .ref mo), (1, .int w_)]) hx hb dX12_setsWay_58 hl (k := 1) rfl ey_32.symm (by decide) (zLvf_h rfl) (fun ls hl => ?_)
        refine lv_goto (tgt := 9) hx hb dX12_setsWay_61 (by decide) ?_
        have G := G.sub (bs' := [[zO11 mo m_all m_has i_size i_next i_where i_token i_number i_word i_wrong i_farCrossing m_read i_z0 i_crossings i_inns m_posts m_shut m_here i_steps i_done i_at i_gone m_was m_came m_seenAt m_rowWorth m_farBy m_used i_everywhere i_again0 i_d0 i_never i_firstCame i_longRun i_moved i_crowd i_l0 i_fitMany i_fitLeast i_fitMost m_fitPost m_fitEnd m_keptPosts i_x0], [zAr T 0 m_all 3952 f_all], [zAr T 0 m_posts 7 (upd xp c9.toNatClampNeg 0)]]) [1, 2, 0] rfl
        exact ih_9 y_32 (lf / (zRd f_all i_z0 c9)) (upd xp c9.toNatClampNeg 0) (show -1 ≤ y_32.toInt ∧ y_32.toInt ≤ 6 ∧ 0 ≤ (lf / (zRd f_all i_z0 c9)).toInt ∧ zMP (upd xp c9.toNatClampNeg 0) ∧ y_32.toInt < i_crossings.toInt ∧ (lf / (zRd f_all i_z0 c9)) = nI (w_.toInt.toNat / aPr (zWo f_all i_z0 i_inns) (6 - y_32.toInt).toNat) ∧ zMVp (zRo f_all i_z0) (upd xp c9.toNatClampNeg 0) y_32.toInt ∧ zPwp (zWo f_all i_z0 i_inns) w_.toInt.toNat (upd xp c9.toNatClampNeg 0) y_32.toInt i_crossings.toInt from ⟨by omega, by omega, by omega, (zMP_upd hQ (by decide)), by omega, (by rw [show (6 - (y_32).toInt).toNat = (7 - c9.toInt).toNat by omega]; exact (aSw (W := (zWo f_all i_z0 i_inns)) (by omega) (by omega) (by omega) hl9 hb9.1 hq8).2), (zMVp_u hM9 (by omega) (by omega) (Or.inl rfl)), (zPwp_u hd9 (by omega) (by omega) (aPo_1 ha9.2))⟩) (show (y_32.toInt + 1).toNat < (c9.toInt + 1).toNat from by omega) _ _ ls G (lv_sub hl [0, 1, 2, 3] rfl)
      · have h_27 : (zInn i_inns c9 ∨ (zRd f_all i_z0 c9).toInt ≤ 0) := h_27
        refine lv_if_eq (tgt := 55) hx hb dX12_setsWay_44 (by decide) (fun _ => ?_) (fun q => absurd (by decide) q)
        refine lv_iconst (v := 1) hx hb dX12_setsWay_55 (by decide) ?_
        refine lv_idiv hx hb dX12_setsWay_56 (by decide) ?_
        have hb9 := aWo_0 (f := f_all) (z := i_z0) (n := i_inns) (c := c9) (by first | with_reducible assumption | assumption) (by omega) (by omega)
        have hdv : 0 ≤ (lf / 1).toInt := zDiv0 (by omega) (by decide)
        have hq8 := aCh_m (n := i_inns) hL (c := c9.toInt.toNat) (by omega)
        refine lv_istore_n (lv' := [(2, .int (lf / 1)), (3, .int c9), (0, .ref mo), (1, .int w_)]) hx hb dX12_setsWay_57 rfl hl (by decide) (zLvf_h rfl) (fun ls hl => ?_)
        obtain ⟨y_33, ey_33⟩ : ∃ q : Int32, q = c9 + (-1) := ⟨_, rfl⟩
        have ey_33i : y_33.toInt = c9.toInt - 1 := by rw [ey_33]; exact z_iaddI (x := c9) (y := (-1)) (by show -2147483648 ≤ c9.toInt + (-1 : Int); omega) (by show c9.toInt + (-1 : Int) < 2147483648; omega)
        refine lv_iinc (v := y_33) (lv' := [(3, .int y_33), (2, .int (lf / 1)), (0, .ref mo), (1, .int w_)]) hx hb dX12_setsWay_58 hl (k := 1) rfl ey_33.symm (by decide) (zLvf_h rfl) (fun ls hl => ?_)
        refine lv_goto (tgt := 9) hx hb dX12_setsWay_61 (by decide) ?_
        have G := G.sub (bs' := [[zO11 mo m_all m_has i_size i_next i_where i_token i_number i_word i_wrong i_farCrossing m_read i_z0 i_crossings i_inns m_posts m_shut m_here i_steps i_done i_at i_gone m_was m_came m_seenAt m_rowWorth m_farBy m_used i_everywhere i_again0 i_d0 i_never i_firstCame i_longRun i_moved i_crowd i_l0 i_fitMany i_fitLeast i_fitMost m_fitPost m_fitEnd m_keptPosts i_x0], [zAr T 0 m_all 3952 f_all], [zAr T 0 m_posts 7 (upd xp c9.toNatClampNeg 0)]]) [1, 2, 0] rfl
        exact ih_9 y_33 (lf / 1) (upd xp c9.toNatClampNeg 0) (show -1 ≤ y_33.toInt ∧ y_33.toInt ≤ 6 ∧ 0 ≤ (lf / 1).toInt ∧ zMP (upd xp c9.toNatClampNeg 0) ∧ y_33.toInt < i_crossings.toInt ∧ (lf / 1) = nI (w_.toInt.toNat / aPr (zWo f_all i_z0 i_inns) (6 - y_33.toInt).toNat) ∧ zMVp (zRo f_all i_z0) (upd xp c9.toNatClampNeg 0) y_33.toInt ∧ zPwp (zWo f_all i_z0 i_inns) w_.toInt.toNat (upd xp c9.toNatClampNeg 0) y_33.toInt i_crossings.toInt from ⟨by omega, by omega, by omega, (zMP_upd hQ (by decide)), by omega, (by rw [show (6 - (y_33).toInt).toNat = (7 - c9.toInt).toNat by omega]; exact (aSw (W := (zWo f_all i_z0 i_inns)) (by omega) (by omega) (by omega) hl9 (congrArg nI hb9.2).symm hq8).2), (zMVp_u hM9 (by omega) (by omega) (Or.inl rfl)), (zPwp_u hd9 (by omega) (by omega) (aPo_1 ha9.2))⟩) (show (y_33.toInt + 1).toNat < (c9.toInt + 1).toNat from by omega) _ _ ls G (lv_sub hl [0, 1, 2, 3] rfl)
set_option maxHeartbeats 4000000 in
set_option maxRecDepth 100000 in
/-- c_fm_numberOf -/
theorem c_fm_numberOf (l : Launch) (T : zTy) (mo : Nat) (m_all : Nat) (m_has : Nat) (i_size : Int32) (i_next : Int32) (i_where : Int32) (i_token : Int32) (i_number : Int32) (i_word : Int32) (i_wrong : Int32) (i_farCrossing : Int32) (m_read : Nat) (i_z0 : Int32) (i_crossings : Int32) (i_inns : Int32) (m_posts : Nat) (m_shut : Nat) (m_here : Nat) (i_steps : Int32) (i_done : Int32) (i_at : Int32) (i_gone : Int32) (m_was : Nat) (m_came : Nat) (m_seenAt : Nat) (m_rowWorth : Nat) (m_farBy : Nat) (m_used : Nat) (i_everywhere : Int32) (i_again0 : Int32) (i_d0 : Int32) (i_never : Int32) (i_firstCame : Int32) (i_longRun : Int32) (i_moved : Int32) (i_crowd : Int32) (i_l0 : Int32) (i_fitMany : Int32) (i_fitLeast : Int32) (i_fitMost : Int32) (m_fitPost : Nat) (m_fitEnd : Nat) (m_keptPosts : Nat) (i_x0 : Int32) (f_all : Nat → Int32) (f_posts : Nat → Int32) (w_ : Int32) (hL : zML f_all i_z0 i_crossings) (hP : zMP f_posts) (hw0 : 0 ≤ w_.toInt) (hZ : zVZ f_all i_z0 i_crossings) : zMi l T yX12_numberOf cX12_numberOf 4 (some .int) 4 0 0 [.ref mo, .int w_] [[zO11 mo m_all m_has i_size i_next i_where i_token i_number i_word i_wrong i_farCrossing m_read i_z0 i_crossings i_inns m_posts m_shut m_here i_steps i_done i_at i_gone m_was m_came m_seenAt m_rowWorth m_farBy m_used i_everywhere i_again0 i_d0 i_never i_firstCame i_longRun i_moved i_crowd i_l0 i_fitMany i_fitLeast i_fitMost m_fitPost m_fitEnd m_keptPosts i_x0], [zAr T 0 m_all 3952 f_all], [zAr T 0 m_posts 7 f_posts]] (fun (r : Int32) bs => ∃ (g_posts : Nat → Int32), bs = [[zO11 mo m_all m_has i_size i_next i_where i_token i_number i_word i_wrong i_farCrossing m_read i_z0 i_crossings i_inns m_posts m_shut m_here i_steps i_done i_at i_gone m_was m_came m_seenAt m_rowWorth m_farBy m_used i_everywhere i_again0 i_d0 i_never i_firstCame i_longRun i_moved i_crowd i_l0 i_fitMany i_fitLeast i_fitMost m_fitPost m_fitEnd m_keptPosts i_x0], [zAr T 0 m_all 3952 f_all], [zAr T 0 m_posts 7 g_posts]] ∧ zMP g_posts ∧ r = aNu (zWo f_all i_z0 i_inns) w_.toInt.toNat i_crossings.toInt.toNat) := by
  refine zMi_of (own := RX12) (by decide) rfl (Nat.le_of_ble_eq_true rfl) ?_
  intro p e s m args below meth c A ls C hr hlocks hnm hAe G hl
  refine zHide (fun Qz_ hQz_ => ?_)
  have hx := C.1
  have hb := C.2.1
  have hl : lv_has ls 4 [(0, .ref mo), (1, .int w_)] := hl
  have hz := hL.1
  have hcr := hL.cr
  refine lv_aload_n hx hb dX12_numberOf_0 rfl (lv_at hl 0 rfl) ?_
  refine lv_iload_n hx hb dX12_numberOf_1 rfl (lv_at hl 1 rfl) ?_
  refine z_Vv (bc := [[zO11 mo m_all m_has i_size i_next i_where i_token i_number i_word i_wrong i_farCrossing m_read i_z0 i_crossings i_inns m_posts m_shut m_here i_steps i_done i_at i_gone m_was m_came m_seenAt m_rowWorth m_farBy m_used i_everywhere i_again0 i_d0 i_never i_firstCame i_longRun i_moved i_crowd i_l0 i_fitMany i_fitLeast i_fitMost m_fitPost m_fitEnd m_keptPosts i_x0], [zAr T 0 m_all 3952 f_all], [zAr T 0 m_posts 7 f_posts]]) (br := []) (As := [.int w_]) (rest := []) C G (c_fm_setsWay l T mo m_all m_has i_size i_next i_where i_token i_number i_word i_wrong i_farCrossing m_read i_z0 i_crossings i_inns m_posts m_shut m_here i_steps i_done i_at i_gone m_was m_came m_seenAt m_rowWorth m_farBy m_used i_everywhere i_again0 i_d0 i_never i_firstCame i_longRun i_moved i_crowd i_l0 i_fitMany i_fitLeast i_fitMost m_fitPost m_fitEnd m_keptPosts i_x0 f_all f_posts w_ (by first | with_reducible assumption | with_reducible rfl | omega | assumption | rfl | decide) (by first | with_reducible assumption | with_reducible rfl | omega | assumption | rfl | decide) (by first | with_reducible assumption | with_reducible rfl | omega | assumption | rfl | decide) (by first | with_reducible assumption | with_reducible rfl | omega | assumption | rfl | decide)) (kV_RX12_226 C.2.2.2.2 (Nat.le_of_ble_eq_true rfl) (Nat.le_of_ble_eq_true rfl)) [0, 1, 2] [0, 0, 0] rfl rfl (ci := 11) (qc := (RX12, TX12, 43)) rfl rfl (List.mem_flatten.mpr ⟨_, List.mem_of_getElem? (i := 0) rfl, List.mem_cons_self⟩) rfl rfl hl.1 dX12_numberOf_2 (Nat.le_of_ble_eq_true rfl) (Nat.le_of_ble_eq_true rfl) (fun b1 H locs hw G => ?_)
  refine zEx1 hw ?_
  intro g_posts_1
  refine zCu4 ?_
  intro hbs9 h_2 h_3 h_4
  clear hw
  subst hbs9
  have G : zS T A s.heap s [[zO11 mo m_all m_has i_size i_next i_where i_token i_number i_word i_wrong i_farCrossing m_read i_z0 i_crossings i_inns m_posts m_shut m_here i_steps i_done i_at i_gone m_was m_came m_seenAt m_rowWorth m_farBy m_used i_everywhere i_again0 i_d0 i_never i_firstCame i_longRun i_moved i_crowd i_l0 i_fitMany i_fitLeast i_fitMost m_fitPost m_fitEnd m_keptPosts i_x0], [zAr T 0 m_all 3952 f_all], [zAr T 0 m_posts 7 g_posts_1]] _ _ := G
  refine lv_iconst (v := 1) hx hb dX12_numberOf_5 (by decide) ?_
  refine lv_istore_n (lv' := [(2, .int 1), (0, .ref mo), (1, .int w_)]) hx hb dX12_numberOf_6 rfl hl (by decide) (zLvf_h rfl) (fun ls hl => ?_)
  refine lv_iconst (v := 0) hx hb dX12_numberOf_7 (by decide) ?_
  refine lv_istore_n (lv' := [(3, .int 0), (2, .int 1), (0, .ref mo), (1, .int w_)]) hx hb dX12_numberOf_8 rfl hl (by decide) (zLvf_h rfl) (fun ls hl => ?_)
  refine z_lp2 (T := T) 9 (fun (i : Nat) (u : Int32) => [[zO11 mo m_all m_has i_size i_next i_where i_token i_number i_word i_wrong i_farCrossing m_read i_z0 i_crossings i_inns m_posts m_shut m_here i_steps i_done i_at i_gone m_was m_came m_seenAt m_rowWorth m_farBy m_used i_everywhere i_again0 i_d0 i_never i_firstCame i_longRun i_moved i_crowd i_l0 i_fitMany i_fitLeast i_fitMost m_fitPost m_fitEnd m_keptPosts i_x0], [zAr T 0 m_all 3952 f_all], [zAr T 0 m_posts 7 g_posts_1]]) (fun (i : Nat) (u : Int32) => [(3, .int (nI i)), (2, .int u), (0, .ref mo), (1, .int w_)]) (fun (i : Nat) (u : Int32) => i ≤ 7 ∧ (i : Int) ≤ i_crossings.toInt ∧ u = aNu (zWo f_all i_z0 i_inns) w_.toInt.toNat i) (fun (i : Nat) (u : Int32) => 7 - i) ?_ 0 1 (show 0 ≤ 7 ∧ (0 : Int) ≤ i_crossings.toInt ∧ 1 = aNu (zWo f_all i_z0 i_inns) w_.toInt.toNat 0 from ⟨by omega, by omega, rfl⟩) G (lv_sub hl [0, 1, 2, 3] rfl)
  intro i u hI9 ih_9 H locs ls G hl
  replace hI9 : i ≤ 7 ∧ (i : Int) ≤ i_crossings.toInt ∧ u = aNu (zWo f_all i_z0 i_inns) w_.toInt.toNat i := hI9
  refine zAn3 hI9 ?_
  intro hi hic hu
  clear hI9
  replace G : zS T A s.heap s [[zO11 mo m_all m_has i_size i_next i_where i_token i_number i_word i_wrong i_farCrossing m_read i_z0 i_crossings i_inns m_posts m_shut m_here i_steps i_done i_at i_gone m_was m_came m_seenAt m_rowWorth m_farBy m_used i_everywhere i_again0 i_d0 i_never i_firstCame i_longRun i_moved i_crowd i_l0 i_fitMany i_fitLeast i_fitMost m_fitPost m_fitEnd m_keptPosts i_x0], [zAr T 0 m_all 3952 f_all], [zAr T 0 m_posts 7 g_posts_1]] _ _ := G
  replace hl : lv_has ls 4 [(3, .int (nI i)), (2, .int u), (0, .ref mo), (1, .int w_)] := hl
  refine lv_iload_n hx hb dX12_numberOf_9 rfl (lv_at hl 0 rfl) ?_
  refine lv_aload_n hx hb dX12_numberOf_10 rfl (lv_at hl 2 rfl) ?_
  refine z_get C G clX12 0 rfl 12 (by decide) m_fl_RX12_169 rfl dX12_numberOf_11 ?_
  refine lv_icmp_ge (tgt := 35) hx hb dX12_numberOf_14 (by decide) (fun c_6 => ?_) (fun c_6 => ?_)
  · have c_6n : i_crossings.toInt ≤ (i : Int) := by have q := (fa_le _ _).mp c_6; rw [nI_toInt (n := i) (by omega)] at q; exact q
    refine lv_iload_n hx hb dX12_numberOf_35 rfl (lv_at hl 1 rfl) ?_
    exact z_back hQz_ (z_iret C hr hlocks G (Nat.le_of_ble_eq_true rfl) (Nat.le_of_ble_eq_true rfl) dX12_numberOf_36 ⟨g_posts_1, rfl, h_2, (by rw [hu]; exact congrArg (aNu (zWo f_all i_z0 i_inns) w_.toInt.toNat) (by omega))⟩)
  · have c_6n : ¬ i_crossings.toInt ≤ (i : Int) := fun q => c_6 ((fa_le _ _).mpr (by rw [nI_toInt (n := i) (by omega)]; exact q))
    refine lv_bipush (v := 10) hx hb dX12_numberOf_17 (by decide) ?_
    refine lv_iload_n hx hb dX12_numberOf_19 rfl (lv_at hl 1 rfl) ?_
    refine lv_imul hx hb dX12_numberOf_20 ?_
    refine lv_aload_n hx hb dX12_numberOf_21 rfl (lv_at hl 2 rfl) ?_
    refine z_get C G clX12 0 rfl 14 (by decide) m_fl_RX12_20 rfl dX12_numberOf_22 ?_
    refine lv_iload_n hx hb dX12_numberOf_25 rfl (lv_at hl 0 rfl) ?_
    refine z_ild C G 2 rfl (vp_in_nI (by omega) (by decide)) dX12_numberOf_26 ?_
    refine lv_topi (fun v_7 ev_7 => ?_)
    rw [nI_clamp (by omega)] at ev_7
    subst ev_7
    refine lv_iadd hx hb dX12_numberOf_27 ?_
    refine lv_istore_n (lv' := [(2, .int ((10 * u) + (g_posts_1 i))), (3, .int (nI i)), (0, .ref mo), (1, .int w_)]) hx hb dX12_numberOf_28 rfl hl (by decide) (zLvf_h rfl) (fun ls hl => ?_)
    refine lv_iinc (v := nI (i + 1)) (lv' := [(3, .int (nI (i + 1))), (2, .int ((10 * u) + (g_posts_1 i))), (0, .ref mo), (1, .int w_)]) hx hb dX12_numberOf_29 hl (k := 1) rfl (z_inc i 1) (by decide) (zLvf_h rfl) (fun ls hl => ?_)
    refine lv_goto (tgt := 9) hx hb dX12_numberOf_32 (by decide) ?_
    exact ih_9 (i + 1) ((10 * u) + (g_posts_1 i)) (show (i + 1) ≤ 7 ∧ ((i + 1) : Int) ≤ i_crossings.toInt ∧ ((10 * u) + (g_posts_1 i)) = aNu (zWo f_all i_z0 i_inns) w_.toInt.toNat (i + 1) from ⟨by omega, by omega, (aNu_m hu (h_4 i (by omega) (by omega)))⟩) (show 7 - (i + 1) < 7 - i from by omega) _ _ ls G (lv_sub hl [0, 1, 2, 3] rfl)
set_option maxHeartbeats 4000000 in
set_option maxRecDepth 100000 in
/-- c_fm_unlikeTold -/
theorem c_fm_unlikeTold (l : Launch) (T : zTy) (mo : Nat) (m_all : Nat) (m_has : Nat) (i_size : Int32) (i_next : Int32) (i_where : Int32) (i_token : Int32) (i_number : Int32) (i_word : Int32) (i_wrong : Int32) (i_farCrossing : Int32) (m_read : Nat) (i_z0 : Int32) (i_crossings : Int32) (i_inns : Int32) (m_posts : Nat) (m_shut : Nat) (m_here : Nat) (i_steps : Int32) (i_done : Int32) (i_at : Int32) (i_gone : Int32) (m_was : Nat) (m_came : Nat) (m_seenAt : Nat) (m_rowWorth : Nat) (m_farBy : Nat) (m_used : Nat) (i_everywhere : Int32) (i_again0 : Int32) (i_d0 : Int32) (i_never : Int32) (i_firstCame : Int32) (i_longRun : Int32) (i_moved : Int32) (i_crowd : Int32) (i_l0 : Int32) (i_fitMany : Int32) (i_fitLeast : Int32) (i_fitMost : Int32) (m_fitPost : Nat) (m_fitEnd : Nat) (m_keptPosts : Nat) (i_x0 : Int32) (f_all : Nat → Int32) (f_posts : Nat → Int32) (u_ : Nat) (v_ : Nat) (hL : zML f_all i_z0 i_crossings) (hP : zMP f_posts) (hd : (∀ k : Nat, k < 7 → (k : Int) < i_crossings.toInt → f_posts k = aPo (zWo f_all i_z0 i_inns) u_ k)) (ht : (∀ j, j < 7 → 0 < ((zWo f_all i_z0 i_inns) j).toInt → zPt f_all i_z0 (nI j) = aPo (zWo f_all i_z0 i_inns) v_ j)) : zMi l T yX12_unlikeTold cX12_unlikeTold 3 (some .int) 3 0 0 [.ref mo] [[zO11 mo m_all m_has i_size i_next i_where i_token i_number i_word i_wrong i_farCrossing m_read i_z0 i_crossings i_inns m_posts m_shut m_here i_steps i_done i_at i_gone m_was m_came m_seenAt m_rowWorth m_farBy m_used i_everywhere i_again0 i_d0 i_never i_firstCame i_longRun i_moved i_crowd i_l0 i_fitMany i_fitLeast i_fitMost m_fitPost m_fitEnd m_keptPosts i_x0], [zAr T 0 m_all 3952 f_all], [zAr T 0 m_posts 7 f_posts]] (fun (r : Int32) bs => bs = [[zO11 mo m_all m_has i_size i_next i_where i_token i_number i_word i_wrong i_farCrossing m_read i_z0 i_crossings i_inns m_posts m_shut m_here i_steps i_done i_at i_gone m_was m_came m_seenAt m_rowWorth m_farBy m_used i_everywhere i_again0 i_d0 i_never i_firstCame i_longRun i_moved i_crowd i_l0 i_fitMany i_fitLeast i_fitMost m_fitPost m_fitEnd m_keptPosts i_x0], [zAr T 0 m_all 3952 f_all], [zAr T 0 m_posts 7 f_posts]] ∧ r = aUn (zWo f_all i_z0 i_inns) u_ v_ i_crossings.toInt.toNat) := by
  refine zMi_of (own := RX12) (by decide) rfl (Nat.le_of_ble_eq_true rfl) ?_
  intro p e s m args below meth c A ls C hr hlocks hnm hAe G hl
  refine zHide (fun Qz_ hQz_ => ?_)
  have hx := C.1
  have hb := C.2.1
  have hl : lv_has ls 3 [(0, .ref mo)] := hl
  have hz := hL.1
  have hcr := hL.cr
  refine lv_iconst (v := 0) hx hb dX12_unlikeTold_0 (by decide) ?_
  refine lv_istore_n (lv' := [(1, .int 0), (0, .ref mo)]) hx hb dX12_unlikeTold_1 rfl hl (by decide) (zLvf_h rfl) (fun ls hl => ?_)
  refine lv_iconst (v := 0) hx hb dX12_unlikeTold_2 (by decide) ?_
  refine lv_istore_n (lv' := [(2, .int 0), (1, .int 0), (0, .ref mo)]) hx hb dX12_unlikeTold_3 rfl hl (by decide) (zLvf_h rfl) (fun ls hl => ?_)
  refine z_lp2 (T := T) 4 (fun (i : Nat) (u : Int32) => [[zO11 mo m_all m_has i_size i_next i_where i_token i_number i_word i_wrong i_farCrossing m_read i_z0 i_crossings i_inns m_posts m_shut m_here i_steps i_done i_at i_gone m_was m_came m_seenAt m_rowWorth m_farBy m_used i_everywhere i_again0 i_d0 i_never i_firstCame i_longRun i_moved i_crowd i_l0 i_fitMany i_fitLeast i_fitMost m_fitPost m_fitEnd m_keptPosts i_x0], [zAr T 0 m_all 3952 f_all], [zAr T 0 m_posts 7 f_posts]]) (fun (i : Nat) (u : Int32) => [(2, .int (nI i)), (1, .int u), (0, .ref mo)]) (fun (i : Nat) (u : Int32) => i ≤ 7 ∧ (i : Int) ≤ i_crossings.toInt ∧ u = aUn (zWo f_all i_z0 i_inns) u_ v_ i) (fun (i : Nat) (u : Int32) => 7 - i) ?_ 0 0 (show 0 ≤ 7 ∧ (0 : Int) ≤ i_crossings.toInt ∧ 0 = aUn (zWo f_all i_z0 i_inns) u_ v_ 0 from ⟨by omega, by omega, rfl⟩) G (lv_sub hl [0, 1, 2] rfl)
  intro i u hI9 ih_4 H locs ls G hl
  replace hI9 : i ≤ 7 ∧ (i : Int) ≤ i_crossings.toInt ∧ u = aUn (zWo f_all i_z0 i_inns) u_ v_ i := hI9
  refine zAn3 hI9 ?_
  intro hi hic hu
  clear hI9
  replace G : zS T A s.heap s [[zO11 mo m_all m_has i_size i_next i_where i_token i_number i_word i_wrong i_farCrossing m_read i_z0 i_crossings i_inns m_posts m_shut m_here i_steps i_done i_at i_gone m_was m_came m_seenAt m_rowWorth m_farBy m_used i_everywhere i_again0 i_d0 i_never i_firstCame i_longRun i_moved i_crowd i_l0 i_fitMany i_fitLeast i_fitMost m_fitPost m_fitEnd m_keptPosts i_x0], [zAr T 0 m_all 3952 f_all], [zAr T 0 m_posts 7 f_posts]] _ _ := G
  replace hl : lv_has ls 3 [(2, .int (nI i)), (1, .int u), (0, .ref mo)] := hl
  refine lv_iload_n hx hb dX12_unlikeTold_4 rfl (lv_at hl 0 rfl) ?_
  refine lv_aload_n hx hb dX12_unlikeTold_5 rfl (lv_at hl 2 rfl) ?_
  refine z_get C G clX12 0 rfl 12 (by decide) m_fl_RX12_169 rfl dX12_unlikeTold_6 ?_
  refine lv_icmp_ge (tgt := 50) hx hb dX12_unlikeTold_9 (by decide) (fun c_1 => ?_) (fun c_1 => ?_)
  · have c_1n : i_crossings.toInt ≤ (i : Int) := by have q := (fa_le _ _).mp c_1; rw [nI_toInt (n := i) (by omega)] at q; exact q
    refine lv_iload_n hx hb dX12_unlikeTold_50 rfl (lv_at hl 1 rfl) ?_
    exact z_back hQz_ (z_iret C hr hlocks G (Nat.le_of_ble_eq_true rfl) (Nat.le_of_ble_eq_true rfl) dX12_unlikeTold_51 ⟨rfl, (by rw [hu]; exact congrArg (aUn (zWo f_all i_z0 i_inns) u_ v_) (by omega))⟩)
  · have c_1n : ¬ i_crossings.toInt ≤ (i : Int) := fun q => c_1 ((fa_le _ _).mpr (by rw [nI_toInt (n := i) (by omega)]; exact q))
    refine lv_iload_n hx hb dX12_unlikeTold_12 rfl (lv_at hl 1 rfl) ?_
    refine lv_aload_n hx hb dX12_unlikeTold_13 rfl (lv_at hl 2 rfl) ?_
    refine lv_iload_n hx hb dX12_unlikeTold_14 rfl (lv_at hl 0 rfl) ?_
    have ti_2 : (nI i).toInt = ((i : Nat) : Int) := nI_toInt (by omega)
    refine z_Vi (bc := [[zO11 mo m_all m_has i_size i_next i_where i_token i_number i_word i_wrong i_farCrossing m_read i_z0 i_crossings i_inns m_posts m_shut m_here i_steps i_done i_at i_gone m_was m_came m_seenAt m_rowWorth m_farBy m_used i_everywhere i_again0 i_d0 i_never i_firstCame i_longRun i_moved i_crowd i_l0 i_fitMany i_fitLeast i_fitMost m_fitPost m_fitEnd m_keptPosts i_x0], [zAr T 0 m_all 3952 f_all]]) (br := [[zAr T 0 m_posts 7 f_posts]]) (As := [.int (nI i)]) (rest := [.int u]) C G (c_m_isFree l T mo m_all m_has i_size i_next i_where i_token i_number i_word i_wrong i_farCrossing m_read i_z0 i_crossings i_inns m_posts m_shut m_here i_steps i_done i_at i_gone m_was m_came m_seenAt m_rowWorth m_farBy m_used i_everywhere i_again0 i_d0 i_never i_firstCame i_longRun i_moved i_crowd i_l0 i_fitMany i_fitLeast i_fitMost m_fitPost m_fitEnd m_keptPosts i_x0 f_all (nI i) (by first | with_reducible assumption | with_reducible rfl | omega | assumption | rfl | decide) (by first | with_reducible assumption | with_reducible rfl | omega | assumption | rfl | decide) (by first | with_reducible assumption | with_reducible rfl | omega | assumption | rfl | decide)) (kV_RX12_223 C.2.2.2.2 (Nat.le_of_ble_eq_true rfl) (Nat.le_of_ble_eq_true rfl)) [0, 1] [0, 0] rfl rfl (ci := 11) (qc := (RX12, TX12, 43)) rfl rfl (List.mem_flatten.mpr ⟨_, List.mem_of_getElem? (i := 0) rfl, List.mem_cons_self⟩) rfl rfl hl.1 dX12_unlikeTold_15 (Nat.le_of_ble_eq_true rfl) (Nat.le_of_ble_eq_true rfl) (fun r_4 b1 H locs hw G => ?_)
    refine zAn2 hw ?_
    intro hbs9 hc_3
    clear hw
    subst hbs9
    have G : zS T A s.heap s [[zAr T 0 m_posts 7 f_posts], [zO11 mo m_all m_has i_size i_next i_where i_token i_number i_word i_wrong i_farCrossing m_read i_z0 i_crossings i_inns m_posts m_shut m_here i_steps i_done i_at i_gone m_was m_came m_seenAt m_rowWorth m_farBy m_used i_everywhere i_again0 i_d0 i_never i_firstCame i_longRun i_moved i_crowd i_l0 i_fitMany i_fitLeast i_fitMost m_fitPost m_fitEnd m_keptPosts i_x0], [zAr T 0 m_all 3952 f_all]] _ _ := G
    rcases hc_3 with ⟨rfl, h_5, h_6⟩ | ⟨rfl, h_7⟩
    · have h_5 : ¬ zInn i_inns (nI i) := h_5
      have h_6 : 0 < (zRd f_all i_z0 (nI i)).toInt := h_6
      refine lv_if_eq (tgt := 41) hx hb dX12_unlikeTold_18 (by decide) (fun q => absurd q (by decide)) (fun _ => ?_)
      refine lv_aload_n hx hb dX12_unlikeTold_21 rfl (lv_at hl 2 rfl) ?_
      refine z_get C G clX12 1 rfl 14 (by decide) m_fl_RX12_20 rfl dX12_unlikeTold_22 ?_
      refine lv_iload_n hx hb dX12_unlikeTold_25 rfl (lv_at hl 0 rfl) ?_
      refine z_ild C G 0 rfl (vp_in_nI (by omega) (by decide)) dX12_unlikeTold_26 ?_
      refine lv_topi (fun v_8 ev_8 => ?_)
      rw [nI_clamp (by omega)] at ev_8
      subst ev_8
      refine lv_aload_n hx hb dX12_unlikeTold_27 rfl (lv_at hl 2 rfl) ?_
      refine lv_iload_n hx hb dX12_unlikeTold_28 rfl (lv_at hl 0 rfl) ?_
      have ti_9 : (nI i).toInt = ((i : Nat) : Int) := nI_toInt (by omega)
      refine z_Vi (bc := [[zO11 mo m_all m_has i_size i_next i_where i_token i_number i_word i_wrong i_farCrossing m_read i_z0 i_crossings i_inns m_posts m_shut m_here i_steps i_done i_at i_gone m_was m_came m_seenAt m_rowWorth m_farBy m_used i_everywhere i_again0 i_d0 i_never i_firstCame i_longRun i_moved i_crowd i_l0 i_fitMany i_fitLeast i_fitMost m_fitPost m_fitEnd m_keptPosts i_x0], [zAr T 0 m_all 3952 f_all]]) (br := [[zAr T 0 m_posts 7 f_posts]]) (As := [.int (nI i)]) (rest := [.int (f_posts i), .int u]) C G (c_m_postTold l T mo m_all m_has i_size i_next i_where i_token i_number i_word i_wrong i_farCrossing m_read i_z0 i_crossings i_inns m_posts m_shut m_here i_steps i_done i_at i_gone m_was m_came m_seenAt m_rowWorth m_farBy m_used i_everywhere i_again0 i_d0 i_never i_firstCame i_longRun i_moved i_crowd i_l0 i_fitMany i_fitLeast i_fitMost m_fitPost m_fitEnd m_keptPosts i_x0 f_all (nI i) (by first | with_reducible assumption | with_reducible rfl | omega | assumption | rfl | decide) (by first | with_reducible assumption | with_reducible rfl | omega | assumption | rfl | decide) (by first | with_reducible assumption | with_reducible rfl | omega | assumption | rfl | decide)) (kV_RX12_193 C.2.2.2.2 (Nat.le_of_ble_eq_true rfl) (Nat.le_of_ble_eq_true rfl)) [1, 2] [1, 0] rfl rfl (ci := 11) (qc := (RX12, TX12, 43)) rfl rfl (List.mem_flatten.mpr ⟨_, List.mem_of_getElem? (i := 0) rfl, List.mem_cons_self⟩) rfl rfl hl.1 dX12_unlikeTold_29 (Nat.le_of_ble_eq_true rfl) (Nat.le_of_ble_eq_true rfl) (fun r_13 b1 H locs hw G => ?_)
      refine zAn4 hw ?_
      intro hbs9 h_10 h_11 h_12
      clear hw
      subst hbs9
      have G : zS T A s.heap s [[zAr T 0 m_posts 7 f_posts], [zO11 mo m_all m_has i_size i_next i_where i_token i_number i_word i_wrong i_farCrossing m_read i_z0 i_crossings i_inns m_posts m_shut m_here i_steps i_done i_at i_gone m_was m_came m_seenAt m_rowWorth m_farBy m_used i_everywhere i_again0 i_d0 i_never i_firstCame i_longRun i_moved i_crowd i_l0 i_fitMany i_fitLeast i_fitMost m_fitPost m_fitEnd m_keptPosts i_x0], [zAr T 0 m_all 3952 f_all]] _ _ := G
      subst h_10
      refine lv_icmp_eq (tgt := 41) hx hb dX12_unlikeTold_32 (by decide) (fun c_14 => ?_) (fun c_14 => ?_)
      · have c_14n : (f_posts i).toInt = (zPt f_all i_z0 (nI i)).toInt := (fa_eq _ _).mp c_14
        refine lv_iconst (v := 0) hx hb dX12_unlikeTold_41 (by decide) ?_
        have tn9 := nI_n (n := i) (by omega)
        have ti9 := nI_toInt (n := i) (by omega)
        have hq9 := aCh_m (n := i_inns) hL (c := i) (by omega)
        refine lv_topi (fun y_15 ey_15 => ?_)
        obtain rfl : y_15 = (if aRd (zWo f_all i_z0 i_inns) u_ i = aRd (zWo f_all i_z0 i_inns) v_ i then (0 : Int32) else (1 : Int32) <<< (nI i &&& 31)) := ey_15.trans ((by first | (have ha9 := aWo_0 (f := f_all) (z := i_z0) (n := i_inns) (c := nI i) (by first | with_reducible assumption | assumption) (by omega) (by omega); rw [tn9] at ha9; have q8 : (0 : Int32) = aPo (zWo f_all i_z0 i_inns) u_ i := aPo_1 ha9.2; have q7 : (0 : Int32) = aPo (zWo f_all i_z0 i_inns) v_ i := aPo_1 ha9.2; exact (if_pos ((aPo_q hq9 q8 q7).mp rfl)).symm) | (have ha9 := aWo_1 (f := f_all) (z := i_z0) (n := i_inns) (c := nI i) (by first | with_reducible assumption | assumption) (by first | with_reducible assumption | assumption) (by omega) (by omega); rw [tn9] at ha9; exact (if_pos ((aPo_q hq9 (hd i (by omega) (by omega)) (ht i (by omega) ha9.2)).mp (by first | with_reducible assumption | assumption))).symm)))
        refine lv_ior hx hb dX12_unlikeTold_42 ?_
        refine lv_istore_n (lv' := [(1, .int (u ||| (if aRd (zWo f_all i_z0 i_inns) u_ i = aRd (zWo f_all i_z0 i_inns) v_ i then (0 : Int32) else (1 : Int32) <<< (nI i &&& 31)))), (2, .int (nI i)), (0, .ref mo)]) hx hb dX12_unlikeTold_43 rfl hl (by decide) (zLvf_h rfl) (fun ls hl => ?_)
        refine lv_iinc (v := nI (i + 1)) (lv' := [(2, .int (nI (i + 1))), (1, .int (u ||| (if aRd (zWo f_all i_z0 i_inns) u_ i = aRd (zWo f_all i_z0 i_inns) v_ i then (0 : Int32) else (1 : Int32) <<< (nI i &&& 31)))), (0, .ref mo)]) hx hb dX12_unlikeTold_44 hl (k := 1) rfl (z_inc i 1) (by decide) (zLvf_h rfl) (fun ls hl => ?_)
        refine lv_goto (tgt := 4) hx hb dX12_unlikeTold_47 (by decide) ?_
        have G := G.sub (bs' := [[zO11 mo m_all m_has i_size i_next i_where i_token i_number i_word i_wrong i_farCrossing m_read i_z0 i_crossings i_inns m_posts m_shut m_here i_steps i_done i_at i_gone m_was m_came m_seenAt m_rowWorth m_farBy m_used i_everywhere i_again0 i_d0 i_never i_firstCame i_longRun i_moved i_crowd i_l0 i_fitMany i_fitLeast i_fitMost m_fitPost m_fitEnd m_keptPosts i_x0], [zAr T 0 m_all 3952 f_all], [zAr T 0 m_posts 7 f_posts]]) [1, 2, 0] rfl
        exact ih_4 (i + 1) (u ||| (if aRd (zWo f_all i_z0 i_inns) u_ i = aRd (zWo f_all i_z0 i_inns) v_ i then (0 : Int32) else (1 : Int32) <<< (nI i &&& 31))) (show (i + 1) ≤ 7 ∧ ((i + 1) : Int) ≤ i_crossings.toInt ∧ (u ||| (if aRd (zWo f_all i_z0 i_inns) u_ i = aRd (zWo f_all i_z0 i_inns) v_ i then (0 : Int32) else (1 : Int32) <<< (nI i &&& 31))) = aUn (zWo f_all i_z0 i_inns) u_ v_ (i + 1) from ⟨by omega, by omega, (by rw [hu]; rfl)⟩) (show 7 - (i + 1) < 7 - i from by omega) _ _ ls G (lv_sub hl [0, 1, 2] rfl)
      · have c_14n : ¬ (f_posts i).toInt = (zPt f_all i_z0 (nI i)).toInt := fun q => c_14 ((fa_eq _ _).mpr q)
        refine lv_iconst (v := 1) hx hb dX12_unlikeTold_35 (by decide) ?_
        refine lv_iload_n hx hb dX12_unlikeTold_36 rfl (lv_at hl 0 rfl) ?_
        refine lv_ishl hx hb dX12_unlikeTold_37 ?_
        refine lv_goto (tgt := 42) hx hb dX12_unlikeTold_38 (by decide) ?_
        have tn9 := nI_n (n := i) (by omega)
        have ti9 := nI_toInt (n := i) (by omega)
        have hq9 := aCh_m (n := i_inns) hL (c := i) (by omega)
        refine lv_topi (fun y_16 ey_16 => ?_)
        obtain rfl : y_16 = (if aRd (zWo f_all i_z0 i_inns) u_ i = aRd (zWo f_all i_z0 i_inns) v_ i then (0 : Int32) else (1 : Int32) <<< (nI i &&& 31)) := ey_16.trans ((by have ha9 := aWo_1 (f := f_all) (z := i_z0) (n := i_inns) (c := nI i) (by first | with_reducible assumption | assumption) (by first | with_reducible assumption | assumption) (by omega) (by omega); rw [tn9] at ha9; exact (if_neg (fun q8 => absurd ((aPo_q hq9 (hd i (by omega) (by omega)) (ht i (by omega) ha9.2)).mpr q8) (by first | with_reducible assumption | assumption))).symm))
        refine lv_ior hx hb dX12_unlikeTold_42 ?_
        refine lv_istore_n (lv' := [(1, .int (u ||| (if aRd (zWo f_all i_z0 i_inns) u_ i = aRd (zWo f_all i_z0 i_inns) v_ i then (0 : Int32) else (1 : Int32) <<< (nI i &&& 31)))), (2, .int (nI i)), (0, .ref mo)]) hx hb dX12_unlikeTold_43 rfl hl (by decide) (zLvf_h rfl) (fun ls hl => ?_)
        refine lv_iinc (v := nI (i + 1)) (lv' := [(2, .int (nI (i + 1))), (1, .int (u ||| (if aRd (zWo f_all i_z0 i_inns) u_ i = aRd (zWo f_all i_z0 i_inns) v_ i then (0 : Int32) else (1 : Int32) <<< (nI i &&& 31)))), (0, .ref mo)]) hx hb dX12_unlikeTold_44 hl (k := 1) rfl (z_inc i 1) (by decide) (zLvf_h rfl) (fun ls hl => ?_)
        refine lv_goto (tgt := 4) hx hb dX12_unlikeTold_47 (by decide) ?_
        have G := G.sub (bs' := [[zO11 mo m_all m_has i_size i_next i_where i_token i_number i_word i_wrong i_farCrossing m_read i_z0 i_crossings i_inns m_posts m_shut m_here i_steps i_done i_at i_gone m_was m_came m_seenAt m_rowWorth m_farBy m_used i_everywhere i_again0 i_d0 i_never i_firstCame i_longRun i_moved i_crowd i_l0 i_fitMany i_fitLeast i_fitMost m_fitPost m_fitEnd m_keptPosts i_x0], [zAr T 0 m_all 3952 f_all], [zAr T 0 m_posts 7 f_posts]]) [1, 2, 0] rfl
        exact ih_4 (i + 1) (u ||| (if aRd (zWo f_all i_z0 i_inns) u_ i = aRd (zWo f_all i_z0 i_inns) v_ i then (0 : Int32) else (1 : Int32) <<< (nI i &&& 31))) (show (i + 1) ≤ 7 ∧ ((i + 1) : Int) ≤ i_crossings.toInt ∧ (u ||| (if aRd (zWo f_all i_z0 i_inns) u_ i = aRd (zWo f_all i_z0 i_inns) v_ i then (0 : Int32) else (1 : Int32) <<< (nI i &&& 31))) = aUn (zWo f_all i_z0 i_inns) u_ v_ (i + 1) from ⟨by omega, by omega, (by rw [hu]; rfl)⟩) (show 7 - (i + 1) < 7 - i from by omega) _ _ ls G (lv_sub hl [0, 1, 2] rfl)
    · have h_7 : (zInn i_inns (nI i) ∨ (zRd f_all i_z0 (nI i)).toInt ≤ 0) := h_7
      refine lv_if_eq (tgt := 41) hx hb dX12_unlikeTold_18 (by decide) (fun _ => ?_) (fun q => absurd (by decide) q)
      refine lv_iconst (v := 0) hx hb dX12_unlikeTold_41 (by decide) ?_
      have tn9 := nI_n (n := i) (by omega)
      have ti9 := nI_toInt (n := i) (by omega)
      have hq9 := aCh_m (n := i_inns) hL (c := i) (by omega)
      refine lv_topi (fun y_17 ey_17 => ?_)
      obtain rfl : y_17 = (if aRd (zWo f_all i_z0 i_inns) u_ i = aRd (zWo f_all i_z0 i_inns) v_ i then (0 : Int32) else (1 : Int32) <<< (nI i &&& 31)) := ey_17.trans ((by first | (have ha9 := aWo_0 (f := f_all) (z := i_z0) (n := i_inns) (c := nI i) (by first | with_reducible assumption | assumption) (by omega) (by omega); rw [tn9] at ha9; have q8 : (0 : Int32) = aPo (zWo f_all i_z0 i_inns) u_ i := aPo_1 ha9.2; have q7 : (0 : Int32) = aPo (zWo f_all i_z0 i_inns) v_ i := aPo_1 ha9.2; exact (if_pos ((aPo_q hq9 q8 q7).mp rfl)).symm) | (have ha9 := aWo_1 (f := f_all) (z := i_z0) (n := i_inns) (c := nI i) (by first | with_reducible assumption | assumption) (by first | with_reducible assumption | assumption) (by omega) (by omega); rw [tn9] at ha9; exact (if_pos ((aPo_q hq9 (hd i (by omega) (by omega)) (ht i (by omega) ha9.2)).mp (by first | with_reducible assumption | assumption))).symm)))
      refine lv_ior hx hb dX12_unlikeTold_42 ?_
      refine lv_istore_n (lv' := [(1, .int (u ||| (if aRd (zWo f_all i_z0 i_inns) u_ i = aRd (zWo f_all i_z0 i_inns) v_ i then (0 : Int32) else (1 : Int32) <<< (nI i &&& 31)))), (2, .int (nI i)), (0, .ref mo)]) hx hb dX12_unlikeTold_43 rfl hl (by decide) (zLvf_h rfl) (fun ls hl => ?_)
      refine lv_iinc (v := nI (i + 1)) (lv' := [(2, .int (nI (i + 1))), (1, .int (u ||| (if aRd (zWo f_all i_z0 i_inns) u_ i = aRd (zWo f_all i_z0 i_inns) v_ i then (0 : Int32) else (1 : Int32) <<< (nI i &&& 31)))), (0, .ref mo)]) hx hb dX12_unlikeTold_44 hl (k := 1) rfl (z_inc i 1) (by decide) (zLvf_h rfl) (fun ls hl => ?_)
      refine lv_goto (tgt := 4) hx hb dX12_unlikeTold_47 (by decide) ?_
      have G := G.sub (bs' := [[zO11 mo m_all m_has i_size i_next i_where i_token i_number i_word i_wrong i_farCrossing m_read i_z0 i_crossings i_inns m_posts m_shut m_here i_steps i_done i_at i_gone m_was m_came m_seenAt m_rowWorth m_farBy m_used i_everywhere i_again0 i_d0 i_never i_firstCame i_longRun i_moved i_crowd i_l0 i_fitMany i_fitLeast i_fitMost m_fitPost m_fitEnd m_keptPosts i_x0], [zAr T 0 m_all 3952 f_all], [zAr T 0 m_posts 7 f_posts]]) [1, 2, 0] rfl
      exact ih_4 (i + 1) (u ||| (if aRd (zWo f_all i_z0 i_inns) u_ i = aRd (zWo f_all i_z0 i_inns) v_ i then (0 : Int32) else (1 : Int32) <<< (nI i &&& 31))) (show (i + 1) ≤ 7 ∧ ((i + 1) : Int) ≤ i_crossings.toInt ∧ (u ||| (if aRd (zWo f_all i_z0 i_inns) u_ i = aRd (zWo f_all i_z0 i_inns) v_ i then (0 : Int32) else (1 : Int32) <<< (nI i &&& 31))) = aUn (zWo f_all i_z0 i_inns) u_ v_ (i + 1) from ⟨by omega, by omega, (by rw [hu]; rfl)⟩) (show 7 - (i + 1) < 7 - i from by omega) _ _ ls G (lv_sub hl [0, 1, 2] rfl)
def zBs (s : Int32) : Nat → Int32
  | 0 => 0
  | n + 1 => zBs s n + ((s >>> (nI n &&& 31)) &&& 1)
set_option maxHeartbeats 4000000 in
set_option maxRecDepth 100000 in
/-- c_fm_bitsOf -/
theorem c_fm_bitsOf (l : Launch) (T : zTy) (s_ : Int32) : zMi l T yX12_bitsOf cX12_bitsOf 3 (some .int) 1 0 0 [.int s_] [] (fun (r : Int32) bs => bs = [] ∧ r = zBs s_ 12) := by
  refine zMi_of (own := RX12) (by decide) rfl (Nat.le_of_ble_eq_true rfl) ?_
  intro p e s m args below meth c A ls C hr hlocks hnm hAe G hl
  refine zHide (fun Qz_ hQz_ => ?_)
  have hx := C.1
  have hb := C.2.1
  have hl : lv_has ls 3 [(0, .int s_)] := hl
  refine lv_iconst (v := 0) hx hb dX12_bitsOf_0 (by decide) ?_
  refine lv_istore_n (lv' := [(1, .int 0), (0, .int s_)]) hx hb dX12_bitsOf_1 rfl hl (by decide) (zLvf_h rfl) (fun ls hl => ?_)
  refine lv_iconst (v := 0) hx hb dX12_bitsOf_2 (by decide) ?_
  refine lv_istore_n (lv' := [(2, .int 0), (1, .int 0), (0, .int s_)]) hx hb dX12_bitsOf_3 rfl hl (by decide) (zLvf_h rfl) (fun ls hl => ?_)
  refine z_lp2 (T := T) 4 (fun (i : Nat) (u : Int32) => []) (fun (i : Nat) (u : Int32) => [(2, .int (nI i)), (1, .int u), (0, .int s_)]) (fun (i : Nat) (u : Int32) => i ≤ 12 ∧ u = zBs s_ i) (fun (i : Nat) (u : Int32) => 12 - i) ?_ 0 0 (show 0 ≤ 12 ∧ 0 = zBs s_ 0 from ⟨by omega, rfl⟩) G (lv_sub hl [0, 1, 2] rfl)
  intro i u hI9 ih_4 H locs ls G hl
  replace hI9 : i ≤ 12 ∧ u = zBs s_ i := hI9
  refine zAn2 hI9 ?_
  intro hi hu
  clear hI9
  replace G : zS T A s.heap s [] _ _ := G
  replace hl : lv_has ls 3 [(2, .int (nI i)), (1, .int u), (0, .int s_)] := hl
  refine lv_iload_n hx hb dX12_bitsOf_4 rfl (lv_at hl 0 rfl) ?_
  refine lv_bipush (v := 12) hx hb dX12_bitsOf_5 (by decide) ?_
  refine lv_icmp_ge (tgt := 24) hx hb dX12_bitsOf_7 (by decide) (fun c_1 => ?_) (fun c_1 => ?_)
  · have c_1n : 12 ≤ i := (nI_leI (a := 12) (b := i) (by omega) (by omega)).mp c_1
    refine lv_iload_n hx hb dX12_bitsOf_24 rfl (lv_at hl 1 rfl) ?_
    exact z_back hQz_ (z_iret C hr hlocks G (Nat.le_of_ble_eq_true rfl) (Nat.le_of_ble_eq_true rfl) dX12_bitsOf_25 ⟨rfl, (by rw [hu]; exact congrArg (zBs s_) (by omega))⟩)
  · have c_1n : ¬ 12 ≤ i := fun q => c_1 ((nI_leI (a := 12) (b := i) (by omega) (by omega)).mpr q)
    refine lv_iload_n hx hb dX12_bitsOf_10 rfl (lv_at hl 1 rfl) ?_
    refine lv_iload_n hx hb dX12_bitsOf_11 rfl (lv_at hl 2 rfl) ?_
    refine lv_iload_n hx hb dX12_bitsOf_12 rfl (lv_at hl 0 rfl) ?_
    refine lv_ishr hx hb dX12_bitsOf_13 ?_
    refine lv_iconst (v := 1) hx hb dX12_bitsOf_14 (by decide) ?_
    refine lv_iand hx hb dX12_bitsOf_15 ?_
    refine lv_iadd hx hb dX12_bitsOf_16 ?_
    refine lv_istore_n (lv' := [(1, .int (u + ((s_ >>> ((nI i) &&& 31)) &&& 1))), (2, .int (nI i)), (0, .int s_)]) hx hb dX12_bitsOf_17 rfl hl (by decide) (zLvf_h rfl) (fun ls hl => ?_)
    refine lv_iinc (v := nI (i + 1)) (lv' := [(2, .int (nI (i + 1))), (1, .int (u + ((s_ >>> ((nI i) &&& 31)) &&& 1))), (0, .int s_)]) hx hb dX12_bitsOf_18 hl (k := 1) rfl (z_inc i 1) (by decide) (zLvf_h rfl) (fun ls hl => ?_)
    refine lv_goto (tgt := 4) hx hb dX12_bitsOf_21 (by decide) ?_
    exact ih_4 (i + 1) (u + ((s_ >>> ((nI i) &&& 31)) &&& 1)) (show (i + 1) ≤ 12 ∧ (u + ((s_ >>> ((nI i) &&& 31)) &&& 1)) = zBs s_ (i + 1) from ⟨by omega, (by rw [hu]; rfl)⟩) (show 12 - (i + 1) < 12 - i from by omega) _ _ ls G (lv_sub hl [0, 1, 2] rfl)

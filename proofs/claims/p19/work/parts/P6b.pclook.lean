/-! LINES of the class -/
theorem pWd_eq {k : pT} {ft : Nat → Int32} {n p : Nat} (hk : k = tkT ft n) (hc : pCl k p = 1) : pWd k p = zWordAt ft (pWh k p) (pEn k p) := by
  subst hk
  have hc : tkC ft n p = 1 := hc
  show (if tkC ft n p = 1 then zWordAt ft (zWh ft n p) (tkE ft n p) else 0) = _
  rw [if_pos hc]
  rfl
theorem zWc_n0 {wd : Nat} (h : (zWc 0 wd).toInt = -1) : ¬ (1 ≤ wd ∧ wd ≤ 4) := by
  intro q
  unfold zWc at h
  rw [if_pos rfl, if_pos q, show Int32.ofNat (wd - 1) = nI (wd - 1) from rfl, nI_toInt (by omega)] at h
  omega
theorem zWc_y0 {wd : Nat} (h : ¬ (zWc 0 wd).toInt = -1) : (1 ≤ wd ∧ wd ≤ 4) ∧ (zWc 0 wd).toInt = (wd : Int) - 1 := by
  by_cases q : 1 ≤ wd ∧ wd ≤ 4
  · refine ⟨q, ?_⟩
    unfold zWc
    rw [if_pos rfl, if_pos q, show Int32.ofNat (wd - 1) = nI (wd - 1) from rfl, nI_toInt (by omega)]
    omega
  · unfold zWc at h
    rw [if_pos rfl, if_neg q] at h
    exact absurd rfl h
theorem zWc_n1 {wd : Nat} (h : (zWc 1 wd).toInt = -1) : ¬ (5 ≤ wd ∧ wd ≤ 10) := by
  intro q
  unfold zWc at h
  rw [if_neg (by decide), if_pos rfl, if_pos q, show Int32.ofNat (wd - 5) = nI (wd - 5) from rfl, nI_toInt (by omega)] at h
  omega
theorem zWc_y1 {wd : Nat} (h : ¬ (zWc 1 wd).toInt = -1) : (5 ≤ wd ∧ wd ≤ 10) ∧ (zWc 1 wd).toInt = (wd : Int) - 5 ∧ zWc 1 wd = nI wd - 5 := by
  by_cases q : 5 ≤ wd ∧ wd ≤ 10
  · have e : zWc 1 wd = nI (wd - 5) := by
      unfold zWc
      rw [if_neg (by decide), if_pos rfl, if_pos q]
      rfl
    refine ⟨q, ?_, e.trans (z_d5 wd (by omega) q.1).symm⟩
    rw [e, nI_toInt (by omega)]
    omega
  · unfold zWc at h
    rw [if_neg (by decide), if_pos rfl, if_neg q] at h
    exact absurd rfl h
theorem zWc_n2 {wd : Nat} (h : (zWc 2 wd).toInt = -1) : ¬ (11 ≤ wd ∧ wd ≤ 12) := by
  intro q
  unfold zWc at h
  rw [if_neg (by decide), if_neg (by decide), if_pos q, show Int32.ofNat (wd - 11) = nI (wd - 11) from rfl, nI_toInt (by omega)] at h
  omega
theorem zWc_y2 {wd : Nat} (h : ¬ (zWc 2 wd).toInt = -1) : (11 ≤ wd ∧ wd ≤ 12) ∧ (zWc 2 wd).toInt = (wd : Int) - 11 := by
  by_cases q : 11 ≤ wd ∧ wd ≤ 12
  · refine ⟨q, ?_⟩
    unfold zWc
    rw [if_neg (by decide), if_neg (by decide), if_pos q, show Int32.ofNat (wd - 11) = nI (wd - 11) from rfl, nI_toInt (by omega)]
    omega
  · unfold zWc at h
    rw [if_neg (by decide), if_neg (by decide), if_neg q] at h
    exact absurd rfl h
section PL
variable {k : pT} {a : pS} {f : Nat → Int32} {q : pS × (Nat → Int32)}
theorem pLine_d (hw : a.2.1.toInt = 0) (h3 : pTk k a.1 = 3) (h : 5 ≤ pWd k a.1 ∧ pWd k a.1 ≤ 10) (hq : q = pDeed k (pWd k a.1) (nI (pWh k a.1)) (pAdv k a) f) : pLine k 1 a f = (pEndL k q.1, q.2) := by
  have e : pWord k 5 10 a = (pWd k a.1, pAdv k a) := pWord_i hw h3 h
  rw [pLine_1]
  unfold pDay
  rw [e, hq]
theorem pLine_f (hw : a.2.1.toInt = 0) (h3 : pTk k a.1 = 3) (h : 11 ≤ pWd k a.1 ∧ pWd k a.1 ≤ 12) (hq : q = pFact k (pWd k a.1) (nI (pWh k a.1)) (pAdv k a) f) : pLine k 2 a f = (pEndL k q.1, q.2) := by
  have e : pWord k 11 12 a = (pWd k a.1, pAdv k a) := pWord_i hw h3 h
  rw [pLine_2]
  unfold pLog
  rw [e, hq]
theorem pLine_l (hw : a.2.1.toInt = 0) (h3 : pTk k a.1 = 3) (h : 1 ≤ pWd k a.1 ∧ pWd k a.1 ≤ 4) (hq : q = (if pWd k a.1 = 1 then pCross k (nI (pWh k a.1)) (pAdv k a) f else if pWd k a.1 = 4 then pInn k (pAdv k a) f else pPW k (pWd k a.1) (pAdv k a) f)) : pLine k 0 a f = (pEndL k q.1, q.2) := by
  have e : pWord k 1 4 a = (pWd k a.1, pAdv k a) := pWord_i hw h3 h
  rw [pLine_0]
  unfold pLand
  rw [e]
  have e2 : pOther k (pWd k a.1) (nI (pWh k a.1)) (pAdv k a) f = q := by
    rw [hq]
    exact if_neg (fun z => z hw)
  show (pEndL k (pOther k (pWd k a.1) (nI (pWh k a.1)) (pAdv k a) f).1, (pOther k (pWd k a.1) (nI (pWh k a.1)) (pAdv k a) f).2) = _
  rw [e2]
end PL
theorem zLc_e {k : pT} {cr inn tof : Int32} {k1 k2 k3 k4 f : Nat → Int32} {a : pS} (hI : pInv k a) : zLc cr inn k1 k2 k3 k4 tof (pEnds k a) f := fun q => absurd q (pEnds_f hI)
theorem zDc_e {k : pT} {dd : Int32} {d1 d2 d3 f : Nat → Int32} {a : pS} (hI : pInv k a) : zDc dd d1 d2 d3 (pEnds k a) f := fun q => absurd q (pEnds_f hI)
theorem zGc_e {k : pT} {dd : Int32} {d1 d2 f : Nat → Int32} {a : pS} (hI : pInv k a) : zGc dd d1 d2 (pEnds k a) f := fun q => absurd q (pEnds_f hI)
theorem zLc_l {k : pT} {cr inn tof : Int32} {k1 k2 k3 k4 f : Nat → Int32} {a : pS} (hI : pInv k a) (h : zLc cr inn k1 k2 k3 k4 tof a f) : zLc cr inn k1 k2 k3 k4 tof (pEndL k a) f := by
  unfold pEndL
  split
  · exact h
  · exact fun q => absurd q (pEnds_f hI)
theorem zDc_l {k : pT} {dd : Int32} {d1 d2 d3 f : Nat → Int32} {a : pS} (hI : pInv k a) (h : zDc dd d1 d2 d3 a f) : zDc dd d1 d2 d3 (pEndL k a) f := by
  unfold pEndL
  split
  · exact h
  · exact fun q => absurd q (pEnds_f hI)
theorem zGc_l {k : pT} {dd : Int32} {d1 d2 f : Nat → Int32} {a : pS} (hI : pInv k a) (h : zGc dd d1 d2 a f) : zGc dd d1 d2 (pEndL k a) f := by
  unfold pEndL
  split
  · exact h
  · exact fun q => absurd q (pEnds_f hI)
/-! the whole of a text -/
theorem zTof_k3 : ∀ t, t < 128 → ∀ m, m < 8 → ((nI t >>> (nI m &&& 31)).toInt = 0 ↔ t / 2 ^ m = 0) := by decide +kernel
/-- whether a crossing was told of that is not there -/
theorem zTof_sh {tof fa cr : Int32} (h : zTof tof fa) (hc : 0 ≤ cr.toInt ∧ cr.toInt ≤ 7) : ¬ (tof >>> (cr &&& 31)).toInt = 0 ↔ cr.toInt ≤ fa.toInt := by
  obtain ⟨t, ht, rfl, hf, hd⟩ := h
  have ec : cr = nI cr.toInt.toNat := z_nI (by omega) (by omega)
  have k1 := zTof_k3 t ht cr.toInt.toNat (by omega)
  rw [← ec] at k1
  rw [k1, hd _ (by omega)]
  omega
def zBad (k1 k3 : Nat → Int32) (c : Nat) : Prop := ¬ (k3 c).toInt = 0 ∧ (k1 c).toInt ≤ (k3 c).toInt
/-- behind the look at the first i crossings -/
def zLook (k1 k3 : Nat → Int32) (i : Nat) (n v0 v1 y0 y1 : Int32) : Prop := (¬ v0.toInt = 0 → y0 = v0 ∧ y1 = v1) ∧ (v0.toInt = 0 → (y0 = v0 ∧ y1 = v1 ∧ ∀ c, c < i → ¬ zBad k1 k3 c) ∨ (y0 = 5 ∧ y1 = n ∧ ∃ c, c < i ∧ zBad k1 k3 c))
theorem zLook_0 {k1 k3 : Nat → Int32} {n v0 v1 : Int32} : zLook k1 k3 0 n v0 v1 v0 v1 := ⟨fun _ => ⟨rfl, rfl⟩, fun _ => Or.inl ⟨rfl, rfl, fun c hc => absurd hc (Nat.not_lt_zero _)⟩⟩
theorem zLook_g {k1 k3 : Nat → Int32} {i : Nat} {n v0 v1 y0 y1 : Int32} (h : zLook k1 k3 i n v0 v1 y0 y1) (hg : ¬ zBad k1 k3 i) : zLook k1 k3 (i + 1) n v0 v1 y0 y1 := by
  refine ⟨h.1, fun q => ?_⟩
  rcases h.2 q with ⟨a, b, c⟩ | ⟨a, b, c, d, e⟩
  · refine Or.inl ⟨a, b, fun c1 hc1 => ?_⟩
    by_cases z : c1 = i
    · rw [z]; exact hg
    · exact c c1 (by omega)
  · exact Or.inr ⟨a, b, c, by omega, e⟩
theorem zLook_b {k1 k3 : Nat → Int32} {i : Nat} {n v0 v1 y0 y1 u0 u1 : Int32} (h : zLook k1 k3 i n v0 v1 y0 y1) (hb : zBad k1 k3 i) (e0 : u0 = if y0.toInt = 0 then 5 else y0) (e1 : u1 = if y0.toInt = 0 then n else y1) : zLook k1 k3 (i + 1) n v0 v1 u0 u1 := by
  refine ⟨fun q => ?_, fun q => ?_⟩
  · obtain ⟨a, b⟩ := h.1 q
    rw [if_neg (by rw [a]; exact q)] at e0 e1
    exact ⟨e0.trans a, e1.trans b⟩
  · rcases h.2 q with ⟨a, b, c⟩ | ⟨a, b, c, d, e⟩
    · rw [if_pos (by rw [a]; exact q)] at e0 e1
      exact Or.inr ⟨e0, e1, i, by omega, hb⟩
    · rw [if_neg (by rw [a]; decide)] at e0 e1
      exact Or.inr ⟨e0.trans a, e1.trans b, c, by omega, e⟩
theorem zLook_end {k : pT} {cr inn tof n5 r0 r1 v0 v1 u0 u1 : Int32} {k1 k2 k3 k4 f : Nat → Int32} {a : pS} {n : Nat} (hI : pInv k a) (h : zLc cr inn k1 k2 k3 k4 tof a f) (hn : n5 = nI n) (h0 : r0 = a.2.2.1) (h1 : r1 = a.2.2.2.1) (e : (tof >>> (cr &&& 31)).toInt = 0 ∧ v0 = r0 ∧ v1 = r1 ∨ ¬ (tof >>> (cr &&& 31)).toInt = 0 ∧ (v0 = if r0.toInt = 0 then 4 else r0) ∧ (v1 = if r0.toInt = 0 then n5 else r1)) (hl : zLook k1 k3 7 n5 v0 v1 u0 u1) : u0 = (pFin n 0 (a, f)).1.2.2.1 ∧ u1 = (pFin n 0 (a, f)).1.2.2.2.1 := by
  subst h0
  subst h1
  subst hn
  have z4 : ¬ (4 : Int32).toInt = 0 := by decide
  by_cases c : a.2.2.1.toInt = 0
  · have hw : a.2.1.toInt = 0 := by
      rcases hI with z | z
      · exact z.1
      · exact absurd c z.2
    obtain ⟨hc, hb, hi, hj, hz, hx, ht⟩ := h c
    have hs := zTof_sh (cr := cr) ht (by rw [hc]; exact hb)
    rw [hc] at hs
    by_cases c2 : (f 0).toInt ≤ a.2.2.2.2.toInt
    · have e1 : pFin n 0 (a, f) = ((a.1, a.2.1, 4, nI n, a.2.2.2.2), f) := by
        have e0 : pF4 n 0 a f = (a.1, a.2.1, 4, nI n, a.2.2.2.2) := (if_pos ⟨rfl, c, c2⟩).trans (pAlso_y hw c)
        have e5 : pF5 n 0 (a.1, a.2.1, 4, nI n, a.2.2.2.2) f = (a.1, a.2.1, 4, nI n, a.2.2.2.2) := if_neg (fun q => z4 q.2.1)
        show (pF5 n 0 (pF4 n 0 a f) f, f) = _
        rw [e0, e5]
      rw [e1]
      rcases e with ⟨q, -, -⟩ | ⟨-, q1, q2⟩
      · rw [hc] at q; exact absurd q (hs.mpr c2)
      · rw [if_pos c] at q1 q2
        obtain ⟨a1, a2⟩ := hl.1 (by rw [q1]; exact z4)
        exact ⟨a1.trans q1, a2.trans q2⟩
    · have hv : v0 = a.2.2.1 ∧ v1 = a.2.2.2.1 := by
        rcases e with ⟨-, q1, q2⟩ | ⟨q, -, -⟩
        · exact ⟨q1, q2⟩
        · rw [hc] at q; exact absurd (hs.mp q) c2
      have e0 : pF4 n 0 a f = a := if_neg (fun q => c2 q.2.2)
      have e1 : pFin n 0 (a, f) = (pF5 n 0 a f, f) := by
        show (pF5 n 0 (pF4 n 0 a f) f, f) = _
        rw [e0]
      have hbad : ∀ j, j < 7 → (zBad k1 k3 j ↔ ¬ ((f (9 + j)).toInt = 0 ∨ (f (9 + j)).toInt < (f (2 + j)).toInt)) := fun j hj7 => by
        unfold zBad
        rw [(hj j hj7).1, (hj j hj7).2.1]
        omega
      rw [e1]
      rcases hl.2 (by rw [hv.1]; exact c) with ⟨a1, a2, a3⟩ | ⟨a1, a2, c3, a4, a5⟩
      · have hp : pPosts f = true := by
          exact pPosts_t.mpr (fun j hj7 => Decidable.byContradiction (fun z => a3 j hj7 ((hbad j hj7).mpr z)))
        have e5 : pF5 n 0 a f = a := if_neg (fun q => by rw [hp] at q; exact absurd q.2.2 (by decide))
        rw [e5]
        exact ⟨a1.trans hv.1, a2.trans hv.2⟩
      · have hp : pPosts f = false := by
          cases z : pPosts f with
          | false => rfl
          | true => exact absurd (pPosts_t.mp z c3 a4) ((hbad c3 a4).mp a5)
        have e5 : pF5 n 0 a f = (a.1, a.2.1, 5, nI n, a.2.2.2.2) := (if_pos ⟨rfl, c, hp⟩).trans (pAlso_y hw c)
        rw [e5]
        exact ⟨a1, a2⟩
  · have hv : v0 = a.2.2.1 ∧ v1 = a.2.2.2.1 := by
      rcases e with ⟨-, q1, q2⟩ | ⟨-, q1, q2⟩
      · exact ⟨q1, q2⟩
      · rw [if_neg c] at q1 q2; exact ⟨q1, q2⟩
    have e0 : pF4 n 0 a f = a := if_neg (fun q => c q.2.1)
    have e5 : pF5 n 0 a f = a := if_neg (fun q => c q.2.1)
    have e1 : pFin n 0 (a, f) = (a, f) := by
      show (pF5 n 0 (pF4 n 0 a f) f, f) = _
      rw [e0, e5]
    rw [e1]
    obtain ⟨a1, a2⟩ := hl.1 (by rw [hv.1]; exact c)
    exact ⟨a1.trans hv.1, a2.trans hv.2⟩
theorem pFin_s {n s : Nat} {q : pS × (Nat → Int32)} (h : ¬ s = 0) : pFin n s q = q := by
  have e4 : pF4 n s q.1 q.2 = q.1 := if_neg (fun z => h z.1)
  have e5 : pF5 n s q.1 q.2 = q.1 := if_neg (fun z => h z.1)
  show (pF5 n s (pF4 n s q.1 q.2) q.2, q.2) = q
  rw [e4, e5]
theorem pAlso_z {n : Nat} {kd : Int32} {b : pS} (hk : ¬ kd.toInt = 0) (z : (pAlso kd (nI n) b).2.2.1.toInt = 0) : pAlso kd (nI n) b = b := by
  by_cases c : b.2.1.toInt = 0
  · exact absurd z (pAlso_f hk c)
  · exact pAlso_n (Or.inl c)
theorem pFin_f {n : Nat} {q : pS × (Nat → Int32)} (h : (pFin n 0 q).1.2.2.1.toInt = 0) : pFin n 0 q = q := by
  have h : (pF5 n 0 (pF4 n 0 q.1 q.2) q.2).2.2.1.toInt = 0 := h
  have e5 : pF5 n 0 (pF4 n 0 q.1 q.2) q.2 = pF4 n 0 q.1 q.2 := by
    unfold pF5 at h ⊢
    split at h
    · rename_i y; rw [if_pos y]; exact pAlso_z (by decide) h
    · rename_i y; exact if_neg y
  rw [e5] at h
  have e4 : pF4 n 0 q.1 q.2 = q.1 := by
    unfold pF4 at h ⊢
    split at h
    · rename_i y; rw [if_pos y]; exact pAlso_z (by decide) h
    · rename_i y; exact if_neg y
  show (pF5 n 0 (pF4 n 0 q.1 q.2) q.2, q.2) = q
  rw [e5, e4]
set_option maxHeartbeats 4000000 in
set_option maxRecDepth 100000 in
/-- c_f_readLine0 -/
theorem c_f_readLine0 (l : Launch) (T : zTy) (rd : Nat) (rl : Nat) (rdd : Nat) (rg : Nat) (tp : Nat) (r0 : Int32) (r1 : Int32) (r2 : Int32) (r3 : Int32) (r4 : Int32) (r5 : Int32) (r6 : Int32) (r7 : Int32) (r8 : Int32) (ft : Nat → Int32) (cr : Int32) (inn : Int32) (k1 : Nat → Int32) (k2 : Nat → Int32) (k3 : Nat → Int32) (k4 : Nat → Int32) (z : va_W) (k : pT) (n : Nat) (a : pS) (f : Nat → Int32) (hA : zRc k n ft r0 r1 r2 r3 r4 r5 r6 r7 a) (hw : a.2.1.toInt = 0) (hz : bLand T rl cr inn k1 k2 k3 k4 z) (hI : zLI cr k1 k3) (hC : zLc cr inn k1 k2 k3 k4 r8 a f) : zMv l T yX7_readLine cX7_readLine 3 7 0 0 [.ref rd, .int 0] [[zO7 rd rl rdd rg r0 r1 tp r2 r3 r4 r5 r6 r7 r8], [zAr T 1 tp 600 ft], z] (fun bs => ∃ (u0 : Int32) (u1 : Int32) (u3 : Int32) (u4 : Int32) (u5 : Int32) (u6 : Int32) (u7 : Int32) (u8 : Int32) (z2 : va_W) (c2 : Int32) (i2 : Int32) (j1 : Nat → Int32) (j2 : Nat → Int32) (j3 : Nat → Int32) (j4 : Nat → Int32), bs = [[zO7 rd rl rdd rg u0 u1 tp r2 u3 u4 u5 u6 u7 u8], [zAr T 1 tp 600 ft], z2] ∧ bLand T rl c2 i2 j1 j2 j3 j4 z2 ∧ zLI c2 j1 j3 ∧ zRc k n ft u0 u1 r2 u3 u4 u5 u6 u7 (pLine k 0 a f).1 ∧ zLc c2 i2 j1 j2 j3 j4 u8 (pLine k 0 a f).1 (pLine k 0 a f).2) := by
  refine zMv_of (own := RX7) (by decide) rfl (Nat.le_of_ble_eq_true rfl) ?_
  intro p e s m args below meth c A ls C hr hlocks hnm hAe G hl
  refine zHide (fun Q9 hQ9 => ?_)
  have hx := C.1
  have hb := C.2.1
  have hl : lv_has ls 3 [(0, .ref rd), (1, .int 0)] := hl
  have hok := zRc_ok hA
  obtain ⟨hA1, hA6, hA7, hA8, hA9, hAI, hAE⟩ := id hA
  have hka := hok a.1 hA1.2.2.2
  obtain ⟨t3, t4, t5, t6⟩ := hA7 hw
  have t4i : r4.toInt = (pCl k a.1 : Int) := by rw [t4]; exact nI_toInt (by omega)
  refine lv_aload_n hx hb dX7_readLine_0 rfl (lv_at hl 0 rfl) ?_
  refine z_get C G clX7 0 rfl 8 (by decide) m_fl_RX7_74 rfl dX7_readLine_1 ?_
  refine lv_iconst (v := 1) hx hb dX7_readLine_4 (by decide) ?_
  refine lv_icmp_ne (tgt := 16) hx hb dX7_readLine_5 (by decide) (fun c_1 => ?_) (fun c_1 => ?_)
  · have c_1n : ¬ r4.toInt = (1 : Int) := fun q => c_1 ((fa_eq _ _).mpr q)
    refine lv_iconst (v := (-1)) hx hb dX7_readLine_16 (by decide) ?_
    refine lv_istore_n (lv' := [(2, .int (-1)), (0, .ref rd), (1, .int 0)]) hx hb dX7_readLine_17 rfl hl (by decide) rfl (fun ls hl => ?_)
    refine lv_iload_n hx hb dX7_readLine_18 rfl (lv_at hl 0 rfl) ?_
    refine lv_iconst (v := (-1)) hx hb dX7_readLine_19 (by decide) ?_
    refine lv_icmp_ne (tgt := 28) hx hb dX7_readLine_20 (by decide) (fun q => absurd (by decide) q) (fun _ => ?_)
    refine lv_aload_n hx hb dX7_readLine_23 rfl (lv_at hl 1 rfl) ?_
    refine z_Vv (bc := [[zO7 rd rl rdd rg r0 r1 tp r2 r3 r4 r5 r6 r7 r8]]) (br := [[zAr T 1 tp 600 ft], z]) (As := []) (rest := []) C G (c_f_breakHere l T rd rl rdd rg tp r0 r1 r2 r3 r4 r5 r6 r7 r8) (kV_RX7_105 C.2.2.2.2 (Nat.le_of_ble_eq_true rfl) (Nat.le_of_ble_eq_true rfl)) [0] [0] rfl rfl (ci := 7) (qc := (RX7, TX7, 13)) rfl rfl (List.mem_flatten.mpr ⟨_, List.mem_of_getElem? (i := 0) rfl, List.mem_cons_self⟩) rfl rfl hl.1 dX7_readLine_24 (Nat.le_of_ble_eq_true rfl) (Nat.le_of_ble_eq_true rfl) (fun b1 H locs hw G => ?_)
    refine zEx3 hw ?_
    intro u0_2 u1_3 u7_4
    refine zCu4 ?_
    intro hbs9 h_5 h_6 h_7
    clear hw
    subst hbs9
    have G : zS T A s.heap s [[zAr T 1 tp 600 ft], z, [zO7 rd rl rdd rg u0_2 u1_3 tp r2 r3 r4 r5 r6 u7_4 r8]] _ _ := G
    have G := G.sub (bs' := [[zO7 rd rl rdd rg u0_2 u1_3 tp r2 r3 r4 r5 r6 u7_4 r8], [zAr T 1 tp 600 ft], z]) [2, 0, 1] rfl
    exact z_back hQ9 (z_vret C hr hlocks G (Nat.le_of_ble_eq_true rfl) (Nat.le_of_ble_eq_true rfl) dX7_readLine_27 ⟨u0_2, u1_3, r3, r4, r5, r6, u7_4, r8, z, cr, inn, k1, k2, k3, k4, rfl, hz, hI, (by rw [pLine_e hw (s := 0) (lo := 1) (hi := 4) (by decide) (Or.inl (fun q9 => by have := pTk_3 q9; omega))]; exact zRc_brk hA h_5 h_6 h_7), (by rw [pLine_e hw (s := 0) (lo := 1) (hi := 4) (by decide) (Or.inl (fun q9 => by have := pTk_3 q9; omega))]; exact zLc_e hAI)⟩)
  · have c_1n : r4.toInt = (1 : Int) := (fa_eq _ _).mp c_1
    refine lv_aload_n hx hb dX7_readLine_8 rfl (lv_at hl 0 rfl) ?_
    refine lv_iload_n hx hb dX7_readLine_9 rfl (lv_at hl 1 rfl) ?_
    refine z_Vi (bc := [[zO7 rd rl rdd rg r0 r1 tp r2 r3 r4 r5 r6 r7 r8], [zAr T 1 tp 600 ft]]) (br := [z]) (As := [.int 0]) (rest := []) C G (c_f_wordOf0 l T rd rl rdd rg tp r0 r1 r2 r3 r4 r5 r6 r7 r8 ft (pWh k a.1) (pEn k a.1) n t3 t5 hka.1.2.1 hka.1.2.2 hA1.2.2.1 hA1.2.1) (kV_RX7_101 C.2.2.2.2 (Nat.le_of_ble_eq_true rfl) (Nat.le_of_ble_eq_true rfl)) [0, 1] [0, 0] rfl rfl (ci := 7) (qc := (RX7, TX7, 13)) rfl rfl (List.mem_flatten.mpr ⟨_, List.mem_of_getElem? (i := 0) rfl, List.mem_cons_self⟩) rfl rfl hl.1 dX7_readLine_10 (Nat.le_of_ble_eq_true rfl) (Nat.le_of_ble_eq_true rfl) (fun r_10 b1 H locs hw G => ?_)
    refine zAn2 hw ?_
    intro hbs9 h_9
    clear hw
    subst hbs9
    have G : zS T A s.heap s [z, [zO7 rd rl rdd rg r0 r1 tp r2 r3 r4 r5 r6 r7 r8], [zAr T 1 tp 600 ft]] _ _ := G
    have hcl : pCl k a.1 = 1 := by omega
    have hwd : r_10 = zWc 0 (pWd k a.1) := by rw [pWd_eq hA1.1 hcl]; exact h_9
    refine lv_goto (tgt := 17) hx hb dX7_readLine_13 (by decide) ?_
    refine lv_istore_n (lv' := [(2, .int r_10), (0, .ref rd), (1, .int 0)]) hx hb dX7_readLine_17 rfl hl (by decide) rfl (fun ls hl => ?_)
    refine lv_iload_n hx hb dX7_readLine_18 rfl (lv_at hl 0 rfl) ?_
    refine lv_iconst (v := (-1)) hx hb dX7_readLine_19 (by decide) ?_
    refine lv_icmp_ne (tgt := 28) hx hb dX7_readLine_20 (by decide) (fun c_11 => ?_) (fun c_11 => ?_)
    · have c_11n : ¬ r_10.toInt = (-1 : Int) := fun q => c_11 ((fa_eq _ _).mpr q)
      have hwy := zWc_y0 (wd := pWd k a.1) (by rw [← hwd]; omega)
      have hwi : r_10.toInt = (pWd k a.1 : Int) - 1 := by rw [hwd]; exact hwy.2
      have hwr := hwy.1
      have ht3 : pTk k a.1 = 3 := pTk_3w hcl (by omega)
      refine lv_iload_n hx hb dX7_readLine_28 rfl (lv_at hl 2 rfl) ?_
      refine lv_iconst (v := 1) hx hb dX7_readLine_29 (by decide) ?_
      refine lv_icmp_ne (tgt := 41) hx hb dX7_readLine_30 (by decide) (fun _ => ?_) (fun q => absurd q (by decide))
      refine lv_iload_n hx hb dX7_readLine_41 rfl (lv_at hl 2 rfl) ?_
      refine lv_iconst (v := 2) hx hb dX7_readLine_42 (by decide) ?_
      refine lv_icmp_ne (tgt := 54) hx hb dX7_readLine_43 (by decide) (fun _ => ?_) (fun q => absurd q (by decide))
      rcases (show r_10.toInt = 0 ∨ r_10.toInt = 1 ∨ r_10.toInt = 2 ∨ r_10.toInt = 3 from by omega) with hx9 | hx9 | hx9 | hx9
      · obtain rfl : r_10 = 0 := Int32.toInt_inj.mp hx9
        have hx8 : (0 : Int32).toInt = 0 := rfl
        have hd1 : pWd k a.1 = 1 := by omega
        refine lv_iload_n hx hb dX7_readLine_54 rfl (lv_at hl 0 rfl) ?_
        refine lv_if_ne (tgt := 65) hx hb dX7_readLine_55 (by decide) (fun q => absurd (by decide) q) (fun _ => ?_)
        refine lv_aload_n hx hb dX7_readLine_58 rfl (lv_at hl 1 rfl) ?_
        refine z_Vv (bc := [[zO7 rd rl rdd rg r0 r1 tp r2 r3 r4 r5 r6 r7 r8], [zAr T 1 tp 600 ft], z]) (br := []) (As := []) (rest := []) C G (c_f_readCrossing l T rd rl rdd rg tp r0 r1 r2 r3 r4 r5 r6 r7 r8 ft cr inn k1 k2 k3 k4 z k n a f hA hw hcl hz hI hC) (kV_RX7_114 C.2.2.2.2 (Nat.le_of_ble_eq_true rfl) (Nat.le_of_ble_eq_true rfl)) [1, 2, 0] [0, 0, 0] rfl rfl (ci := 7) (qc := (RX7, TX7, 13)) rfl rfl (List.mem_flatten.mpr ⟨_, List.mem_of_getElem? (i := 0) rfl, List.mem_cons_self⟩) rfl rfl hl.1 dX7_readLine_59 (Nat.le_of_ble_eq_true rfl) (Nat.le_of_ble_eq_true rfl) (fun b1 H locs hw G => ?_)
        refine zEx12 hw ?_
        intro u0_12 u1_13 u3_14 u4_15 u5_16 u6_17 u7_18 u8_19 z2_20 c2_21 j1_22 j2_23
        refine zCu5 ?_
        intro hbs9 h_24 h_25 h_26 h_27
        clear hw
        subst hbs9
        have G : zS T A s.heap s [[zO7 rd rl rdd rg u0_12 u1_13 tp r2 u3_14 u4_15 u5_16 u6_17 u7_18 u8_19], [zAr T 1 tp 600 ft], z2_20] _ _ := G
        obtain ⟨q, hq⟩ : ∃ q, q = pCross k (nI (pWh k a.1)) (pAdv k a) f := ⟨_, rfl⟩
        rw [← hq] at h_26 h_27
        have hpl : pLine k 0 a f = (pEndL k q.1, q.2) := pLine_l hw ht3 hwr (hq.trans (if_pos hd1).symm)
        have hokQ := zRc_ok h_26
        obtain ⟨hA1Q, hA6Q, hA7Q, hA8Q, hA9Q, hAIQ, hAEQ⟩ := id h_26
        have hkaQ := hokQ q.1.1 hA1Q.2.2.2
        refine lv_goto (tgt := 70) hx hb dX7_readLine_62 (by decide) ?_
        rcases (Decidable.em (q.1.2.1.toInt = 0)) with hbk | hbk
        · obtain ⟨t3Q, t4Q, t5Q, t6Q⟩ := hA7Q hbk
          have t4iQ : u4_15.toInt = (pCl k q.1.1 : Int) := by rw [t4Q]; exact nI_toInt (by omega)
          refine lv_aload_n hx hb dX7_readLine_70 rfl (lv_at hl 1 rfl) ?_
          refine z_get C G clX7 0 rfl 8 (by decide) m_fl_RX7_74 rfl dX7_readLine_71 ?_
          refine lv_iconst (v := 3) hx hb dX7_readLine_74 (by decide) ?_
          refine lv_icmp_ne (tgt := 85) hx hb dX7_readLine_75 (by decide) (fun c_29 => ?_) (fun c_29 => ?_)
          · have c_29n : ¬ u4_15.toInt = (3 : Int) := fun q => c_29 ((fa_eq _ _).mpr q)
            refine lv_aload_n hx hb dX7_readLine_85 rfl (lv_at hl 1 rfl) ?_
            refine z_Vv (bc := [[zO7 rd rl rdd rg u0_12 u1_13 tp r2 u3_14 u4_15 u5_16 u6_17 u7_18 u8_19]]) (br := [[zAr T 1 tp 600 ft], z2_20]) (As := []) (rest := []) C G (c_f_breakHere l T rd rl rdd rg tp u0_12 u1_13 r2 u3_14 u4_15 u5_16 u6_17 u7_18 u8_19) (kV_RX7_105 C.2.2.2.2 (Nat.le_of_ble_eq_true rfl) (Nat.le_of_ble_eq_true rfl)) [0] [0] rfl rfl (ci := 7) (qc := (RX7, TX7, 13)) rfl rfl (List.mem_flatten.mpr ⟨_, List.mem_of_getElem? (i := 0) rfl, List.mem_cons_self⟩) rfl rfl hl.1 dX7_readLine_86 (Nat.le_of_ble_eq_true rfl) (Nat.le_of_ble_eq_true rfl) (fun b1 H locs hw G => ?_)
            refine zEx3 hw ?_
            intro u0_30 u1_31 u7_32
            refine zCu4 ?_
            intro hbs9 h_33 h_34 h_35
            clear hw
            subst hbs9
            have G : zS T A s.heap s [[zAr T 1 tp 600 ft], z2_20, [zO7 rd rl rdd rg u0_30 u1_31 tp r2 u3_14 u4_15 u5_16 u6_17 u7_32 u8_19]] _ _ := G
            have G := G.sub (bs' := [[zO7 rd rl rdd rg u0_30 u1_31 tp r2 u3_14 u4_15 u5_16 u6_17 u7_32 u8_19], [zAr T 1 tp 600 ft], z2_20]) [2, 0, 1] rfl
            exact z_back hQ9 (z_vret C hr hlocks G (Nat.le_of_ble_eq_true rfl) (Nat.le_of_ble_eq_true rfl) dX7_readLine_89 ⟨u0_30, u1_31, u3_14, u4_15, u5_16, u6_17, u7_32, u8_19, z2_20, c2_21, inn, j1_22, j2_23, k3, k4, rfl, h_24, h_25, (by rw [hpl]; show zRc _ _ _ _ _ _ _ _ _ _ _ (pEndL k q.1); rw [pEndL_e (fun z9 => by have := (pTk_2 hokQ hA1Q.2.2.2).mp z9.2; omega)]; exact zRc_brk h_26 h_33 h_34 h_35), (by rw [hpl]; exact zLc_l hAIQ h_27)⟩)
          · have c_29n : u4_15.toInt = (3 : Int) := (fa_eq _ _).mp c_29
            refine lv_aload_n hx hb dX7_readLine_78 rfl (lv_at hl 1 rfl) ?_
            refine z_Vv (bc := [[zO7 rd rl rdd rg u0_12 u1_13 tp r2 u3_14 u4_15 u5_16 u6_17 u7_18 u8_19], [zAr T 1 tp 600 ft]]) (br := [z2_20]) (As := []) (rest := []) C G (c_f_nextToken l T rd rl rdd rg tp u0_12 u1_13 r2 u3_14 u4_15 u5_16 u6_17 u7_18 u8_19 ft (pEn k q.1.1) n k t3Q hkaQ.1.2.2 hA1Q.1 hA1Q.2.2.1 hA1Q.2.1) (kV_RX7_71 C.2.2.2.2 (Nat.le_of_ble_eq_true rfl) (Nat.le_of_ble_eq_true rfl)) [0, 1] [0, 0] rfl rfl (ci := 7) (qc := (RX7, TX7, 13)) rfl rfl (List.mem_flatten.mpr ⟨_, List.mem_of_getElem? (i := 0) rfl, List.mem_cons_self⟩) rfl rfl hl.1 dX7_readLine_79 (Nat.le_of_ble_eq_true rfl) (Nat.le_of_ble_eq_true rfl) (fun b1 H locs hw G => ?_)
            refine zEx4 hw ?_
            intro u3_37 u4_38 u5_39 u6_40
            refine zCu2 ?_
            intro hbs9 h_41
            clear hw
            subst hbs9
            have G : zS T A s.heap s [z2_20, [zO7 rd rl rdd rg u0_12 u1_13 tp r2 u3_37 u4_38 u5_39 u6_40 u7_18 u8_19], [zAr T 1 tp 600 ft]] _ _ := G
            refine lv_goto (tgt := 89) hx hb dX7_readLine_82 (by decide) ?_
            have G := G.sub (bs' := [[zO7 rd rl rdd rg u0_12 u1_13 tp r2 u3_37 u4_38 u5_39 u6_40 u7_18 u8_19], [zAr T 1 tp 600 ft], z2_20]) [1, 2, 0] rfl
            exact z_back hQ9 (z_vret C hr hlocks G (Nat.le_of_ble_eq_true rfl) (Nat.le_of_ble_eq_true rfl) dX7_readLine_89 ⟨u0_12, u1_13, u3_37, u4_38, u5_39, u6_40, u7_18, u8_19, z2_20, c2_21, inn, j1_22, j2_23, k3, k4, rfl, h_24, h_25, (by rw [hpl]; show zRc _ _ _ _ _ _ _ _ _ _ _ (pEndL k q.1); rw [pEndL_a ⟨hbk, (pTk_2 hokQ hA1Q.2.2.2).mpr (by omega)⟩]; exact zRc_adv h_26 hbk h_41), (by rw [hpl]; exact zLc_l hAIQ h_27)⟩)
        · obtain ⟨p9, hp9, e9⟩ := hAEQ
          refine lv_aload_n hx hb dX7_readLine_70 rfl (lv_at hl 1 rfl) ?_
          refine z_get C G clX7 0 rfl 8 (by decide) m_fl_RX7_74 rfl dX7_readLine_71 ?_
          refine lv_iconst (v := 3) hx hb dX7_readLine_74 (by decide) ?_
          refine lv_icmp_ne (tgt := 85) hx hb dX7_readLine_75 (by decide) (fun c_43 => ?_) (fun c_43 => ?_)
          · have c_43n : ¬ u4_15.toInt = (3 : Int) := fun q => c_43 ((fa_eq _ _).mpr q)
            refine lv_aload_n hx hb dX7_readLine_85 rfl (lv_at hl 1 rfl) ?_
            refine z_Vv (bc := [[zO7 rd rl rdd rg u0_12 u1_13 tp r2 u3_14 u4_15 u5_16 u6_17 u7_18 u8_19]]) (br := [[zAr T 1 tp 600 ft], z2_20]) (As := []) (rest := []) C G (c_f_breakHere l T rd rl rdd rg tp u0_12 u1_13 r2 u3_14 u4_15 u5_16 u6_17 u7_18 u8_19) (kV_RX7_105 C.2.2.2.2 (Nat.le_of_ble_eq_true rfl) (Nat.le_of_ble_eq_true rfl)) [0] [0] rfl rfl (ci := 7) (qc := (RX7, TX7, 13)) rfl rfl (List.mem_flatten.mpr ⟨_, List.mem_of_getElem? (i := 0) rfl, List.mem_cons_self⟩) rfl rfl hl.1 dX7_readLine_86 (Nat.le_of_ble_eq_true rfl) (Nat.le_of_ble_eq_true rfl) (fun b1 H locs hw G => ?_)
            refine zEx3 hw ?_
            intro u0_44 u1_45 u7_46
            refine zCu4 ?_
            intro hbs9 h_47 h_48 h_49
            clear hw
            subst hbs9
            have G : zS T A s.heap s [[zAr T 1 tp 600 ft], z2_20, [zO7 rd rl rdd rg u0_44 u1_45 tp r2 u3_14 u4_15 u5_16 u6_17 u7_46 u8_19]] _ _ := G
            have G := G.sub (bs' := [[zO7 rd rl rdd rg u0_44 u1_45 tp r2 u3_14 u4_15 u5_16 u6_17 u7_46 u8_19], [zAr T 1 tp 600 ft], z2_20]) [2, 0, 1] rfl
            exact z_back hQ9 (z_vret C hr hlocks G (Nat.le_of_ble_eq_true rfl) (Nat.le_of_ble_eq_true rfl) dX7_readLine_89 ⟨u0_44, u1_45, u3_14, u4_15, u5_16, u6_17, u7_46, u8_19, z2_20, c2_21, inn, j1_22, j2_23, k3, k4, rfl, h_24, h_25, (by rw [hpl]; show zRc _ _ _ _ _ _ _ _ _ _ _ (pEndL k q.1); rw [pEndL_e (fun z9 => hbk z9.1)]; exact zRc_brk h_26 h_47 h_48 h_49), (by rw [hpl]; exact zLc_l hAIQ h_27)⟩)
          · have c_43n : u4_15.toInt = (3 : Int) := (fa_eq _ _).mp c_43
            refine lv_aload_n hx hb dX7_readLine_78 rfl (lv_at hl 1 rfl) ?_
            refine z_Vv (bc := [[zO7 rd rl rdd rg u0_12 u1_13 tp r2 u3_14 u4_15 u5_16 u6_17 u7_18 u8_19], [zAr T 1 tp 600 ft]]) (br := [z2_20]) (As := []) (rest := []) C G (c_f_nextToken l T rd rl rdd rg tp u0_12 u1_13 r2 u3_14 u4_15 u5_16 u6_17 u7_18 u8_19 ft p9 n k e9 hp9 hA1Q.1 hA1Q.2.2.1 hA1Q.2.1) (kV_RX7_71 C.2.2.2.2 (Nat.le_of_ble_eq_true rfl) (Nat.le_of_ble_eq_true rfl)) [0, 1] [0, 0] rfl rfl (ci := 7) (qc := (RX7, TX7, 13)) rfl rfl (List.mem_flatten.mpr ⟨_, List.mem_of_getElem? (i := 0) rfl, List.mem_cons_self⟩) rfl rfl hl.1 dX7_readLine_79 (Nat.le_of_ble_eq_true rfl) (Nat.le_of_ble_eq_true rfl) (fun b1 H locs hw G => ?_)
            refine zEx4 hw ?_
            intro u3_51 u4_52 u5_53 u6_54
            refine zCu2 ?_
            intro hbs9 h_55
            clear hw
            subst hbs9
            have G : zS T A s.heap s [z2_20, [zO7 rd rl rdd rg u0_12 u1_13 tp r2 u3_51 u4_52 u5_53 u6_54 u7_18 u8_19], [zAr T 1 tp 600 ft]] _ _ := G
            refine lv_goto (tgt := 89) hx hb dX7_readLine_82 (by decide) ?_
            have G := G.sub (bs' := [[zO7 rd rl rdd rg u0_12 u1_13 tp r2 u3_51 u4_52 u5_53 u6_54 u7_18 u8_19], [zAr T 1 tp 600 ft], z2_20]) [1, 2, 0] rfl
            exact z_back hQ9 (z_vret C hr hlocks G (Nat.le_of_ble_eq_true rfl) (Nat.le_of_ble_eq_true rfl) dX7_readLine_89 ⟨u0_12, u1_13, u3_51, u4_52, u5_53, u6_54, u7_18, u8_19, z2_20, c2_21, inn, j1_22, j2_23, k3, k4, rfl, h_24, h_25, (by rw [hpl]; show zRc _ _ _ _ _ _ _ _ _ _ _ (pEndL k q.1); rw [pEndL_e (fun z9 => hbk z9.1), pEnds_n hbk]; exact zRc_any h_26 hbk ⟨_, (hokQ p9 hp9).1.2.2, h_55.1⟩), (by rw [hpl]; exact zLc_l hAIQ h_27)⟩)
      · obtain rfl : r_10 = 1 := Int32.toInt_inj.mp hx9
        have hx8 : (1 : Int32).toInt = 1 := rfl
        have hd1 : pWd k a.1 = 2 := by omega
        refine lv_iload_n hx hb dX7_readLine_54 rfl (lv_at hl 0 rfl) ?_
        refine lv_if_ne (tgt := 65) hx hb dX7_readLine_55 (by decide) (fun _ => ?_) (fun q => absurd q (by decide))
        refine lv_aload_n hx hb dX7_readLine_65 rfl (lv_at hl 1 rfl) ?_
        refine lv_iload_n hx hb dX7_readLine_66 rfl (lv_at hl 0 rfl) ?_
        refine z_Vv (bc := [[zO7 rd rl rdd rg r0 r1 tp r2 r3 r4 r5 r6 r7 r8], [zAr T 1 tp 600 ft], z]) (br := []) (As := [.int 1]) (rest := []) C G (c_f_readOther1 l T rd rl rdd rg tp r0 r1 r2 r3 r4 r5 r6 r7 r8 ft cr inn k1 k2 k3 k4 z k n a f hA hw hcl hz hI hC) (kV_RX7_117 C.2.2.2.2 (Nat.le_of_ble_eq_true rfl) (Nat.le_of_ble_eq_true rfl)) [1, 2, 0] [0, 0, 0] rfl rfl (ci := 7) (qc := (RX7, TX7, 13)) rfl rfl (List.mem_flatten.mpr ⟨_, List.mem_of_getElem? (i := 0) rfl, List.mem_cons_self⟩) rfl rfl hl.1 dX7_readLine_67 (Nat.le_of_ble_eq_true rfl) (Nat.le_of_ble_eq_true rfl) (fun b1 H locs hw G => ?_)
        refine zEx12 hw ?_
        intro u0_57 u1_58 u3_59 u4_60 u5_61 u6_62 u7_63 u8_64 z2_65 i2_66 j3_67 j4_68
        refine zCu5 ?_
        intro hbs9 h_69 h_70 h_71 h_72
        clear hw
        subst hbs9
        have G : zS T A s.heap s [[zO7 rd rl rdd rg u0_57 u1_58 tp r2 u3_59 u4_60 u5_61 u6_62 u7_63 u8_64], [zAr T 1 tp 600 ft], z2_65] _ _ := G
        obtain ⟨q, hq⟩ : ∃ q, q = pPW k 2 (pAdv k a) f := ⟨_, rfl⟩
        rw [← hq] at h_71 h_72
        have hpl : pLine k 0 a f = (pEndL k q.1, q.2) := pLine_l hw ht3 hwr (hq.trans (((if_neg (by omega)).trans (if_neg (by omega))).trans (by rw [hd1])).symm)
        have hokQ := zRc_ok h_71
        obtain ⟨hA1Q, hA6Q, hA7Q, hA8Q, hA9Q, hAIQ, hAEQ⟩ := id h_71
        have hkaQ := hokQ q.1.1 hA1Q.2.2.2
        rcases (Decidable.em (q.1.2.1.toInt = 0)) with hbk | hbk
        · obtain ⟨t3Q, t4Q, t5Q, t6Q⟩ := hA7Q hbk
          have t4iQ : u4_60.toInt = (pCl k q.1.1 : Int) := by rw [t4Q]; exact nI_toInt (by omega)
          refine lv_aload_n hx hb dX7_readLine_70 rfl (lv_at hl 1 rfl) ?_
          refine z_get C G clX7 0 rfl 8 (by decide) m_fl_RX7_74 rfl dX7_readLine_71 ?_
          refine lv_iconst (v := 3) hx hb dX7_readLine_74 (by decide) ?_
          refine lv_icmp_ne (tgt := 85) hx hb dX7_readLine_75 (by decide) (fun c_74 => ?_) (fun c_74 => ?_)
          · have c_74n : ¬ u4_60.toInt = (3 : Int) := fun q => c_74 ((fa_eq _ _).mpr q)
            refine lv_aload_n hx hb dX7_readLine_85 rfl (lv_at hl 1 rfl) ?_
            refine z_Vv (bc := [[zO7 rd rl rdd rg u0_57 u1_58 tp r2 u3_59 u4_60 u5_61 u6_62 u7_63 u8_64]]) (br := [[zAr T 1 tp 600 ft], z2_65]) (As := []) (rest := []) C G (c_f_breakHere l T rd rl rdd rg tp u0_57 u1_58 r2 u3_59 u4_60 u5_61 u6_62 u7_63 u8_64) (kV_RX7_105 C.2.2.2.2 (Nat.le_of_ble_eq_true rfl) (Nat.le_of_ble_eq_true rfl)) [0] [0] rfl rfl (ci := 7) (qc := (RX7, TX7, 13)) rfl rfl (List.mem_flatten.mpr ⟨_, List.mem_of_getElem? (i := 0) rfl, List.mem_cons_self⟩) rfl rfl hl.1 dX7_readLine_86 (Nat.le_of_ble_eq_true rfl) (Nat.le_of_ble_eq_true rfl) (fun b1 H locs hw G => ?_)
            refine zEx3 hw ?_
            intro u0_75 u1_76 u7_77
            refine zCu4 ?_
            intro hbs9 h_78 h_79 h_80
            clear hw
            subst hbs9
            have G : zS T A s.heap s [[zAr T 1 tp 600 ft], z2_65, [zO7 rd rl rdd rg u0_75 u1_76 tp r2 u3_59 u4_60 u5_61 u6_62 u7_77 u8_64]] _ _ := G
            have G := G.sub (bs' := [[zO7 rd rl rdd rg u0_75 u1_76 tp r2 u3_59 u4_60 u5_61 u6_62 u7_77 u8_64], [zAr T 1 tp 600 ft], z2_65]) [2, 0, 1] rfl
            exact z_back hQ9 (z_vret C hr hlocks G (Nat.le_of_ble_eq_true rfl) (Nat.le_of_ble_eq_true rfl) dX7_readLine_89 ⟨u0_75, u1_76, u3_59, u4_60, u5_61, u6_62, u7_77, u8_64, z2_65, cr, i2_66, k1, k2, j3_67, j4_68, rfl, h_69, h_70, (by rw [hpl]; show zRc _ _ _ _ _ _ _ _ _ _ _ (pEndL k q.1); rw [pEndL_e (fun z9 => by have := (pTk_2 hokQ hA1Q.2.2.2).mp z9.2; omega)]; exact zRc_brk h_71 h_78 h_79 h_80), (by rw [hpl]; exact zLc_l hAIQ h_72)⟩)
          · have c_74n : u4_60.toInt = (3 : Int) := (fa_eq _ _).mp c_74
            refine lv_aload_n hx hb dX7_readLine_78 rfl (lv_at hl 1 rfl) ?_
            refine z_Vv (bc := [[zO7 rd rl rdd rg u0_57 u1_58 tp r2 u3_59 u4_60 u5_61 u6_62 u7_63 u8_64], [zAr T 1 tp 600 ft]]) (br := [z2_65]) (As := []) (rest := []) C G (c_f_nextToken l T rd rl rdd rg tp u0_57 u1_58 r2 u3_59 u4_60 u5_61 u6_62 u7_63 u8_64 ft (pEn k q.1.1) n k t3Q hkaQ.1.2.2 hA1Q.1 hA1Q.2.2.1 hA1Q.2.1) (kV_RX7_71 C.2.2.2.2 (Nat.le_of_ble_eq_true rfl) (Nat.le_of_ble_eq_true rfl)) [0, 1] [0, 0] rfl rfl (ci := 7) (qc := (RX7, TX7, 13)) rfl rfl (List.mem_flatten.mpr ⟨_, List.mem_of_getElem? (i := 0) rfl, List.mem_cons_self⟩) rfl rfl hl.1 dX7_readLine_79 (Nat.le_of_ble_eq_true rfl) (Nat.le_of_ble_eq_true rfl) (fun b1 H locs hw G => ?_)
            refine zEx4 hw ?_
            intro u3_82 u4_83 u5_84 u6_85
            refine zCu2 ?_
            intro hbs9 h_86
            clear hw
            subst hbs9
            have G : zS T A s.heap s [z2_65, [zO7 rd rl rdd rg u0_57 u1_58 tp r2 u3_82 u4_83 u5_84 u6_85 u7_63 u8_64], [zAr T 1 tp 600 ft]] _ _ := G
            refine lv_goto (tgt := 89) hx hb dX7_readLine_82 (by decide) ?_
            have G := G.sub (bs' := [[zO7 rd rl rdd rg u0_57 u1_58 tp r2 u3_82 u4_83 u5_84 u6_85 u7_63 u8_64], [zAr T 1 tp 600 ft], z2_65]) [1, 2, 0] rfl
            exact z_back hQ9 (z_vret C hr hlocks G (Nat.le_of_ble_eq_true rfl) (Nat.le_of_ble_eq_true rfl) dX7_readLine_89 ⟨u0_57, u1_58, u3_82, u4_83, u5_84, u6_85, u7_63, u8_64, z2_65, cr, i2_66, k1, k2, j3_67, j4_68, rfl, h_69, h_70, (by rw [hpl]; show zRc _ _ _ _ _ _ _ _ _ _ _ (pEndL k q.1); rw [pEndL_a ⟨hbk, (pTk_2 hokQ hA1Q.2.2.2).mpr (by omega)⟩]; exact zRc_adv h_71 hbk h_86), (by rw [hpl]; exact zLc_l hAIQ h_72)⟩)
        · obtain ⟨p9, hp9, e9⟩ := hAEQ
          refine lv_aload_n hx hb dX7_readLine_70 rfl (lv_at hl 1 rfl) ?_
          refine z_get C G clX7 0 rfl 8 (by decide) m_fl_RX7_74 rfl dX7_readLine_71 ?_
          refine lv_iconst (v := 3) hx hb dX7_readLine_74 (by decide) ?_
          refine lv_icmp_ne (tgt := 85) hx hb dX7_readLine_75 (by decide) (fun c_88 => ?_) (fun c_88 => ?_)
          · have c_88n : ¬ u4_60.toInt = (3 : Int) := fun q => c_88 ((fa_eq _ _).mpr q)
            refine lv_aload_n hx hb dX7_readLine_85 rfl (lv_at hl 1 rfl) ?_
            refine z_Vv (bc := [[zO7 rd rl rdd rg u0_57 u1_58 tp r2 u3_59 u4_60 u5_61 u6_62 u7_63 u8_64]]) (br := [[zAr T 1 tp 600 ft], z2_65]) (As := []) (rest := []) C G (c_f_breakHere l T rd rl rdd rg tp u0_57 u1_58 r2 u3_59 u4_60 u5_61 u6_62 u7_63 u8_64) (kV_RX7_105 C.2.2.2.2 (Nat.le_of_ble_eq_true rfl) (Nat.le_of_ble_eq_true rfl)) [0] [0] rfl rfl (ci := 7) (qc := (RX7, TX7, 13)) rfl rfl (List.mem_flatten.mpr ⟨_, List.mem_of_getElem? (i := 0) rfl, List.mem_cons_self⟩) rfl rfl hl.1 dX7_readLine_86 (Nat.le_of_ble_eq_true rfl) (Nat.le_of_ble_eq_true rfl) (fun b1 H locs hw G => ?_)
            refine zEx3 hw ?_
            intro u0_89 u1_90 u7_91
            refine zCu4 ?_
            intro hbs9 h_92 h_93 h_94
            clear hw
            subst hbs9
            have G : zS T A s.heap s [[zAr T 1 tp 600 ft], z2_65, [zO7 rd rl rdd rg u0_89 u1_90 tp r2 u3_59 u4_60 u5_61 u6_62 u7_91 u8_64]] _ _ := G
            have G := G.sub (bs' := [[zO7 rd rl rdd rg u0_89 u1_90 tp r2 u3_59 u4_60 u5_61 u6_62 u7_91 u8_64], [zAr T 1 tp 600 ft], z2_65]) [2, 0, 1] rfl
            exact z_back hQ9 (z_vret C hr hlocks G (Nat.le_of_ble_eq_true rfl) (Nat.le_of_ble_eq_true rfl) dX7_readLine_89 ⟨u0_89, u1_90, u3_59, u4_60, u5_61, u6_62, u7_91, u8_64, z2_65, cr, i2_66, k1, k2, j3_67, j4_68, rfl, h_69, h_70, (by rw [hpl]; show zRc _ _ _ _ _ _ _ _ _ _ _ (pEndL k q.1); rw [pEndL_e (fun z9 => hbk z9.1)]; exact zRc_brk h_71 h_92 h_93 h_94), (by rw [hpl]; exact zLc_l hAIQ h_72)⟩)
          · have c_88n : u4_60.toInt = (3 : Int) := (fa_eq _ _).mp c_88
            refine lv_aload_n hx hb dX7_readLine_78 rfl (lv_at hl 1 rfl) ?_
            refine z_Vv (bc := [[zO7 rd rl rdd rg u0_57 u1_58 tp r2 u3_59 u4_60 u5_61 u6_62 u7_63 u8_64], [zAr T 1 tp 600 ft]]) (br := [z2_65]) (As := []) (rest := []) C G (c_f_nextToken l T rd rl rdd rg tp u0_57 u1_58 r2 u3_59 u4_60 u5_61 u6_62 u7_63 u8_64 ft p9 n k e9 hp9 hA1Q.1 hA1Q.2.2.1 hA1Q.2.1) (kV_RX7_71 C.2.2.2.2 (Nat.le_of_ble_eq_true rfl) (Nat.le_of_ble_eq_true rfl)) [0, 1] [0, 0] rfl rfl (ci := 7) (qc := (RX7, TX7, 13)) rfl rfl (List.mem_flatten.mpr ⟨_, List.mem_of_getElem? (i := 0) rfl, List.mem_cons_self⟩) rfl rfl hl.1 dX7_readLine_79 (Nat.le_of_ble_eq_true rfl) (Nat.le_of_ble_eq_true rfl) (fun b1 H locs hw G => ?_)
            refine zEx4 hw ?_
            intro u3_96 u4_97 u5_98 u6_99
            refine zCu2 ?_
            intro hbs9 h_100
            clear hw
            subst hbs9
            have G : zS T A s.heap s [z2_65, [zO7 rd rl rdd rg u0_57 u1_58 tp r2 u3_96 u4_97 u5_98 u6_99 u7_63 u8_64], [zAr T 1 tp 600 ft]] _ _ := G
            refine lv_goto (tgt := 89) hx hb dX7_readLine_82 (by decide) ?_
            have G := G.sub (bs' := [[zO7 rd rl rdd rg u0_57 u1_58 tp r2 u3_96 u4_97 u5_98 u6_99 u7_63 u8_64], [zAr T 1 tp 600 ft], z2_65]) [1, 2, 0] rfl
            exact z_back hQ9 (z_vret C hr hlocks G (Nat.le_of_ble_eq_true rfl) (Nat.le_of_ble_eq_true rfl) dX7_readLine_89 ⟨u0_57, u1_58, u3_96, u4_97, u5_98, u6_99, u7_63, u8_64, z2_65, cr, i2_66, k1, k2, j3_67, j4_68, rfl, h_69, h_70, (by rw [hpl]; show zRc _ _ _ _ _ _ _ _ _ _ _ (pEndL k q.1); rw [pEndL_e (fun z9 => hbk z9.1), pEnds_n hbk]; exact zRc_any h_71 hbk ⟨_, (hokQ p9 hp9).1.2.2, h_100.1⟩), (by rw [hpl]; exact zLc_l hAIQ h_72)⟩)
      · obtain rfl : r_10 = 2 := Int32.toInt_inj.mp hx9
        have hx8 : (2 : Int32).toInt = 2 := rfl
        have hd1 : pWd k a.1 = 3 := by omega
        refine lv_iload_n hx hb dX7_readLine_54 rfl (lv_at hl 0 rfl) ?_
        refine lv_if_ne (tgt := 65) hx hb dX7_readLine_55 (by decide) (fun _ => ?_) (fun q => absurd q (by decide))
        refine lv_aload_n hx hb dX7_readLine_65 rfl (lv_at hl 1 rfl) ?_
        refine lv_iload_n hx hb dX7_readLine_66 rfl (lv_at hl 0 rfl) ?_
        refine z_Vv (bc := [[zO7 rd rl rdd rg r0 r1 tp r2 r3 r4 r5 r6 r7 r8], [zAr T 1 tp 600 ft], z]) (br := []) (As := [.int 2]) (rest := []) C G (c_f_readOther2 l T rd rl rdd rg tp r0 r1 r2 r3 r4 r5 r6 r7 r8 ft cr inn k1 k2 k3 k4 z k n a f hA hw hcl hz hI hC) (kV_RX7_117 C.2.2.2.2 (Nat.le_of_ble_eq_true rfl) (Nat.le_of_ble_eq_true rfl)) [1, 2, 0] [0, 0, 0] rfl rfl (ci := 7) (qc := (RX7, TX7, 13)) rfl rfl (List.mem_flatten.mpr ⟨_, List.mem_of_getElem? (i := 0) rfl, List.mem_cons_self⟩) rfl rfl hl.1 dX7_readLine_67 (Nat.le_of_ble_eq_true rfl) (Nat.le_of_ble_eq_true rfl) (fun b1 H locs hw G => ?_)
        refine zEx12 hw ?_
        intro u0_102 u1_103 u3_104 u4_105 u5_106 u6_107 u7_108 u8_109 z2_110 i2_111 j3_112 j4_113
        refine zCu5 ?_
        intro hbs9 h_114 h_115 h_116 h_117
        clear hw
        subst hbs9
        have G : zS T A s.heap s [[zO7 rd rl rdd rg u0_102 u1_103 tp r2 u3_104 u4_105 u5_106 u6_107 u7_108 u8_109], [zAr T 1 tp 600 ft], z2_110] _ _ := G
        obtain ⟨q, hq⟩ : ∃ q, q = pPW k 3 (pAdv k a) f := ⟨_, rfl⟩
        rw [← hq] at h_116 h_117
        have hpl : pLine k 0 a f = (pEndL k q.1, q.2) := pLine_l hw ht3 hwr (hq.trans (((if_neg (by omega)).trans (if_neg (by omega))).trans (by rw [hd1])).symm)
        have hokQ := zRc_ok h_116
        obtain ⟨hA1Q, hA6Q, hA7Q, hA8Q, hA9Q, hAIQ, hAEQ⟩ := id h_116
        have hkaQ := hokQ q.1.1 hA1Q.2.2.2
        rcases (Decidable.em (q.1.2.1.toInt = 0)) with hbk | hbk
        · obtain ⟨t3Q, t4Q, t5Q, t6Q⟩ := hA7Q hbk
          have t4iQ : u4_105.toInt = (pCl k q.1.1 : Int) := by rw [t4Q]; exact nI_toInt (by omega)
          refine lv_aload_n hx hb dX7_readLine_70 rfl (lv_at hl 1 rfl) ?_
          refine z_get C G clX7 0 rfl 8 (by decide) m_fl_RX7_74 rfl dX7_readLine_71 ?_
          refine lv_iconst (v := 3) hx hb dX7_readLine_74 (by decide) ?_
          refine lv_icmp_ne (tgt := 85) hx hb dX7_readLine_75 (by decide) (fun c_119 => ?_) (fun c_119 => ?_)
          · have c_119n : ¬ u4_105.toInt = (3 : Int) := fun q => c_119 ((fa_eq _ _).mpr q)
            refine lv_aload_n hx hb dX7_readLine_85 rfl (lv_at hl 1 rfl) ?_
            refine z_Vv (bc := [[zO7 rd rl rdd rg u0_102 u1_103 tp r2 u3_104 u4_105 u5_106 u6_107 u7_108 u8_109]]) (br := [[zAr T 1 tp 600 ft], z2_110]) (As := []) (rest := []) C G (c_f_breakHere l T rd rl rdd rg tp u0_102 u1_103 r2 u3_104 u4_105 u5_106 u6_107 u7_108 u8_109) (kV_RX7_105 C.2.2.2.2 (Nat.le_of_ble_eq_true rfl) (Nat.le_of_ble_eq_true rfl)) [0] [0] rfl rfl (ci := 7) (qc := (RX7, TX7, 13)) rfl rfl (List.mem_flatten.mpr ⟨_, List.mem_of_getElem? (i := 0) rfl, List.mem_cons_self⟩) rfl rfl hl.1 dX7_readLine_86 (Nat.le_of_ble_eq_true rfl) (Nat.le_of_ble_eq_true rfl) (fun b1 H locs hw G => ?_)
            refine zEx3 hw ?_
            intro u0_120 u1_121 u7_122
            refine zCu4 ?_
            intro hbs9 h_123 h_124 h_125
            clear hw
            subst hbs9
            have G : zS T A s.heap s [[zAr T 1 tp 600 ft], z2_110, [zO7 rd rl rdd rg u0_120 u1_121 tp r2 u3_104 u4_105 u5_106 u6_107 u7_122 u8_109]] _ _ := G
            have G := G.sub (bs' := [[zO7 rd rl rdd rg u0_120 u1_121 tp r2 u3_104 u4_105 u5_106 u6_107 u7_122 u8_109], [zAr T 1 tp 600 ft], z2_110]) [2, 0, 1] rfl
            exact z_back hQ9 (z_vret C hr hlocks G (Nat.le_of_ble_eq_true rfl) (Nat.le_of_ble_eq_true rfl) dX7_readLine_89 ⟨u0_120, u1_121, u3_104, u4_105, u5_106, u6_107, u7_122, u8_109, z2_110, cr, i2_111, k1, k2, j3_112, j4_113, rfl, h_114, h_115, (by rw [hpl]; show zRc _ _ _ _ _ _ _ _ _ _ _ (pEndL k q.1); rw [pEndL_e (fun z9 => by have := (pTk_2 hokQ hA1Q.2.2.2).mp z9.2; omega)]; exact zRc_brk h_116 h_123 h_124 h_125), (by rw [hpl]; exact zLc_l hAIQ h_117)⟩)
          · have c_119n : u4_105.toInt = (3 : Int) := (fa_eq _ _).mp c_119
            refine lv_aload_n hx hb dX7_readLine_78 rfl (lv_at hl 1 rfl) ?_
            refine z_Vv (bc := [[zO7 rd rl rdd rg u0_102 u1_103 tp r2 u3_104 u4_105 u5_106 u6_107 u7_108 u8_109], [zAr T 1 tp 600 ft]]) (br := [z2_110]) (As := []) (rest := []) C G (c_f_nextToken l T rd rl rdd rg tp u0_102 u1_103 r2 u3_104 u4_105 u5_106 u6_107 u7_108 u8_109 ft (pEn k q.1.1) n k t3Q hkaQ.1.2.2 hA1Q.1 hA1Q.2.2.1 hA1Q.2.1) (kV_RX7_71 C.2.2.2.2 (Nat.le_of_ble_eq_true rfl) (Nat.le_of_ble_eq_true rfl)) [0, 1] [0, 0] rfl rfl (ci := 7) (qc := (RX7, TX7, 13)) rfl rfl (List.mem_flatten.mpr ⟨_, List.mem_of_getElem? (i := 0) rfl, List.mem_cons_self⟩) rfl rfl hl.1 dX7_readLine_79 (Nat.le_of_ble_eq_true rfl) (Nat.le_of_ble_eq_true rfl) (fun b1 H locs hw G => ?_)
            refine zEx4 hw ?_
            intro u3_127 u4_128 u5_129 u6_130
            refine zCu2 ?_
            intro hbs9 h_131
            clear hw
            subst hbs9
            have G : zS T A s.heap s [z2_110, [zO7 rd rl rdd rg u0_102 u1_103 tp r2 u3_127 u4_128 u5_129 u6_130 u7_108 u8_109], [zAr T 1 tp 600 ft]] _ _ := G
            refine lv_goto (tgt := 89) hx hb dX7_readLine_82 (by decide) ?_
            have G := G.sub (bs' := [[zO7 rd rl rdd rg u0_102 u1_103 tp r2 u3_127 u4_128 u5_129 u6_130 u7_108 u8_109], [zAr T 1 tp 600 ft], z2_110]) [1, 2, 0] rfl
            exact z_back hQ9 (z_vret C hr hlocks G (Nat.le_of_ble_eq_true rfl) (Nat.le_of_ble_eq_true rfl) dX7_readLine_89 ⟨u0_102, u1_103, u3_127, u4_128, u5_129, u6_130, u7_108, u8_109, z2_110, cr, i2_111, k1, k2, j3_112, j4_113, rfl, h_114, h_115, (by rw [hpl]; show zRc _ _ _ _ _ _ _ _ _ _ _ (pEndL k q.1); rw [pEndL_a ⟨hbk, (pTk_2 hokQ hA1Q.2.2.2).mpr (by omega)⟩]; exact zRc_adv h_116 hbk h_131), (by rw [hpl]; exact zLc_l hAIQ h_117)⟩)
        · obtain ⟨p9, hp9, e9⟩ := hAEQ
          refine lv_aload_n hx hb dX7_readLine_70 rfl (lv_at hl 1 rfl) ?_
          refine z_get C G clX7 0 rfl 8 (by decide) m_fl_RX7_74 rfl dX7_readLine_71 ?_
          refine lv_iconst (v := 3) hx hb dX7_readLine_74 (by decide) ?_
          refine lv_icmp_ne (tgt := 85) hx hb dX7_readLine_75 (by decide) (fun c_133 => ?_) (fun c_133 => ?_)
          · have c_133n : ¬ u4_105.toInt = (3 : Int) := fun q => c_133 ((fa_eq _ _).mpr q)
            refine lv_aload_n hx hb dX7_readLine_85 rfl (lv_at hl 1 rfl) ?_
            refine z_Vv (bc := [[zO7 rd rl rdd rg u0_102 u1_103 tp r2 u3_104 u4_105 u5_106 u6_107 u7_108 u8_109]]) (br := [[zAr T 1 tp 600 ft], z2_110]) (As := []) (rest := []) C G (c_f_breakHere l T rd rl rdd rg tp u0_102 u1_103 r2 u3_104 u4_105 u5_106 u6_107 u7_108 u8_109) (kV_RX7_105 C.2.2.2.2 (Nat.le_of_ble_eq_true rfl) (Nat.le_of_ble_eq_true rfl)) [0] [0] rfl rfl (ci := 7) (qc := (RX7, TX7, 13)) rfl rfl (List.mem_flatten.mpr ⟨_, List.mem_of_getElem? (i := 0) rfl, List.mem_cons_self⟩) rfl rfl hl.1 dX7_readLine_86 (Nat.le_of_ble_eq_true rfl) (Nat.le_of_ble_eq_true rfl) (fun b1 H locs hw G => ?_)
            refine zEx3 hw ?_
            intro u0_134 u1_135 u7_136
            refine zCu4 ?_
            intro hbs9 h_137 h_138 h_139
            clear hw
            subst hbs9
            have G : zS T A s.heap s [[zAr T 1 tp 600 ft], z2_110, [zO7 rd rl rdd rg u0_134 u1_135 tp r2 u3_104 u4_105 u5_106 u6_107 u7_136 u8_109]] _ _ := G
            have G := G.sub (bs' := [[zO7 rd rl rdd rg u0_134 u1_135 tp r2 u3_104 u4_105 u5_106 u6_107 u7_136 u8_109], [zAr T 1 tp 600 ft], z2_110]) [2, 0, 1] rfl
            exact z_back hQ9 (z_vret C hr hlocks G (Nat.le_of_ble_eq_true rfl) (Nat.le_of_ble_eq_true rfl) dX7_readLine_89 ⟨u0_134, u1_135, u3_104, u4_105, u5_106, u6_107, u7_136, u8_109, z2_110, cr, i2_111, k1, k2, j3_112, j4_113, rfl, h_114, h_115, (by rw [hpl]; show zRc _ _ _ _ _ _ _ _ _ _ _ (pEndL k q.1); rw [pEndL_e (fun z9 => hbk z9.1)]; exact zRc_brk h_116 h_137 h_138 h_139), (by rw [hpl]; exact zLc_l hAIQ h_117)⟩)
          · have c_133n : u4_105.toInt = (3 : Int) := (fa_eq _ _).mp c_133
            refine lv_aload_n hx hb dX7_readLine_78 rfl (lv_at hl 1 rfl) ?_
            refine z_Vv (bc := [[zO7 rd rl rdd rg u0_102 u1_103 tp r2 u3_104 u4_105 u5_106 u6_107 u7_108 u8_109], [zAr T 1 tp 600 ft]]) (br := [z2_110]) (As := []) (rest := []) C G (c_f_nextToken l T rd rl rdd rg tp u0_102 u1_103 r2 u3_104 u4_105 u5_106 u6_107 u7_108 u8_109 ft p9 n k e9 hp9 hA1Q.1 hA1Q.2.2.1 hA1Q.2.1) (kV_RX7_71 C.2.2.2.2 (Nat.le_of_ble_eq_true rfl) (Nat.le_of_ble_eq_true rfl)) [0, 1] [0, 0] rfl rfl (ci := 7) (qc := (RX7, TX7, 13)) rfl rfl (List.mem_flatten.mpr ⟨_, List.mem_of_getElem? (i := 0) rfl, List.mem_cons_self⟩) rfl rfl hl.1 dX7_readLine_79 (Nat.le_of_ble_eq_true rfl) (Nat.le_of_ble_eq_true rfl) (fun b1 H locs hw G => ?_)
            refine zEx4 hw ?_
            intro u3_141 u4_142 u5_143 u6_144
            refine zCu2 ?_
            intro hbs9 h_145
            clear hw
            subst hbs9
            have G : zS T A s.heap s [z2_110, [zO7 rd rl rdd rg u0_102 u1_103 tp r2 u3_141 u4_142 u5_143 u6_144 u7_108 u8_109], [zAr T 1 tp 600 ft]] _ _ := G
            refine lv_goto (tgt := 89) hx hb dX7_readLine_82 (by decide) ?_
            have G := G.sub (bs' := [[zO7 rd rl rdd rg u0_102 u1_103 tp r2 u3_141 u4_142 u5_143 u6_144 u7_108 u8_109], [zAr T 1 tp 600 ft], z2_110]) [1, 2, 0] rfl
            exact z_back hQ9 (z_vret C hr hlocks G (Nat.le_of_ble_eq_true rfl) (Nat.le_of_ble_eq_true rfl) dX7_readLine_89 ⟨u0_102, u1_103, u3_141, u4_142, u5_143, u6_144, u7_108, u8_109, z2_110, cr, i2_111, k1, k2, j3_112, j4_113, rfl, h_114, h_115, (by rw [hpl]; show zRc _ _ _ _ _ _ _ _ _ _ _ (pEndL k q.1); rw [pEndL_e (fun z9 => hbk z9.1), pEnds_n hbk]; exact zRc_any h_116 hbk ⟨_, (hokQ p9 hp9).1.2.2, h_145.1⟩), (by rw [hpl]; exact zLc_l hAIQ h_117)⟩)
      · obtain rfl : r_10 = 3 := Int32.toInt_inj.mp hx9
        have hx8 : (3 : Int32).toInt = 3 := rfl
        have hd1 : pWd k a.1 = 4 := by omega
        refine lv_iload_n hx hb dX7_readLine_54 rfl (lv_at hl 0 rfl) ?_
        refine lv_if_ne (tgt := 65) hx hb dX7_readLine_55 (by decide) (fun _ => ?_) (fun q => absurd q (by decide))
        refine lv_aload_n hx hb dX7_readLine_65 rfl (lv_at hl 1 rfl) ?_
        refine lv_iload_n hx hb dX7_readLine_66 rfl (lv_at hl 0 rfl) ?_
        refine z_Vv (bc := [[zO7 rd rl rdd rg r0 r1 tp r2 r3 r4 r5 r6 r7 r8], [zAr T 1 tp 600 ft], z]) (br := []) (As := [.int 3]) (rest := []) C G (c_f_readOther3 l T rd rl rdd rg tp r0 r1 r2 r3 r4 r5 r6 r7 r8 ft cr inn k1 k2 k3 k4 z k n a f hA hw hcl hz hI hC) (kV_RX7_117 C.2.2.2.2 (Nat.le_of_ble_eq_true rfl) (Nat.le_of_ble_eq_true rfl)) [1, 2, 0] [0, 0, 0] rfl rfl (ci := 7) (qc := (RX7, TX7, 13)) rfl rfl (List.mem_flatten.mpr ⟨_, List.mem_of_getElem? (i := 0) rfl, List.mem_cons_self⟩) rfl rfl hl.1 dX7_readLine_67 (Nat.le_of_ble_eq_true rfl) (Nat.le_of_ble_eq_true rfl) (fun b1 H locs hw G => ?_)
        refine zEx12 hw ?_
        intro u0_147 u1_148 u3_149 u4_150 u5_151 u6_152 u7_153 u8_154 z2_155 i2_156 j3_157 j4_158
        refine zCu5 ?_
        intro hbs9 h_159 h_160 h_161 h_162
        clear hw
        subst hbs9
        have G : zS T A s.heap s [[zO7 rd rl rdd rg u0_147 u1_148 tp r2 u3_149 u4_150 u5_151 u6_152 u7_153 u8_154], [zAr T 1 tp 600 ft], z2_155] _ _ := G
        obtain ⟨q, hq⟩ : ∃ q, q = pInn k (pAdv k a) f := ⟨_, rfl⟩
        rw [← hq] at h_161 h_162
        have hpl : pLine k 0 a f = (pEndL k q.1, q.2) := pLine_l hw ht3 hwr (hq.trans ((if_neg (by omega)).trans (if_pos hd1)).symm)
        have hokQ := zRc_ok h_161
        obtain ⟨hA1Q, hA6Q, hA7Q, hA8Q, hA9Q, hAIQ, hAEQ⟩ := id h_161
        have hkaQ := hokQ q.1.1 hA1Q.2.2.2
        rcases (Decidable.em (q.1.2.1.toInt = 0)) with hbk | hbk
        · obtain ⟨t3Q, t4Q, t5Q, t6Q⟩ := hA7Q hbk
          have t4iQ : u4_150.toInt = (pCl k q.1.1 : Int) := by rw [t4Q]; exact nI_toInt (by omega)
          refine lv_aload_n hx hb dX7_readLine_70 rfl (lv_at hl 1 rfl) ?_
          refine z_get C G clX7 0 rfl 8 (by decide) m_fl_RX7_74 rfl dX7_readLine_71 ?_
          refine lv_iconst (v := 3) hx hb dX7_readLine_74 (by decide) ?_
          refine lv_icmp_ne (tgt := 85) hx hb dX7_readLine_75 (by decide) (fun c_164 => ?_) (fun c_164 => ?_)
          · have c_164n : ¬ u4_150.toInt = (3 : Int) := fun q => c_164 ((fa_eq _ _).mpr q)
            refine lv_aload_n hx hb dX7_readLine_85 rfl (lv_at hl 1 rfl) ?_
            refine z_Vv (bc := [[zO7 rd rl rdd rg u0_147 u1_148 tp r2 u3_149 u4_150 u5_151 u6_152 u7_153 u8_154]]) (br := [[zAr T 1 tp 600 ft], z2_155]) (As := []) (rest := []) C G (c_f_breakHere l T rd rl rdd rg tp u0_147 u1_148 r2 u3_149 u4_150 u5_151 u6_152 u7_153 u8_154) (kV_RX7_105 C.2.2.2.2 (Nat.le_of_ble_eq_true rfl) (Nat.le_of_ble_eq_true rfl)) [0] [0] rfl rfl (ci := 7) (qc := (RX7, TX7, 13)) rfl rfl (List.mem_flatten.mpr ⟨_, List.mem_of_getElem? (i := 0) rfl, List.mem_cons_self⟩) rfl rfl hl.1 dX7_readLine_86 (Nat.le_of_ble_eq_true rfl) (Nat.le_of_ble_eq_true rfl) (fun b1 H locs hw G => ?_)
            refine zEx3 hw ?_
            intro u0_165 u1_166 u7_167
            refine zCu4 ?_
            intro hbs9 h_168 h_169 h_170
            clear hw
            subst hbs9
            have G : zS T A s.heap s [[zAr T 1 tp 600 ft], z2_155, [zO7 rd rl rdd rg u0_165 u1_166 tp r2 u3_149 u4_150 u5_151 u6_152 u7_167 u8_154]] _ _ := G
            have G := G.sub (bs' := [[zO7 rd rl rdd rg u0_165 u1_166 tp r2 u3_149 u4_150 u5_151 u6_152 u7_167 u8_154], [zAr T 1 tp 600 ft], z2_155]) [2, 0, 1] rfl
            exact z_back hQ9 (z_vret C hr hlocks G (Nat.le_of_ble_eq_true rfl) (Nat.le_of_ble_eq_true rfl) dX7_readLine_89 ⟨u0_165, u1_166, u3_149, u4_150, u5_151, u6_152, u7_167, u8_154, z2_155, cr, i2_156, k1, k2, j3_157, j4_158, rfl, h_159, h_160, (by rw [hpl]; show zRc _ _ _ _ _ _ _ _ _ _ _ (pEndL k q.1); rw [pEndL_e (fun z9 => by have := (pTk_2 hokQ hA1Q.2.2.2).mp z9.2; omega)]; exact zRc_brk h_161 h_168 h_169 h_170), (by rw [hpl]; exact zLc_l hAIQ h_162)⟩)
          · have c_164n : u4_150.toInt = (3 : Int) := (fa_eq _ _).mp c_164
            refine lv_aload_n hx hb dX7_readLine_78 rfl (lv_at hl 1 rfl) ?_
            refine z_Vv (bc := [[zO7 rd rl rdd rg u0_147 u1_148 tp r2 u3_149 u4_150 u5_151 u6_152 u7_153 u8_154], [zAr T 1 tp 600 ft]]) (br := [z2_155]) (As := []) (rest := []) C G (c_f_nextToken l T rd rl rdd rg tp u0_147 u1_148 r2 u3_149 u4_150 u5_151 u6_152 u7_153 u8_154 ft (pEn k q.1.1) n k t3Q hkaQ.1.2.2 hA1Q.1 hA1Q.2.2.1 hA1Q.2.1) (kV_RX7_71 C.2.2.2.2 (Nat.le_of_ble_eq_true rfl) (Nat.le_of_ble_eq_true rfl)) [0, 1] [0, 0] rfl rfl (ci := 7) (qc := (RX7, TX7, 13)) rfl rfl (List.mem_flatten.mpr ⟨_, List.mem_of_getElem? (i := 0) rfl, List.mem_cons_self⟩) rfl rfl hl.1 dX7_readLine_79 (Nat.le_of_ble_eq_true rfl) (Nat.le_of_ble_eq_true rfl) (fun b1 H locs hw G => ?_)
            refine zEx4 hw ?_
            intro u3_172 u4_173 u5_174 u6_175
            refine zCu2 ?_
            intro hbs9 h_176
            clear hw
            subst hbs9
            have G : zS T A s.heap s [z2_155, [zO7 rd rl rdd rg u0_147 u1_148 tp r2 u3_172 u4_173 u5_174 u6_175 u7_153 u8_154], [zAr T 1 tp 600 ft]] _ _ := G
            refine lv_goto (tgt := 89) hx hb dX7_readLine_82 (by decide) ?_
            have G := G.sub (bs' := [[zO7 rd rl rdd rg u0_147 u1_148 tp r2 u3_172 u4_173 u5_174 u6_175 u7_153 u8_154], [zAr T 1 tp 600 ft], z2_155]) [1, 2, 0] rfl
            exact z_back hQ9 (z_vret C hr hlocks G (Nat.le_of_ble_eq_true rfl) (Nat.le_of_ble_eq_true rfl) dX7_readLine_89 ⟨u0_147, u1_148, u3_172, u4_173, u5_174, u6_175, u7_153, u8_154, z2_155, cr, i2_156, k1, k2, j3_157, j4_158, rfl, h_159, h_160, (by rw [hpl]; show zRc _ _ _ _ _ _ _ _ _ _ _ (pEndL k q.1); rw [pEndL_a ⟨hbk, (pTk_2 hokQ hA1Q.2.2.2).mpr (by omega)⟩]; exact zRc_adv h_161 hbk h_176), (by rw [hpl]; exact zLc_l hAIQ h_162)⟩)
        · obtain ⟨p9, hp9, e9⟩ := hAEQ
          refine lv_aload_n hx hb dX7_readLine_70 rfl (lv_at hl 1 rfl) ?_
          refine z_get C G clX7 0 rfl 8 (by decide) m_fl_RX7_74 rfl dX7_readLine_71 ?_
          refine lv_iconst (v := 3) hx hb dX7_readLine_74 (by decide) ?_
          refine lv_icmp_ne (tgt := 85) hx hb dX7_readLine_75 (by decide) (fun c_178 => ?_) (fun c_178 => ?_)
          · have c_178n : ¬ u4_150.toInt = (3 : Int) := fun q => c_178 ((fa_eq _ _).mpr q)
            refine lv_aload_n hx hb dX7_readLine_85 rfl (lv_at hl 1 rfl) ?_
            refine z_Vv (bc := [[zO7 rd rl rdd rg u0_147 u1_148 tp r2 u3_149 u4_150 u5_151 u6_152 u7_153 u8_154]]) (br := [[zAr T 1 tp 600 ft], z2_155]) (As := []) (rest := []) C G (c_f_breakHere l T rd rl rdd rg tp u0_147 u1_148 r2 u3_149 u4_150 u5_151 u6_152 u7_153 u8_154) (kV_RX7_105 C.2.2.2.2 (Nat.le_of_ble_eq_true rfl) (Nat.le_of_ble_eq_true rfl)) [0] [0] rfl rfl (ci := 7) (qc := (RX7, TX7, 13)) rfl rfl (List.mem_flatten.mpr ⟨_, List.mem_of_getElem? (i := 0) rfl, List.mem_cons_self⟩) rfl rfl hl.1 dX7_readLine_86 (Nat.le_of_ble_eq_true rfl) (Nat.le_of_ble_eq_true rfl) (fun b1 H locs hw G => ?_)
            refine zEx3 hw ?_
            intro u0_179 u1_180 u7_181
            refine zCu4 ?_
            intro hbs9 h_182 h_183 h_184
            clear hw
            subst hbs9
            have G : zS T A s.heap s [[zAr T 1 tp 600 ft], z2_155, [zO7 rd rl rdd rg u0_179 u1_180 tp r2 u3_149 u4_150 u5_151 u6_152 u7_181 u8_154]] _ _ := G
            have G := G.sub (bs' := [[zO7 rd rl rdd rg u0_179 u1_180 tp r2 u3_149 u4_150 u5_151 u6_152 u7_181 u8_154], [zAr T 1 tp 600 ft], z2_155]) [2, 0, 1] rfl
            exact z_back hQ9 (z_vret C hr hlocks G (Nat.le_of_ble_eq_true rfl) (Nat.le_of_ble_eq_true rfl) dX7_readLine_89 ⟨u0_179, u1_180, u3_149, u4_150, u5_151, u6_152, u7_181, u8_154, z2_155, cr, i2_156, k1, k2, j3_157, j4_158, rfl, h_159, h_160, (by rw [hpl]; show zRc _ _ _ _ _ _ _ _ _ _ _ (pEndL k q.1); rw [pEndL_e (fun z9 => hbk z9.1)]; exact zRc_brk h_161 h_182 h_183 h_184), (by rw [hpl]; exact zLc_l hAIQ h_162)⟩)
          · have c_178n : u4_150.toInt = (3 : Int) := (fa_eq _ _).mp c_178
            refine lv_aload_n hx hb dX7_readLine_78 rfl (lv_at hl 1 rfl) ?_
            refine z_Vv (bc := [[zO7 rd rl rdd rg u0_147 u1_148 tp r2 u3_149 u4_150 u5_151 u6_152 u7_153 u8_154], [zAr T 1 tp 600 ft]]) (br := [z2_155]) (As := []) (rest := []) C G (c_f_nextToken l T rd rl rdd rg tp u0_147 u1_148 r2 u3_149 u4_150 u5_151 u6_152 u7_153 u8_154 ft p9 n k e9 hp9 hA1Q.1 hA1Q.2.2.1 hA1Q.2.1) (kV_RX7_71 C.2.2.2.2 (Nat.le_of_ble_eq_true rfl) (Nat.le_of_ble_eq_true rfl)) [0, 1] [0, 0] rfl rfl (ci := 7) (qc := (RX7, TX7, 13)) rfl rfl (List.mem_flatten.mpr ⟨_, List.mem_of_getElem? (i := 0) rfl, List.mem_cons_self⟩) rfl rfl hl.1 dX7_readLine_79 (Nat.le_of_ble_eq_true rfl) (Nat.le_of_ble_eq_true rfl) (fun b1 H locs hw G => ?_)
            refine zEx4 hw ?_
            intro u3_186 u4_187 u5_188 u6_189
            refine zCu2 ?_
            intro hbs9 h_190
            clear hw
            subst hbs9
            have G : zS T A s.heap s [z2_155, [zO7 rd rl rdd rg u0_147 u1_148 tp r2 u3_186 u4_187 u5_188 u6_189 u7_153 u8_154], [zAr T 1 tp 600 ft]] _ _ := G
            refine lv_goto (tgt := 89) hx hb dX7_readLine_82 (by decide) ?_
            have G := G.sub (bs' := [[zO7 rd rl rdd rg u0_147 u1_148 tp r2 u3_186 u4_187 u5_188 u6_189 u7_153 u8_154], [zAr T 1 tp 600 ft], z2_155]) [1, 2, 0] rfl
            exact z_back hQ9 (z_vret C hr hlocks G (Nat.le_of_ble_eq_true rfl) (Nat.le_of_ble_eq_true rfl) dX7_readLine_89 ⟨u0_147, u1_148, u3_186, u4_187, u5_188, u6_189, u7_153, u8_154, z2_155, cr, i2_156, k1, k2, j3_157, j4_158, rfl, h_159, h_160, (by rw [hpl]; show zRc _ _ _ _ _ _ _ _ _ _ _ (pEndL k q.1); rw [pEndL_e (fun z9 => hbk z9.1), pEnds_n hbk]; exact zRc_any h_161 hbk ⟨_, (hokQ p9 hp9).1.2.2, h_190.1⟩), (by rw [hpl]; exact zLc_l hAIQ h_162)⟩)
    · have c_11n : r_10.toInt = (-1 : Int) := (fa_eq _ _).mp c_11
      refine lv_aload_n hx hb dX7_readLine_23 rfl (lv_at hl 1 rfl) ?_
      refine z_Vv (bc := [[zO7 rd rl rdd rg r0 r1 tp r2 r3 r4 r5 r6 r7 r8]]) (br := [z, [zAr T 1 tp 600 ft]]) (As := []) (rest := []) C G (c_f_breakHere l T rd rl rdd rg tp r0 r1 r2 r3 r4 r5 r6 r7 r8) (kV_RX7_105 C.2.2.2.2 (Nat.le_of_ble_eq_true rfl) (Nat.le_of_ble_eq_true rfl)) [1] [1] rfl rfl (ci := 7) (qc := (RX7, TX7, 13)) rfl rfl (List.mem_flatten.mpr ⟨_, List.mem_of_getElem? (i := 0) rfl, List.mem_cons_self⟩) rfl rfl hl.1 dX7_readLine_24 (Nat.le_of_ble_eq_true rfl) (Nat.le_of_ble_eq_true rfl) (fun b1 H locs hw G => ?_)
      refine zEx3 hw ?_
      intro u0_192 u1_193 u7_194
      refine zCu4 ?_
      intro hbs9 h_195 h_196 h_197
      clear hw
      subst hbs9
      have G : zS T A s.heap s [z, [zAr T 1 tp 600 ft], [zO7 rd rl rdd rg u0_192 u1_193 tp r2 r3 r4 r5 r6 u7_194 r8]] _ _ := G
      have G := G.sub (bs' := [[zO7 rd rl rdd rg u0_192 u1_193 tp r2 r3 r4 r5 r6 u7_194 r8], [zAr T 1 tp 600 ft], z]) [2, 1, 0] rfl
      exact z_back hQ9 (z_vret C hr hlocks G (Nat.le_of_ble_eq_true rfl) (Nat.le_of_ble_eq_true rfl) dX7_readLine_27 ⟨u0_192, u1_193, r3, r4, r5, r6, u7_194, r8, z, cr, inn, k1, k2, k3, k4, rfl, hz, hI, (by rw [pLine_e hw (s := 0) (lo := 1) (hi := 4) (by decide) (Or.inr (zWc_n0 (by rw [← hwd]; omega)))]; exact zRc_brk hA h_195 h_196 h_197), (by rw [pLine_e hw (s := 0) (lo := 1) (hi := 4) (by decide) (Or.inr (zWc_n0 (by rw [← hwd]; omega)))]; exact zLc_e hAI)⟩)
set_option maxHeartbeats 4000000 in
set_option maxRecDepth 100000 in
/-- c_f_readLine1 -/
theorem c_f_readLine1 (l : Launch) (T : zTy) (rd : Nat) (rl : Nat) (rdd : Nat) (rg : Nat) (tp : Nat) (r0 : Int32) (r1 : Int32) (r2 : Int32) (r3 : Int32) (r4 : Int32) (r5 : Int32) (r6 : Int32) (r7 : Int32) (r8 : Int32) (ft : Nat → Int32) (dd : Int32) (d1 : Nat → Int32) (d2 : Nat → Int32) (d3 : Nat → Int32) (wd : va_W) (k : pT) (n : Nat) (a : pS) (f : Nat → Int32) (hA : zRc k n ft r0 r1 r2 r3 r4 r5 r6 r7 a) (hw : a.2.1.toInt = 0) (hd : bDay T rdd dd d1 d2 d3 wd) (hC : zDc dd d1 d2 d3 a f) : zMv l T yX7_readLine cX7_readLine 3 7 0 0 [.ref rd, .int 1] [[zO7 rd rl rdd rg r0 r1 tp r2 r3 r4 r5 r6 r7 r8], [zAr T 1 tp 600 ft], wd] (fun bs => ∃ (u0 : Int32) (u1 : Int32) (u3 : Int32) (u4 : Int32) (u5 : Int32) (u6 : Int32) (u7 : Int32) (u8 : Int32) (wd2 : va_W) (dd2 : Int32) (b1 : Nat → Int32) (b2 : Nat → Int32) (b3 : Nat → Int32), bs = [[zO7 rd rl rdd rg u0 u1 tp r2 u3 u4 u5 u6 u7 u8], [zAr T 1 tp 600 ft], wd2] ∧ bDay T rdd dd2 b1 b2 b3 wd2 ∧ zRc k n ft u0 u1 r2 u3 u4 u5 u6 u7 (pLine k 1 a f).1 ∧ zDc dd2 b1 b2 b3 (pLine k 1 a f).1 (pLine k 1 a f).2) := by
  refine zMv_of (own := RX7) (by decide) rfl (Nat.le_of_ble_eq_true rfl) ?_
  intro p e s m args below meth c A ls C hr hlocks hnm hAe G hl
  refine zHide (fun Q9 hQ9 => ?_)
  have hx := C.1
  have hb := C.2.1
  have hl : lv_has ls 3 [(0, .ref rd), (1, .int 1)] := hl
  have hok := zRc_ok hA
  obtain ⟨hA1, hA6, hA7, hA8, hA9, hAI, hAE⟩ := id hA
  have hka := hok a.1 hA1.2.2.2
  obtain ⟨t3, t4, t5, t6⟩ := hA7 hw
  have t4i : r4.toInt = (pCl k a.1 : Int) := by rw [t4]; exact nI_toInt (by omega)
  refine lv_aload_n hx hb dX7_readLine_0 rfl (lv_at hl 0 rfl) ?_
  refine z_get C G clX7 0 rfl 8 (by decide) m_fl_RX7_74 rfl dX7_readLine_1 ?_
  refine lv_iconst (v := 1) hx hb dX7_readLine_4 (by decide) ?_
  refine lv_icmp_ne (tgt := 16) hx hb dX7_readLine_5 (by decide) (fun c_1 => ?_) (fun c_1 => ?_)
  · have c_1n : ¬ r4.toInt = (1 : Int) := fun q => c_1 ((fa_eq _ _).mpr q)
    refine lv_iconst (v := (-1)) hx hb dX7_readLine_16 (by decide) ?_
    refine lv_istore_n (lv' := [(2, .int (-1)), (0, .ref rd), (1, .int 1)]) hx hb dX7_readLine_17 rfl hl (by decide) rfl (fun ls hl => ?_)
    refine lv_iload_n hx hb dX7_readLine_18 rfl (lv_at hl 0 rfl) ?_
    refine lv_iconst (v := (-1)) hx hb dX7_readLine_19 (by decide) ?_
    refine lv_icmp_ne (tgt := 28) hx hb dX7_readLine_20 (by decide) (fun q => absurd (by decide) q) (fun _ => ?_)
    refine lv_aload_n hx hb dX7_readLine_23 rfl (lv_at hl 1 rfl) ?_
    refine z_Vv (bc := [[zO7 rd rl rdd rg r0 r1 tp r2 r3 r4 r5 r6 r7 r8]]) (br := [[zAr T 1 tp 600 ft], wd]) (As := []) (rest := []) C G (c_f_breakHere l T rd rl rdd rg tp r0 r1 r2 r3 r4 r5 r6 r7 r8) (kV_RX7_105 C.2.2.2.2 (Nat.le_of_ble_eq_true rfl) (Nat.le_of_ble_eq_true rfl)) [0] [0] rfl rfl (ci := 7) (qc := (RX7, TX7, 13)) rfl rfl (List.mem_flatten.mpr ⟨_, List.mem_of_getElem? (i := 0) rfl, List.mem_cons_self⟩) rfl rfl hl.1 dX7_readLine_24 (Nat.le_of_ble_eq_true rfl) (Nat.le_of_ble_eq_true rfl) (fun b1 H locs hw G => ?_)
    refine zEx3 hw ?_
    intro u0_2 u1_3 u7_4
    refine zCu4 ?_
    intro hbs9 h_5 h_6 h_7
    clear hw
    subst hbs9
    have G : zS T A s.heap s [[zAr T 1 tp 600 ft], wd, [zO7 rd rl rdd rg u0_2 u1_3 tp r2 r3 r4 r5 r6 u7_4 r8]] _ _ := G
    have G := G.sub (bs' := [[zO7 rd rl rdd rg u0_2 u1_3 tp r2 r3 r4 r5 r6 u7_4 r8], [zAr T 1 tp 600 ft], wd]) [2, 0, 1] rfl
    exact z_back hQ9 (z_vret C hr hlocks G (Nat.le_of_ble_eq_true rfl) (Nat.le_of_ble_eq_true rfl) dX7_readLine_27 ⟨u0_2, u1_3, r3, r4, r5, r6, u7_4, r8, wd, dd, d1, d2, d3, rfl, hd, (by rw [pLine_e hw (s := 1) (lo := 5) (hi := 10) (by decide) (Or.inl (fun q9 => by have := pTk_3 q9; omega))]; exact zRc_brk hA h_5 h_6 h_7), (by rw [pLine_e hw (s := 1) (lo := 5) (hi := 10) (by decide) (Or.inl (fun q9 => by have := pTk_3 q9; omega))]; exact zDc_e hAI)⟩)
  · have c_1n : r4.toInt = (1 : Int) := (fa_eq _ _).mp c_1
    refine lv_aload_n hx hb dX7_readLine_8 rfl (lv_at hl 0 rfl) ?_
    refine lv_iload_n hx hb dX7_readLine_9 rfl (lv_at hl 1 rfl) ?_
    refine z_Vi (bc := [[zO7 rd rl rdd rg r0 r1 tp r2 r3 r4 r5 r6 r7 r8], [zAr T 1 tp 600 ft]]) (br := [wd]) (As := [.int 1]) (rest := []) C G (c_f_wordOf1 l T rd rl rdd rg tp r0 r1 r2 r3 r4 r5 r6 r7 r8 ft (pWh k a.1) (pEn k a.1) n t3 t5 hka.1.2.1 hka.1.2.2 hA1.2.2.1 hA1.2.1) (kV_RX7_101 C.2.2.2.2 (Nat.le_of_ble_eq_true rfl) (Nat.le_of_ble_eq_true rfl)) [0, 1] [0, 0] rfl rfl (ci := 7) (qc := (RX7, TX7, 13)) rfl rfl (List.mem_flatten.mpr ⟨_, List.mem_of_getElem? (i := 0) rfl, List.mem_cons_self⟩) rfl rfl hl.1 dX7_readLine_10 (Nat.le_of_ble_eq_true rfl) (Nat.le_of_ble_eq_true rfl) (fun r_10 b1 H locs hw G => ?_)
    refine zAn2 hw ?_
    intro hbs9 h_9
    clear hw
    subst hbs9
    have G : zS T A s.heap s [wd, [zO7 rd rl rdd rg r0 r1 tp r2 r3 r4 r5 r6 r7 r8], [zAr T 1 tp 600 ft]] _ _ := G
    have hcl : pCl k a.1 = 1 := by omega
    have hwd : r_10 = zWc 1 (pWd k a.1) := by rw [pWd_eq hA1.1 hcl]; exact h_9
    refine lv_goto (tgt := 17) hx hb dX7_readLine_13 (by decide) ?_
    refine lv_istore_n (lv' := [(2, .int r_10), (0, .ref rd), (1, .int 1)]) hx hb dX7_readLine_17 rfl hl (by decide) rfl (fun ls hl => ?_)
    refine lv_iload_n hx hb dX7_readLine_18 rfl (lv_at hl 0 rfl) ?_
    refine lv_iconst (v := (-1)) hx hb dX7_readLine_19 (by decide) ?_
    refine lv_icmp_ne (tgt := 28) hx hb dX7_readLine_20 (by decide) (fun c_11 => ?_) (fun c_11 => ?_)
    · have c_11n : ¬ r_10.toInt = (-1 : Int) := fun q => c_11 ((fa_eq _ _).mpr q)
      have hwy := zWc_y1 (wd := pWd k a.1) (by rw [← hwd]; omega)
      have hwi : r_10.toInt = (pWd k a.1 : Int) - 5 := by rw [hwd]; exact hwy.2.1
      have hwr := hwy.1
      have ht3 : pTk k a.1 = 3 := pTk_3w hcl (by omega)
      have hwx : r_10 = nI (pWd k a.1) - 5 := hwd.trans hwy.2.2
      refine lv_iload_n hx hb dX7_readLine_28 rfl (lv_at hl 2 rfl) ?_
      refine lv_iconst (v := 1) hx hb dX7_readLine_29 (by decide) ?_
      refine lv_icmp_ne (tgt := 41) hx hb dX7_readLine_30 (by decide) (fun q => absurd (by decide) q) (fun _ => ?_)
      refine lv_aload_n hx hb dX7_readLine_33 rfl (lv_at hl 1 rfl) ?_
      refine lv_iload_n hx hb dX7_readLine_34 rfl (lv_at hl 0 rfl) ?_
      refine z_Vv (bc := [[zO7 rd rl rdd rg r0 r1 tp r2 r3 r4 r5 r6 r7 r8], [zAr T 1 tp 600 ft], wd]) (br := []) (As := [.int r_10]) (rest := []) C G (c_f_readDeed l T rd rl rdd rg tp r0 r1 r2 r3 r4 r5 r6 r7 r8 ft dd d1 d2 d3 wd k n a f (pWd k a.1) r_10 hA hw hcl hd hC hwr hwx hwi) (kV_RX7_108 C.2.2.2.2 (Nat.le_of_ble_eq_true rfl) (Nat.le_of_ble_eq_true rfl)) [1, 2, 0] [0, 0, 0] rfl rfl (ci := 7) (qc := (RX7, TX7, 13)) rfl rfl (List.mem_flatten.mpr ⟨_, List.mem_of_getElem? (i := 0) rfl, List.mem_cons_self⟩) rfl rfl hl.1 dX7_readLine_35 (Nat.le_of_ble_eq_true rfl) (Nat.le_of_ble_eq_true rfl) (fun b1 H locs hw G => ?_)
      refine zEx12 hw ?_
      intro u0_12 u1_13 u3_14 u4_15 u5_16 u6_17 u7_18 wd2_19 dd2_20 b1_21 b2_22 b3_23
      refine zCu4 ?_
      intro hbs9 h_24 h_25 h_26
      clear hw
      subst hbs9
      have G : zS T A s.heap s [[zO7 rd rl rdd rg u0_12 u1_13 tp r2 u3_14 u4_15 u5_16 u6_17 u7_18 r8], [zAr T 1 tp 600 ft], wd2_19] _ _ := G
      obtain ⟨q, hq⟩ : ∃ q, q = pDeed k (pWd k a.1) (nI (pWh k a.1)) (pAdv k a) f := ⟨_, rfl⟩
      rw [← hq] at h_25 h_26
      have hpl : pLine k 1 a f = (pEndL k q.1, q.2) := pLine_d hw ht3 hwr hq
      have hokQ := zRc_ok h_25
      obtain ⟨hA1Q, hA6Q, hA7Q, hA8Q, hA9Q, hAIQ, hAEQ⟩ := id h_25
      have hkaQ := hokQ q.1.1 hA1Q.2.2.2
      refine lv_goto (tgt := 70) hx hb dX7_readLine_38 (by decide) ?_
      rcases (Decidable.em (q.1.2.1.toInt = 0)) with hbk | hbk
      · obtain ⟨t3Q, t4Q, t5Q, t6Q⟩ := hA7Q hbk
        have t4iQ : u4_15.toInt = (pCl k q.1.1 : Int) := by rw [t4Q]; exact nI_toInt (by omega)
        refine lv_aload_n hx hb dX7_readLine_70 rfl (lv_at hl 1 rfl) ?_
        refine z_get C G clX7 0 rfl 8 (by decide) m_fl_RX7_74 rfl dX7_readLine_71 ?_
        refine lv_iconst (v := 3) hx hb dX7_readLine_74 (by decide) ?_
        refine lv_icmp_ne (tgt := 85) hx hb dX7_readLine_75 (by decide) (fun c_28 => ?_) (fun c_28 => ?_)
        · have c_28n : ¬ u4_15.toInt = (3 : Int) := fun q => c_28 ((fa_eq _ _).mpr q)
          refine lv_aload_n hx hb dX7_readLine_85 rfl (lv_at hl 1 rfl) ?_
          refine z_Vv (bc := [[zO7 rd rl rdd rg u0_12 u1_13 tp r2 u3_14 u4_15 u5_16 u6_17 u7_18 r8]]) (br := [[zAr T 1 tp 600 ft], wd2_19]) (As := []) (rest := []) C G (c_f_breakHere l T rd rl rdd rg tp u0_12 u1_13 r2 u3_14 u4_15 u5_16 u6_17 u7_18 r8) (kV_RX7_105 C.2.2.2.2 (Nat.le_of_ble_eq_true rfl) (Nat.le_of_ble_eq_true rfl)) [0] [0] rfl rfl (ci := 7) (qc := (RX7, TX7, 13)) rfl rfl (List.mem_flatten.mpr ⟨_, List.mem_of_getElem? (i := 0) rfl, List.mem_cons_self⟩) rfl rfl hl.1 dX7_readLine_86 (Nat.le_of_ble_eq_true rfl) (Nat.le_of_ble_eq_true rfl) (fun b1 H locs hw G => ?_)
          refine zEx3 hw ?_
          intro u0_29 u1_30 u7_31
          refine zCu4 ?_
          intro hbs9 h_32 h_33 h_34
          clear hw
          subst hbs9
          have G : zS T A s.heap s [[zAr T 1 tp 600 ft], wd2_19, [zO7 rd rl rdd rg u0_29 u1_30 tp r2 u3_14 u4_15 u5_16 u6_17 u7_31 r8]] _ _ := G
          have G := G.sub (bs' := [[zO7 rd rl rdd rg u0_29 u1_30 tp r2 u3_14 u4_15 u5_16 u6_17 u7_31 r8], [zAr T 1 tp 600 ft], wd2_19]) [2, 0, 1] rfl
          exact z_back hQ9 (z_vret C hr hlocks G (Nat.le_of_ble_eq_true rfl) (Nat.le_of_ble_eq_true rfl) dX7_readLine_89 ⟨u0_29, u1_30, u3_14, u4_15, u5_16, u6_17, u7_31, r8, wd2_19, dd2_20, b1_21, b2_22, b3_23, rfl, h_24, (by rw [hpl]; show zRc _ _ _ _ _ _ _ _ _ _ _ (pEndL k q.1); rw [pEndL_e (fun z9 => by have := (pTk_2 hokQ hA1Q.2.2.2).mp z9.2; omega)]; exact zRc_brk h_25 h_32 h_33 h_34), (by rw [hpl]; exact zDc_l hAIQ h_26)⟩)
        · have c_28n : u4_15.toInt = (3 : Int) := (fa_eq _ _).mp c_28
          refine lv_aload_n hx hb dX7_readLine_78 rfl (lv_at hl 1 rfl) ?_
          refine z_Vv (bc := [[zO7 rd rl rdd rg u0_12 u1_13 tp r2 u3_14 u4_15 u5_16 u6_17 u7_18 r8], [zAr T 1 tp 600 ft]]) (br := [wd2_19]) (As := []) (rest := []) C G (c_f_nextToken l T rd rl rdd rg tp u0_12 u1_13 r2 u3_14 u4_15 u5_16 u6_17 u7_18 r8 ft (pEn k q.1.1) n k t3Q hkaQ.1.2.2 hA1Q.1 hA1Q.2.2.1 hA1Q.2.1) (kV_RX7_71 C.2.2.2.2 (Nat.le_of_ble_eq_true rfl) (Nat.le_of_ble_eq_true rfl)) [0, 1] [0, 0] rfl rfl (ci := 7) (qc := (RX7, TX7, 13)) rfl rfl (List.mem_flatten.mpr ⟨_, List.mem_of_getElem? (i := 0) rfl, List.mem_cons_self⟩) rfl rfl hl.1 dX7_readLine_79 (Nat.le_of_ble_eq_true rfl) (Nat.le_of_ble_eq_true rfl) (fun b1 H locs hw G => ?_)
          refine zEx4 hw ?_
          intro u3_36 u4_37 u5_38 u6_39
          refine zCu2 ?_
          intro hbs9 h_40
          clear hw
          subst hbs9
          have G : zS T A s.heap s [wd2_19, [zO7 rd rl rdd rg u0_12 u1_13 tp r2 u3_36 u4_37 u5_38 u6_39 u7_18 r8], [zAr T 1 tp 600 ft]] _ _ := G
          refine lv_goto (tgt := 89) hx hb dX7_readLine_82 (by decide) ?_
          have G := G.sub (bs' := [[zO7 rd rl rdd rg u0_12 u1_13 tp r2 u3_36 u4_37 u5_38 u6_39 u7_18 r8], [zAr T 1 tp 600 ft], wd2_19]) [1, 2, 0] rfl
          exact z_back hQ9 (z_vret C hr hlocks G (Nat.le_of_ble_eq_true rfl) (Nat.le_of_ble_eq_true rfl) dX7_readLine_89 ⟨u0_12, u1_13, u3_36, u4_37, u5_38, u6_39, u7_18, r8, wd2_19, dd2_20, b1_21, b2_22, b3_23, rfl, h_24, (by rw [hpl]; show zRc _ _ _ _ _ _ _ _ _ _ _ (pEndL k q.1); rw [pEndL_a ⟨hbk, (pTk_2 hokQ hA1Q.2.2.2).mpr (by omega)⟩]; exact zRc_adv h_25 hbk h_40), (by rw [hpl]; exact zDc_l hAIQ h_26)⟩)
      · obtain ⟨p9, hp9, e9⟩ := hAEQ
        refine lv_aload_n hx hb dX7_readLine_70 rfl (lv_at hl 1 rfl) ?_
        refine z_get C G clX7 0 rfl 8 (by decide) m_fl_RX7_74 rfl dX7_readLine_71 ?_
        refine lv_iconst (v := 3) hx hb dX7_readLine_74 (by decide) ?_
        refine lv_icmp_ne (tgt := 85) hx hb dX7_readLine_75 (by decide) (fun c_42 => ?_) (fun c_42 => ?_)
        · have c_42n : ¬ u4_15.toInt = (3 : Int) := fun q => c_42 ((fa_eq _ _).mpr q)
          refine lv_aload_n hx hb dX7_readLine_85 rfl (lv_at hl 1 rfl) ?_
          refine z_Vv (bc := [[zO7 rd rl rdd rg u0_12 u1_13 tp r2 u3_14 u4_15 u5_16 u6_17 u7_18 r8]]) (br := [[zAr T 1 tp 600 ft], wd2_19]) (As := []) (rest := []) C G (c_f_breakHere l T rd rl rdd rg tp u0_12 u1_13 r2 u3_14 u4_15 u5_16 u6_17 u7_18 r8) (kV_RX7_105 C.2.2.2.2 (Nat.le_of_ble_eq_true rfl) (Nat.le_of_ble_eq_true rfl)) [0] [0] rfl rfl (ci := 7) (qc := (RX7, TX7, 13)) rfl rfl (List.mem_flatten.mpr ⟨_, List.mem_of_getElem? (i := 0) rfl, List.mem_cons_self⟩) rfl rfl hl.1 dX7_readLine_86 (Nat.le_of_ble_eq_true rfl) (Nat.le_of_ble_eq_true rfl) (fun b1 H locs hw G => ?_)
          refine zEx3 hw ?_
          intro u0_43 u1_44 u7_45
          refine zCu4 ?_
          intro hbs9 h_46 h_47 h_48
          clear hw
          subst hbs9
          have G : zS T A s.heap s [[zAr T 1 tp 600 ft], wd2_19, [zO7 rd rl rdd rg u0_43 u1_44 tp r2 u3_14 u4_15 u5_16 u6_17 u7_45 r8]] _ _ := G
          have G := G.sub (bs' := [[zO7 rd rl rdd rg u0_43 u1_44 tp r2 u3_14 u4_15 u5_16 u6_17 u7_45 r8], [zAr T 1 tp 600 ft], wd2_19]) [2, 0, 1] rfl
          exact z_back hQ9 (z_vret C hr hlocks G (Nat.le_of_ble_eq_true rfl) (Nat.le_of_ble_eq_true rfl) dX7_readLine_89 ⟨u0_43, u1_44, u3_14, u4_15, u5_16, u6_17, u7_45, r8, wd2_19, dd2_20, b1_21, b2_22, b3_23, rfl, h_24, (by rw [hpl]; show zRc _ _ _ _ _ _ _ _ _ _ _ (pEndL k q.1); rw [pEndL_e (fun z9 => hbk z9.1)]; exact zRc_brk h_25 h_46 h_47 h_48), (by rw [hpl]; exact zDc_l hAIQ h_26)⟩)
        · have c_42n : u4_15.toInt = (3 : Int) := (fa_eq _ _).mp c_42
          refine lv_aload_n hx hb dX7_readLine_78 rfl (lv_at hl 1 rfl) ?_
          refine z_Vv (bc := [[zO7 rd rl rdd rg u0_12 u1_13 tp r2 u3_14 u4_15 u5_16 u6_17 u7_18 r8], [zAr T 1 tp 600 ft]]) (br := [wd2_19]) (As := []) (rest := []) C G (c_f_nextToken l T rd rl rdd rg tp u0_12 u1_13 r2 u3_14 u4_15 u5_16 u6_17 u7_18 r8 ft p9 n k e9 hp9 hA1Q.1 hA1Q.2.2.1 hA1Q.2.1) (kV_RX7_71 C.2.2.2.2 (Nat.le_of_ble_eq_true rfl) (Nat.le_of_ble_eq_true rfl)) [0, 1] [0, 0] rfl rfl (ci := 7) (qc := (RX7, TX7, 13)) rfl rfl (List.mem_flatten.mpr ⟨_, List.mem_of_getElem? (i := 0) rfl, List.mem_cons_self⟩) rfl rfl hl.1 dX7_readLine_79 (Nat.le_of_ble_eq_true rfl) (Nat.le_of_ble_eq_true rfl) (fun b1 H locs hw G => ?_)
          refine zEx4 hw ?_
          intro u3_50 u4_51 u5_52 u6_53
          refine zCu2 ?_
          intro hbs9 h_54
          clear hw
          subst hbs9
          have G : zS T A s.heap s [wd2_19, [zO7 rd rl rdd rg u0_12 u1_13 tp r2 u3_50 u4_51 u5_52 u6_53 u7_18 r8], [zAr T 1 tp 600 ft]] _ _ := G
          refine lv_goto (tgt := 89) hx hb dX7_readLine_82 (by decide) ?_
          have G := G.sub (bs' := [[zO7 rd rl rdd rg u0_12 u1_13 tp r2 u3_50 u4_51 u5_52 u6_53 u7_18 r8], [zAr T 1 tp 600 ft], wd2_19]) [1, 2, 0] rfl
          exact z_back hQ9 (z_vret C hr hlocks G (Nat.le_of_ble_eq_true rfl) (Nat.le_of_ble_eq_true rfl) dX7_readLine_89 ⟨u0_12, u1_13, u3_50, u4_51, u5_52, u6_53, u7_18, r8, wd2_19, dd2_20, b1_21, b2_22, b3_23, rfl, h_24, (by rw [hpl]; show zRc _ _ _ _ _ _ _ _ _ _ _ (pEndL k q.1); rw [pEndL_e (fun z9 => hbk z9.1), pEnds_n hbk]; exact zRc_any h_25 hbk ⟨_, (hokQ p9 hp9).1.2.2, h_54.1⟩), (by rw [hpl]; exact zDc_l hAIQ h_26)⟩)
    · have c_11n : r_10.toInt = (-1 : Int) := (fa_eq _ _).mp c_11
      refine lv_aload_n hx hb dX7_readLine_23 rfl (lv_at hl 1 rfl) ?_
      refine z_Vv (bc := [[zO7 rd rl rdd rg r0 r1 tp r2 r3 r4 r5 r6 r7 r8]]) (br := [wd, [zAr T 1 tp 600 ft]]) (As := []) (rest := []) C G (c_f_breakHere l T rd rl rdd rg tp r0 r1 r2 r3 r4 r5 r6 r7 r8) (kV_RX7_105 C.2.2.2.2 (Nat.le_of_ble_eq_true rfl) (Nat.le_of_ble_eq_true rfl)) [1] [1] rfl rfl (ci := 7) (qc := (RX7, TX7, 13)) rfl rfl (List.mem_flatten.mpr ⟨_, List.mem_of_getElem? (i := 0) rfl, List.mem_cons_self⟩) rfl rfl hl.1 dX7_readLine_24 (Nat.le_of_ble_eq_true rfl) (Nat.le_of_ble_eq_true rfl) (fun b1 H locs hw G => ?_)
      refine zEx3 hw ?_
      intro u0_56 u1_57 u7_58
      refine zCu4 ?_
      intro hbs9 h_59 h_60 h_61
      clear hw
      subst hbs9
      have G : zS T A s.heap s [wd, [zAr T 1 tp 600 ft], [zO7 rd rl rdd rg u0_56 u1_57 tp r2 r3 r4 r5 r6 u7_58 r8]] _ _ := G
      have G := G.sub (bs' := [[zO7 rd rl rdd rg u0_56 u1_57 tp r2 r3 r4 r5 r6 u7_58 r8], [zAr T 1 tp 600 ft], wd]) [2, 1, 0] rfl
      exact z_back hQ9 (z_vret C hr hlocks G (Nat.le_of_ble_eq_true rfl) (Nat.le_of_ble_eq_true rfl) dX7_readLine_27 ⟨u0_56, u1_57, r3, r4, r5, r6, u7_58, r8, wd, dd, d1, d2, d3, rfl, hd, (by rw [pLine_e hw (s := 1) (lo := 5) (hi := 10) (by decide) (Or.inr (zWc_n1 (by rw [← hwd]; omega)))]; exact zRc_brk hA h_59 h_60 h_61), (by rw [pLine_e hw (s := 1) (lo := 5) (hi := 10) (by decide) (Or.inr (zWc_n1 (by rw [← hwd]; omega)))]; exact zDc_e hAI)⟩)
set_option maxHeartbeats 4000000 in
set_option maxRecDepth 100000 in
/-- c_f_readLine2 -/
theorem c_f_readLine2 (l : Launch) (T : zTy) (rd : Nat) (rl : Nat) (rdd : Nat) (rg : Nat) (tp : Nat) (r0 : Int32) (r1 : Int32) (r2 : Int32) (r3 : Int32) (r4 : Int32) (r5 : Int32) (r6 : Int32) (r7 : Int32) (r8 : Int32) (ft : Nat → Int32) (gg : Int32) (e1 : Nat → Int32) (e2 : Nat → Int32) (wg : va_W) (k : pT) (n : Nat) (a : pS) (f : Nat → Int32) (hA : zRc k n ft r0 r1 r2 r3 r4 r5 r6 r7 a) (hw : a.2.1.toInt = 0) (hg : bLog T rg gg e1 e2 wg) (hC : zGc gg e1 e2 a f) : zMv l T yX7_readLine cX7_readLine 3 7 0 0 [.ref rd, .int 2] [[zO7 rd rl rdd rg r0 r1 tp r2 r3 r4 r5 r6 r7 r8], [zAr T 1 tp 600 ft], wg] (fun bs => ∃ (u0 : Int32) (u1 : Int32) (u3 : Int32) (u4 : Int32) (u5 : Int32) (u6 : Int32) (u7 : Int32) (u8 : Int32) (wg2 : va_W) (gg2 : Int32) (b4 : Nat → Int32) (b5 : Nat → Int32), bs = [[zO7 rd rl rdd rg u0 u1 tp r2 u3 u4 u5 u6 u7 u8], [zAr T 1 tp 600 ft], wg2] ∧ bLog T rg gg2 b4 b5 wg2 ∧ zRc k n ft u0 u1 r2 u3 u4 u5 u6 u7 (pLine k 2 a f).1 ∧ zGc gg2 b4 b5 (pLine k 2 a f).1 (pLine k 2 a f).2) := by
  refine zMv_of (own := RX7) (by decide) rfl (Nat.le_of_ble_eq_true rfl) ?_
  intro p e s m args below meth c A ls C hr hlocks hnm hAe G hl
  refine zHide (fun Q9 hQ9 => ?_)
  have hx := C.1
  have hb := C.2.1
  have hl : lv_has ls 3 [(0, .ref rd), (1, .int 2)] := hl
  have hok := zRc_ok hA
  obtain ⟨hA1, hA6, hA7, hA8, hA9, hAI, hAE⟩ := id hA
  have hka := hok a.1 hA1.2.2.2
  obtain ⟨t3, t4, t5, t6⟩ := hA7 hw
  have t4i : r4.toInt = (pCl k a.1 : Int) := by rw [t4]; exact nI_toInt (by omega)
  refine lv_aload_n hx hb dX7_readLine_0 rfl (lv_at hl 0 rfl) ?_
  refine z_get C G clX7 0 rfl 8 (by decide) m_fl_RX7_74 rfl dX7_readLine_1 ?_
  refine lv_iconst (v := 1) hx hb dX7_readLine_4 (by decide) ?_
  refine lv_icmp_ne (tgt := 16) hx hb dX7_readLine_5 (by decide) (fun c_1 => ?_) (fun c_1 => ?_)
  · have c_1n : ¬ r4.toInt = (1 : Int) := fun q => c_1 ((fa_eq _ _).mpr q)
    refine lv_iconst (v := (-1)) hx hb dX7_readLine_16 (by decide) ?_
    refine lv_istore_n (lv' := [(2, .int (-1)), (0, .ref rd), (1, .int 2)]) hx hb dX7_readLine_17 rfl hl (by decide) rfl (fun ls hl => ?_)
    refine lv_iload_n hx hb dX7_readLine_18 rfl (lv_at hl 0 rfl) ?_
    refine lv_iconst (v := (-1)) hx hb dX7_readLine_19 (by decide) ?_
    refine lv_icmp_ne (tgt := 28) hx hb dX7_readLine_20 (by decide) (fun q => absurd (by decide) q) (fun _ => ?_)
    refine lv_aload_n hx hb dX7_readLine_23 rfl (lv_at hl 1 rfl) ?_
    refine z_Vv (bc := [[zO7 rd rl rdd rg r0 r1 tp r2 r3 r4 r5 r6 r7 r8]]) (br := [[zAr T 1 tp 600 ft], wg]) (As := []) (rest := []) C G (c_f_breakHere l T rd rl rdd rg tp r0 r1 r2 r3 r4 r5 r6 r7 r8) (kV_RX7_105 C.2.2.2.2 (Nat.le_of_ble_eq_true rfl) (Nat.le_of_ble_eq_true rfl)) [0] [0] rfl rfl (ci := 7) (qc := (RX7, TX7, 13)) rfl rfl (List.mem_flatten.mpr ⟨_, List.mem_of_getElem? (i := 0) rfl, List.mem_cons_self⟩) rfl rfl hl.1 dX7_readLine_24 (Nat.le_of_ble_eq_true rfl) (Nat.le_of_ble_eq_true rfl) (fun b1 H locs hw G => ?_)
    refine zEx3 hw ?_
    intro u0_2 u1_3 u7_4
    refine zCu4 ?_
    intro hbs9 h_5 h_6 h_7
    clear hw
    subst hbs9
    have G : zS T A s.heap s [[zAr T 1 tp 600 ft], wg, [zO7 rd rl rdd rg u0_2 u1_3 tp r2 r3 r4 r5 r6 u7_4 r8]] _ _ := G
    have G := G.sub (bs' := [[zO7 rd rl rdd rg u0_2 u1_3 tp r2 r3 r4 r5 r6 u7_4 r8], [zAr T 1 tp 600 ft], wg]) [2, 0, 1] rfl
    exact z_back hQ9 (z_vret C hr hlocks G (Nat.le_of_ble_eq_true rfl) (Nat.le_of_ble_eq_true rfl) dX7_readLine_27 ⟨u0_2, u1_3, r3, r4, r5, r6, u7_4, r8, wg, gg, e1, e2, rfl, hg, (by rw [pLine_e hw (s := 2) (lo := 11) (hi := 12) (by decide) (Or.inl (fun q9 => by have := pTk_3 q9; omega))]; exact zRc_brk hA h_5 h_6 h_7), (by rw [pLine_e hw (s := 2) (lo := 11) (hi := 12) (by decide) (Or.inl (fun q9 => by have := pTk_3 q9; omega))]; exact zGc_e hAI)⟩)
  · have c_1n : r4.toInt = (1 : Int) := (fa_eq _ _).mp c_1
    refine lv_aload_n hx hb dX7_readLine_8 rfl (lv_at hl 0 rfl) ?_
    refine lv_iload_n hx hb dX7_readLine_9 rfl (lv_at hl 1 rfl) ?_
    refine z_Vi (bc := [[zO7 rd rl rdd rg r0 r1 tp r2 r3 r4 r5 r6 r7 r8], [zAr T 1 tp 600 ft]]) (br := [wg]) (As := [.int 2]) (rest := []) C G (c_f_wordOf2 l T rd rl rdd rg tp r0 r1 r2 r3 r4 r5 r6 r7 r8 ft (pWh k a.1) (pEn k a.1) n t3 t5 hka.1.2.1 hka.1.2.2 hA1.2.2.1 hA1.2.1) (kV_RX7_101 C.2.2.2.2 (Nat.le_of_ble_eq_true rfl) (Nat.le_of_ble_eq_true rfl)) [0, 1] [0, 0] rfl rfl (ci := 7) (qc := (RX7, TX7, 13)) rfl rfl (List.mem_flatten.mpr ⟨_, List.mem_of_getElem? (i := 0) rfl, List.mem_cons_self⟩) rfl rfl hl.1 dX7_readLine_10 (Nat.le_of_ble_eq_true rfl) (Nat.le_of_ble_eq_true rfl) (fun r_10 b1 H locs hw G => ?_)
    refine zAn2 hw ?_
    intro hbs9 h_9
    clear hw
    subst hbs9
    have G : zS T A s.heap s [wg, [zO7 rd rl rdd rg r0 r1 tp r2 r3 r4 r5 r6 r7 r8], [zAr T 1 tp 600 ft]] _ _ := G
    have hcl : pCl k a.1 = 1 := by omega
    have hwd : r_10 = zWc 2 (pWd k a.1) := by rw [pWd_eq hA1.1 hcl]; exact h_9
    refine lv_goto (tgt := 17) hx hb dX7_readLine_13 (by decide) ?_
    refine lv_istore_n (lv' := [(2, .int r_10), (0, .ref rd), (1, .int 2)]) hx hb dX7_readLine_17 rfl hl (by decide) rfl (fun ls hl => ?_)
    refine lv_iload_n hx hb dX7_readLine_18 rfl (lv_at hl 0 rfl) ?_
    refine lv_iconst (v := (-1)) hx hb dX7_readLine_19 (by decide) ?_
    refine lv_icmp_ne (tgt := 28) hx hb dX7_readLine_20 (by decide) (fun c_11 => ?_) (fun c_11 => ?_)
    · have c_11n : ¬ r_10.toInt = (-1 : Int) := fun q => c_11 ((fa_eq _ _).mpr q)
      have hwy := zWc_y2 (wd := pWd k a.1) (by rw [← hwd]; omega)
      have hwi : r_10.toInt = (pWd k a.1 : Int) - 11 := by rw [hwd]; exact hwy.2
      have hwr := hwy.1
      have ht3 : pTk k a.1 = 3 := pTk_3w hcl (by omega)
      refine lv_iload_n hx hb dX7_readLine_28 rfl (lv_at hl 2 rfl) ?_
      refine lv_iconst (v := 1) hx hb dX7_readLine_29 (by decide) ?_
      refine lv_icmp_ne (tgt := 41) hx hb dX7_readLine_30 (by decide) (fun _ => ?_) (fun q => absurd q (by decide))
      refine lv_iload_n hx hb dX7_readLine_41 rfl (lv_at hl 2 rfl) ?_
      refine lv_iconst (v := 2) hx hb dX7_readLine_42 (by decide) ?_
      refine lv_icmp_ne (tgt := 54) hx hb dX7_readLine_43 (by decide) (fun q => absurd (by decide) q) (fun _ => ?_)
      refine lv_aload_n hx hb dX7_readLine_46 rfl (lv_at hl 1 rfl) ?_
      refine lv_iload_n hx hb dX7_readLine_47 rfl (lv_at hl 0 rfl) ?_
      refine z_Vv (bc := [[zO7 rd rl rdd rg r0 r1 tp r2 r3 r4 r5 r6 r7 r8], [zAr T 1 tp 600 ft], wg]) (br := []) (As := [.int r_10]) (rest := []) C G (c_f_readFact l T rd rl rdd rg tp r0 r1 r2 r3 r4 r5 r6 r7 r8 ft gg e1 e2 wg k n a f (pWd k a.1) r_10 hA hw hcl hg hC hwr hwi) (kV_RX7_111 C.2.2.2.2 (Nat.le_of_ble_eq_true rfl) (Nat.le_of_ble_eq_true rfl)) [1, 2, 0] [0, 0, 0] rfl rfl (ci := 7) (qc := (RX7, TX7, 13)) rfl rfl (List.mem_flatten.mpr ⟨_, List.mem_of_getElem? (i := 0) rfl, List.mem_cons_self⟩) rfl rfl hl.1 dX7_readLine_48 (Nat.le_of_ble_eq_true rfl) (Nat.le_of_ble_eq_true rfl) (fun b1 H locs hw G => ?_)
      refine zEx11 hw ?_
      intro u0_12 u1_13 u3_14 u4_15 u5_16 u6_17 u7_18 wg2_19 gg2_20 b1_21 b2_22
      refine zCu4 ?_
      intro hbs9 h_23 h_24 h_25
      clear hw
      subst hbs9
      have G : zS T A s.heap s [[zO7 rd rl rdd rg u0_12 u1_13 tp r2 u3_14 u4_15 u5_16 u6_17 u7_18 r8], [zAr T 1 tp 600 ft], wg2_19] _ _ := G
      obtain ⟨q, hq⟩ : ∃ q, q = pFact k (pWd k a.1) (nI (pWh k a.1)) (pAdv k a) f := ⟨_, rfl⟩
      rw [← hq] at h_24 h_25
      have hpl : pLine k 2 a f = (pEndL k q.1, q.2) := pLine_f hw ht3 hwr hq
      have hokQ := zRc_ok h_24
      obtain ⟨hA1Q, hA6Q, hA7Q, hA8Q, hA9Q, hAIQ, hAEQ⟩ := id h_24
      have hkaQ := hokQ q.1.1 hA1Q.2.2.2
      refine lv_goto (tgt := 70) hx hb dX7_readLine_51 (by decide) ?_
      rcases (Decidable.em (q.1.2.1.toInt = 0)) with hbk | hbk
      · obtain ⟨t3Q, t4Q, t5Q, t6Q⟩ := hA7Q hbk
        have t4iQ : u4_15.toInt = (pCl k q.1.1 : Int) := by rw [t4Q]; exact nI_toInt (by omega)
        refine lv_aload_n hx hb dX7_readLine_70 rfl (lv_at hl 1 rfl) ?_
        refine z_get C G clX7 0 rfl 8 (by decide) m_fl_RX7_74 rfl dX7_readLine_71 ?_
        refine lv_iconst (v := 3) hx hb dX7_readLine_74 (by decide) ?_
        refine lv_icmp_ne (tgt := 85) hx hb dX7_readLine_75 (by decide) (fun c_27 => ?_) (fun c_27 => ?_)
        · have c_27n : ¬ u4_15.toInt = (3 : Int) := fun q => c_27 ((fa_eq _ _).mpr q)
          refine lv_aload_n hx hb dX7_readLine_85 rfl (lv_at hl 1 rfl) ?_
          refine z_Vv (bc := [[zO7 rd rl rdd rg u0_12 u1_13 tp r2 u3_14 u4_15 u5_16 u6_17 u7_18 r8]]) (br := [[zAr T 1 tp 600 ft], wg2_19]) (As := []) (rest := []) C G (c_f_breakHere l T rd rl rdd rg tp u0_12 u1_13 r2 u3_14 u4_15 u5_16 u6_17 u7_18 r8) (kV_RX7_105 C.2.2.2.2 (Nat.le_of_ble_eq_true rfl) (Nat.le_of_ble_eq_true rfl)) [0] [0] rfl rfl (ci := 7) (qc := (RX7, TX7, 13)) rfl rfl (List.mem_flatten.mpr ⟨_, List.mem_of_getElem? (i := 0) rfl, List.mem_cons_self⟩) rfl rfl hl.1 dX7_readLine_86 (Nat.le_of_ble_eq_true rfl) (Nat.le_of_ble_eq_true rfl) (fun b1 H locs hw G => ?_)
          refine zEx3 hw ?_
          intro u0_28 u1_29 u7_30
          refine zCu4 ?_
          intro hbs9 h_31 h_32 h_33
          clear hw
          subst hbs9
          have G : zS T A s.heap s [[zAr T 1 tp 600 ft], wg2_19, [zO7 rd rl rdd rg u0_28 u1_29 tp r2 u3_14 u4_15 u5_16 u6_17 u7_30 r8]] _ _ := G
          have G := G.sub (bs' := [[zO7 rd rl rdd rg u0_28 u1_29 tp r2 u3_14 u4_15 u5_16 u6_17 u7_30 r8], [zAr T 1 tp 600 ft], wg2_19]) [2, 0, 1] rfl
          exact z_back hQ9 (z_vret C hr hlocks G (Nat.le_of_ble_eq_true rfl) (Nat.le_of_ble_eq_true rfl) dX7_readLine_89 ⟨u0_28, u1_29, u3_14, u4_15, u5_16, u6_17, u7_30, r8, wg2_19, gg2_20, b1_21, b2_22, rfl, h_23, (by rw [hpl]; show zRc _ _ _ _ _ _ _ _ _ _ _ (pEndL k q.1); rw [pEndL_e (fun z9 => by have := (pTk_2 hokQ hA1Q.2.2.2).mp z9.2; omega)]; exact zRc_brk h_24 h_31 h_32 h_33), (by rw [hpl]; exact zGc_l hAIQ h_25)⟩)
        · have c_27n : u4_15.toInt = (3 : Int) := (fa_eq _ _).mp c_27
          refine lv_aload_n hx hb dX7_readLine_78 rfl (lv_at hl 1 rfl) ?_
          refine z_Vv (bc := [[zO7 rd rl rdd rg u0_12 u1_13 tp r2 u3_14 u4_15 u5_16 u6_17 u7_18 r8], [zAr T 1 tp 600 ft]]) (br := [wg2_19]) (As := []) (rest := []) C G (c_f_nextToken l T rd rl rdd rg tp u0_12 u1_13 r2 u3_14 u4_15 u5_16 u6_17 u7_18 r8 ft (pEn k q.1.1) n k t3Q hkaQ.1.2.2 hA1Q.1 hA1Q.2.2.1 hA1Q.2.1) (kV_RX7_71 C.2.2.2.2 (Nat.le_of_ble_eq_true rfl) (Nat.le_of_ble_eq_true rfl)) [0, 1] [0, 0] rfl rfl (ci := 7) (qc := (RX7, TX7, 13)) rfl rfl (List.mem_flatten.mpr ⟨_, List.mem_of_getElem? (i := 0) rfl, List.mem_cons_self⟩) rfl rfl hl.1 dX7_readLine_79 (Nat.le_of_ble_eq_true rfl) (Nat.le_of_ble_eq_true rfl) (fun b1 H locs hw G => ?_)
          refine zEx4 hw ?_
          intro u3_35 u4_36 u5_37 u6_38
          refine zCu2 ?_
          intro hbs9 h_39
          clear hw
          subst hbs9
          have G : zS T A s.heap s [wg2_19, [zO7 rd rl rdd rg u0_12 u1_13 tp r2 u3_35 u4_36 u5_37 u6_38 u7_18 r8], [zAr T 1 tp 600 ft]] _ _ := G
          refine lv_goto (tgt := 89) hx hb dX7_readLine_82 (by decide) ?_
          have G := G.sub (bs' := [[zO7 rd rl rdd rg u0_12 u1_13 tp r2 u3_35 u4_36 u5_37 u6_38 u7_18 r8], [zAr T 1 tp 600 ft], wg2_19]) [1, 2, 0] rfl
          exact z_back hQ9 (z_vret C hr hlocks G (Nat.le_of_ble_eq_true rfl) (Nat.le_of_ble_eq_true rfl) dX7_readLine_89 ⟨u0_12, u1_13, u3_35, u4_36, u5_37, u6_38, u7_18, r8, wg2_19, gg2_20, b1_21, b2_22, rfl, h_23, (by rw [hpl]; show zRc _ _ _ _ _ _ _ _ _ _ _ (pEndL k q.1); rw [pEndL_a ⟨hbk, (pTk_2 hokQ hA1Q.2.2.2).mpr (by omega)⟩]; exact zRc_adv h_24 hbk h_39), (by rw [hpl]; exact zGc_l hAIQ h_25)⟩)
      · obtain ⟨p9, hp9, e9⟩ := hAEQ
        refine lv_aload_n hx hb dX7_readLine_70 rfl (lv_at hl 1 rfl) ?_
        refine z_get C G clX7 0 rfl 8 (by decide) m_fl_RX7_74 rfl dX7_readLine_71 ?_
        refine lv_iconst (v := 3) hx hb dX7_readLine_74 (by decide) ?_
        refine lv_icmp_ne (tgt := 85) hx hb dX7_readLine_75 (by decide) (fun c_41 => ?_) (fun c_41 => ?_)
        · have c_41n : ¬ u4_15.toInt = (3 : Int) := fun q => c_41 ((fa_eq _ _).mpr q)
          refine lv_aload_n hx hb dX7_readLine_85 rfl (lv_at hl 1 rfl) ?_
          refine z_Vv (bc := [[zO7 rd rl rdd rg u0_12 u1_13 tp r2 u3_14 u4_15 u5_16 u6_17 u7_18 r8]]) (br := [[zAr T 1 tp 600 ft], wg2_19]) (As := []) (rest := []) C G (c_f_breakHere l T rd rl rdd rg tp u0_12 u1_13 r2 u3_14 u4_15 u5_16 u6_17 u7_18 r8) (kV_RX7_105 C.2.2.2.2 (Nat.le_of_ble_eq_true rfl) (Nat.le_of_ble_eq_true rfl)) [0] [0] rfl rfl (ci := 7) (qc := (RX7, TX7, 13)) rfl rfl (List.mem_flatten.mpr ⟨_, List.mem_of_getElem? (i := 0) rfl, List.mem_cons_self⟩) rfl rfl hl.1 dX7_readLine_86 (Nat.le_of_ble_eq_true rfl) (Nat.le_of_ble_eq_true rfl) (fun b1 H locs hw G => ?_)
          refine zEx3 hw ?_
          intro u0_42 u1_43 u7_44
          refine zCu4 ?_
          intro hbs9 h_45 h_46 h_47
          clear hw
          subst hbs9
          have G : zS T A s.heap s [[zAr T 1 tp 600 ft], wg2_19, [zO7 rd rl rdd rg u0_42 u1_43 tp r2 u3_14 u4_15 u5_16 u6_17 u7_44 r8]] _ _ := G
          have G := G.sub (bs' := [[zO7 rd rl rdd rg u0_42 u1_43 tp r2 u3_14 u4_15 u5_16 u6_17 u7_44 r8], [zAr T 1 tp 600 ft], wg2_19]) [2, 0, 1] rfl
          exact z_back hQ9 (z_vret C hr hlocks G (Nat.le_of_ble_eq_true rfl) (Nat.le_of_ble_eq_true rfl) dX7_readLine_89 ⟨u0_42, u1_43, u3_14, u4_15, u5_16, u6_17, u7_44, r8, wg2_19, gg2_20, b1_21, b2_22, rfl, h_23, (by rw [hpl]; show zRc _ _ _ _ _ _ _ _ _ _ _ (pEndL k q.1); rw [pEndL_e (fun z9 => hbk z9.1)]; exact zRc_brk h_24 h_45 h_46 h_47), (by rw [hpl]; exact zGc_l hAIQ h_25)⟩)
        · have c_41n : u4_15.toInt = (3 : Int) := (fa_eq _ _).mp c_41
          refine lv_aload_n hx hb dX7_readLine_78 rfl (lv_at hl 1 rfl) ?_
          refine z_Vv (bc := [[zO7 rd rl rdd rg u0_12 u1_13 tp r2 u3_14 u4_15 u5_16 u6_17 u7_18 r8], [zAr T 1 tp 600 ft]]) (br := [wg2_19]) (As := []) (rest := []) C G (c_f_nextToken l T rd rl rdd rg tp u0_12 u1_13 r2 u3_14 u4_15 u5_16 u6_17 u7_18 r8 ft p9 n k e9 hp9 hA1Q.1 hA1Q.2.2.1 hA1Q.2.1) (kV_RX7_71 C.2.2.2.2 (Nat.le_of_ble_eq_true rfl) (Nat.le_of_ble_eq_true rfl)) [0, 1] [0, 0] rfl rfl (ci := 7) (qc := (RX7, TX7, 13)) rfl rfl (List.mem_flatten.mpr ⟨_, List.mem_of_getElem? (i := 0) rfl, List.mem_cons_self⟩) rfl rfl hl.1 dX7_readLine_79 (Nat.le_of_ble_eq_true rfl) (Nat.le_of_ble_eq_true rfl) (fun b1 H locs hw G => ?_)
          refine zEx4 hw ?_
          intro u3_49 u4_50 u5_51 u6_52
          refine zCu2 ?_
          intro hbs9 h_53
          clear hw
          subst hbs9
          have G : zS T A s.heap s [wg2_19, [zO7 rd rl rdd rg u0_12 u1_13 tp r2 u3_49 u4_50 u5_51 u6_52 u7_18 r8], [zAr T 1 tp 600 ft]] _ _ := G
          refine lv_goto (tgt := 89) hx hb dX7_readLine_82 (by decide) ?_
          have G := G.sub (bs' := [[zO7 rd rl rdd rg u0_12 u1_13 tp r2 u3_49 u4_50 u5_51 u6_52 u7_18 r8], [zAr T 1 tp 600 ft], wg2_19]) [1, 2, 0] rfl
          exact z_back hQ9 (z_vret C hr hlocks G (Nat.le_of_ble_eq_true rfl) (Nat.le_of_ble_eq_true rfl) dX7_readLine_89 ⟨u0_12, u1_13, u3_49, u4_50, u5_51, u6_52, u7_18, r8, wg2_19, gg2_20, b1_21, b2_22, rfl, h_23, (by rw [hpl]; show zRc _ _ _ _ _ _ _ _ _ _ _ (pEndL k q.1); rw [pEndL_e (fun z9 => hbk z9.1), pEnds_n hbk]; exact zRc_any h_24 hbk ⟨_, (hokQ p9 hp9).1.2.2, h_53.1⟩), (by rw [hpl]; exact zGc_l hAIQ h_25)⟩)
    · have c_11n : r_10.toInt = (-1 : Int) := (fa_eq _ _).mp c_11
      refine lv_aload_n hx hb dX7_readLine_23 rfl (lv_at hl 1 rfl) ?_
      refine z_Vv (bc := [[zO7 rd rl rdd rg r0 r1 tp r2 r3 r4 r5 r6 r7 r8]]) (br := [wg, [zAr T 1 tp 600 ft]]) (As := []) (rest := []) C G (c_f_breakHere l T rd rl rdd rg tp r0 r1 r2 r3 r4 r5 r6 r7 r8) (kV_RX7_105 C.2.2.2.2 (Nat.le_of_ble_eq_true rfl) (Nat.le_of_ble_eq_true rfl)) [1] [1] rfl rfl (ci := 7) (qc := (RX7, TX7, 13)) rfl rfl (List.mem_flatten.mpr ⟨_, List.mem_of_getElem? (i := 0) rfl, List.mem_cons_self⟩) rfl rfl hl.1 dX7_readLine_24 (Nat.le_of_ble_eq_true rfl) (Nat.le_of_ble_eq_true rfl) (fun b1 H locs hw G => ?_)
      refine zEx3 hw ?_
      intro u0_55 u1_56 u7_57
      refine zCu4 ?_
      intro hbs9 h_58 h_59 h_60
      clear hw
      subst hbs9
      have G : zS T A s.heap s [wg, [zAr T 1 tp 600 ft], [zO7 rd rl rdd rg u0_55 u1_56 tp r2 r3 r4 r5 r6 u7_57 r8]] _ _ := G
      have G := G.sub (bs' := [[zO7 rd rl rdd rg u0_55 u1_56 tp r2 r3 r4 r5 r6 u7_57 r8], [zAr T 1 tp 600 ft], wg]) [2, 1, 0] rfl
      exact z_back hQ9 (z_vret C hr hlocks G (Nat.le_of_ble_eq_true rfl) (Nat.le_of_ble_eq_true rfl) dX7_readLine_27 ⟨u0_55, u1_56, r3, r4, r5, r6, u7_57, r8, wg, gg, e1, e2, rfl, hg, (by rw [pLine_e hw (s := 2) (lo := 11) (hi := 12) (by decide) (Or.inr (zWc_n2 (by rw [← hwd]; omega)))]; exact zRc_brk hA h_58 h_59 h_60), (by rw [pLine_e hw (s := 2) (lo := 11) (hi := 12) (by decide) (Or.inr (zWc_n2 (by rw [← hwd]; omega)))]; exact zGc_e hAI)⟩)
set_option maxHeartbeats 4000000 in
set_option maxRecDepth 100000 in
/-- c_f_lookAtWhole -/
theorem c_f_lookAtWhole (l : Launch) (T : zTy) (rd : Nat) (rl : Nat) (rdd : Nat) (rg : Nat) (tp : Nat) (r0 : Int32) (r1 : Int32) (r2 : Int32) (r3 : Int32) (r4 : Int32) (r5 : Int32) (r6 : Int32) (r7 : Int32) (r8 : Int32) (cr : Int32) (inn : Int32) (k1 : Nat → Int32) (k2 : Nat → Int32) (k3 : Nat → Int32) (k4 : Nat → Int32) (z : va_W) (ft : Nat → Int32) (k : pT) (n : Nat) (a : pS) (f : Nat → Int32) (hz : bLand T rl cr inn k1 k2 k3 k4 z) (hI : zLI cr k1 k3) (hA : zRc k n ft r0 r1 r2 r3 r4 r5 r6 r7 a) (hC : zLc cr inn k1 k2 k3 k4 r8 a f) : zMv l T yX7_lookAtWhole cX7_lookAtWhole 2 2 0 0 [.ref rd] [[zO7 rd rl rdd rg r0 r1 tp r2 r3 r4 r5 r6 r7 r8], z] (fun bs => ∃ (u0 : Int32) (u1 : Int32), bs = [[zO7 rd rl rdd rg u0 u1 tp r2 r3 r4 r5 r6 r7 r8], z] ∧ u0 = (pFin n 0 (a, f)).1.2.2.1 ∧ u1 = (pFin n 0 (a, f)).1.2.2.2.1) := by
  refine zMv_of (own := RX7) (by decide) rfl (Nat.le_of_ble_eq_true rfl) ?_
  intro p e s m args below meth c A ls C hr hlocks hnm hAe G hl
  refine zHide (fun Q9 hQ9 => ?_)
  have hx := C.1
  have hb := C.2.1
  have hl : lv_has ls 2 [(0, .ref rd)] := hl
  have hok := zRc_ok hA
  obtain ⟨hA1, hA6, hA7, hA8, hA9, hAI, hAE⟩ := id hA
  have hka := hok a.1 hA1.2.2.2
  refine lv_aload_n hx hb dX7_lookAtWhole_0 rfl (lv_at hl 0 rfl) ?_
  refine z_get C G clX7 0 rfl 12 (by decide) m_fl_RX7_59 rfl dX7_lookAtWhole_1 ?_
  refine lv_aload_n hx hb dX7_lookAtWhole_4 rfl (lv_at hl 0 rfl) ?_
  refine z_get C G clX7 0 rfl 0 (by decide) m_fl_RX7_12 rfl dX7_lookAtWhole_5 ?_
  refine zEx4 hz ?_
  intro a1_1 a2_2 a3_3 a4_4 hbs9
  clear hz
  subst hbs9
  have G : zS T A s.heap s [[zO7 rd rl rdd rg r0 r1 tp r2 r3 r4 r5 r6 r7 r8], [zO4 rl cr inn a1_1 a2_2 a3_3 a4_4], [zAr T 0 a1_1 7 k1], [zAr T 0 a2_2 28 k2], [zAr T 0 a3_3 7 k3], [zAr T 0 a4_4 7 k4]] _ _ := G.re rfl
  refine z_get C G clX4 1 rfl 0 (by decide) m_fl_RX7_87 rfl dX7_lookAtWhole_8 ?_
  refine lv_ishr hx hb dX7_lookAtWhole_11 ?_
  refine lv_if_eq (tgt := 24) hx hb dX7_lookAtWhole_12 (by decide) (fun c_5 => ?_) (fun c_5 => ?_)
  · have c_5n : (r8 >>> (cr &&& 31)).toInt = (0 : Int) := (fa_eq _ _).mp c_5
    have hE : (r8 >>> (cr &&& 31)).toInt = 0 ∧ r0 = r0 ∧ r1 = r1 ∨ ¬ (r8 >>> (cr &&& 31)).toInt = 0 ∧ (r0 = if r0.toInt = 0 then 4 else r0) ∧ (r1 = if r0.toInt = 0 then r2 else r1) := Or.inl ⟨by assumption, rfl, rfl⟩
    refine lv_iconst (v := 0) hx hb dX7_lookAtWhole_24 (by decide) ?_
    refine lv_istore_n (lv' := [(1, .int 0), (0, .ref rd)]) hx hb dX7_lookAtWhole_25 rfl hl (by decide) rfl (fun ls hl => ?_)
    have hw_6 : bLand T rl cr inn k1 k2 k3 k4 [zO4 rl cr inn a1_1 a2_2 a3_3 a4_4, zAr T 0 a1_1 7 k1, zAr T 0 a2_2 28 k2, zAr T 0 a3_3 7 k3, zAr T 0 a4_4 7 k4] := ⟨a1_1, a2_2, a3_3, a4_4, rfl⟩
    have G : zS T A s.heap s [[zO7 rd rl rdd rg r0 r1 tp r2 r3 r4 r5 r6 r7 r8], [zO4 rl cr inn a1_1 a2_2 a3_3 a4_4, zAr T 0 a1_1 7 k1, zAr T 0 a2_2 28 k2, zAr T 0 a3_3 7 k3, zAr T 0 a4_4 7 k4]] _ _ := G.re rfl
    refine z_lp3 (T := T) 26 (fun (i : Nat) (y0 : Int32) (y1 : Int32) => [[zO7 rd rl rdd rg y0 y1 tp r2 r3 r4 r5 r6 r7 r8], [zO4 rl cr inn a1_1 a2_2 a3_3 a4_4, zAr T 0 a1_1 7 k1, zAr T 0 a2_2 28 k2, zAr T 0 a3_3 7 k3, zAr T 0 a4_4 7 k4]]) (fun (i : Nat) (y0 : Int32) (y1 : Int32) => [(1, .int (nI i)), (0, .ref rd)]) (fun (i : Nat) (y0 : Int32) (y1 : Int32) => i ≤ 7 ∧ zLook k1 k3 i r2 r0 r1 y0 y1) (fun (i : Nat) (y0 : Int32) (y1 : Int32) => 7 - i) ?_ 0 r0 r1 (show 0 ≤ 7 ∧ zLook k1 k3 0 r2 r0 r1 r0 r1 from ⟨by omega, zLook_0⟩) G (lv_sub hl [0, 1] rfl)
    intro i y0 y1 hI9 ih_26 H locs ls G hl
    replace hI9 : i ≤ 7 ∧ zLook k1 k3 i r2 r0 r1 y0 y1 := hI9
    refine zAn2 hI9 ?_
    intro hi hlk
    clear hI9
    replace G : zS T A s.heap s [[zO7 rd rl rdd rg y0 y1 tp r2 r3 r4 r5 r6 r7 r8], [zO4 rl cr inn a1_1 a2_2 a3_3 a4_4, zAr T 0 a1_1 7 k1, zAr T 0 a2_2 28 k2, zAr T 0 a3_3 7 k3, zAr T 0 a4_4 7 k4]] _ _ := G
    replace hl : lv_has ls 2 [(1, .int (nI i)), (0, .ref rd)] := hl
    refine lv_iload_n hx hb dX7_lookAtWhole_26 rfl (lv_at hl 0 rfl) ?_
    refine lv_bipush (v := 7) hx hb dX7_lookAtWhole_27 (by decide) ?_
    refine lv_icmp_ge (tgt := 80) hx hb dX7_lookAtWhole_29 (by decide) (fun c_7 => ?_) (fun c_7 => ?_)
    · have c_7n : 7 ≤ i := (nI_leI (a := 7) (b := i) (by omega) (by omega)).mp c_7
      exact z_back hQ9 (z_vret C hr hlocks G (Nat.le_of_ble_eq_true rfl) (Nat.le_of_ble_eq_true rfl) dX7_lookAtWhole_80 ⟨y0, y1, rfl, (zLook_end hAI hC hA1.2.2.1 hA8 hA9 hE (by rw [show 7 = i by omega]; exact hlk)).1, (zLook_end hAI hC hA1.2.2.1 hA8 hA9 hE (by rw [show 7 = i by omega]; exact hlk)).2⟩)
    · have c_7n : ¬ 7 ≤ i := fun q => c_7 ((nI_leI (a := 7) (b := i) (by omega) (by omega)).mpr q)
      refine lv_aload_n hx hb dX7_lookAtWhole_32 rfl (lv_at hl 1 rfl) ?_
      refine z_get C G clX7 0 rfl 0 (by decide) m_fl_RX7_12 rfl dX7_lookAtWhole_33 ?_
      have G : zS T A s.heap s [[zO7 rd rl rdd rg y0 y1 tp r2 r3 r4 r5 r6 r7 r8], [zO4 rl cr inn a1_1 a2_2 a3_3 a4_4], [zAr T 0 a1_1 7 k1], [zAr T 0 a2_2 28 k2], [zAr T 0 a3_3 7 k3], [zAr T 0 a4_4 7 k4]] _ _ := G.re rfl
      refine z_get C G clX4 1 rfl 4 (by decide) m_fl_RX7_94 rfl dX7_lookAtWhole_36 ?_
      refine lv_iload_n hx hb dX7_lookAtWhole_39 rfl (lv_at hl 0 rfl) ?_
      refine z_ild C G 4 rfl (vp_in_nI (by omega) (by omega)) dX7_lookAtWhole_40 ?_
      refine lv_topi (fun v_8 ev_8 => ?_)
      rw [nI_clamp (by omega)] at ev_8
      subst ev_8
      refine lv_if_eq (tgt := 74) hx hb dX7_lookAtWhole_41 (by decide) (fun c_9 => ?_) (fun c_9 => ?_)
      · have c_9n : (k3 i).toInt = (0 : Int) := (fa_eq _ _).mp c_9
        refine lv_iinc (v := nI (i + 1)) (lv' := [(1, .int (nI (i + 1))), (0, .ref rd)]) hx hb dX7_lookAtWhole_74 hl (k := 0) rfl (z_inc i 1) (by decide) rfl (fun ls hl => ?_)
        refine lv_goto (tgt := 26) hx hb dX7_lookAtWhole_77 (by decide) ?_
        have hw_10 : bLand T rl cr inn k1 k2 k3 k4 [zO4 rl cr inn a1_1 a2_2 a3_3 a4_4, zAr T 0 a1_1 7 k1, zAr T 0 a2_2 28 k2, zAr T 0 a3_3 7 k3, zAr T 0 a4_4 7 k4] := ⟨a1_1, a2_2, a3_3, a4_4, rfl⟩
        have G : zS T A s.heap s [[zO7 rd rl rdd rg y0 y1 tp r2 r3 r4 r5 r6 r7 r8], [zO4 rl cr inn a1_1 a2_2 a3_3 a4_4, zAr T 0 a1_1 7 k1, zAr T 0 a2_2 28 k2, zAr T 0 a3_3 7 k3, zAr T 0 a4_4 7 k4]] _ _ := G.re rfl
        exact ih_26 (i + 1) y0 y1 (show (i + 1) ≤ 7 ∧ zLook k1 k3 (i + 1) r2 r0 r1 y0 y1 from ⟨by omega, (zLook_g hlk (by unfold zBad; omega))⟩) (show 7 - (i + 1) < 7 - i from by omega) _ _ ls G (lv_sub hl [0, 1] rfl)
      · have c_9n : ¬ (k3 i).toInt = (0 : Int) := fun q => c_9 ((fa_eq _ _).mpr q)
        refine lv_aload_n hx hb dX7_lookAtWhole_44 rfl (lv_at hl 1 rfl) ?_
        refine z_get C G clX7 0 rfl 0 (by decide) m_fl_RX7_12 rfl dX7_lookAtWhole_45 ?_
        refine z_get C G clX4 1 rfl 4 (by decide) m_fl_RX7_94 rfl dX7_lookAtWhole_48 ?_
        refine lv_iload_n hx hb dX7_lookAtWhole_51 rfl (lv_at hl 0 rfl) ?_
        refine z_ild C G 4 rfl (vp_in_nI (by omega) (by omega)) dX7_lookAtWhole_52 ?_
        refine lv_topi (fun v_11 ev_11 => ?_)
        rw [nI_clamp (by omega)] at ev_11
        subst ev_11
        refine lv_aload_n hx hb dX7_lookAtWhole_53 rfl (lv_at hl 1 rfl) ?_
        refine z_get C G clX7 0 rfl 0 (by decide) m_fl_RX7_12 rfl dX7_lookAtWhole_54 ?_
        refine z_get C G clX4 1 rfl 2 (by decide) m_fl_RX7_98 rfl dX7_lookAtWhole_57 ?_
        refine lv_iload_n hx hb dX7_lookAtWhole_60 rfl (lv_at hl 0 rfl) ?_
        refine z_ild C G 2 rfl (vp_in_nI (by omega) (by omega)) dX7_lookAtWhole_61 ?_
        refine lv_topi (fun v_12 ev_12 => ?_)
        rw [nI_clamp (by omega)] at ev_12
        subst ev_12
        refine lv_icmp_lt (tgt := 74) hx hb dX7_lookAtWhole_62 (by decide) (fun c_13 => ?_) (fun c_13 => ?_)
        · have c_13n : (k3 i).toInt < (k1 i).toInt := (fa_lt _ _).mp c_13
          refine lv_iinc (v := nI (i + 1)) (lv' := [(1, .int (nI (i + 1))), (0, .ref rd)]) hx hb dX7_lookAtWhole_74 hl (k := 0) rfl (z_inc i 1) (by decide) rfl (fun ls hl => ?_)
          refine lv_goto (tgt := 26) hx hb dX7_lookAtWhole_77 (by decide) ?_
          have hw_14 : bLand T rl cr inn k1 k2 k3 k4 [zO4 rl cr inn a1_1 a2_2 a3_3 a4_4, zAr T 0 a1_1 7 k1, zAr T 0 a2_2 28 k2, zAr T 0 a3_3 7 k3, zAr T 0 a4_4 7 k4] := ⟨a1_1, a2_2, a3_3, a4_4, rfl⟩
          have G : zS T A s.heap s [[zO7 rd rl rdd rg y0 y1 tp r2 r3 r4 r5 r6 r7 r8], [zO4 rl cr inn a1_1 a2_2 a3_3 a4_4, zAr T 0 a1_1 7 k1, zAr T 0 a2_2 28 k2, zAr T 0 a3_3 7 k3, zAr T 0 a4_4 7 k4]] _ _ := G.re rfl
          exact ih_26 (i + 1) y0 y1 (show (i + 1) ≤ 7 ∧ zLook k1 k3 (i + 1) r2 r0 r1 y0 y1 from ⟨by omega, (zLook_g hlk (by unfold zBad; omega))⟩) (show 7 - (i + 1) < 7 - i from by omega) _ _ ls G (lv_sub hl [0, 1] rfl)
        · have c_13n : ¬ (k3 i).toInt < (k1 i).toInt := fun q => c_13 ((fa_lt _ _).mpr q)
          have hbad : zBad k1 k3 i := ⟨by omega, by omega⟩
          refine lv_aload_n hx hb dX7_lookAtWhole_65 rfl (lv_at hl 1 rfl) ?_
          refine lv_iconst (v := 5) hx hb dX7_lookAtWhole_66 (by decide) ?_
          refine lv_aload_n hx hb dX7_lookAtWhole_67 rfl (lv_at hl 1 rfl) ?_
          refine z_get C G clX7 0 rfl 6 (by decide) m_fl_RX7_42 rfl dX7_lookAtWhole_68 ?_
          refine z_Vv (bc := [[zO7 rd rl rdd rg y0 y1 tp r2 r3 r4 r5 r6 r7 r8]]) (br := [[zO4 rl cr inn a1_1 a2_2 a3_3 a4_4], [zAr T 0 a1_1 7 k1], [zAr T 0 a2_2 28 k2], [zAr T 0 a3_3 7 k3], [zAr T 0 a4_4 7 k4]]) (As := [.int 5, .int r2]) (rest := []) C G (c_f_note l T rd rl rdd rg tp y0 y1 r2 r3 r4 r5 r6 r7 r8 5 r2) (kV_RX7_90 C.2.2.2.2 (Nat.le_of_ble_eq_true rfl) (Nat.le_of_ble_eq_true rfl)) [0] [0] rfl rfl (ci := 7) (qc := (RX7, TX7, 13)) rfl rfl (List.mem_flatten.mpr ⟨_, List.mem_of_getElem? (i := 0) rfl, List.mem_cons_self⟩) rfl rfl hl.1 dX7_lookAtWhole_71 (Nat.le_of_ble_eq_true rfl) (Nat.le_of_ble_eq_true rfl) (fun b1 H locs hw G => ?_)
          refine zEx2 hw ?_
          intro u0_15 u1_16
          refine zCu3 ?_
          intro hbs9 h_17 h_18
          clear hw
          subst hbs9
          have G : zS T A s.heap s [[zO4 rl cr inn a1_1 a2_2 a3_3 a4_4], [zAr T 0 a1_1 7 k1], [zAr T 0 a2_2 28 k2], [zAr T 0 a3_3 7 k3], [zAr T 0 a4_4 7 k4], [zO7 rd rl rdd rg u0_15 u1_16 tp r2 r3 r4 r5 r6 r7 r8]] _ _ := G
          refine lv_iinc (v := nI (i + 1)) (lv' := [(1, .int (nI (i + 1))), (0, .ref rd)]) hx hb dX7_lookAtWhole_74 hl (k := 0) rfl (z_inc i 1) (by decide) rfl (fun ls hl => ?_)
          refine lv_goto (tgt := 26) hx hb dX7_lookAtWhole_77 (by decide) ?_
          have hw_20 : bLand T rl cr inn k1 k2 k3 k4 [zO4 rl cr inn a1_1 a2_2 a3_3 a4_4, zAr T 0 a1_1 7 k1, zAr T 0 a2_2 28 k2, zAr T 0 a3_3 7 k3, zAr T 0 a4_4 7 k4] := ⟨a1_1, a2_2, a3_3, a4_4, rfl⟩
          have G : zS T A s.heap s [[zO4 rl cr inn a1_1 a2_2 a3_3 a4_4, zAr T 0 a1_1 7 k1, zAr T 0 a2_2 28 k2, zAr T 0 a3_3 7 k3, zAr T 0 a4_4 7 k4], [zO7 rd rl rdd rg u0_15 u1_16 tp r2 r3 r4 r5 r6 r7 r8]] _ _ := G.re rfl
          have G := G.sub (bs' := [[zO7 rd rl rdd rg u0_15 u1_16 tp r2 r3 r4 r5 r6 r7 r8], [zO4 rl cr inn a1_1 a2_2 a3_3 a4_4, zAr T 0 a1_1 7 k1, zAr T 0 a2_2 28 k2, zAr T 0 a3_3 7 k3, zAr T 0 a4_4 7 k4]]) [1, 0] rfl
          exact ih_26 (i + 1) u0_15 u1_16 (show (i + 1) ≤ 7 ∧ zLook k1 k3 (i + 1) r2 r0 r1 u0_15 u1_16 from ⟨by omega, (zLook_b hlk hbad h_17 h_18)⟩) (show 7 - (i + 1) < 7 - i from by omega) _ _ ls G (lv_sub hl [0, 1] rfl)
  · have c_5n : ¬ (r8 >>> (cr &&& 31)).toInt = (0 : Int) := fun q => c_5 ((fa_eq _ _).mpr q)
    refine lv_aload_n hx hb dX7_lookAtWhole_15 rfl (lv_at hl 0 rfl) ?_
    refine lv_iconst (v := 4) hx hb dX7_lookAtWhole_16 (by decide) ?_
    refine lv_aload_n hx hb dX7_lookAtWhole_17 rfl (lv_at hl 0 rfl) ?_
    refine z_get C G clX7 0 rfl 6 (by decide) m_fl_RX7_42 rfl dX7_lookAtWhole_18 ?_
    refine z_Vv (bc := [[zO7 rd rl rdd rg r0 r1 tp r2 r3 r4 r5 r6 r7 r8]]) (br := [[zO4 rl cr inn a1_1 a2_2 a3_3 a4_4], [zAr T 0 a1_1 7 k1], [zAr T 0 a2_2 28 k2], [zAr T 0 a3_3 7 k3], [zAr T 0 a4_4 7 k4]]) (As := [.int 4, .int r2]) (rest := []) C G (c_f_note l T rd rl rdd rg tp r0 r1 r2 r3 r4 r5 r6 r7 r8 4 r2) (kV_RX7_90 C.2.2.2.2 (Nat.le_of_ble_eq_true rfl) (Nat.le_of_ble_eq_true rfl)) [0] [0] rfl rfl (ci := 7) (qc := (RX7, TX7, 13)) rfl rfl (List.mem_flatten.mpr ⟨_, List.mem_of_getElem? (i := 0) rfl, List.mem_cons_self⟩) rfl rfl hl.1 dX7_lookAtWhole_21 (Nat.le_of_ble_eq_true rfl) (Nat.le_of_ble_eq_true rfl) (fun b1 H locs hw G => ?_)
    refine zEx2 hw ?_
    intro u0_21 u1_22
    refine zCu3 ?_
    intro hbs9 h_23 h_24
    clear hw
    subst hbs9
    have G : zS T A s.heap s [[zO4 rl cr inn a1_1 a2_2 a3_3 a4_4], [zAr T 0 a1_1 7 k1], [zAr T 0 a2_2 28 k2], [zAr T 0 a3_3 7 k3], [zAr T 0 a4_4 7 k4], [zO7 rd rl rdd rg u0_21 u1_22 tp r2 r3 r4 r5 r6 r7 r8]] _ _ := G
    have hE : (r8 >>> (cr &&& 31)).toInt = 0 ∧ u0_21 = r0 ∧ u1_22 = r1 ∨ ¬ (r8 >>> (cr &&& 31)).toInt = 0 ∧ (u0_21 = if r0.toInt = 0 then 4 else r0) ∧ (u1_22 = if r0.toInt = 0 then r2 else r1) := Or.inr ⟨by assumption, h_23, h_24⟩
    refine lv_iconst (v := 0) hx hb dX7_lookAtWhole_24 (by decide) ?_
    refine lv_istore_n (lv' := [(1, .int 0), (0, .ref rd)]) hx hb dX7_lookAtWhole_25 rfl hl (by decide) rfl (fun ls hl => ?_)
    have hw_26 : bLand T rl cr inn k1 k2 k3 k4 [zO4 rl cr inn a1_1 a2_2 a3_3 a4_4, zAr T 0 a1_1 7 k1, zAr T 0 a2_2 28 k2, zAr T 0 a3_3 7 k3, zAr T 0 a4_4 7 k4] := ⟨a1_1, a2_2, a3_3, a4_4, rfl⟩
    have G : zS T A s.heap s [[zO4 rl cr inn a1_1 a2_2 a3_3 a4_4, zAr T 0 a1_1 7 k1, zAr T 0 a2_2 28 k2, zAr T 0 a3_3 7 k3, zAr T 0 a4_4 7 k4], [zO7 rd rl rdd rg u0_21 u1_22 tp r2 r3 r4 r5 r6 r7 r8]] _ _ := G.re rfl
    refine z_lp3 (T := T) 26 (fun (i : Nat) (y0 : Int32) (y1 : Int32) => [[zO4 rl cr inn a1_1 a2_2 a3_3 a4_4, zAr T 0 a1_1 7 k1, zAr T 0 a2_2 28 k2, zAr T 0 a3_3 7 k3, zAr T 0 a4_4 7 k4], [zO7 rd rl rdd rg y0 y1 tp r2 r3 r4 r5 r6 r7 r8]]) (fun (i : Nat) (y0 : Int32) (y1 : Int32) => [(1, .int (nI i)), (0, .ref rd)]) (fun (i : Nat) (y0 : Int32) (y1 : Int32) => i ≤ 7 ∧ zLook k1 k3 i r2 u0_21 u1_22 y0 y1) (fun (i : Nat) (y0 : Int32) (y1 : Int32) => 7 - i) ?_ 0 u0_21 u1_22 (show 0 ≤ 7 ∧ zLook k1 k3 0 r2 u0_21 u1_22 u0_21 u1_22 from ⟨by omega, zLook_0⟩) G (lv_sub hl [0, 1] rfl)
    intro i y0 y1 hI9 ih_26 H locs ls G hl
    replace hI9 : i ≤ 7 ∧ zLook k1 k3 i r2 u0_21 u1_22 y0 y1 := hI9
    refine zAn2 hI9 ?_
    intro hi hlk
    clear hI9
    replace G : zS T A s.heap s [[zO4 rl cr inn a1_1 a2_2 a3_3 a4_4, zAr T 0 a1_1 7 k1, zAr T 0 a2_2 28 k2, zAr T 0 a3_3 7 k3, zAr T 0 a4_4 7 k4], [zO7 rd rl rdd rg y0 y1 tp r2 r3 r4 r5 r6 r7 r8]] _ _ := G
    replace hl : lv_has ls 2 [(1, .int (nI i)), (0, .ref rd)] := hl
    refine lv_iload_n hx hb dX7_lookAtWhole_26 rfl (lv_at hl 0 rfl) ?_
    refine lv_bipush (v := 7) hx hb dX7_lookAtWhole_27 (by decide) ?_
    refine lv_icmp_ge (tgt := 80) hx hb dX7_lookAtWhole_29 (by decide) (fun c_27 => ?_) (fun c_27 => ?_)
    · have c_27n : 7 ≤ i := (nI_leI (a := 7) (b := i) (by omega) (by omega)).mp c_27
      have G := G.sub (bs' := [[zO7 rd rl rdd rg y0 y1 tp r2 r3 r4 r5 r6 r7 r8], [zO4 rl cr inn a1_1 a2_2 a3_3 a4_4, zAr T 0 a1_1 7 k1, zAr T 0 a2_2 28 k2, zAr T 0 a3_3 7 k3, zAr T 0 a4_4 7 k4]]) [1, 0] rfl
      exact z_back hQ9 (z_vret C hr hlocks G (Nat.le_of_ble_eq_true rfl) (Nat.le_of_ble_eq_true rfl) dX7_lookAtWhole_80 ⟨y0, y1, rfl, (zLook_end hAI hC hA1.2.2.1 hA8 hA9 hE (by rw [show 7 = i by omega]; exact hlk)).1, (zLook_end hAI hC hA1.2.2.1 hA8 hA9 hE (by rw [show 7 = i by omega]; exact hlk)).2⟩)
    · have c_27n : ¬ 7 ≤ i := fun q => c_27 ((nI_leI (a := 7) (b := i) (by omega) (by omega)).mpr q)
      refine lv_aload_n hx hb dX7_lookAtWhole_32 rfl (lv_at hl 1 rfl) ?_
      refine z_get C G clX7 1 rfl 0 (by decide) m_fl_RX7_12 rfl dX7_lookAtWhole_33 ?_
      have G : zS T A s.heap s [[zO4 rl cr inn a1_1 a2_2 a3_3 a4_4], [zAr T 0 a1_1 7 k1], [zAr T 0 a2_2 28 k2], [zAr T 0 a3_3 7 k3], [zAr T 0 a4_4 7 k4], [zO7 rd rl rdd rg y0 y1 tp r2 r3 r4 r5 r6 r7 r8]] _ _ := G.re rfl
      refine z_get C G clX4 0 rfl 4 (by decide) m_fl_RX7_94 rfl dX7_lookAtWhole_36 ?_
      refine lv_iload_n hx hb dX7_lookAtWhole_39 rfl (lv_at hl 0 rfl) ?_
      refine z_ild C G 3 rfl (vp_in_nI (by omega) (by omega)) dX7_lookAtWhole_40 ?_
      refine lv_topi (fun v_28 ev_28 => ?_)
      rw [nI_clamp (by omega)] at ev_28
      subst ev_28
      refine lv_if_eq (tgt := 74) hx hb dX7_lookAtWhole_41 (by decide) (fun c_29 => ?_) (fun c_29 => ?_)
      · have c_29n : (k3 i).toInt = (0 : Int) := (fa_eq _ _).mp c_29
        refine lv_iinc (v := nI (i + 1)) (lv' := [(1, .int (nI (i + 1))), (0, .ref rd)]) hx hb dX7_lookAtWhole_74 hl (k := 0) rfl (z_inc i 1) (by decide) rfl (fun ls hl => ?_)
        refine lv_goto (tgt := 26) hx hb dX7_lookAtWhole_77 (by decide) ?_
        have hw_30 : bLand T rl cr inn k1 k2 k3 k4 [zO4 rl cr inn a1_1 a2_2 a3_3 a4_4, zAr T 0 a1_1 7 k1, zAr T 0 a2_2 28 k2, zAr T 0 a3_3 7 k3, zAr T 0 a4_4 7 k4] := ⟨a1_1, a2_2, a3_3, a4_4, rfl⟩
        have G : zS T A s.heap s [[zO4 rl cr inn a1_1 a2_2 a3_3 a4_4, zAr T 0 a1_1 7 k1, zAr T 0 a2_2 28 k2, zAr T 0 a3_3 7 k3, zAr T 0 a4_4 7 k4], [zO7 rd rl rdd rg y0 y1 tp r2 r3 r4 r5 r6 r7 r8]] _ _ := G.re rfl
        exact ih_26 (i + 1) y0 y1 (show (i + 1) ≤ 7 ∧ zLook k1 k3 (i + 1) r2 u0_21 u1_22 y0 y1 from ⟨by omega, (zLook_g hlk (by unfold zBad; omega))⟩) (show 7 - (i + 1) < 7 - i from by omega) _ _ ls G (lv_sub hl [0, 1] rfl)
      · have c_29n : ¬ (k3 i).toInt = (0 : Int) := fun q => c_29 ((fa_eq _ _).mpr q)
        refine lv_aload_n hx hb dX7_lookAtWhole_44 rfl (lv_at hl 1 rfl) ?_
        refine z_get C G clX7 5 rfl 0 (by decide) m_fl_RX7_12 rfl dX7_lookAtWhole_45 ?_
        refine z_get C G clX4 0 rfl 4 (by decide) m_fl_RX7_94 rfl dX7_lookAtWhole_48 ?_
        refine lv_iload_n hx hb dX7_lookAtWhole_51 rfl (lv_at hl 0 rfl) ?_
        refine z_ild C G 3 rfl (vp_in_nI (by omega) (by omega)) dX7_lookAtWhole_52 ?_
        refine lv_topi (fun v_31 ev_31 => ?_)
        rw [nI_clamp (by omega)] at ev_31
        subst ev_31
        refine lv_aload_n hx hb dX7_lookAtWhole_53 rfl (lv_at hl 1 rfl) ?_
        refine z_get C G clX7 5 rfl 0 (by decide) m_fl_RX7_12 rfl dX7_lookAtWhole_54 ?_
        refine z_get C G clX4 0 rfl 2 (by decide) m_fl_RX7_98 rfl dX7_lookAtWhole_57 ?_
        refine lv_iload_n hx hb dX7_lookAtWhole_60 rfl (lv_at hl 0 rfl) ?_
        refine z_ild C G 1 rfl (vp_in_nI (by omega) (by omega)) dX7_lookAtWhole_61 ?_
        refine lv_topi (fun v_32 ev_32 => ?_)
        rw [nI_clamp (by omega)] at ev_32
        subst ev_32
        refine lv_icmp_lt (tgt := 74) hx hb dX7_lookAtWhole_62 (by decide) (fun c_33 => ?_) (fun c_33 => ?_)
        · have c_33n : (k3 i).toInt < (k1 i).toInt := (fa_lt _ _).mp c_33
          refine lv_iinc (v := nI (i + 1)) (lv' := [(1, .int (nI (i + 1))), (0, .ref rd)]) hx hb dX7_lookAtWhole_74 hl (k := 0) rfl (z_inc i 1) (by decide) rfl (fun ls hl => ?_)
          refine lv_goto (tgt := 26) hx hb dX7_lookAtWhole_77 (by decide) ?_
          have hw_34 : bLand T rl cr inn k1 k2 k3 k4 [zO4 rl cr inn a1_1 a2_2 a3_3 a4_4, zAr T 0 a1_1 7 k1, zAr T 0 a2_2 28 k2, zAr T 0 a3_3 7 k3, zAr T 0 a4_4 7 k4] := ⟨a1_1, a2_2, a3_3, a4_4, rfl⟩
          have G : zS T A s.heap s [[zO4 rl cr inn a1_1 a2_2 a3_3 a4_4, zAr T 0 a1_1 7 k1, zAr T 0 a2_2 28 k2, zAr T 0 a3_3 7 k3, zAr T 0 a4_4 7 k4], [zO7 rd rl rdd rg y0 y1 tp r2 r3 r4 r5 r6 r7 r8]] _ _ := G.re rfl
          exact ih_26 (i + 1) y0 y1 (show (i + 1) ≤ 7 ∧ zLook k1 k3 (i + 1) r2 u0_21 u1_22 y0 y1 from ⟨by omega, (zLook_g hlk (by unfold zBad; omega))⟩) (show 7 - (i + 1) < 7 - i from by omega) _ _ ls G (lv_sub hl [0, 1] rfl)
        · have c_33n : ¬ (k3 i).toInt < (k1 i).toInt := fun q => c_33 ((fa_lt _ _).mpr q)
          have hbad : zBad k1 k3 i := ⟨by omega, by omega⟩
          refine lv_aload_n hx hb dX7_lookAtWhole_65 rfl (lv_at hl 1 rfl) ?_
          refine lv_iconst (v := 5) hx hb dX7_lookAtWhole_66 (by decide) ?_
          refine lv_aload_n hx hb dX7_lookAtWhole_67 rfl (lv_at hl 1 rfl) ?_
          refine z_get C G clX7 5 rfl 6 (by decide) m_fl_RX7_42 rfl dX7_lookAtWhole_68 ?_
          refine z_Vv (bc := [[zO7 rd rl rdd rg y0 y1 tp r2 r3 r4 r5 r6 r7 r8]]) (br := [[zO4 rl cr inn a1_1 a2_2 a3_3 a4_4], [zAr T 0 a1_1 7 k1], [zAr T 0 a2_2 28 k2], [zAr T 0 a3_3 7 k3], [zAr T 0 a4_4 7 k4]]) (As := [.int 5, .int r2]) (rest := []) C G (c_f_note l T rd rl rdd rg tp y0 y1 r2 r3 r4 r5 r6 r7 r8 5 r2) (kV_RX7_90 C.2.2.2.2 (Nat.le_of_ble_eq_true rfl) (Nat.le_of_ble_eq_true rfl)) [5] [5] rfl rfl (ci := 7) (qc := (RX7, TX7, 13)) rfl rfl (List.mem_flatten.mpr ⟨_, List.mem_of_getElem? (i := 0) rfl, List.mem_cons_self⟩) rfl rfl hl.1 dX7_lookAtWhole_71 (Nat.le_of_ble_eq_true rfl) (Nat.le_of_ble_eq_true rfl) (fun b1 H locs hw G => ?_)
          refine zEx2 hw ?_
          intro u0_35 u1_36
          refine zCu3 ?_
          intro hbs9 h_37 h_38
          clear hw
          subst hbs9
          have G : zS T A s.heap s [[zO4 rl cr inn a1_1 a2_2 a3_3 a4_4], [zAr T 0 a1_1 7 k1], [zAr T 0 a2_2 28 k2], [zAr T 0 a3_3 7 k3], [zAr T 0 a4_4 7 k4], [zO7 rd rl rdd rg u0_35 u1_36 tp r2 r3 r4 r5 r6 r7 r8]] _ _ := G
          refine lv_iinc (v := nI (i + 1)) (lv' := [(1, .int (nI (i + 1))), (0, .ref rd)]) hx hb dX7_lookAtWhole_74 hl (k := 0) rfl (z_inc i 1) (by decide) rfl (fun ls hl => ?_)
          refine lv_goto (tgt := 26) hx hb dX7_lookAtWhole_77 (by decide) ?_
          have hw_40 : bLand T rl cr inn k1 k2 k3 k4 [zO4 rl cr inn a1_1 a2_2 a3_3 a4_4, zAr T 0 a1_1 7 k1, zAr T 0 a2_2 28 k2, zAr T 0 a3_3 7 k3, zAr T 0 a4_4 7 k4] := ⟨a1_1, a2_2, a3_3, a4_4, rfl⟩
          have G : zS T A s.heap s [[zO4 rl cr inn a1_1 a2_2 a3_3 a4_4, zAr T 0 a1_1 7 k1, zAr T 0 a2_2 28 k2, zAr T 0 a3_3 7 k3, zAr T 0 a4_4 7 k4], [zO7 rd rl rdd rg u0_35 u1_36 tp r2 r3 r4 r5 r6 r7 r8]] _ _ := G.re rfl
          exact ih_26 (i + 1) u0_35 u1_36 (show (i + 1) ≤ 7 ∧ zLook k1 k3 (i + 1) r2 u0_21 u1_22 u0_35 u1_36 from ⟨by omega, (zLook_b hlk hbad h_37 h_38)⟩) (show 7 - (i + 1) < 7 - i from by omega) _ _ ls G (lv_sub hl [0, 1] rfl)

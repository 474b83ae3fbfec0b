theorem zB01 (x : Int32) : x &&& 1 = 0 ∨ x &&& 1 = 1 := by
  obtain ⟨j, hj, e⟩ := pk_andE x (m := 1) 1 (by decide)
  rw [e]
  rcases (show j = 0 ∨ j = 1 by omega) with q | q
  · rw [q]; exact Or.inl rfl
  · rw [q]; exact Or.inr rfl
theorem zBit_n {x y : Int32} (h : ¬ zBit x y = 1) : zBit x y = 0 := (zB01 (x >>> (y &&& 31))).resolve_right h
theorem zBit_p {x y : Int32} (h : ¬ zBit x y = 0) : zBit x y = 1 := (zB01 (x >>> (y &&& 31))).resolve_left h
theorem zBit_o {x y : Int32} (h : zBit x y = 1) : ¬ zBit x y = 0 := fun q => absurd (q.symm.trans h) (by decide)
theorem zRm2 {x n : Int32} (h0 : 0 ≤ x.toInt) (h1 : 0 < n.toInt) (h4 : n.toInt ≤ 4) (h2 : x.toInt < 2 * n.toInt) : x.toInt < n.toInt ∧ (x - x / n * n).toInt = x.toInt ∨ n.toInt ≤ x.toInt ∧ (x - x / n * n).toInt = x.toInt - n.toInt := by
  rw [rem_toInt, Int.tmod_eq_emod_of_nonneg h0]
  rcases (show n.toInt = 1 ∨ n.toInt = 2 ∨ n.toInt = 3 ∨ n.toInt = 4 by omega) with q | q | q | q <;> rw [q] <;> omega
def zRo (f : Nat → Int32) (z : Int32) (j : Nat) : Int32 := f (z.toInt.toNat + (2 + j))
def zLo (f : Nat → Int32) (z : Int32) (i : Nat) : Int32 := f (z.toInt.toNat + (23 + i))
def zPo (f : Nat → Int32) (z : Int32) (j : Nat) : Int32 := f (z.toInt.toNat + (9 + j))
/-- ways out: none of an inn -/
def zWo (f : Nat → Int32) (z inns : Int32) (j : Nat) : Int32 := if zBit inns (nI j) = 1 then 0 else zRo f z j
/-- each post points to a road that is there, or to the first one -/
def zMV (R P : Nat → Int32) : Prop := ∀ c, c < 7 → (R c).toInt ≤ 0 ∨ (P c).toInt = 0 ∨ (P c).toInt < (R c).toInt
theorem zMV_upd {R P : Nat → Int32} {k : Nat} {v : Int32} (h : zMV R P) (hv : v.toInt < (R k).toInt) : zMV R (upd P k v) := by
  intro c hc
  unfold upd
  split
  · rename_i e
    rw [e]
    exact Or.inr (Or.inr hv)
  · exact h c hc
theorem zNext_m {R q k : Int32} {p i : Int} (hr : R.toInt ≤ 4) (hp : 0 ≤ p) (hpr : p < R.toInt) (hi : 1 ≤ i ∧ i ≤ R.toInt) (hq : q.toInt = p + i - 1 ∧ q.toInt < R.toInt ∨ q.toInt = p + i - 1 - R.toInt ∧ 0 ≤ q.toInt) (hk : p + i < R.toInt ∧ k.toInt = p + i ∨ R.toInt ≤ p + i ∧ k.toInt = p + i - R.toInt) : zNext R q = k := by
  have e : (q + 1).toInt = q.toInt + 1 := z_iaddI (by show -2147483648 ≤ q.toInt + 1; omega) (by show q.toInt + 1 < 2147483648; omega)
  unfold zNext
  by_cases hc : q + 1 < R
  · rw [if_pos hc]
    have hc2 := (fa_lt _ _).mp hc
    exact Int32.toInt_inj.mp (by omega)
  · rw [if_neg hc]
    have hc2 : ¬ (q + 1).toInt < R.toInt := fun z => hc ((fa_lt _ _).mpr z)
    exact Int32.toInt_inj.mp (by show (0 : Int) = k.toInt; omega)
theorem zTurnR_lt {roads closed : Int32} (h4 : roads.toInt ≤ 4) : ∀ (n : Nat) (r : Int32), (n : Int) ≤ roads.toInt → 0 ≤ r.toInt → r.toInt ≤ 1000 → zTurnR roads closed n r = -1 ∨ 0 ≤ (zTurnR roads closed n r).toInt ∧ (zTurnR roads closed n r).toInt < roads.toInt
  | 0, r, _, _, _ => Or.inl rfl
  | n + 1, r, hn, h1, h2 => by
    have e : (r + 1).toInt = r.toInt + 1 := z_iaddI (by show -2147483648 ≤ r.toInt + 1; omega) (by show r.toInt + 1 < 2147483648; omega)
    have hq : 0 ≤ (zNext roads r).toInt ∧ (zNext roads r).toInt < roads.toInt := by
      unfold zNext
      by_cases hc : r + 1 < roads
      · rw [if_pos hc]
        have hc2 := (fa_lt _ _).mp hc
        omega
      · rw [if_neg hc]
        exact ⟨by decide, by show (0 : Int) < roads.toInt; omega⟩
    rw [zTurnR]
    by_cases hb : zBit closed (zNext roads r) = 0
    · rw [if_pos hb]
      exact Or.inr hq
    · rw [if_neg hb]
      exact zTurnR_lt h4 n _ (by omega) hq.1 (by omega)
theorem zTurn_lt {f1 f2 f3 : Nat → Int32} (hI : zP3 f1 f3) (x : Int32) : zTurn f1 f2 f3 x = -1 ∨ 0 ≤ x.toInt ∧ x.toInt < 7 ∧ 0 ≤ (zTurn f1 f2 f3 x).toInt ∧ (zTurn f1 f2 f3 x).toInt < (f3 x.toNatClampNeg).toInt := by
  unfold zTurn
  split
  · rename_i q
    have e := z_clI q.1
    have h := hI x.toNatClampNeg (by omega)
    have e2 := z_clI h.1.1
    rcases zTurnR_lt (closed := f2 x.toNatClampNeg) h.1.2 (f3 x.toNatClampNeg).toNatClampNeg (f1 x.toNatClampNeg) (by omega) h.2.1 h.2.2 with g | g
    · exact Or.inl g
    · exact Or.inr ⟨q.1, q.2, g.1, g.2⟩
  · exact Or.inl rfl
theorem zTurn_cg {f1 f2 f3 g1 g2 g3 : Nat → Int32} (h1 : ∀ j, j < 7 → f1 j = g1 j) (h2 : ∀ j, j < 7 → f2 j = g2 j) (h3 : ∀ j, j < 7 → f3 j = g3 j) (x : Int32) : zTurn f1 f2 f3 x = zTurn g1 g2 g3 x := by
  unfold zTurn
  by_cases q : 0 ≤ x.toInt ∧ x.toInt < 7
  · have e := z_clI q.1
    rw [if_pos q, if_pos q, h1 _ (by omega), h2 _ (by omega), h3 _ (by omega)]
  · rw [if_neg q, if_neg q]
theorem zPost_cg {f1 f2 f3 g1 g2 g3 : Nat → Int32} (h1 : ∀ j, j < 7 → f1 j = g1 j) (h2 : ∀ j, j < 7 → f2 j = g2 j) (h3 : ∀ j, j < 7 → f3 j = g3 j) (x : Int32) : ∀ j, j < 7 → zPost f1 f2 f3 x j = zPost g1 g2 g3 x j := by
  intro j hj
  unfold zPost
  rw [zTurn_cg h1 h2 h3 x]
  by_cases q : zTurn g1 g2 g3 x = -1
  · rw [if_pos q, if_pos q]
    exact h1 j hj
  · rw [if_neg q, if_neg q]
    unfold upd
    split
    · rfl
    · exact h1 j hj
/-- the roads of two rows lead to the same -/
def zLs (f3 lf lg : Nat → Int32) : Prop := ∀ j r : Nat, j < 7 → r < 4 → (r : Int) < (f3 j).toInt → lf (4 * j + r) = lg (4 * j + r)
theorem zStep_cg {f1 f2 f3 g1 g2 g3 lf lg : Nat → Int32} (hI : zP3 f1 f3) (h1 : ∀ j, j < 7 → f1 j = g1 j) (h2 : ∀ j, j < 7 → f2 j = g2 j) (h3 : ∀ j, j < 7 → f3 j = g3 j) (hl : zLs f3 lf lg) (x : Int32) : zStep f1 f2 f3 lf x = zStep g1 g2 g3 lg x := by
  unfold zStep
  rw [← zTurn_cg h1 h2 h3 x]
  by_cases q : zTurn f1 f2 f3 x = -1
  · rw [if_pos q, if_pos q]
  · rw [if_neg q, if_neg q]
    have g := (zTurn_lt (f2 := f2) hI x).resolve_left q
    have e := z_clI g.1
    have e2 := z_clI g.2.2.1
    have e3 := (hI x.toNatClampNeg (by omega)).1.2
    exact hl _ _ (by omega) (by omega) (by omega)
theorem zRunN_cg {f2 f3 g2 g3 lf lg : Nat → Int32} (h2 : ∀ j, j < 7 → f2 j = g2 j) (h3 : ∀ j, j < 7 → f3 j = g3 j) (hl : zLs f3 lf lg) : ∀ (n : Nat) (f1 g1 : Nat → Int32) (x : Int32) (k : Nat), zP3 f1 f3 → (∀ j, j < 7 → f1 j = g1 j) → (∀ j, j < 7 → (zRunN f2 f3 lf n f1 x k).1 j = (zRunN g2 g3 lg n g1 x k).1 j) ∧ (zRunN f2 f3 lf n f1 x k).2 = (zRunN g2 g3 lg n g1 x k).2
  | 0, f1, g1, x, k, _, h1 => ⟨h1, rfl⟩
  | n + 1, f1, g1, x, k, hI, h1 => by
    have e := zStep_cg hI h1 h2 h3 hl x
    have p := zPost_cg h1 h2 h3 x
    unfold zRunN
    rw [← e]
    by_cases q : zStep f1 f2 f3 lf x = -1
    · rw [if_pos q, if_pos q]
      exact ⟨p, rfl⟩
    · rw [if_neg q, if_neg q]
      exact zRunN_cg h2 h3 hl n _ _ _ _ (zPost_I hI x) p
/-- how often he was at each -/
def zVi (w : Nat → Int32) (t : Int32) : Nat → Int32 := if 0 ≤ t.toInt ∧ t.toInt < 7 then upd w t.toNatClampNeg (w t.toNatClampNeg + 1) else w
def zWasN (f2 f3 lf : Nat → Int32) : Nat → (Nat → Int32) → Int32 → (Nat → Int32) → Nat → Int32
  | 0, _, _, w => w
  | n + 1, f, x, w => if zStep f f2 f3 lf x = -1 then w else zWasN f2 f3 lf n (zPost f f2 f3 x) (zStep f f2 f3 lf x) (zVi w (zStep f f2 f3 lf x))
theorem zTurn_wo {P S f : Nat → Int32} {z n x : Int32} (h : ¬ zBit n x = 1) (h0 : 0 ≤ x.toInt) (h6 : x.toInt ≤ 6) : zTurn P S (zWo f z n) x = zTurn P S (zRo f z) x := by
  have e := z_clI h0
  have e2 : x = nI x.toNatClampNeg := z_nI (by omega) (by omega)
  have e3 : zWo f z n x.toNatClampNeg = zRo f z x.toNatClampNeg := if_neg (by rw [← e2]; exact h)
  unfold zTurn
  rw [e3]
theorem zTurn_inn {P S f : Nat → Int32} {z n x : Int32} (h : zBit n x = 1) (h0 : 0 ≤ x.toInt) (h6 : x.toInt ≤ 6) : zTurn P S (zWo f z n) x = -1 := by
  have e := z_clI h0
  have e2 : x = nI x.toNatClampNeg := z_nI (by omega) (by omega)
  have e3 : zWo f z n x.toNatClampNeg = 0 := if_pos (by rw [← e2]; exact h)
  unfold zTurn
  rw [e3]
  split
  · rfl
  · rfl
theorem zPost_wo {P S f : Nat → Int32} {z n x : Int32} (h : ¬ zBit n x = 1) (h0 : 0 ≤ x.toInt) (h6 : x.toInt ≤ 6) : zPost P S (zWo f z n) x = zPost P S (zRo f z) x := by
  unfold zPost
  rw [zTurn_wo h h0 h6]
set_option maxHeartbeats 4000000 in
set_option maxRecDepth 100000 in
/-- c_fm_turns -/
theorem c_fm_turns (l : Launch) (T : zTy) (mo : Nat) (m_all : Nat) (m_has : Nat) (i_size : Int32) (i_next : Int32) (i_where : Int32) (i_token : Int32) (i_number : Int32) (i_word : Int32) (i_wrong : Int32) (i_farCrossing : Int32) (m_read : Nat) (i_z0 : Int32) (i_crossings : Int32) (i_inns : Int32) (m_posts : Nat) (m_shut : Nat) (m_here : Nat) (i_steps : Int32) (i_done : Int32) (i_at : Int32) (i_gone : Int32) (m_was : Nat) (m_came : Nat) (m_seenAt : Nat) (m_rowWorth : Nat) (m_farBy : Nat) (m_used : Nat) (i_everywhere : Int32) (i_again0 : Int32) (i_d0 : Int32) (i_never : Int32) (i_firstCame : Int32) (i_longRun : Int32) (i_moved : Int32) (i_crowd : Int32) (i_l0 : Int32) (i_fitMany : Int32) (i_fitLeast : Int32) (i_fitMost : Int32) (m_fitPost : Nat) (m_fitEnd : Nat) (m_keptPosts : Nat) (i_x0 : Int32) (f_all : Nat → Int32) (f_posts : Nat → Int32) (f_shut : Nat → Int32) (c_ : Int32) (hL : zML f_all i_z0 i_crossings) (hc0 : 0 ≤ c_.toInt) (hc6 : c_.toInt ≤ 6) (hV : zMV (zRo f_all i_z0) f_posts) (hP : zMP f_posts) : zMi l T yX12_turns cX12_turns 5 (some .boolean) 2 0 0 [.ref mo, .int c_] [[(mo, .inr (11, [.ref m_all, .ref m_has, .int i_size, .int i_next, .int i_where, .int i_token, .int i_number, .int i_word, .int i_wrong, .int i_farCrossing, .ref m_read, .int i_z0, .int i_crossings, .int i_inns, .ref m_posts, .ref m_shut, .ref m_here, .int i_steps, .int i_done, .int i_at, .int i_gone, .ref m_was, .ref m_came, .ref m_seenAt, .ref m_rowWorth, .ref m_farBy, .ref m_used, .int i_everywhere, .int i_again0, .int i_d0, .int i_never, .int i_firstCame, .int i_longRun, .int i_moved, .int i_crowd, .int i_l0, .int i_fitMany, .int i_fitLeast, .int i_fitMost, .ref m_fitPost, .ref m_fitEnd, .ref m_keptPosts, .int i_x0]))], [(m_all, .inl (T.2 0, 3952, .inl f_all))], [(m_posts, .inl (T.2 0, 7, .inl f_posts))], [(m_shut, .inl (T.2 0, 7, .inl f_shut))]] (fun (r : Int32) bs => ∃ (g_posts : Nat → Int32), bs = [[(mo, .inr (11, [.ref m_all, .ref m_has, .int i_size, .int i_next, .int i_where, .int i_token, .int i_number, .int i_word, .int i_wrong, .int i_farCrossing, .ref m_read, .int i_z0, .int i_crossings, .int i_inns, .ref m_posts, .ref m_shut, .ref m_here, .int i_steps, .int i_done, .int i_at, .int i_gone, .ref m_was, .ref m_came, .ref m_seenAt, .ref m_rowWorth, .ref m_farBy, .ref m_used, .int i_everywhere, .int i_again0, .int i_d0, .int i_never, .int i_firstCame, .int i_longRun, .int i_moved, .int i_crowd, .int i_l0, .int i_fitMany, .int i_fitLeast, .int i_fitMost, .ref m_fitPost, .ref m_fitEnd, .ref m_keptPosts, .int i_x0]))], [(m_all, .inl (T.2 0, 3952, .inl f_all))], [(m_posts, .inl (T.2 0, 7, .inl g_posts))], [(m_shut, .inl (T.2 0, 7, .inl f_shut))]] ∧ zMP g_posts ∧ zMV (zRo f_all i_z0) g_posts ∧ g_posts = zPost f_posts f_shut (zRo f_all i_z0) c_ ∧ ((r = 1 ∧ ¬ zTurn f_posts f_shut (zRo f_all i_z0) c_ = -1 ∧ 0 < (zRd f_all i_z0 c_).toInt) ∨ (r = 0 ∧ zTurn f_posts f_shut (zRo f_all i_z0) c_ = -1))) := by
  refine zMi_of (own := RX12) (by decide) rfl (Nat.le_of_ble_eq_true rfl) ?_
  intro p e s m args below meth c A ls C hr hlocks hnm hAe G hl
  have hx := C.1
  have hb := C.2.1
  have hl : lv_has ls 5 [(0, .ref mo), (1, .int c_)] := hl
  have hz := hL.1
  have hcr := hL.cr
  have hcl := z_clI (x := c_) (by omega)
  have hpc := hP c_.toNatClampNeg (by omega)
  refine lv_aload_n hx hb dX12_turns_0 rfl (lv_at hl 0 rfl) ?_
  refine lv_iload_n hx hb dX12_turns_1 rfl (lv_at hl 1 rfl) ?_
  refine z_Vi (bc := [[(mo, .inr (11, [.ref m_all, .ref m_has, .int i_size, .int i_next, .int i_where, .int i_token, .int i_number, .int i_word, .int i_wrong, .int i_farCrossing, .ref m_read, .int i_z0, .int i_crossings, .int i_inns, .ref m_posts, .ref m_shut, .ref m_here, .int i_steps, .int i_done, .int i_at, .int i_gone, .ref m_was, .ref m_came, .ref m_seenAt, .ref m_rowWorth, .ref m_farBy, .ref m_used, .int i_everywhere, .int i_again0, .int i_d0, .int i_never, .int i_firstCame, .int i_longRun, .int i_moved, .int i_crowd, .int i_l0, .int i_fitMany, .int i_fitLeast, .int i_fitMost, .ref m_fitPost, .ref m_fitEnd, .ref m_keptPosts, .int i_x0]))], [(m_all, .inl (T.2 0, 3952, .inl f_all))]]) (br := [[(m_posts, .inl (T.2 0, 7, .inl f_posts))], [(m_shut, .inl (T.2 0, 7, .inl f_shut))]]) (As := [.int c_]) (rest := []) C G (c_m_roadsOf l T mo m_all m_has i_size i_next i_where i_token i_number i_word i_wrong i_farCrossing m_read i_z0 i_crossings i_inns m_posts m_shut m_here i_steps i_done i_at i_gone m_was m_came m_seenAt m_rowWorth m_farBy m_used i_everywhere i_again0 i_d0 i_never i_firstCame i_longRun i_moved i_crowd i_l0 i_fitMany i_fitLeast i_fitMost m_fitPost m_fitEnd m_keptPosts i_x0 f_all c_ (by first | with_reducible assumption | with_reducible rfl | omega | assumption | rfl) (by first | with_reducible assumption | with_reducible rfl | omega | assumption | rfl) (by first | with_reducible assumption | with_reducible rfl | omega | assumption | rfl)) (kV_RX12_181 C.2.2.2.2 (Nat.le_of_ble_eq_true rfl) (Nat.le_of_ble_eq_true rfl)) [0, 1] [2, 3] rfl rfl (ci := 11) (qc := (RX12, TX12, 43)) rfl rfl (List.mem_flatten.mpr ⟨_, List.mem_of_getElem? (i := 0) rfl, List.mem_cons_self⟩) rfl rfl hl.1 dX12_turns_2 (Nat.le_of_ble_eq_true rfl) (Nat.le_of_ble_eq_true rfl) (fun r_4 b1 H locs hw G => ?_)
  obtain ⟨rfl, h_1, h_2, h_3⟩ := hw
  have G : zS T A s.heap s [[(m_posts, .inl (T.2 0, 7, .inl f_posts))], [(m_shut, .inl (T.2 0, 7, .inl f_shut))], [(mo, .inr (11, [.ref m_all, .ref m_has, .int i_size, .int i_next, .int i_where, .int i_token, .int i_number, .int i_word, .int i_wrong, .int i_farCrossing, .ref m_read, .int i_z0, .int i_crossings, .int i_inns, .ref m_posts, .ref m_shut, .ref m_here, .int i_steps, .int i_done, .int i_at, .int i_gone, .ref m_was, .ref m_came, .ref m_seenAt, .ref m_rowWorth, .ref m_farBy, .ref m_used, .int i_everywhere, .int i_again0, .int i_d0, .int i_never, .int i_firstCame, .int i_longRun, .int i_moved, .int i_crowd, .int i_l0, .int i_fitMany, .int i_fitLeast, .int i_fitMost, .ref m_fitPost, .ref m_fitEnd, .ref m_keptPosts, .int i_x0]))], [(m_all, .inl (T.2 0, 3952, .inl f_all))]] _ _ := G
  subst h_1
  refine lv_istore_n (lv' := [(2, .int (zRd f_all i_z0 c_)), (0, .ref mo), (1, .int c_)]) hx hb dX12_turns_5 rfl hl (by decide) rfl (fun ls hl => ?_)
  obtain ⟨n0, hn0⟩ : ∃ n0, n0 = (zRd f_all i_z0 c_).toNatClampNeg := ⟨_, rfl⟩
  have hcn := z_clI (x := zRd f_all i_z0 c_) (by omega)
  have hn4 : (n0 : Int) = (zRd f_all i_z0 c_).toInt := by rw [hn0]; exact hcn
  have hT : zTurn f_posts f_shut (zRo f_all i_z0) c_ = zTurnR (zRd f_all i_z0 c_) (f_shut c_.toNatClampNeg) (n0 + 1 - 1) (f_posts c_.toNatClampNeg) := by unfold zTurn; rw [if_pos ⟨by omega, by omega⟩, hn0]; rfl
  have hVc : (zRd f_all i_z0 c_).toInt ≤ 0 ∨ (f_posts c_.toNatClampNeg).toInt = 0 ∨ (f_posts c_.toNatClampNeg).toInt < (zRd f_all i_z0 c_).toInt := hV c_.toNatClampNeg (by omega)
  refine lv_iconst (v := 1) hx hb dX12_turns_6 (by decide) ?_
  refine lv_istore_n (lv' := [(3, .int 1), (2, .int (zRd f_all i_z0 c_)), (0, .ref mo), (1, .int c_)]) hx hb dX12_turns_7 rfl hl (by decide) rfl (fun ls hl => ?_)
  refine z_loop (T := T) (α := Nat × Int32) 8 (fun (i, q9) => [[(m_posts, .inl (T.2 0, 7, .inl f_posts))], [(m_shut, .inl (T.2 0, 7, .inl f_shut))], [(mo, .inr (11, [.ref m_all, .ref m_has, .int i_size, .int i_next, .int i_where, .int i_token, .int i_number, .int i_word, .int i_wrong, .int i_farCrossing, .ref m_read, .int i_z0, .int i_crossings, .int i_inns, .ref m_posts, .ref m_shut, .ref m_here, .int i_steps, .int i_done, .int i_at, .int i_gone, .ref m_was, .ref m_came, .ref m_seenAt, .ref m_rowWorth, .ref m_farBy, .ref m_used, .int i_everywhere, .int i_again0, .int i_d0, .int i_never, .int i_firstCame, .int i_longRun, .int i_moved, .int i_crowd, .int i_l0, .int i_fitMany, .int i_fitLeast, .int i_fitMost, .ref m_fitPost, .ref m_fitEnd, .ref m_keptPosts, .int i_x0]))], [(m_all, .inl (T.2 0, 3952, .inl f_all))]]) (fun (i, q9) => [(3, .int (nI i)), (2, .int (zRd f_all i_z0 c_)), (0, .ref mo), (1, .int c_)]) (fun (i, q9) => 1 ≤ i ∧ (i : Int) ≤ (zRd f_all i_z0 c_).toInt + 1 ∧ zTurn f_posts f_shut (zRo f_all i_z0) c_ = zTurnR (zRd f_all i_z0 c_) (f_shut c_.toNatClampNeg) (n0 + 1 - i) q9 ∧ ((zRd f_all i_z0 c_).toInt ≤ 0 ∨ q9.toInt = (f_posts c_.toNatClampNeg).toInt + (i : Int) - 1 ∧ q9.toInt < (zRd f_all i_z0 c_).toInt ∨ q9.toInt = (f_posts c_.toNatClampNeg).toInt + (i : Int) - 1 - (zRd f_all i_z0 c_).toInt ∧ 0 ≤ q9.toInt)) (fun (i, q9) => 6 - i) ?_ (1, (f_posts c_.toNatClampNeg)) (show 1 ≤ 1 ∧ (1 : Int) ≤ (zRd f_all i_z0 c_).toInt + 1 ∧ zTurn f_posts f_shut (zRo f_all i_z0) c_ = zTurnR (zRd f_all i_z0 c_) (f_shut c_.toNatClampNeg) (n0 + 1 - 1) (f_posts c_.toNatClampNeg) ∧ ((zRd f_all i_z0 c_).toInt ≤ 0 ∨ (f_posts c_.toNatClampNeg).toInt = (f_posts c_.toNatClampNeg).toInt + (1 : Int) - 1 ∧ (f_posts c_.toNatClampNeg).toInt < (zRd f_all i_z0 c_).toInt ∨ (f_posts c_.toNatClampNeg).toInt = (f_posts c_.toNatClampNeg).toInt + (1 : Int) - 1 - (zRd f_all i_z0 c_).toInt ∧ 0 ≤ (f_posts c_.toNatClampNeg).toInt) from ⟨by omega, by omega, hT, by omega⟩) G (lv_sub hl [0, 1, 2, 3] rfl)
  rintro ⟨i, q9⟩ ⟨hi, hi5, hq, hq3⟩ ih_8 H locs ls G hl
  replace hi : 1 ≤ i := hi
  replace hi5 : (i : Int) ≤ (zRd f_all i_z0 c_).toInt + 1 := hi5
  replace hq : zTurn f_posts f_shut (zRo f_all i_z0) c_ = zTurnR (zRd f_all i_z0 c_) (f_shut c_.toNatClampNeg) (n0 + 1 - i) q9 := hq
  replace hq3 : ((zRd f_all i_z0 c_).toInt ≤ 0 ∨ q9.toInt = (f_posts c_.toNatClampNeg).toInt + (i : Int) - 1 ∧ q9.toInt < (zRd f_all i_z0 c_).toInt ∨ q9.toInt = (f_posts c_.toNatClampNeg).toInt + (i : Int) - 1 - (zRd f_all i_z0 c_).toInt ∧ 0 ≤ q9.toInt) := hq3
  replace G : zS T A s.heap s [[(m_posts, .inl (T.2 0, 7, .inl f_posts))], [(m_shut, .inl (T.2 0, 7, .inl f_shut))], [(mo, .inr (11, [.ref m_all, .ref m_has, .int i_size, .int i_next, .int i_where, .int i_token, .int i_number, .int i_word, .int i_wrong, .int i_farCrossing, .ref m_read, .int i_z0, .int i_crossings, .int i_inns, .ref m_posts, .ref m_shut, .ref m_here, .int i_steps, .int i_done, .int i_at, .int i_gone, .ref m_was, .ref m_came, .ref m_seenAt, .ref m_rowWorth, .ref m_farBy, .ref m_used, .int i_everywhere, .int i_again0, .int i_d0, .int i_never, .int i_firstCame, .int i_longRun, .int i_moved, .int i_crowd, .int i_l0, .int i_fitMany, .int i_fitLeast, .int i_fitMost, .ref m_fitPost, .ref m_fitEnd, .ref m_keptPosts, .int i_x0]))], [(m_all, .inl (T.2 0, 3952, .inl f_all))]] _ _ := G
  replace hl : lv_has ls 5 [(3, .int (nI i)), (2, .int (zRd f_all i_z0 c_)), (0, .ref mo), (1, .int c_)] := hl
  refine lv_iload_n hx hb dX12_turns_8 rfl (lv_at hl 0 rfl) ?_
  refine lv_iload_n hx hb dX12_turns_9 rfl (lv_at hl 1 rfl) ?_
  refine lv_icmp_gt (tgt := 59) hx hb dX12_turns_10 (by decide) (fun c_5 => ?_) (fun c_5 => ?_)
  · have c_5n : (zRd f_all i_z0 c_).toInt < (i : Int) := by have q := (fa_lt _ _).mp c_5; rw [nI_toInt (n := i) (by omega)] at q; exact q
    have hz : zTurn f_posts f_shut (zRo f_all i_z0) c_ = -1 := by rw [hq, show n0 + 1 - i = 0 by omega]; rfl
    refine lv_iconst (v := 0) hx hb dX12_turns_59 (by decide) ?_
    have G := G.sub (bs' := [[(mo, .inr (11, [.ref m_all, .ref m_has, .int i_size, .int i_next, .int i_where, .int i_token, .int i_number, .int i_word, .int i_wrong, .int i_farCrossing, .ref m_read, .int i_z0, .int i_crossings, .int i_inns, .ref m_posts, .ref m_shut, .ref m_here, .int i_steps, .int i_done, .int i_at, .int i_gone, .ref m_was, .ref m_came, .ref m_seenAt, .ref m_rowWorth, .ref m_farBy, .ref m_used, .int i_everywhere, .int i_again0, .int i_d0, .int i_never, .int i_firstCame, .int i_longRun, .int i_moved, .int i_crowd, .int i_l0, .int i_fitMany, .int i_fitLeast, .int i_fitMost, .ref m_fitPost, .ref m_fitEnd, .ref m_keptPosts, .int i_x0]))], [(m_all, .inl (T.2 0, 3952, .inl f_all))], [(m_posts, .inl (T.2 0, 7, .inl f_posts))], [(m_shut, .inl (T.2 0, 7, .inl f_shut))]]) [2, 3, 0, 1] rfl
    exact z_zret C hr hlocks G (Nat.le_of_ble_eq_true rfl) (Nat.le_of_ble_eq_true rfl) dX12_turns_60 rfl ⟨f_posts, rfl, (by first | with_reducible assumption | omega | trivial | assumption), (by first | with_reducible assumption | omega | trivial | assumption), (by unfold zPost; rw [if_pos hz]), (Or.inr (⟨rfl, hz⟩))⟩
  · have c_5n : ¬ (zRd f_all i_z0 c_).toInt < (i : Int) := fun q => c_5 ((fa_lt _ _).mpr (by rw [nI_toInt (n := i) (by omega)]; exact q))
    refine lv_aload_n hx hb dX12_turns_13 rfl (lv_at hl 2 rfl) ?_
    refine z_get C G clX12 2 rfl 14 (by decide) m_fl_RX12_20 rfl dX12_turns_14 ?_
    refine lv_iload_n hx hb dX12_turns_17 rfl (lv_at hl 3 rfl) ?_
    refine z_ild C G 0 rfl (vp_in_iff.mpr ⟨by omega, by omega⟩) dX12_turns_18 ?_
    refine lv_topi (fun v_6 ev_6 => ?_)
    subst ev_6
    refine lv_iload_n hx hb dX12_turns_19 rfl (lv_at hl 0 rfl) ?_
    refine lv_iadd hx hb dX12_turns_20 ?_
    refine lv_topi (fun y_7 ey_7 => ?_)
    have ey_7i : y_7.toInt = (f_posts c_.toNatClampNeg).toInt + (i : Int) := by rw [ey_7]; exact (z_iaddI (x := (f_posts c_.toNatClampNeg)) (y := (nI i)) (by rw [nI_toInt (n := i) (by omega)]; show -2147483648 ≤ (f_posts c_.toNatClampNeg).toInt + (i : Int); omega) (by rw [nI_toInt (n := i) (by omega)]; show (f_posts c_.toNatClampNeg).toInt + (i : Int) < 2147483648; omega)).trans (by rw [nI_toInt (n := i) (by omega)] <;> rfl)
    refine lv_iload_n hx hb dX12_turns_21 rfl (lv_at hl 1 rfl) ?_
    refine lv_irem hx hb dX12_turns_22 (fun q => absurd (congrArg Int32.toInt q) (by show ¬ _ = (0 : Int); omega)) ?_
    refine lv_topi (fun kk_7 ekk_7 => ?_)
    have hrm := zRm2 (x := y_7) (n := zRd f_all i_z0 c_) (by omega) (by omega) (by omega) (by omega)
    rw [← ekk_7] at hrm
    have hnx : zNext (zRd f_all i_z0 c_) q9 = kk_7 := zNext_m (p := (f_posts c_.toNatClampNeg).toInt) (i := (i : Int)) (by omega) (by omega) (by omega) (by omega) (by omega) (by omega)
    refine lv_istore (lv' := [(4, .int kk_7), (3, .int (nI i)), (2, .int (zRd f_all i_z0 c_)), (0, .ref mo), (1, .int c_)]) hx hb dX12_turns_23 hl (by decide) rfl (fun ls hl => ?_)
    refine lv_aload_n hx hb dX12_turns_25 rfl (lv_at hl 3 rfl) ?_
    refine z_get C G clX12 2 rfl 15 (by decide) m_fl_RX12_23 rfl dX12_turns_26 ?_
    refine lv_iload_n hx hb dX12_turns_29 rfl (lv_at hl 4 rfl) ?_
    refine z_ild C G 1 rfl (vp_in_iff.mpr ⟨by omega, by omega⟩) dX12_turns_30 ?_
    refine lv_topi (fun v_9 ev_9 => ?_)
    subst ev_9
    refine lv_iload hx hb dX12_turns_31 (lv_at hl 0 rfl) ?_
    refine lv_ishr hx hb dX12_turns_33 ?_
    refine lv_iconst (v := 1) hx hb dX12_turns_34 (by decide) ?_
    refine lv_iand hx hb dX12_turns_35 ?_
    refine lv_iconst (v := 1) hx hb dX12_turns_36 (by decide) ?_
    refine lv_icmp_ne (tgt := 43) hx hb dX12_turns_37 (by decide) (fun c_10 => ?_) (fun c_10 => ?_)
    · have c_10n : ¬ (((f_shut c_.toNatClampNeg) >>> (kk_7 &&& 31)) &&& 1).toInt = (1 : Int) := fun q => c_10 ((fa_eq _ _).mpr q)
      have hz0 : zBit (f_shut c_.toNatClampNeg) kk_7 = 0 := zBit_n (by assumption)
      have hz : zTurn f_posts f_shut (zRo f_all i_z0) c_ = kk_7 := by rw [hq, show n0 + 1 - i = (n0 - i) + 1 by omega, zTurnR, hnx, if_pos hz0]
      have hz1 : ¬ zTurn f_posts f_shut (zRo f_all i_z0) c_ = -1 := by rw [hz]; exact fun q8 => absurd (show kk_7.toInt = -1 from by rw [q8]; rfl) (by omega)
      refine lv_aload_n hx hb dX12_turns_43 rfl (lv_at hl 3 rfl) ?_
      refine z_get C G clX12 2 rfl 14 (by decide) m_fl_RX12_20 rfl dX12_turns_44 ?_
      refine lv_iload_n hx hb dX12_turns_47 rfl (lv_at hl 4 rfl) ?_
      refine lv_iload hx hb dX12_turns_48 (lv_at hl 0 rfl) ?_
      refine z_ist C G 0 rfl (vp_in_iff.mpr ⟨by omega, by omega⟩) dX12_turns_50 (fun H locs G => ?_)
      have G : zS T A s.heap s [[(m_posts, .inl (T.2 0, 7, .inl (upd f_posts c_.toNatClampNeg kk_7)))], [(m_shut, .inl (T.2 0, 7, .inl f_shut))], [(mo, .inr (11, [.ref m_all, .ref m_has, .int i_size, .int i_next, .int i_where, .int i_token, .int i_number, .int i_word, .int i_wrong, .int i_farCrossing, .ref m_read, .int i_z0, .int i_crossings, .int i_inns, .ref m_posts, .ref m_shut, .ref m_here, .int i_steps, .int i_done, .int i_at, .int i_gone, .ref m_was, .ref m_came, .ref m_seenAt, .ref m_rowWorth, .ref m_farBy, .ref m_used, .int i_everywhere, .int i_again0, .int i_d0, .int i_never, .int i_firstCame, .int i_longRun, .int i_moved, .int i_crowd, .int i_l0, .int i_fitMany, .int i_fitLeast, .int i_fitMost, .ref m_fitPost, .ref m_fitEnd, .ref m_keptPosts, .int i_x0]))], [(m_all, .inl (T.2 0, 3952, .inl f_all))]] _ _ := G
      refine lv_iconst (v := 1) hx hb dX12_turns_51 (by decide) ?_
      have G := G.sub (bs' := [[(mo, .inr (11, [.ref m_all, .ref m_has, .int i_size, .int i_next, .int i_where, .int i_token, .int i_number, .int i_word, .int i_wrong, .int i_farCrossing, .ref m_read, .int i_z0, .int i_crossings, .int i_inns, .ref m_posts, .ref m_shut, .ref m_here, .int i_steps, .int i_done, .int i_at, .int i_gone, .ref m_was, .ref m_came, .ref m_seenAt, .ref m_rowWorth, .ref m_farBy, .ref m_used, .int i_everywhere, .int i_again0, .int i_d0, .int i_never, .int i_firstCame, .int i_longRun, .int i_moved, .int i_crowd, .int i_l0, .int i_fitMany, .int i_fitLeast, .int i_fitMost, .ref m_fitPost, .ref m_fitEnd, .ref m_keptPosts, .int i_x0]))], [(m_all, .inl (T.2 0, 3952, .inl f_all))], [(m_posts, .inl (T.2 0, 7, .inl (upd f_posts c_.toNatClampNeg kk_7)))], [(m_shut, .inl (T.2 0, 7, .inl f_shut))]]) [2, 3, 0, 1] rfl
      exact z_zret C hr hlocks G (Nat.le_of_ble_eq_true rfl) (Nat.le_of_ble_eq_true rfl) dX12_turns_52 rfl ⟨(upd f_posts c_.toNatClampNeg kk_7), rfl, (zMP_upd hP (by omega)), (zMV_upd hV (show kk_7.toInt < (zRd f_all i_z0 c_).toInt by omega)), (by unfold zPost; rw [if_neg hz1, hz]), (Or.inl (⟨rfl, hz1, (by omega)⟩))⟩
    · have c_10n : (((f_shut c_.toNatClampNeg) >>> (kk_7 &&& 31)) &&& 1).toInt = (1 : Int) := (fa_eq _ _).mp c_10
      have hz0 : ¬ zBit (f_shut c_.toNatClampNeg) kk_7 = 0 := zBit_o (by assumption)
      have hz : zTurn f_posts f_shut (zRo f_all i_z0) c_ = zTurnR (zRd f_all i_z0 c_) (f_shut c_.toNatClampNeg) (n0 + 1 - (i + 1)) kk_7 := by rw [hq, show n0 + 1 - i = (n0 + 1 - (i + 1)) + 1 by omega, zTurnR, hnx, if_neg hz0]
      refine lv_goto (tgt := 53) hx hb dX12_turns_40 (by decide) ?_
      refine lv_iinc (v := nI (i + 1)) (lv' := [(3, .int (nI (i + 1))), (4, .int kk_7), (2, .int (zRd f_all i_z0 c_)), (0, .ref mo), (1, .int c_)]) hx hb dX12_turns_53 hl (k := 1) rfl (z_inc i 1) (by decide) rfl (fun ls hl => ?_)
      refine lv_goto (tgt := 8) hx hb dX12_turns_56 (by decide) ?_
      exact ih_8 ((i + 1), kk_7) (show 1 ≤ (i + 1) ∧ ((i + 1) : Int) ≤ (zRd f_all i_z0 c_).toInt + 1 ∧ zTurn f_posts f_shut (zRo f_all i_z0) c_ = zTurnR (zRd f_all i_z0 c_) (f_shut c_.toNatClampNeg) (n0 + 1 - (i + 1)) kk_7 ∧ ((zRd f_all i_z0 c_).toInt ≤ 0 ∨ kk_7.toInt = (f_posts c_.toNatClampNeg).toInt + ((i + 1) : Int) - 1 ∧ kk_7.toInt < (zRd f_all i_z0 c_).toInt ∨ kk_7.toInt = (f_posts c_.toNatClampNeg).toInt + ((i + 1) : Int) - 1 - (zRd f_all i_z0 c_).toInt ∧ 0 ≤ kk_7.toInt) from ⟨by omega, by omega, hz, by omega⟩) (show 6 - (i + 1) < 6 - i from by omega) _ _ ls G (lv_sub hl [0, 2, 3, 4] rfl)
set_option maxHeartbeats 4000000 in
set_option maxRecDepth 100000 in
/-- c_fm_stepsOn -/
theorem c_fm_stepsOn (l : Launch) (T : zTy) (mo : Nat) (m_all : Nat) (m_has : Nat) (i_size : Int32) (i_next : Int32) (i_where : Int32) (i_token : Int32) (i_number : Int32) (i_word : Int32) (i_wrong : Int32) (i_farCrossing : Int32) (m_read : Nat) (i_z0 : Int32) (i_crossings : Int32) (i_inns : Int32) (m_posts : Nat) (m_shut : Nat) (m_here : Nat) (i_steps : Int32) (i_done : Int32) (i_at : Int32) (i_gone : Int32) (m_was : Nat) (m_came : Nat) (m_seenAt : Nat) (m_rowWorth : Nat) (m_farBy : Nat) (m_used : Nat) (i_everywhere : Int32) (i_again0 : Int32) (i_d0 : Int32) (i_never : Int32) (i_firstCame : Int32) (i_longRun : Int32) (i_moved : Int32) (i_crowd : Int32) (i_l0 : Int32) (i_fitMany : Int32) (i_fitLeast : Int32) (i_fitMost : Int32) (m_fitPost : Nat) (m_fitEnd : Nat) (m_keptPosts : Nat) (i_x0 : Int32) (f_all : Nat → Int32) (f_posts : Nat → Int32) (f_shut : Nat → Int32) (f_was : Nat → Int32) (hL : zML f_all i_z0 i_crossings) (ha0 : 0 ≤ i_at.toInt) (ha6 : i_at.toInt ≤ 6) (hg0 : 0 ≤ i_gone.toInt) (hg9 : i_gone.toInt ≤ 100000) (hV : zMV (zRo f_all i_z0) f_posts) (hP : zMP f_posts) : zMi l T yX12_stepsOn cX12_stepsOn 1 (some .boolean) 3 0 0 [.ref mo] [[(mo, .inr (11, [.ref m_all, .ref m_has, .int i_size, .int i_next, .int i_where, .int i_token, .int i_number, .int i_word, .int i_wrong, .int i_farCrossing, .ref m_read, .int i_z0, .int i_crossings, .int i_inns, .ref m_posts, .ref m_shut, .ref m_here, .int i_steps, .int i_done, .int i_at, .int i_gone, .ref m_was, .ref m_came, .ref m_seenAt, .ref m_rowWorth, .ref m_farBy, .ref m_used, .int i_everywhere, .int i_again0, .int i_d0, .int i_never, .int i_firstCame, .int i_longRun, .int i_moved, .int i_crowd, .int i_l0, .int i_fitMany, .int i_fitLeast, .int i_fitMost, .ref m_fitPost, .ref m_fitEnd, .ref m_keptPosts, .int i_x0]))], [(m_all, .inl (T.2 0, 3952, .inl f_all))], [(m_posts, .inl (T.2 0, 7, .inl f_posts))], [(m_shut, .inl (T.2 0, 7, .inl f_shut))], [(m_was, .inl (T.2 0, 7, .inl f_was))]] (fun (r : Int32) bs => ∃ (j_at : Int32) (j_gone : Int32) (g_posts : Nat → Int32) (g_was : Nat → Int32), bs = [[(mo, .inr (11, [.ref m_all, .ref m_has, .int i_size, .int i_next, .int i_where, .int i_token, .int i_number, .int i_word, .int i_wrong, .int i_farCrossing, .ref m_read, .int i_z0, .int i_crossings, .int i_inns, .ref m_posts, .ref m_shut, .ref m_here, .int i_steps, .int i_done, .int j_at, .int j_gone, .ref m_was, .ref m_came, .ref m_seenAt, .ref m_rowWorth, .ref m_farBy, .ref m_used, .int i_everywhere, .int i_again0, .int i_d0, .int i_never, .int i_firstCame, .int i_longRun, .int i_moved, .int i_crowd, .int i_l0, .int i_fitMany, .int i_fitLeast, .int i_fitMost, .ref m_fitPost, .ref m_fitEnd, .ref m_keptPosts, .int i_x0]))], [(m_all, .inl (T.2 0, 3952, .inl f_all))], [(m_posts, .inl (T.2 0, 7, .inl g_posts))], [(m_shut, .inl (T.2 0, 7, .inl f_shut))], [(m_was, .inl (T.2 0, 7, .inl g_was))]] ∧ zMP g_posts ∧ 0 ≤ j_at.toInt ∧ j_at.toInt ≤ 6 ∧ zMV (zRo f_all i_z0) g_posts ∧ g_posts = zPost f_posts f_shut (zWo f_all i_z0 i_inns) i_at ∧ ((r = 1 ∧ ¬ zStep f_posts f_shut (zWo f_all i_z0 i_inns) (zLo f_all i_z0) i_at = -1 ∧ j_at = zStep f_posts f_shut (zWo f_all i_z0 i_inns) (zLo f_all i_z0) i_at ∧ j_gone.toInt = i_gone.toInt + 1 ∧ g_was = upd f_was j_at.toNatClampNeg (f_was j_at.toNatClampNeg + 1)) ∨ (r = 0 ∧ zStep f_posts f_shut (zWo f_all i_z0 i_inns) (zLo f_all i_z0) i_at = -1 ∧ j_at = i_at ∧ j_gone = i_gone ∧ g_was = f_was))) := by
  refine zMi_of (own := RX12) (by decide) rfl (Nat.le_of_ble_eq_true rfl) ?_
  intro p e s m args below meth c A ls C hr hlocks hnm hAe G hl
  have hx := C.1
  have hb := C.2.1
  have hl : lv_has ls 1 [(0, .ref mo)] := hl
  have hz := hL.1
  have hcr := hL.cr
  refine lv_aload_n hx hb dX12_stepsOn_0 rfl (lv_at hl 0 rfl) ?_
  refine lv_aload_n hx hb dX12_stepsOn_1 rfl (lv_at hl 0 rfl) ?_
  refine z_get C G clX12 0 rfl 19 (by decide) m_fl_RX12_202 rfl dX12_stepsOn_2 ?_
  refine z_Vi (bc := [[(mo, .inr (11, [.ref m_all, .ref m_has, .int i_size, .int i_next, .int i_where, .int i_token, .int i_number, .int i_word, .int i_wrong, .int i_farCrossing, .ref m_read, .int i_z0, .int i_crossings, .int i_inns, .ref m_posts, .ref m_shut, .ref m_here, .int i_steps, .int i_done, .int i_at, .int i_gone, .ref m_was, .ref m_came, .ref m_seenAt, .ref m_rowWorth, .ref m_farBy, .ref m_used, .int i_everywhere, .int i_again0, .int i_d0, .int i_never, .int i_firstCame, .int i_longRun, .int i_moved, .int i_crowd, .int i_l0, .int i_fitMany, .int i_fitLeast, .int i_fitMost, .ref m_fitPost, .ref m_fitEnd, .ref m_keptPosts, .int i_x0]))]]) (br := [[(m_all, .inl (T.2 0, 3952, .inl f_all))], [(m_posts, .inl (T.2 0, 7, .inl f_posts))], [(m_shut, .inl (T.2 0, 7, .inl f_shut))], [(m_was, .inl (T.2 0, 7, .inl f_was))]]) (As := [.int i_at]) (rest := []) C G (c_m_isInn l T mo m_all m_has i_size i_next i_where i_token i_number i_word i_wrong i_farCrossing m_read i_z0 i_crossings i_inns m_posts m_shut m_here i_steps i_done i_at i_gone m_was m_came m_seenAt m_rowWorth m_farBy m_used i_everywhere i_again0 i_d0 i_never i_firstCame i_longRun i_moved i_crowd i_l0 i_fitMany i_fitLeast i_fitMost m_fitPost m_fitEnd m_keptPosts i_x0 i_at) (kV_RX12_178 C.2.2.2.2 (Nat.le_of_ble_eq_true rfl) (Nat.le_of_ble_eq_true rfl)) [0] [1, 2, 3, 4] rfl rfl (ci := 11) (qc := (RX12, TX12, 43)) rfl rfl (List.mem_flatten.mpr ⟨_, List.mem_of_getElem? (i := 0) rfl, List.mem_cons_self⟩) rfl rfl hl.1 dX12_stepsOn_5 (Nat.le_of_ble_eq_true rfl) (Nat.le_of_ble_eq_true rfl) (fun r_2 b1 H locs hw G => ?_)
  obtain ⟨rfl, hc_1⟩ := hw
  have G : zS T A s.heap s [[(m_all, .inl (T.2 0, 3952, .inl f_all))], [(m_posts, .inl (T.2 0, 7, .inl f_posts))], [(m_shut, .inl (T.2 0, 7, .inl f_shut))], [(m_was, .inl (T.2 0, 7, .inl f_was))], [(mo, .inr (11, [.ref m_all, .ref m_has, .int i_size, .int i_next, .int i_where, .int i_token, .int i_number, .int i_word, .int i_wrong, .int i_farCrossing, .ref m_read, .int i_z0, .int i_crossings, .int i_inns, .ref m_posts, .ref m_shut, .ref m_here, .int i_steps, .int i_done, .int i_at, .int i_gone, .ref m_was, .ref m_came, .ref m_seenAt, .ref m_rowWorth, .ref m_farBy, .ref m_used, .int i_everywhere, .int i_again0, .int i_d0, .int i_never, .int i_firstCame, .int i_longRun, .int i_moved, .int i_crowd, .int i_l0, .int i_fitMany, .int i_fitLeast, .int i_fitMost, .ref m_fitPost, .ref m_fitEnd, .ref m_keptPosts, .int i_x0]))]] _ _ := G
  rcases hc_1 with ⟨rfl, h_3⟩ | ⟨rfl, h_4⟩
  · have h_3 : zInn i_inns i_at := h_3
    refine lv_if_ne (tgt := 22) hx hb dX12_stepsOn_8 (by decide) (fun _ => ?_) (fun q => absurd q (by decide))
    have hT1 : zTurn f_posts f_shut (zWo f_all i_z0 i_inns) i_at = -1 := zTurn_inn (by assumption) ha0 ha6
    have hp1 : f_posts = zPost f_posts f_shut (zWo f_all i_z0 i_inns) i_at := by unfold zPost; rw [if_pos hT1]
    have hS1 : zStep f_posts f_shut (zWo f_all i_z0 i_inns) (zLo f_all i_z0) i_at = -1 := by unfold zStep; rw [if_pos hT1]
    refine lv_iconst (v := 0) hx hb dX12_stepsOn_22 (by decide) ?_
    have G := G.sub (bs' := [[(mo, .inr (11, [.ref m_all, .ref m_has, .int i_size, .int i_next, .int i_where, .int i_token, .int i_number, .int i_word, .int i_wrong, .int i_farCrossing, .ref m_read, .int i_z0, .int i_crossings, .int i_inns, .ref m_posts, .ref m_shut, .ref m_here, .int i_steps, .int i_done, .int i_at, .int i_gone, .ref m_was, .ref m_came, .ref m_seenAt, .ref m_rowWorth, .ref m_farBy, .ref m_used, .int i_everywhere, .int i_again0, .int i_d0, .int i_never, .int i_firstCame, .int i_longRun, .int i_moved, .int i_crowd, .int i_l0, .int i_fitMany, .int i_fitLeast, .int i_fitMost, .ref m_fitPost, .ref m_fitEnd, .ref m_keptPosts, .int i_x0]))], [(m_all, .inl (T.2 0, 3952, .inl f_all))], [(m_posts, .inl (T.2 0, 7, .inl f_posts))], [(m_shut, .inl (T.2 0, 7, .inl f_shut))], [(m_was, .inl (T.2 0, 7, .inl f_was))]]) [4, 0, 1, 2, 3] rfl
    exact z_zret C hr hlocks G (Nat.le_of_ble_eq_true rfl) (Nat.le_of_ble_eq_true rfl) dX12_stepsOn_23 rfl ⟨i_at, i_gone, f_posts, f_was, rfl, (by first | with_reducible assumption | omega | trivial | assumption), (by first | with_reducible assumption | omega | trivial | assumption), (by first | with_reducible assumption | omega | trivial | assumption), (by first | with_reducible assumption | omega | trivial | assumption), hp1, (Or.inr (⟨rfl, hS1, rfl, rfl, rfl⟩))⟩
  · have h_4 : ¬ zInn i_inns i_at := h_4
    refine lv_if_ne (tgt := 22) hx hb dX12_stepsOn_8 (by decide) (fun q => absurd (by decide) q) (fun _ => ?_)
    refine lv_aload_n hx hb dX12_stepsOn_11 rfl (lv_at hl 0 rfl) ?_
    refine lv_aload_n hx hb dX12_stepsOn_12 rfl (lv_at hl 0 rfl) ?_
    refine z_get C G clX12 4 rfl 19 (by decide) m_fl_RX12_202 rfl dX12_stepsOn_13 ?_
    refine z_Vi (bc := [[(mo, .inr (11, [.ref m_all, .ref m_has, .int i_size, .int i_next, .int i_where, .int i_token, .int i_number, .int i_word, .int i_wrong, .int i_farCrossing, .ref m_read, .int i_z0, .int i_crossings, .int i_inns, .ref m_posts, .ref m_shut, .ref m_here, .int i_steps, .int i_done, .int i_at, .int i_gone, .ref m_was, .ref m_came, .ref m_seenAt, .ref m_rowWorth, .ref m_farBy, .ref m_used, .int i_everywhere, .int i_again0, .int i_d0, .int i_never, .int i_firstCame, .int i_longRun, .int i_moved, .int i_crowd, .int i_l0, .int i_fitMany, .int i_fitLeast, .int i_fitMost, .ref m_fitPost, .ref m_fitEnd, .ref m_keptPosts, .int i_x0]))], [(m_all, .inl (T.2 0, 3952, .inl f_all))], [(m_posts, .inl (T.2 0, 7, .inl f_posts))], [(m_shut, .inl (T.2 0, 7, .inl f_shut))]]) (br := [[(m_was, .inl (T.2 0, 7, .inl f_was))]]) (As := [.int i_at]) (rest := []) C G (c_fm_turns l T mo m_all m_has i_size i_next i_where i_token i_number i_word i_wrong i_farCrossing m_read i_z0 i_crossings i_inns m_posts m_shut m_here i_steps i_done i_at i_gone m_was m_came m_seenAt m_rowWorth m_farBy m_used i_everywhere i_again0 i_d0 i_never i_firstCame i_longRun i_moved i_crowd i_l0 i_fitMany i_fitLeast i_fitMost m_fitPost m_fitEnd m_keptPosts i_x0 f_all f_posts f_shut i_at (by first | with_reducible assumption | with_reducible rfl | omega | assumption | rfl) (by first | with_reducible assumption | with_reducible rfl | omega | assumption | rfl) (by first | with_reducible assumption | with_reducible rfl | omega | assumption | rfl) (by first | with_reducible assumption | with_reducible rfl | omega | assumption | rfl) (by first | with_reducible assumption | with_reducible rfl | omega | assumption | rfl)) (kV_RX12_205 C.2.2.2.2 (Nat.le_of_ble_eq_true rfl) (Nat.le_of_ble_eq_true rfl)) [4, 0, 1, 2] [3] rfl rfl (ci := 11) (qc := (RX12, TX12, 43)) rfl rfl (List.mem_flatten.mpr ⟨_, List.mem_of_getElem? (i := 0) rfl, List.mem_cons_self⟩) rfl rfl hl.1 dX12_stepsOn_16 (Nat.le_of_ble_eq_true rfl) (Nat.le_of_ble_eq_true rfl) (fun r_10 b1 H locs hw G => ?_)
    obtain ⟨g_posts_5, rfl, h_6, h_7, h_8, hc_9⟩ := hw
    have G : zS T A s.heap s [[(m_was, .inl (T.2 0, 7, .inl f_was))], [(mo, .inr (11, [.ref m_all, .ref m_has, .int i_size, .int i_next, .int i_where, .int i_token, .int i_number, .int i_word, .int i_wrong, .int i_farCrossing, .ref m_read, .int i_z0, .int i_crossings, .int i_inns, .ref m_posts, .ref m_shut, .ref m_here, .int i_steps, .int i_done, .int i_at, .int i_gone, .ref m_was, .ref m_came, .ref m_seenAt, .ref m_rowWorth, .ref m_farBy, .ref m_used, .int i_everywhere, .int i_again0, .int i_d0, .int i_never, .int i_firstCame, .int i_longRun, .int i_moved, .int i_crowd, .int i_l0, .int i_fitMany, .int i_fitLeast, .int i_fitMost, .ref m_fitPost, .ref m_fitEnd, .ref m_keptPosts, .int i_x0]))], [(m_all, .inl (T.2 0, 3952, .inl f_all))], [(m_posts, .inl (T.2 0, 7, .inl g_posts_5))], [(m_shut, .inl (T.2 0, 7, .inl f_shut))]] _ _ := G
    rcases hc_9 with ⟨rfl, h_11, h_12⟩ | ⟨rfl, h_13⟩
    · have h_11 : ¬ zTurn f_posts f_shut (zRo f_all i_z0) i_at = -1 := h_11
      have h_12 : 0 < (zRd f_all i_z0 i_at).toInt := h_12
      refine lv_if_ne (tgt := 24) hx hb dX12_stepsOn_19 (by decide) (fun _ => ?_) (fun q => absurd q (by decide))
      have hcl := z_clI (x := i_at) (by omega)
      have hpa : 0 ≤ (g_posts_5 i_at.toNatClampNeg).toInt ∧ (g_posts_5 i_at.toNatClampNeg).toInt ≤ 3 := (show zMP g_posts_5 by assumption) i_at.toNatClampNeg (by omega)
      have hb1 : ¬ zBit i_inns i_at = 1 := by assumption
      have hne : ¬ zTurn f_posts f_shut (zRo f_all i_z0) i_at = -1 := h_11
      have hgp : g_posts_5 i_at.toNatClampNeg = zTurn f_posts f_shut (zRo f_all i_z0) i_at := by rw [h_8]; unfold zPost; rw [if_neg hne]; exact z_eq rfl
      have hST : zStep f_posts f_shut (zWo f_all i_z0 i_inns) (zLo f_all i_z0) i_at = zLe f_all i_z0 i_at (g_posts_5 i_at.toNatClampNeg) := by unfold zStep; rw [zTurn_wo hb1 ha0 ha6, if_neg hne, hgp]; rfl
      refine lv_aload_n hx hb dX12_stepsOn_24 rfl (lv_at hl 0 rfl) ?_
      refine lv_aload_n hx hb dX12_stepsOn_25 rfl (lv_at hl 0 rfl) ?_
      refine lv_aload_n hx hb dX12_stepsOn_26 rfl (lv_at hl 0 rfl) ?_
      refine z_get C G clX12 1 rfl 19 (by decide) m_fl_RX12_202 rfl dX12_stepsOn_27 ?_
      refine lv_aload_n hx hb dX12_stepsOn_30 rfl (lv_at hl 0 rfl) ?_
      refine z_get C G clX12 1 rfl 14 (by decide) m_fl_RX12_20 rfl dX12_stepsOn_31 ?_
      refine lv_aload_n hx hb dX12_stepsOn_34 rfl (lv_at hl 0 rfl) ?_
      refine z_get C G clX12 1 rfl 19 (by decide) m_fl_RX12_202 rfl dX12_stepsOn_35 ?_
      refine z_ild C G 3 rfl (vp_in_iff.mpr ⟨by omega, by omega⟩) dX12_stepsOn_38 ?_
      refine lv_topi (fun v_14 ev_14 => ?_)
      subst ev_14
      refine z_Vi (bc := [[(mo, .inr (11, [.ref m_all, .ref m_has, .int i_size, .int i_next, .int i_where, .int i_token, .int i_number, .int i_word, .int i_wrong, .int i_farCrossing, .ref m_read, .int i_z0, .int i_crossings, .int i_inns, .ref m_posts, .ref m_shut, .ref m_here, .int i_steps, .int i_done, .int i_at, .int i_gone, .ref m_was, .ref m_came, .ref m_seenAt, .ref m_rowWorth, .ref m_farBy, .ref m_used, .int i_everywhere, .int i_again0, .int i_d0, .int i_never, .int i_firstCame, .int i_longRun, .int i_moved, .int i_crowd, .int i_l0, .int i_fitMany, .int i_fitLeast, .int i_fitMost, .ref m_fitPost, .ref m_fitEnd, .ref m_keptPosts, .int i_x0]))], [(m_all, .inl (T.2 0, 3952, .inl f_all))]]) (br := [[(m_was, .inl (T.2 0, 7, .inl f_was))], [(m_posts, .inl (T.2 0, 7, .inl g_posts_5))], [(m_shut, .inl (T.2 0, 7, .inl f_shut))]]) (As := [.int i_at, .int (g_posts_5 i_at.toNatClampNeg)]) (rest := [.ref mo]) C G (c_m_leadsTo l T mo m_all m_has i_size i_next i_where i_token i_number i_word i_wrong i_farCrossing m_read i_z0 i_crossings i_inns m_posts m_shut m_here i_steps i_done i_at i_gone m_was m_came m_seenAt m_rowWorth m_farBy m_used i_everywhere i_again0 i_d0 i_never i_firstCame i_longRun i_moved i_crowd i_l0 i_fitMany i_fitLeast i_fitMost m_fitPost m_fitEnd m_keptPosts i_x0 f_all i_at (g_posts_5 i_at.toNatClampNeg) (by first | with_reducible assumption | with_reducible rfl | omega | assumption | rfl) (by first | with_reducible assumption | with_reducible rfl | omega | assumption | rfl) (by first | with_reducible assumption | with_reducible rfl | omega | assumption | rfl) (by first | with_reducible assumption | with_reducible rfl | omega | assumption | rfl) (by first | with_reducible assumption | with_reducible rfl | omega | assumption | rfl)) (kV_RX12_190 C.2.2.2.2 (Nat.le_of_ble_eq_true rfl) (Nat.le_of_ble_eq_true rfl)) [1, 2] [0, 3, 4] rfl rfl (ci := 11) (qc := (RX12, TX12, 43)) rfl rfl (List.mem_flatten.mpr ⟨_, List.mem_of_getElem? (i := 0) rfl, List.mem_cons_self⟩) rfl rfl hl.1 dX12_stepsOn_39 (Nat.le_of_ble_eq_true rfl) (Nat.le_of_ble_eq_true rfl) (fun r_18 b1 H locs hw G => ?_)
      obtain ⟨rfl, h_15, h_16, h_17⟩ := hw
      have G : zS T A s.heap s [[(m_was, .inl (T.2 0, 7, .inl f_was))], [(m_posts, .inl (T.2 0, 7, .inl g_posts_5))], [(m_shut, .inl (T.2 0, 7, .inl f_shut))], [(mo, .inr (11, [.ref m_all, .ref m_has, .int i_size, .int i_next, .int i_where, .int i_token, .int i_number, .int i_word, .int i_wrong, .int i_farCrossing, .ref m_read, .int i_z0, .int i_crossings, .int i_inns, .ref m_posts, .ref m_shut, .ref m_here, .int i_steps, .int i_done, .int i_at, .int i_gone, .ref m_was, .ref m_came, .ref m_seenAt, .ref m_rowWorth, .ref m_farBy, .ref m_used, .int i_everywhere, .int i_again0, .int i_d0, .int i_never, .int i_firstCame, .int i_longRun, .int i_moved, .int i_crowd, .int i_l0, .int i_fitMany, .int i_fitLeast, .int i_fitMost, .ref m_fitPost, .ref m_fitEnd, .ref m_keptPosts, .int i_x0]))], [(m_all, .inl (T.2 0, 3952, .inl f_all))]] _ _ := G
      subst h_15
      refine z_put C G clX12 3 rfl 19 (by decide) m_fl_RX12_202 rfl rfl rfl (Nat.le_of_ble_eq_true rfl) dX12_stepsOn_42 (fun H locs G => ?_)
      have G : zS T A s.heap s [[(m_was, .inl (T.2 0, 7, .inl f_was))], [(m_posts, .inl (T.2 0, 7, .inl g_posts_5))], [(m_shut, .inl (T.2 0, 7, .inl f_shut))], [(mo, .inr (11, [.ref m_all, .ref m_has, .int i_size, .int i_next, .int i_where, .int i_token, .int i_number, .int i_word, .int i_wrong, .int i_farCrossing, .ref m_read, .int i_z0, .int i_crossings, .int i_inns, .ref m_posts, .ref m_shut, .ref m_here, .int i_steps, .int i_done, .int (zLe f_all i_z0 i_at (g_posts_5 i_at.toNatClampNeg)), .int i_gone, .ref m_was, .ref m_came, .ref m_seenAt, .ref m_rowWorth, .ref m_farBy, .ref m_used, .int i_everywhere, .int i_again0, .int i_d0, .int i_never, .int i_firstCame, .int i_longRun, .int i_moved, .int i_crowd, .int i_l0, .int i_fitMany, .int i_fitLeast, .int i_fitMost, .ref m_fitPost, .ref m_fitEnd, .ref m_keptPosts, .int i_x0]))], [(m_all, .inl (T.2 0, 3952, .inl f_all))]] _ _ := G
      refine lv_aload_n hx hb dX12_stepsOn_45 rfl (lv_at hl 0 rfl) ?_
      refine lv_dup hx hb dX12_stepsOn_46 rfl ?_
      refine z_get C G clX12 3 rfl 20 (by decide) m_fl_RX12_208 rfl dX12_stepsOn_47 ?_
      refine lv_iconst (v := 1) hx hb dX12_stepsOn_50 (by decide) ?_
      refine lv_iadd hx hb dX12_stepsOn_51 ?_
      refine lv_topi (fun y_19 ey_19 => ?_)
      have ey_19i : y_19.toInt = i_gone.toInt + (1 : Int) := by rw [ey_19]; exact z_iaddI (x := i_gone) (y := (1 : Int32)) (by show -2147483648 ≤ i_gone.toInt + (1 : Int); omega) (by show i_gone.toInt + (1 : Int) < 2147483648; omega)
      refine z_put C G clX12 3 rfl 20 (by decide) m_fl_RX12_208 rfl rfl rfl (Nat.le_of_ble_eq_true rfl) dX12_stepsOn_52 (fun H locs G => ?_)
      have G : zS T A s.heap s [[(m_was, .inl (T.2 0, 7, .inl f_was))], [(m_posts, .inl (T.2 0, 7, .inl g_posts_5))], [(m_shut, .inl (T.2 0, 7, .inl f_shut))], [(mo, .inr (11, [.ref m_all, .ref m_has, .int i_size, .int i_next, .int i_where, .int i_token, .int i_number, .int i_word, .int i_wrong, .int i_farCrossing, .ref m_read, .int i_z0, .int i_crossings, .int i_inns, .ref m_posts, .ref m_shut, .ref m_here, .int i_steps, .int i_done, .int (zLe f_all i_z0 i_at (g_posts_5 i_at.toNatClampNeg)), .int y_19, .ref m_was, .ref m_came, .ref m_seenAt, .ref m_rowWorth, .ref m_farBy, .ref m_used, .int i_everywhere, .int i_again0, .int i_d0, .int i_never, .int i_firstCame, .int i_longRun, .int i_moved, .int i_crowd, .int i_l0, .int i_fitMany, .int i_fitLeast, .int i_fitMost, .ref m_fitPost, .ref m_fitEnd, .ref m_keptPosts, .int i_x0]))], [(m_all, .inl (T.2 0, 3952, .inl f_all))]] _ _ := G
      refine lv_aload_n hx hb dX12_stepsOn_55 rfl (lv_at hl 0 rfl) ?_
      refine z_get C G clX12 3 rfl 21 (by decide) m_fl_RX12_29 rfl dX12_stepsOn_56 ?_
      refine lv_aload_n hx hb dX12_stepsOn_59 rfl (lv_at hl 0 rfl) ?_
      refine z_get C G clX12 3 rfl 19 (by decide) m_fl_RX12_202 rfl dX12_stepsOn_60 ?_
      refine lv_dup2_11 hx hb dX12_stepsOn_63 rfl rfl ?_
      refine z_ild C G 0 rfl (vp_in_iff.mpr ⟨by omega, by omega⟩) dX12_stepsOn_64 ?_
      refine lv_topi (fun v_20 ev_20 => ?_)
      subst ev_20
      refine lv_iconst (v := 1) hx hb dX12_stepsOn_65 (by decide) ?_
      refine lv_iadd hx hb dX12_stepsOn_66 ?_
      refine z_ist C G 0 rfl (vp_in_iff.mpr ⟨by omega, by omega⟩) dX12_stepsOn_67 (fun H locs G => ?_)
      have G : zS T A s.heap s [[(m_was, .inl (T.2 0, 7, .inl (upd f_was (zLe f_all i_z0 i_at (g_posts_5 i_at.toNatClampNeg)).toNatClampNeg ((f_was (zLe f_all i_z0 i_at (g_posts_5 i_at.toNatClampNeg)).toNatClampNeg) + 1))))], [(m_posts, .inl (T.2 0, 7, .inl g_posts_5))], [(m_shut, .inl (T.2 0, 7, .inl f_shut))], [(mo, .inr (11, [.ref m_all, .ref m_has, .int i_size, .int i_next, .int i_where, .int i_token, .int i_number, .int i_word, .int i_wrong, .int i_farCrossing, .ref m_read, .int i_z0, .int i_crossings, .int i_inns, .ref m_posts, .ref m_shut, .ref m_here, .int i_steps, .int i_done, .int (zLe f_all i_z0 i_at (g_posts_5 i_at.toNatClampNeg)), .int y_19, .ref m_was, .ref m_came, .ref m_seenAt, .ref m_rowWorth, .ref m_farBy, .ref m_used, .int i_everywhere, .int i_again0, .int i_d0, .int i_never, .int i_firstCame, .int i_longRun, .int i_moved, .int i_crowd, .int i_l0, .int i_fitMany, .int i_fitLeast, .int i_fitMost, .ref m_fitPost, .ref m_fitEnd, .ref m_keptPosts, .int i_x0]))], [(m_all, .inl (T.2 0, 3952, .inl f_all))]] _ _ := G
      refine lv_iconst (v := 1) hx hb dX12_stepsOn_68 (by decide) ?_
      have G := G.sub (bs' := [[(mo, .inr (11, [.ref m_all, .ref m_has, .int i_size, .int i_next, .int i_where, .int i_token, .int i_number, .int i_word, .int i_wrong, .int i_farCrossing, .ref m_read, .int i_z0, .int i_crossings, .int i_inns, .ref m_posts, .ref m_shut, .ref m_here, .int i_steps, .int i_done, .int (zLe f_all i_z0 i_at (g_posts_5 i_at.toNatClampNeg)), .int y_19, .ref m_was, .ref m_came, .ref m_seenAt, .ref m_rowWorth, .ref m_farBy, .ref m_used, .int i_everywhere, .int i_again0, .int i_d0, .int i_never, .int i_firstCame, .int i_longRun, .int i_moved, .int i_crowd, .int i_l0, .int i_fitMany, .int i_fitLeast, .int i_fitMost, .ref m_fitPost, .ref m_fitEnd, .ref m_keptPosts, .int i_x0]))], [(m_all, .inl (T.2 0, 3952, .inl f_all))], [(m_posts, .inl (T.2 0, 7, .inl g_posts_5))], [(m_shut, .inl (T.2 0, 7, .inl f_shut))], [(m_was, .inl (T.2 0, 7, .inl (upd f_was (zLe f_all i_z0 i_at (g_posts_5 i_at.toNatClampNeg)).toNatClampNeg ((f_was (zLe f_all i_z0 i_at (g_posts_5 i_at.toNatClampNeg)).toNatClampNeg) + 1))))]]) [3, 4, 1, 2, 0] rfl
      exact z_zret C hr hlocks G (Nat.le_of_ble_eq_true rfl) (Nat.le_of_ble_eq_true rfl) dX12_stepsOn_69 rfl ⟨(zLe f_all i_z0 i_at (g_posts_5 i_at.toNatClampNeg)), y_19, g_posts_5, (upd f_was (zLe f_all i_z0 i_at (g_posts_5 i_at.toNatClampNeg)).toNatClampNeg ((f_was (zLe f_all i_z0 i_at (g_posts_5 i_at.toNatClampNeg)).toNatClampNeg) + 1)), rfl, (by first | with_reducible assumption | omega | trivial | assumption), (by first | with_reducible assumption | omega | trivial | assumption), (by first | with_reducible assumption | omega | trivial | assumption), (by first | with_reducible assumption | omega | trivial | assumption), (h_8.trans (zPost_wo hb1 ha0 ha6).symm), (Or.inl (⟨rfl, (fun q8 => absurd (show (zLe f_all i_z0 i_at (g_posts_5 i_at.toNatClampNeg)).toInt = -1 from by rw [← hST, q8]; rfl) (by omega)), hST.symm, (by omega), rfl⟩))⟩
    · have h_13 : zTurn f_posts f_shut (zRo f_all i_z0) i_at = -1 := h_13
      refine lv_if_ne (tgt := 24) hx hb dX12_stepsOn_19 (by decide) (fun q => absurd (by decide) q) (fun _ => ?_)
      have hb1 : ¬ zBit i_inns i_at = 1 := by assumption
      have hT1 : zTurn f_posts f_shut (zWo f_all i_z0 i_inns) i_at = -1 := (zTurn_wo hb1 ha0 ha6).trans h_13
      have hp1 : g_posts_5 = zPost f_posts f_shut (zWo f_all i_z0 i_inns) i_at := h_8.trans (zPost_wo hb1 ha0 ha6).symm
      have hS1 : zStep f_posts f_shut (zWo f_all i_z0 i_inns) (zLo f_all i_z0) i_at = -1 := by unfold zStep; rw [if_pos hT1]
      refine lv_iconst (v := 0) hx hb dX12_stepsOn_22 (by decide) ?_
      have G := G.sub (bs' := [[(mo, .inr (11, [.ref m_all, .ref m_has, .int i_size, .int i_next, .int i_where, .int i_token, .int i_number, .int i_word, .int i_wrong, .int i_farCrossing, .ref m_read, .int i_z0, .int i_crossings, .int i_inns, .ref m_posts, .ref m_shut, .ref m_here, .int i_steps, .int i_done, .int i_at, .int i_gone, .ref m_was, .ref m_came, .ref m_seenAt, .ref m_rowWorth, .ref m_farBy, .ref m_used, .int i_everywhere, .int i_again0, .int i_d0, .int i_never, .int i_firstCame, .int i_longRun, .int i_moved, .int i_crowd, .int i_l0, .int i_fitMany, .int i_fitLeast, .int i_fitMost, .ref m_fitPost, .ref m_fitEnd, .ref m_keptPosts, .int i_x0]))], [(m_all, .inl (T.2 0, 3952, .inl f_all))], [(m_posts, .inl (T.2 0, 7, .inl g_posts_5))], [(m_shut, .inl (T.2 0, 7, .inl f_shut))], [(m_was, .inl (T.2 0, 7, .inl f_was))]]) [1, 2, 3, 4, 0] rfl
      exact z_zret C hr hlocks G (Nat.le_of_ble_eq_true rfl) (Nat.le_of_ble_eq_true rfl) dX12_stepsOn_23 rfl ⟨i_at, i_gone, g_posts_5, f_was, rfl, (by first | with_reducible assumption | omega | trivial | assumption), (by first | with_reducible assumption | omega | trivial | assumption), (by first | with_reducible assumption | omega | trivial | assumption), (by first | with_reducible assumption | omega | trivial | assumption), hp1, (Or.inr (⟨rfl, hS1, rfl, rfl, rfl⟩))⟩
def zOne (c : Int32) (j : Nat) : Int32 := if (j : Int) = c.toInt then 1 else 0
set_option maxHeartbeats 4000000 in
set_option maxRecDepth 100000 in
/-- puts -/
theorem c_fm_puts (l : Launch) (T : zTy) (mo : Nat) (m_all : Nat) (m_has : Nat) (i_size : Int32) (i_next : Int32) (i_where : Int32) (i_token : Int32) (i_number : Int32) (i_word : Int32) (i_wrong : Int32) (i_farCrossing : Int32) (m_read : Nat) (i_z0 : Int32) (i_crossings : Int32) (i_inns : Int32) (m_posts : Nat) (m_shut : Nat) (m_here : Nat) (i_steps : Int32) (i_done : Int32) (i_at : Int32) (i_gone : Int32) (m_was : Nat) (m_came : Nat) (m_seenAt : Nat) (m_rowWorth : Nat) (m_farBy : Nat) (m_used : Nat) (i_everywhere : Int32) (i_again0 : Int32) (i_d0 : Int32) (i_never : Int32) (i_firstCame : Int32) (i_longRun : Int32) (i_moved : Int32) (i_crowd : Int32) (i_l0 : Int32) (i_fitMany : Int32) (i_fitLeast : Int32) (i_fitMost : Int32) (m_fitPost : Nat) (m_fitEnd : Nat) (m_keptPosts : Nat) (i_x0 : Int32) (f_was : Nat → Int32) (c_ : Int32) : zMv l T yX12_puts cX12_puts 3 1 0 0 [.ref mo, .int c_] [[(mo, .inr (11, [.ref m_all, .ref m_has, .int i_size, .int i_next, .int i_where, .int i_token, .int i_number, .int i_word, .int i_wrong, .int i_farCrossing, .ref m_read, .int i_z0, .int i_crossings, .int i_inns, .ref m_posts, .ref m_shut, .ref m_here, .int i_steps, .int i_done, .int i_at, .int i_gone, .ref m_was, .ref m_came, .ref m_seenAt, .ref m_rowWorth, .ref m_farBy, .ref m_used, .int i_everywhere, .int i_again0, .int i_d0, .int i_never, .int i_firstCame, .int i_longRun, .int i_moved, .int i_crowd, .int i_l0, .int i_fitMany, .int i_fitLeast, .int i_fitMost, .ref m_fitPost, .ref m_fitEnd, .ref m_keptPosts, .int i_x0]))], [(m_was, .inl (T.2 0, 7, .inl f_was))]] (fun bs => ∃ (g_was : Nat → Int32), bs = [[(mo, .inr (11, [.ref m_all, .ref m_has, .int i_size, .int i_next, .int i_where, .int i_token, .int i_number, .int i_word, .int i_wrong, .int i_farCrossing, .ref m_read, .int i_z0, .int i_crossings, .int i_inns, .ref m_posts, .ref m_shut, .ref m_here, .int i_steps, .int i_done, .int c_, .int 0, .ref m_was, .ref m_came, .ref m_seenAt, .ref m_rowWorth, .ref m_farBy, .ref m_used, .int i_everywhere, .int i_again0, .int i_d0, .int i_never, .int i_firstCame, .int i_longRun, .int i_moved, .int i_crowd, .int i_l0, .int i_fitMany, .int i_fitLeast, .int i_fitMost, .ref m_fitPost, .ref m_fitEnd, .ref m_keptPosts, .int i_x0]))], [(m_was, .inl (T.2 0, 7, .inl g_was))]] ∧ (∀ j, j < 7 → g_was j = zOne c_ j)) := by
  refine zMv_of (own := RX12) (by decide) rfl (Nat.le_of_ble_eq_true rfl) ?_
  intro p e s m args below meth c A ls C hr hlocks hnm hAe G hl
  have hx := C.1
  have hb := C.2.1
  have hl : lv_has ls 3 [(0, .ref mo), (1, .int c_)] := hl
  refine lv_aload_n hx hb dX12_puts_0 rfl (lv_at hl 0 rfl) ?_
  refine lv_iload_n hx hb dX12_puts_1 rfl (lv_at hl 1 rfl) ?_
  refine z_put C G clX12 0 rfl 19 (by decide) m_fl_RX12_202 rfl rfl rfl (Nat.le_of_ble_eq_true rfl) dX12_puts_2 (fun H locs G => ?_)
  have G : zS T A s.heap s [[(mo, .inr (11, [.ref m_all, .ref m_has, .int i_size, .int i_next, .int i_where, .int i_token, .int i_number, .int i_word, .int i_wrong, .int i_farCrossing, .ref m_read, .int i_z0, .int i_crossings, .int i_inns, .ref m_posts, .ref m_shut, .ref m_here, .int i_steps, .int i_done, .int c_, .int i_gone, .ref m_was, .ref m_came, .ref m_seenAt, .ref m_rowWorth, .ref m_farBy, .ref m_used, .int i_everywhere, .int i_again0, .int i_d0, .int i_never, .int i_firstCame, .int i_longRun, .int i_moved, .int i_crowd, .int i_l0, .int i_fitMany, .int i_fitLeast, .int i_fitMost, .ref m_fitPost, .ref m_fitEnd, .ref m_keptPosts, .int i_x0]))], [(m_was, .inl (T.2 0, 7, .inl f_was))]] _ _ := G
  refine lv_aload_n hx hb dX12_puts_5 rfl (lv_at hl 0 rfl) ?_
  refine lv_iconst (v := 0) hx hb dX12_puts_6 (by decide) ?_
  refine z_put C G clX12 0 rfl 20 (by decide) m_fl_RX12_208 rfl rfl rfl (Nat.le_of_ble_eq_true rfl) dX12_puts_7 (fun H locs G => ?_)
  have G : zS T A s.heap s [[(mo, .inr (11, [.ref m_all, .ref m_has, .int i_size, .int i_next, .int i_where, .int i_token, .int i_number, .int i_word, .int i_wrong, .int i_farCrossing, .ref m_read, .int i_z0, .int i_crossings, .int i_inns, .ref m_posts, .ref m_shut, .ref m_here, .int i_steps, .int i_done, .int c_, .int 0, .ref m_was, .ref m_came, .ref m_seenAt, .ref m_rowWorth, .ref m_farBy, .ref m_used, .int i_everywhere, .int i_again0, .int i_d0, .int i_never, .int i_firstCame, .int i_longRun, .int i_moved, .int i_crowd, .int i_l0, .int i_fitMany, .int i_fitLeast, .int i_fitMost, .ref m_fitPost, .ref m_fitEnd, .ref m_keptPosts, .int i_x0]))], [(m_was, .inl (T.2 0, 7, .inl f_was))]] _ _ := G
  refine lv_iconst (v := 0) hx hb dX12_puts_10 (by decide) ?_
  refine lv_istore_n (lv' := [(2, .int 0), (0, .ref mo), (1, .int c_)]) hx hb dX12_puts_11 rfl hl (by decide) rfl (fun ls hl => ?_)
  refine z_loop (T := T) (α := Nat × (Nat → Int32)) 12 (fun (i, x) => [[(mo, .inr (11, [.ref m_all, .ref m_has, .int i_size, .int i_next, .int i_where, .int i_token, .int i_number, .int i_word, .int i_wrong, .int i_farCrossing, .ref m_read, .int i_z0, .int i_crossings, .int i_inns, .ref m_posts, .ref m_shut, .ref m_here, .int i_steps, .int i_done, .int c_, .int 0, .ref m_was, .ref m_came, .ref m_seenAt, .ref m_rowWorth, .ref m_farBy, .ref m_used, .int i_everywhere, .int i_again0, .int i_d0, .int i_never, .int i_firstCame, .int i_longRun, .int i_moved, .int i_crowd, .int i_l0, .int i_fitMany, .int i_fitLeast, .int i_fitMost, .ref m_fitPost, .ref m_fitEnd, .ref m_keptPosts, .int i_x0]))], [(m_was, .inl (T.2 0, 7, .inl x))]]) (fun (i, x) => [(2, .int (nI i)), (0, .ref mo), (1, .int c_)]) (fun (i, x) => i ≤ 7 ∧ (∀ j, j < i → x j = zOne c_ j)) (fun (i, x) => 7 - i) ?_ (0, f_was) (show 0 ≤ 7 ∧ (∀ j, j < 0 → f_was j = zOne c_ j) from ⟨by omega, fun j hj => absurd hj (by omega)⟩) G (lv_sub hl [0, 1, 2] rfl)
  rintro ⟨i, x⟩ ⟨hi, hW⟩ ih_12 H locs ls G hl
  replace hi : i ≤ 7 := hi
  replace hW : (∀ j, j < i → x j = zOne c_ j) := hW
  replace G : zS T A s.heap s [[(mo, .inr (11, [.ref m_all, .ref m_has, .int i_size, .int i_next, .int i_where, .int i_token, .int i_number, .int i_word, .int i_wrong, .int i_farCrossing, .ref m_read, .int i_z0, .int i_crossings, .int i_inns, .ref m_posts, .ref m_shut, .ref m_here, .int i_steps, .int i_done, .int c_, .int 0, .ref m_was, .ref m_came, .ref m_seenAt, .ref m_rowWorth, .ref m_farBy, .ref m_used, .int i_everywhere, .int i_again0, .int i_d0, .int i_never, .int i_firstCame, .int i_longRun, .int i_moved, .int i_crowd, .int i_l0, .int i_fitMany, .int i_fitLeast, .int i_fitMost, .ref m_fitPost, .ref m_fitEnd, .ref m_keptPosts, .int i_x0]))], [(m_was, .inl (T.2 0, 7, .inl x))]] _ _ := G
  replace hl : lv_has ls 3 [(2, .int (nI i)), (0, .ref mo), (1, .int c_)] := hl
  refine lv_iload_n hx hb dX12_puts_12 rfl (lv_at hl 0 rfl) ?_
  refine lv_bipush (v := 7) hx hb dX12_puts_13 (by decide) ?_
  refine lv_icmp_ge (tgt := 40) hx hb dX12_puts_15 (by decide) (fun c_1 => ?_) (fun c_1 => ?_)
  · have c_1n : 7 ≤ i := (nI_leI (a := 7) (b := i) (by omega) (by omega)).mp c_1
    exact z_vret C hr hlocks G (Nat.le_of_ble_eq_true rfl) (Nat.le_of_ble_eq_true rfl) dX12_puts_40 ⟨x, rfl, (fun j hj => hW j (by omega))⟩
  · have c_1n : ¬ 7 ≤ i := fun q => c_1 ((nI_leI (a := 7) (b := i) (by omega) (by omega)).mpr q)
    refine lv_aload_n hx hb dX12_puts_18 rfl (lv_at hl 1 rfl) ?_
    refine z_get C G clX12 0 rfl 21 (by decide) m_fl_RX12_29 rfl dX12_puts_19 ?_
    refine lv_iload_n hx hb dX12_puts_22 rfl (lv_at hl 0 rfl) ?_
    refine lv_iload_n hx hb dX12_puts_23 rfl (lv_at hl 0 rfl) ?_
    refine lv_iload_n hx hb dX12_puts_24 rfl (lv_at hl 2 rfl) ?_
    refine lv_icmp_ne (tgt := 32) hx hb dX12_puts_25 (by decide) (fun c_2 => ?_) (fun c_2 => ?_)
    · have c_2n : ¬ (i : Int) = c_.toInt := fun q => c_2 ((fa_eq _ _).mpr (by rw [nI_toInt (n := i) (by omega)]; exact q))
      refine lv_iconst (v := 0) hx hb dX12_puts_32 (by decide) ?_
      refine z_ist C G 1 rfl (vp_in_nI (by omega) (by omega)) dX12_puts_33 (fun H locs G => ?_)
      rw [nI_clamp (by omega)] at G
      have G : zS T A s.heap s [[(mo, .inr (11, [.ref m_all, .ref m_has, .int i_size, .int i_next, .int i_where, .int i_token, .int i_number, .int i_word, .int i_wrong, .int i_farCrossing, .ref m_read, .int i_z0, .int i_crossings, .int i_inns, .ref m_posts, .ref m_shut, .ref m_here, .int i_steps, .int i_done, .int c_, .int 0, .ref m_was, .ref m_came, .ref m_seenAt, .ref m_rowWorth, .ref m_farBy, .ref m_used, .int i_everywhere, .int i_again0, .int i_d0, .int i_never, .int i_firstCame, .int i_longRun, .int i_moved, .int i_crowd, .int i_l0, .int i_fitMany, .int i_fitLeast, .int i_fitMost, .ref m_fitPost, .ref m_fitEnd, .ref m_keptPosts, .int i_x0]))], [(m_was, .inl (T.2 0, 7, .inl (upd x i 0)))]] _ _ := G
      refine lv_iinc (v := nI (i + 1)) (lv' := [(2, .int (nI (i + 1))), (0, .ref mo), (1, .int c_)]) hx hb dX12_puts_34 hl (k := 0) rfl (z_inc i 1) (by decide) rfl (fun ls hl => ?_)
      refine lv_goto (tgt := 12) hx hb dX12_puts_37 (by decide) ?_
      exact ih_12 ((i + 1), (upd x i 0)) (show (i + 1) ≤ 7 ∧ (∀ j, j < (i + 1) → (upd x i 0) j = zOne c_ j) from ⟨by omega, (z_upS0 (f := zOne c_) hW (show (0 : Int32) = zOne c_ i from (if_neg (by omega)).symm))⟩) (show 7 - (i + 1) < 7 - i from by omega) _ _ ls G (lv_sub hl [0, 1, 2] rfl)
    · have c_2n : (i : Int) = c_.toInt := by have q := (fa_eq _ _).mp c_2; rw [nI_toInt (n := i) (by omega)] at q; exact q
      refine lv_iconst (v := 1) hx hb dX12_puts_28 (by decide) ?_
      refine lv_goto (tgt := 33) hx hb dX12_puts_29 (by decide) ?_
      refine z_ist C G 1 rfl (vp_in_nI (by omega) (by omega)) dX12_puts_33 (fun H locs G => ?_)
      rw [nI_clamp (by omega)] at G
      have G : zS T A s.heap s [[(mo, .inr (11, [.ref m_all, .ref m_has, .int i_size, .int i_next, .int i_where, .int i_token, .int i_number, .int i_word, .int i_wrong, .int i_farCrossing, .ref m_read, .int i_z0, .int i_crossings, .int i_inns, .ref m_posts, .ref m_shut, .ref m_here, .int i_steps, .int i_done, .int c_, .int 0, .ref m_was, .ref m_came, .ref m_seenAt, .ref m_rowWorth, .ref m_farBy, .ref m_used, .int i_everywhere, .int i_again0, .int i_d0, .int i_never, .int i_firstCame, .int i_longRun, .int i_moved, .int i_crowd, .int i_l0, .int i_fitMany, .int i_fitLeast, .int i_fitMost, .ref m_fitPost, .ref m_fitEnd, .ref m_keptPosts, .int i_x0]))], [(m_was, .inl (T.2 0, 7, .inl (upd x i 1)))]] _ _ := G
      refine lv_iinc (v := nI (i + 1)) (lv' := [(2, .int (nI (i + 1))), (0, .ref mo), (1, .int c_)]) hx hb dX12_puts_34 hl (k := 0) rfl (z_inc i 1) (by decide) rfl (fun ls hl => ?_)
      refine lv_goto (tgt := 12) hx hb dX12_puts_37 (by decide) ?_
      exact ih_12 ((i + 1), (upd x i 1)) (show (i + 1) ≤ 7 ∧ (∀ j, j < (i + 1) → (upd x i 1) j = zOne c_ j) from ⟨by omega, (z_upS0 (f := zOne c_) hW (show (1 : Int32) = zOne c_ i from (if_pos (by omega)).symm))⟩) (show 7 - (i + 1) < 7 - i from by omega) _ _ ls G (lv_sub hl [0, 1, 2] rfl)
set_option maxHeartbeats 4000000 in
set_option maxRecDepth 100000 in
/-- c_fm_walks -/
theorem c_fm_walks (l : Launch) (T : zTy) (mo : Nat) (m_all : Nat) (m_has : Nat) (i_size : Int32) (i_next : Int32) (i_where : Int32) (i_token : Int32) (i_number : Int32) (i_word : Int32) (i_wrong : Int32) (i_farCrossing : Int32) (m_read : Nat) (i_z0 : Int32) (i_crossings : Int32) (i_inns : Int32) (m_posts : Nat) (m_shut : Nat) (m_here : Nat) (i_steps : Int32) (i_done : Int32) (i_at : Int32) (i_gone : Int32) (m_was : Nat) (m_came : Nat) (m_seenAt : Nat) (m_rowWorth : Nat) (m_farBy : Nat) (m_used : Nat) (i_everywhere : Int32) (i_again0 : Int32) (i_d0 : Int32) (i_never : Int32) (i_firstCame : Int32) (i_longRun : Int32) (i_moved : Int32) (i_crowd : Int32) (i_l0 : Int32) (i_fitMany : Int32) (i_fitLeast : Int32) (i_fitMost : Int32) (m_fitPost : Nat) (m_fitEnd : Nat) (m_keptPosts : Nat) (i_x0 : Int32) (f_all : Nat → Int32) (f_posts : Nat → Int32) (f_shut : Nat → Int32) (f_was : Nat → Int32) (c_ : Int32) (hL : zML f_all i_z0 i_crossings) (hc0 : 0 ≤ c_.toInt) (hc6 : c_.toInt ≤ 6) (hV : zMV (zRo f_all i_z0) f_posts) (hP : zMP f_posts) : zMi l T yX12_walks cX12_walks 3 (some .boolean) 4 0 0 [.ref mo, .int c_] [[(mo, .inr (11, [.ref m_all, .ref m_has, .int i_size, .int i_next, .int i_where, .int i_token, .int i_number, .int i_word, .int i_wrong, .int i_farCrossing, .ref m_read, .int i_z0, .int i_crossings, .int i_inns, .ref m_posts, .ref m_shut, .ref m_here, .int i_steps, .int i_done, .int i_at, .int i_gone, .ref m_was, .ref m_came, .ref m_seenAt, .ref m_rowWorth, .ref m_farBy, .ref m_used, .int i_everywhere, .int i_again0, .int i_d0, .int i_never, .int i_firstCame, .int i_longRun, .int i_moved, .int i_crowd, .int i_l0, .int i_fitMany, .int i_fitLeast, .int i_fitMost, .ref m_fitPost, .ref m_fitEnd, .ref m_keptPosts, .int i_x0]))], [(m_all, .inl (T.2 0, 3952, .inl f_all))], [(m_posts, .inl (T.2 0, 7, .inl f_posts))], [(m_shut, .inl (T.2 0, 7, .inl f_shut))], [(m_was, .inl (T.2 0, 7, .inl f_was))]] (fun (r : Int32) bs => ∃ (j_at : Int32) (j_gone : Int32) (g_posts : Nat → Int32) (g_was : Nat → Int32), bs = [[(mo, .inr (11, [.ref m_all, .ref m_has, .int i_size, .int i_next, .int i_where, .int i_token, .int i_number, .int i_word, .int i_wrong, .int i_farCrossing, .ref m_read, .int i_z0, .int i_crossings, .int i_inns, .ref m_posts, .ref m_shut, .ref m_here, .int i_steps, .int i_done, .int j_at, .int j_gone, .ref m_was, .ref m_came, .ref m_seenAt, .ref m_rowWorth, .ref m_farBy, .ref m_used, .int i_everywhere, .int i_again0, .int i_d0, .int i_never, .int i_firstCame, .int i_longRun, .int i_moved, .int i_crowd, .int i_l0, .int i_fitMany, .int i_fitLeast, .int i_fitMost, .ref m_fitPost, .ref m_fitEnd, .ref m_keptPosts, .int i_x0]))], [(m_all, .inl (T.2 0, 3952, .inl f_all))], [(m_posts, .inl (T.2 0, 7, .inl g_posts))], [(m_shut, .inl (T.2 0, 7, .inl f_shut))], [(m_was, .inl (T.2 0, 7, .inl g_was))]] ∧ zMP g_posts ∧ zMV (zRo f_all i_z0) g_posts ∧ (0 ≤ j_at.toInt ∧ j_at.toInt ≤ 6) ∧ 0 ≤ j_gone.toInt ∧ j_gone.toInt ≤ 499 ∧ (r = 1 ∧ zBit i_inns j_at = 1 ∨ r = 0 ∧ ¬ zBit i_inns j_at = 1) ∧ g_posts = (zRunN f_shut (zWo f_all i_z0 i_inns) (zLo f_all i_z0) 499 f_posts c_ 0).1 ∧ j_at = (zRunN f_shut (zWo f_all i_z0 i_inns) (zLo f_all i_z0) 499 f_posts c_ 0).2.1 ∧ j_gone = nI (zRunN f_shut (zWo f_all i_z0 i_inns) (zLo f_all i_z0) 499 f_posts c_ 0).2.2 ∧ (∃ W0 : Nat → Int32, (∀ j, j < 7 → W0 j = zOne c_ j) ∧ g_was = zWasN f_shut (zWo f_all i_z0 i_inns) (zLo f_all i_z0) 499 f_posts c_ W0)) := by
  refine zMi_of (own := RX12) (by decide) rfl (Nat.le_of_ble_eq_true rfl) ?_
  intro p e s m args below meth c A ls C hr hlocks hnm hAe G hl
  have hx := C.1
  have hb := C.2.1
  have hl : lv_has ls 3 [(0, .ref mo), (1, .int c_)] := hl
  have hz := hL.1
  have hcr := hL.cr
  refine lv_aload_n hx hb dX12_walks_0 rfl (lv_at hl 0 rfl) ?_
  refine lv_iload_n hx hb dX12_walks_1 rfl (lv_at hl 1 rfl) ?_
  refine z_Vv (bc := [[(mo, .inr (11, [.ref m_all, .ref m_has, .int i_size, .int i_next, .int i_where, .int i_token, .int i_number, .int i_word, .int i_wrong, .int i_farCrossing, .ref m_read, .int i_z0, .int i_crossings, .int i_inns, .ref m_posts, .ref m_shut, .ref m_here, .int i_steps, .int i_done, .int i_at, .int i_gone, .ref m_was, .ref m_came, .ref m_seenAt, .ref m_rowWorth, .ref m_farBy, .ref m_used, .int i_everywhere, .int i_again0, .int i_d0, .int i_never, .int i_firstCame, .int i_longRun, .int i_moved, .int i_crowd, .int i_l0, .int i_fitMany, .int i_fitLeast, .int i_fitMost, .ref m_fitPost, .ref m_fitEnd, .ref m_keptPosts, .int i_x0]))], [(m_was, .inl (T.2 0, 7, .inl f_was))]]) (br := [[(m_all, .inl (T.2 0, 3952, .inl f_all))], [(m_posts, .inl (T.2 0, 7, .inl f_posts))], [(m_shut, .inl (T.2 0, 7, .inl f_shut))]]) (As := [.int c_]) (rest := []) C G (c_fm_puts l T mo m_all m_has i_size i_next i_where i_token i_number i_word i_wrong i_farCrossing m_read i_z0 i_crossings i_inns m_posts m_shut m_here i_steps i_done i_at i_gone m_was m_came m_seenAt m_rowWorth m_farBy m_used i_everywhere i_again0 i_d0 i_never i_firstCame i_longRun i_moved i_crowd i_l0 i_fitMany i_fitLeast i_fitMost m_fitPost m_fitEnd m_keptPosts i_x0 f_was c_) (kV_RX12_211 C.2.2.2.2 (Nat.le_of_ble_eq_true rfl) (Nat.le_of_ble_eq_true rfl)) [0, 4] [1, 2, 3] rfl rfl (ci := 11) (qc := (RX12, TX12, 43)) rfl rfl (List.mem_flatten.mpr ⟨_, List.mem_of_getElem? (i := 0) rfl, List.mem_cons_self⟩) rfl rfl hl.1 dX12_walks_2 (Nat.le_of_ble_eq_true rfl) (Nat.le_of_ble_eq_true rfl) (fun b1 H locs hw G => ?_)
  obtain ⟨g_was_1, rfl, h_2⟩ := hw
  have G : zS T A s.heap s [[(m_all, .inl (T.2 0, 3952, .inl f_all))], [(m_posts, .inl (T.2 0, 7, .inl f_posts))], [(m_shut, .inl (T.2 0, 7, .inl f_shut))], [(mo, .inr (11, [.ref m_all, .ref m_has, .int i_size, .int i_next, .int i_where, .int i_token, .int i_number, .int i_word, .int i_wrong, .int i_farCrossing, .ref m_read, .int i_z0, .int i_crossings, .int i_inns, .ref m_posts, .ref m_shut, .ref m_here, .int i_steps, .int i_done, .int c_, .int 0, .ref m_was, .ref m_came, .ref m_seenAt, .ref m_rowWorth, .ref m_farBy, .ref m_used, .int i_everywhere, .int i_again0, .int i_d0, .int i_never, .int i_firstCame, .int i_longRun, .int i_moved, .int i_crowd, .int i_l0, .int i_fitMany, .int i_fitLeast, .int i_fitMost, .ref m_fitPost, .ref m_fitEnd, .ref m_keptPosts, .int i_x0]))], [(m_was, .inl (T.2 0, 7, .inl g_was_1))]] _ _ := G
  refine lv_iconst (v := 1) hx hb dX12_walks_5 (by decide) ?_
  refine lv_istore_n (lv' := [(2, .int 1), (0, .ref mo), (1, .int c_)]) hx hb dX12_walks_6 rfl hl (by decide) rfl (fun ls hl => ?_)
  refine z_loop (T := T) (α := Int32 × Int32 × Int32 × (Nat → Int32) × (Nat → Int32)) 7 (fun (x, y, b, xp, xw) => [[(m_all, .inl (T.2 0, 3952, .inl f_all))], [(m_posts, .inl (T.2 0, 7, .inl xp))], [(m_shut, .inl (T.2 0, 7, .inl f_shut))], [(mo, .inr (11, [.ref m_all, .ref m_has, .int i_size, .int i_next, .int i_where, .int i_token, .int i_number, .int i_word, .int i_wrong, .int i_farCrossing, .ref m_read, .int i_z0, .int i_crossings, .int i_inns, .ref m_posts, .ref m_shut, .ref m_here, .int i_steps, .int i_done, .int x, .int y, .ref m_was, .ref m_came, .ref m_seenAt, .ref m_rowWorth, .ref m_farBy, .ref m_used, .int i_everywhere, .int i_again0, .int i_d0, .int i_never, .int i_firstCame, .int i_longRun, .int i_moved, .int i_crowd, .int i_l0, .int i_fitMany, .int i_fitLeast, .int i_fitMost, .ref m_fitPost, .ref m_fitEnd, .ref m_keptPosts, .int i_x0]))], [(m_was, .inl (T.2 0, 7, .inl xw))]]) (fun (x, y, b, xp, xw) => [(2, .int b), (0, .ref mo), (1, .int c_)]) (fun (x, y, b, xp, xw) => 0 ≤ x.toInt ∧ x.toInt ≤ 6 ∧ 0 ≤ y.toInt ∧ y.toInt ≤ 499 ∧ zMP xp ∧ zMV (zRo f_all i_z0) xp ∧ (0 ≤ b.toInt ∧ b.toInt ≤ 1) ∧ (b.toInt = 1 ∧ zRunN f_shut (zWo f_all i_z0 i_inns) (zLo f_all i_z0) 499 f_posts c_ 0 = zRunN f_shut (zWo f_all i_z0 i_inns) (zLo f_all i_z0) (499 - y.toInt.toNat) xp x y.toInt.toNat ∨ b.toInt = 0 ∧ zRunN f_shut (zWo f_all i_z0 i_inns) (zLo f_all i_z0) 499 f_posts c_ 0 = (xp, x, y.toInt.toNat)) ∧ (b.toInt = 1 ∧ zWasN f_shut (zWo f_all i_z0 i_inns) (zLo f_all i_z0) 499 f_posts c_ g_was_1 = zWasN f_shut (zWo f_all i_z0 i_inns) (zLo f_all i_z0) (499 - y.toInt.toNat) xp x xw ∨ b.toInt = 0 ∧ zWasN f_shut (zWo f_all i_z0 i_inns) (zLo f_all i_z0) 499 f_posts c_ g_was_1 = xw)) (fun (x, y, b, xp, xw) => (499 - y.toInt).toNat + b.toInt.toNat) ?_ (c_, 0, 1, f_posts, g_was_1) (show 0 ≤ c_.toInt ∧ c_.toInt ≤ 6 ∧ 0 ≤ (0 : Int32).toInt ∧ (0 : Int32).toInt ≤ 499 ∧ zMP f_posts ∧ zMV (zRo f_all i_z0) f_posts ∧ (0 ≤ (1 : Int32).toInt ∧ (1 : Int32).toInt ≤ 1) ∧ ((1 : Int32).toInt = 1 ∧ zRunN f_shut (zWo f_all i_z0 i_inns) (zLo f_all i_z0) 499 f_posts c_ 0 = zRunN f_shut (zWo f_all i_z0 i_inns) (zLo f_all i_z0) (499 - (0 : Int32).toInt.toNat) f_posts c_ (0 : Int32).toInt.toNat ∨ (1 : Int32).toInt = 0 ∧ zRunN f_shut (zWo f_all i_z0 i_inns) (zLo f_all i_z0) 499 f_posts c_ 0 = (f_posts, c_, (0 : Int32).toInt.toNat)) ∧ ((1 : Int32).toInt = 1 ∧ zWasN f_shut (zWo f_all i_z0 i_inns) (zLo f_all i_z0) 499 f_posts c_ g_was_1 = zWasN f_shut (zWo f_all i_z0 i_inns) (zLo f_all i_z0) (499 - (0 : Int32).toInt.toNat) f_posts c_ g_was_1 ∨ (1 : Int32).toInt = 0 ∧ zWasN f_shut (zWo f_all i_z0 i_inns) (zLo f_all i_z0) 499 f_posts c_ g_was_1 = g_was_1) from ⟨by omega, by omega, by decide, by decide, hP, hV, by decide, (Or.inl ⟨by decide, rfl⟩), (Or.inl ⟨by decide, rfl⟩)⟩) G (lv_sub hl [0, 1, 2] rfl)
  rintro ⟨x, y, b, xp, xw⟩ ⟨hx0, hx6, hy0, hy9, hQ, hVx, hb0, hR, hW9⟩ ih_7 H locs ls G hl
  replace hx0 : 0 ≤ x.toInt := hx0
  replace hx6 : x.toInt ≤ 6 := hx6
  replace hy0 : 0 ≤ y.toInt := hy0
  replace hy9 : y.toInt ≤ 499 := hy9
  replace hQ : zMP xp := hQ
  replace hVx : zMV (zRo f_all i_z0) xp := hVx
  replace hb0 : (0 ≤ b.toInt ∧ b.toInt ≤ 1) := hb0
  replace hR : (b.toInt = 1 ∧ zRunN f_shut (zWo f_all i_z0 i_inns) (zLo f_all i_z0) 499 f_posts c_ 0 = zRunN f_shut (zWo f_all i_z0 i_inns) (zLo f_all i_z0) (499 - y.toInt.toNat) xp x y.toInt.toNat ∨ b.toInt = 0 ∧ zRunN f_shut (zWo f_all i_z0 i_inns) (zLo f_all i_z0) 499 f_posts c_ 0 = (xp, x, y.toInt.toNat)) := hR
  replace hW9 : (b.toInt = 1 ∧ zWasN f_shut (zWo f_all i_z0 i_inns) (zLo f_all i_z0) 499 f_posts c_ g_was_1 = zWasN f_shut (zWo f_all i_z0 i_inns) (zLo f_all i_z0) (499 - y.toInt.toNat) xp x xw ∨ b.toInt = 0 ∧ zWasN f_shut (zWo f_all i_z0 i_inns) (zLo f_all i_z0) 499 f_posts c_ g_was_1 = xw) := hW9
  replace G : zS T A s.heap s [[(m_all, .inl (T.2 0, 3952, .inl f_all))], [(m_posts, .inl (T.2 0, 7, .inl xp))], [(m_shut, .inl (T.2 0, 7, .inl f_shut))], [(mo, .inr (11, [.ref m_all, .ref m_has, .int i_size, .int i_next, .int i_where, .int i_token, .int i_number, .int i_word, .int i_wrong, .int i_farCrossing, .ref m_read, .int i_z0, .int i_crossings, .int i_inns, .ref m_posts, .ref m_shut, .ref m_here, .int i_steps, .int i_done, .int x, .int y, .ref m_was, .ref m_came, .ref m_seenAt, .ref m_rowWorth, .ref m_farBy, .ref m_used, .int i_everywhere, .int i_again0, .int i_d0, .int i_never, .int i_firstCame, .int i_longRun, .int i_moved, .int i_crowd, .int i_l0, .int i_fitMany, .int i_fitLeast, .int i_fitMost, .ref m_fitPost, .ref m_fitEnd, .ref m_keptPosts, .int i_x0]))], [(m_was, .inl (T.2 0, 7, .inl xw))]] _ _ := G
  replace hl : lv_has ls 3 [(2, .int b), (0, .ref mo), (1, .int c_)] := hl
  refine lv_aload_n hx hb dX12_walks_7 rfl (lv_at hl 1 rfl) ?_
  refine z_get C G clX12 3 rfl 20 (by decide) m_fl_RX12_208 rfl dX12_walks_8 ?_
  refine lv_sipush (v := 499) hx hb dX12_walks_11 (by decide) ?_
  refine lv_icmp_ge (tgt := 29) hx hb dX12_walks_14 (by decide) (fun c_4 => ?_) (fun c_4 => ?_)
  · have c_4n : (499 : Int) ≤ y.toInt := (fa_le _ _).mp c_4
    have hE : zRunN f_shut (zWo f_all i_z0 i_inns) (zLo f_all i_z0) 499 f_posts c_ 0 = (xp, x, y.toInt.toNat) := by rcases hR with ⟨q8, e8⟩ | ⟨q8, e8⟩ <;> first | exact e8 | (exfalso; omega) | (rw [e8, show 499 - y.toInt.toNat = 0 by omega]; rfl)
    have hF : zWasN f_shut (zWo f_all i_z0 i_inns) (zLo f_all i_z0) 499 f_posts c_ g_was_1 = xw := by rcases hW9 with ⟨q8, e8⟩ | ⟨q8, e8⟩ <;> first | exact e8 | (exfalso; omega) | (rw [e8, show 499 - y.toInt.toNat = 0 by omega]; rfl)
    refine lv_aload_n hx hb dX12_walks_29 rfl (lv_at hl 1 rfl) ?_
    refine lv_aload_n hx hb dX12_walks_30 rfl (lv_at hl 1 rfl) ?_
    refine z_get C G clX12 3 rfl 19 (by decide) m_fl_RX12_202 rfl dX12_walks_31 ?_
    refine z_Vi (bc := [[(mo, .inr (11, [.ref m_all, .ref m_has, .int i_size, .int i_next, .int i_where, .int i_token, .int i_number, .int i_word, .int i_wrong, .int i_farCrossing, .ref m_read, .int i_z0, .int i_crossings, .int i_inns, .ref m_posts, .ref m_shut, .ref m_here, .int i_steps, .int i_done, .int x, .int y, .ref m_was, .ref m_came, .ref m_seenAt, .ref m_rowWorth, .ref m_farBy, .ref m_used, .int i_everywhere, .int i_again0, .int i_d0, .int i_never, .int i_firstCame, .int i_longRun, .int i_moved, .int i_crowd, .int i_l0, .int i_fitMany, .int i_fitLeast, .int i_fitMost, .ref m_fitPost, .ref m_fitEnd, .ref m_keptPosts, .int i_x0]))]]) (br := [[(m_all, .inl (T.2 0, 3952, .inl f_all))], [(m_posts, .inl (T.2 0, 7, .inl xp))], [(m_shut, .inl (T.2 0, 7, .inl f_shut))], [(m_was, .inl (T.2 0, 7, .inl xw))]]) (As := [.int x]) (rest := []) C G (c_m_isInn l T mo m_all m_has i_size i_next i_where i_token i_number i_word i_wrong i_farCrossing m_read i_z0 i_crossings i_inns m_posts m_shut m_here i_steps i_done x y m_was m_came m_seenAt m_rowWorth m_farBy m_used i_everywhere i_again0 i_d0 i_never i_firstCame i_longRun i_moved i_crowd i_l0 i_fitMany i_fitLeast i_fitMost m_fitPost m_fitEnd m_keptPosts i_x0 x) (kV_RX12_178 C.2.2.2.2 (Nat.le_of_ble_eq_true rfl) (Nat.le_of_ble_eq_true rfl)) [3] [0, 1, 2, 4] rfl rfl (ci := 11) (qc := (RX12, TX12, 43)) rfl rfl (List.mem_flatten.mpr ⟨_, List.mem_of_getElem? (i := 0) rfl, List.mem_cons_self⟩) rfl rfl hl.1 dX12_walks_34 (Nat.le_of_ble_eq_true rfl) (Nat.le_of_ble_eq_true rfl) (fun r_6 b1 H locs hw G => ?_)
    obtain ⟨rfl, hc_5⟩ := hw
    have G : zS T A s.heap s [[(m_all, .inl (T.2 0, 3952, .inl f_all))], [(m_posts, .inl (T.2 0, 7, .inl xp))], [(m_shut, .inl (T.2 0, 7, .inl f_shut))], [(m_was, .inl (T.2 0, 7, .inl xw))], [(mo, .inr (11, [.ref m_all, .ref m_has, .int i_size, .int i_next, .int i_where, .int i_token, .int i_number, .int i_word, .int i_wrong, .int i_farCrossing, .ref m_read, .int i_z0, .int i_crossings, .int i_inns, .ref m_posts, .ref m_shut, .ref m_here, .int i_steps, .int i_done, .int x, .int y, .ref m_was, .ref m_came, .ref m_seenAt, .ref m_rowWorth, .ref m_farBy, .ref m_used, .int i_everywhere, .int i_again0, .int i_d0, .int i_never, .int i_firstCame, .int i_longRun, .int i_moved, .int i_crowd, .int i_l0, .int i_fitMany, .int i_fitLeast, .int i_fitMost, .ref m_fitPost, .ref m_fitEnd, .ref m_keptPosts, .int i_x0]))]] _ _ := G
    rcases hc_5 with ⟨rfl, h_7⟩ | ⟨rfl, h_8⟩
    · have h_7 : zInn i_inns x := h_7
      have G := G.sub (bs' := [[(mo, .inr (11, [.ref m_all, .ref m_has, .int i_size, .int i_next, .int i_where, .int i_token, .int i_number, .int i_word, .int i_wrong, .int i_farCrossing, .ref m_read, .int i_z0, .int i_crossings, .int i_inns, .ref m_posts, .ref m_shut, .ref m_here, .int i_steps, .int i_done, .int x, .int y, .ref m_was, .ref m_came, .ref m_seenAt, .ref m_rowWorth, .ref m_farBy, .ref m_used, .int i_everywhere, .int i_again0, .int i_d0, .int i_never, .int i_firstCame, .int i_longRun, .int i_moved, .int i_crowd, .int i_l0, .int i_fitMany, .int i_fitLeast, .int i_fitMost, .ref m_fitPost, .ref m_fitEnd, .ref m_keptPosts, .int i_x0]))], [(m_all, .inl (T.2 0, 3952, .inl f_all))], [(m_posts, .inl (T.2 0, 7, .inl xp))], [(m_shut, .inl (T.2 0, 7, .inl f_shut))], [(m_was, .inl (T.2 0, 7, .inl xw))]]) [4, 0, 1, 2, 3] rfl
      exact z_zret C hr hlocks G (Nat.le_of_ble_eq_true rfl) (Nat.le_of_ble_eq_true rfl) dX12_walks_37 rfl ⟨x, y, xp, xw, rfl, (by assumption), (by assumption), (by first | with_reducible assumption | omega | trivial | assumption), (by first | with_reducible assumption | omega | trivial | assumption), (by first | with_reducible assumption | omega | trivial | assumption), (Or.inl ⟨rfl, by assumption⟩), (by rw [hE]), (by rw [hE]), (by rw [hE]; exact z_nI (x := y) (m := y.toInt.toNat) (by omega) (by omega)), ⟨g_was_1, h_2, hF.symm⟩⟩
    · have h_8 : ¬ zInn i_inns x := h_8
      have G := G.sub (bs' := [[(mo, .inr (11, [.ref m_all, .ref m_has, .int i_size, .int i_next, .int i_where, .int i_token, .int i_number, .int i_word, .int i_wrong, .int i_farCrossing, .ref m_read, .int i_z0, .int i_crossings, .int i_inns, .ref m_posts, .ref m_shut, .ref m_here, .int i_steps, .int i_done, .int x, .int y, .ref m_was, .ref m_came, .ref m_seenAt, .ref m_rowWorth, .ref m_farBy, .ref m_used, .int i_everywhere, .int i_again0, .int i_d0, .int i_never, .int i_firstCame, .int i_longRun, .int i_moved, .int i_crowd, .int i_l0, .int i_fitMany, .int i_fitLeast, .int i_fitMost, .ref m_fitPost, .ref m_fitEnd, .ref m_keptPosts, .int i_x0]))], [(m_all, .inl (T.2 0, 3952, .inl f_all))], [(m_posts, .inl (T.2 0, 7, .inl xp))], [(m_shut, .inl (T.2 0, 7, .inl f_shut))], [(m_was, .inl (T.2 0, 7, .inl xw))]]) [4, 0, 1, 2, 3] rfl
      exact z_zret C hr hlocks G (Nat.le_of_ble_eq_true rfl) (Nat.le_of_ble_eq_true rfl) dX12_walks_37 rfl ⟨x, y, xp, xw, rfl, (by assumption), (by assumption), (by first | with_reducible assumption | omega | trivial | assumption), (by first | with_reducible assumption | omega | trivial | assumption), (by first | with_reducible assumption | omega | trivial | assumption), (Or.inr ⟨rfl, by assumption⟩), (by rw [hE]), (by rw [hE]), (by rw [hE]; exact z_nI (x := y) (m := y.toInt.toNat) (by omega) (by omega)), ⟨g_was_1, h_2, hF.symm⟩⟩
  · have c_4n : ¬ (499 : Int) ≤ y.toInt := fun q => c_4 ((fa_le _ _).mpr q)
    refine lv_iload_n hx hb dX12_walks_17 rfl (lv_at hl 0 rfl) ?_
    refine lv_if_eq (tgt := 29) hx hb dX12_walks_18 (by decide) (fun c_9 => ?_) (fun c_9 => ?_)
    · have c_9n : b.toInt = (0 : Int) := (fa_eq _ _).mp c_9
      have hE : zRunN f_shut (zWo f_all i_z0 i_inns) (zLo f_all i_z0) 499 f_posts c_ 0 = (xp, x, y.toInt.toNat) := by rcases hR with ⟨q8, e8⟩ | ⟨q8, e8⟩ <;> first | exact e8 | (exfalso; omega) | (rw [e8, show 499 - y.toInt.toNat = 0 by omega]; rfl)
      have hF : zWasN f_shut (zWo f_all i_z0 i_inns) (zLo f_all i_z0) 499 f_posts c_ g_was_1 = xw := by rcases hW9 with ⟨q8, e8⟩ | ⟨q8, e8⟩ <;> first | exact e8 | (exfalso; omega) | (rw [e8, show 499 - y.toInt.toNat = 0 by omega]; rfl)
      refine lv_aload_n hx hb dX12_walks_29 rfl (lv_at hl 1 rfl) ?_
      refine lv_aload_n hx hb dX12_walks_30 rfl (lv_at hl 1 rfl) ?_
      refine z_get C G clX12 3 rfl 19 (by decide) m_fl_RX12_202 rfl dX12_walks_31 ?_
      refine z_Vi (bc := [[(mo, .inr (11, [.ref m_all, .ref m_has, .int i_size, .int i_next, .int i_where, .int i_token, .int i_number, .int i_word, .int i_wrong, .int i_farCrossing, .ref m_read, .int i_z0, .int i_crossings, .int i_inns, .ref m_posts, .ref m_shut, .ref m_here, .int i_steps, .int i_done, .int x, .int y, .ref m_was, .ref m_came, .ref m_seenAt, .ref m_rowWorth, .ref m_farBy, .ref m_used, .int i_everywhere, .int i_again0, .int i_d0, .int i_never, .int i_firstCame, .int i_longRun, .int i_moved, .int i_crowd, .int i_l0, .int i_fitMany, .int i_fitLeast, .int i_fitMost, .ref m_fitPost, .ref m_fitEnd, .ref m_keptPosts, .int i_x0]))]]) (br := [[(m_all, .inl (T.2 0, 3952, .inl f_all))], [(m_posts, .inl (T.2 0, 7, .inl xp))], [(m_shut, .inl (T.2 0, 7, .inl f_shut))], [(m_was, .inl (T.2 0, 7, .inl xw))]]) (As := [.int x]) (rest := []) C G (c_m_isInn l T mo m_all m_has i_size i_next i_where i_token i_number i_word i_wrong i_farCrossing m_read i_z0 i_crossings i_inns m_posts m_shut m_here i_steps i_done x y m_was m_came m_seenAt m_rowWorth m_farBy m_used i_everywhere i_again0 i_d0 i_never i_firstCame i_longRun i_moved i_crowd i_l0 i_fitMany i_fitLeast i_fitMost m_fitPost m_fitEnd m_keptPosts i_x0 x) (kV_RX12_178 C.2.2.2.2 (Nat.le_of_ble_eq_true rfl) (Nat.le_of_ble_eq_true rfl)) [3] [0, 1, 2, 4] rfl rfl (ci := 11) (qc := (RX12, TX12, 43)) rfl rfl (List.mem_flatten.mpr ⟨_, List.mem_of_getElem? (i := 0) rfl, List.mem_cons_self⟩) rfl rfl hl.1 dX12_walks_34 (Nat.le_of_ble_eq_true rfl) (Nat.le_of_ble_eq_true rfl) (fun r_11 b1 H locs hw G => ?_)
      obtain ⟨rfl, hc_10⟩ := hw
      have G : zS T A s.heap s [[(m_all, .inl (T.2 0, 3952, .inl f_all))], [(m_posts, .inl (T.2 0, 7, .inl xp))], [(m_shut, .inl (T.2 0, 7, .inl f_shut))], [(m_was, .inl (T.2 0, 7, .inl xw))], [(mo, .inr (11, [.ref m_all, .ref m_has, .int i_size, .int i_next, .int i_where, .int i_token, .int i_number, .int i_word, .int i_wrong, .int i_farCrossing, .ref m_read, .int i_z0, .int i_crossings, .int i_inns, .ref m_posts, .ref m_shut, .ref m_here, .int i_steps, .int i_done, .int x, .int y, .ref m_was, .ref m_came, .ref m_seenAt, .ref m_rowWorth, .ref m_farBy, .ref m_used, .int i_everywhere, .int i_again0, .int i_d0, .int i_never, .int i_firstCame, .int i_longRun, .int i_moved, .int i_crowd, .int i_l0, .int i_fitMany, .int i_fitLeast, .int i_fitMost, .ref m_fitPost, .ref m_fitEnd, .ref m_keptPosts, .int i_x0]))]] _ _ := G
      rcases hc_10 with ⟨rfl, h_12⟩ | ⟨rfl, h_13⟩
      · have h_12 : zInn i_inns x := h_12
        have G := G.sub (bs' := [[(mo, .inr (11, [.ref m_all, .ref m_has, .int i_size, .int i_next, .int i_where, .int i_token, .int i_number, .int i_word, .int i_wrong, .int i_farCrossing, .ref m_read, .int i_z0, .int i_crossings, .int i_inns, .ref m_posts, .ref m_shut, .ref m_here, .int i_steps, .int i_done, .int x, .int y, .ref m_was, .ref m_came, .ref m_seenAt, .ref m_rowWorth, .ref m_farBy, .ref m_used, .int i_everywhere, .int i_again0, .int i_d0, .int i_never, .int i_firstCame, .int i_longRun, .int i_moved, .int i_crowd, .int i_l0, .int i_fitMany, .int i_fitLeast, .int i_fitMost, .ref m_fitPost, .ref m_fitEnd, .ref m_keptPosts, .int i_x0]))], [(m_all, .inl (T.2 0, 3952, .inl f_all))], [(m_posts, .inl (T.2 0, 7, .inl xp))], [(m_shut, .inl (T.2 0, 7, .inl f_shut))], [(m_was, .inl (T.2 0, 7, .inl xw))]]) [4, 0, 1, 2, 3] rfl
        exact z_zret C hr hlocks G (Nat.le_of_ble_eq_true rfl) (Nat.le_of_ble_eq_true rfl) dX12_walks_37 rfl ⟨x, y, xp, xw, rfl, (by assumption), (by assumption), (by first | with_reducible assumption | omega | trivial | assumption), (by first | with_reducible assumption | omega | trivial | assumption), (by first | with_reducible assumption | omega | trivial | assumption), (Or.inl ⟨rfl, by assumption⟩), (by rw [hE]), (by rw [hE]), (by rw [hE]; exact z_nI (x := y) (m := y.toInt.toNat) (by omega) (by omega)), ⟨g_was_1, h_2, hF.symm⟩⟩
      · have h_13 : ¬ zInn i_inns x := h_13
        have G := G.sub (bs' := [[(mo, .inr (11, [.ref m_all, .ref m_has, .int i_size, .int i_next, .int i_where, .int i_token, .int i_number, .int i_word, .int i_wrong, .int i_farCrossing, .ref m_read, .int i_z0, .int i_crossings, .int i_inns, .ref m_posts, .ref m_shut, .ref m_here, .int i_steps, .int i_done, .int x, .int y, .ref m_was, .ref m_came, .ref m_seenAt, .ref m_rowWorth, .ref m_farBy, .ref m_used, .int i_everywhere, .int i_again0, .int i_d0, .int i_never, .int i_firstCame, .int i_longRun, .int i_moved, .int i_crowd, .int i_l0, .int i_fitMany, .int i_fitLeast, .int i_fitMost, .ref m_fitPost, .ref m_fitEnd, .ref m_keptPosts, .int i_x0]))], [(m_all, .inl (T.2 0, 3952, .inl f_all))], [(m_posts, .inl (T.2 0, 7, .inl xp))], [(m_shut, .inl (T.2 0, 7, .inl f_shut))], [(m_was, .inl (T.2 0, 7, .inl xw))]]) [4, 0, 1, 2, 3] rfl
        exact z_zret C hr hlocks G (Nat.le_of_ble_eq_true rfl) (Nat.le_of_ble_eq_true rfl) dX12_walks_37 rfl ⟨x, y, xp, xw, rfl, (by assumption), (by assumption), (by first | with_reducible assumption | omega | trivial | assumption), (by first | with_reducible assumption | omega | trivial | assumption), (by first | with_reducible assumption | omega | trivial | assumption), (Or.inr ⟨rfl, by assumption⟩), (by rw [hE]), (by rw [hE]), (by rw [hE]; exact z_nI (x := y) (m := y.toInt.toNat) (by omega) (by omega)), ⟨g_was_1, h_2, hF.symm⟩⟩
    · have c_9n : ¬ b.toInt = (0 : Int) := fun q => c_9 ((fa_eq _ _).mpr q)
      refine lv_aload_n hx hb dX12_walks_21 rfl (lv_at hl 1 rfl) ?_
      refine z_Vi (bc := [[(mo, .inr (11, [.ref m_all, .ref m_has, .int i_size, .int i_next, .int i_where, .int i_token, .int i_number, .int i_word, .int i_wrong, .int i_farCrossing, .ref m_read, .int i_z0, .int i_crossings, .int i_inns, .ref m_posts, .ref m_shut, .ref m_here, .int i_steps, .int i_done, .int x, .int y, .ref m_was, .ref m_came, .ref m_seenAt, .ref m_rowWorth, .ref m_farBy, .ref m_used, .int i_everywhere, .int i_again0, .int i_d0, .int i_never, .int i_firstCame, .int i_longRun, .int i_moved, .int i_crowd, .int i_l0, .int i_fitMany, .int i_fitLeast, .int i_fitMost, .ref m_fitPost, .ref m_fitEnd, .ref m_keptPosts, .int i_x0]))], [(m_all, .inl (T.2 0, 3952, .inl f_all))], [(m_posts, .inl (T.2 0, 7, .inl xp))], [(m_shut, .inl (T.2 0, 7, .inl f_shut))], [(m_was, .inl (T.2 0, 7, .inl xw))]]) (br := []) (As := []) (rest := []) C G (c_fm_stepsOn l T mo m_all m_has i_size i_next i_where i_token i_number i_word i_wrong i_farCrossing m_read i_z0 i_crossings i_inns m_posts m_shut m_here i_steps i_done x y m_was m_came m_seenAt m_rowWorth m_farBy m_used i_everywhere i_again0 i_d0 i_never i_firstCame i_longRun i_moved i_crowd i_l0 i_fitMany i_fitLeast i_fitMost m_fitPost m_fitEnd m_keptPosts i_x0 f_all xp f_shut xw (by first | with_reducible assumption | with_reducible rfl | omega | assumption | rfl) (by first | with_reducible assumption | with_reducible rfl | omega | assumption | rfl) (by first | with_reducible assumption | with_reducible rfl | omega | assumption | rfl) (by first | with_reducible assumption | with_reducible rfl | omega | assumption | rfl) (by first | with_reducible assumption | with_reducible rfl | omega | assumption | rfl) (by first | with_reducible assumption | with_reducible rfl | omega | assumption | rfl) (by first | with_reducible assumption | with_reducible rfl | omega | assumption | rfl)) (kV_RX12_214 C.2.2.2.2 (Nat.le_of_ble_eq_true rfl) (Nat.le_of_ble_eq_true rfl)) [3, 0, 1, 2, 4] [] rfl rfl (ci := 11) (qc := (RX12, TX12, 43)) rfl rfl (List.mem_flatten.mpr ⟨_, List.mem_of_getElem? (i := 0) rfl, List.mem_cons_self⟩) rfl rfl hl.1 dX12_walks_22 (Nat.le_of_ble_eq_true rfl) (Nat.le_of_ble_eq_true rfl) (fun r_24 b1 H locs hw G => ?_)
      obtain ⟨j_at_14, j_gone_15, g_posts_16, g_was_17, rfl, h_18, h_19, h_20, h_21, h_22, hc_23⟩ := hw
      have G : zS T A s.heap s [[(mo, .inr (11, [.ref m_all, .ref m_has, .int i_size, .int i_next, .int i_where, .int i_token, .int i_number, .int i_word, .int i_wrong, .int i_farCrossing, .ref m_read, .int i_z0, .int i_crossings, .int i_inns, .ref m_posts, .ref m_shut, .ref m_here, .int i_steps, .int i_done, .int j_at_14, .int j_gone_15, .ref m_was, .ref m_came, .ref m_seenAt, .ref m_rowWorth, .ref m_farBy, .ref m_used, .int i_everywhere, .int i_again0, .int i_d0, .int i_never, .int i_firstCame, .int i_longRun, .int i_moved, .int i_crowd, .int i_l0, .int i_fitMany, .int i_fitLeast, .int i_fitMost, .ref m_fitPost, .ref m_fitEnd, .ref m_keptPosts, .int i_x0]))], [(m_all, .inl (T.2 0, 3952, .inl f_all))], [(m_posts, .inl (T.2 0, 7, .inl g_posts_16))], [(m_shut, .inl (T.2 0, 7, .inl f_shut))], [(m_was, .inl (T.2 0, 7, .inl g_was_17))]] _ _ := G
      rcases hc_23 with ⟨rfl, h_25, h_26, h_27, h_28⟩ | ⟨rfl, h_29, h_30, h_31, h_32⟩
      · have h_25 : ¬ zStep xp f_shut (zWo f_all i_z0 i_inns) (zLo f_all i_z0) x = -1 := h_25
        have h_26 : j_at_14 = zStep xp f_shut (zWo f_all i_z0 i_inns) (zLo f_all i_z0) x := h_26
        have h_27 : j_gone_15.toInt = y.toInt + 1 := h_27
        have h_28 : g_was_17 = upd xw j_at_14.toNatClampNeg (xw j_at_14.toNatClampNeg + 1) := h_28
        refine lv_istore_n (lv' := [(2, .int 1), (0, .ref mo), (1, .int c_)]) hx hb dX12_walks_25 rfl hl (by decide) rfl (fun ls hl => ?_)
        refine lv_goto (tgt := 7) hx hb dX12_walks_26 (by decide) ?_
        have G := G.sub (bs' := [[(m_all, .inl (T.2 0, 3952, .inl f_all))], [(m_posts, .inl (T.2 0, 7, .inl g_posts_16))], [(m_shut, .inl (T.2 0, 7, .inl f_shut))], [(mo, .inr (11, [.ref m_all, .ref m_has, .int i_size, .int i_next, .int i_where, .int i_token, .int i_number, .int i_word, .int i_wrong, .int i_farCrossing, .ref m_read, .int i_z0, .int i_crossings, .int i_inns, .ref m_posts, .ref m_shut, .ref m_here, .int i_steps, .int i_done, .int j_at_14, .int j_gone_15, .ref m_was, .ref m_came, .ref m_seenAt, .ref m_rowWorth, .ref m_farBy, .ref m_used, .int i_everywhere, .int i_again0, .int i_d0, .int i_never, .int i_firstCame, .int i_longRun, .int i_moved, .int i_crowd, .int i_l0, .int i_fitMany, .int i_fitLeast, .int i_fitMost, .ref m_fitPost, .ref m_fitEnd, .ref m_keptPosts, .int i_x0]))], [(m_was, .inl (T.2 0, 7, .inl g_was_17))]]) [1, 2, 3, 0, 4] rfl
        exact ih_7 (j_at_14, j_gone_15, 1, g_posts_16, g_was_17) (show 0 ≤ j_at_14.toInt ∧ j_at_14.toInt ≤ 6 ∧ 0 ≤ j_gone_15.toInt ∧ j_gone_15.toInt ≤ 499 ∧ zMP g_posts_16 ∧ zMV (zRo f_all i_z0) g_posts_16 ∧ (0 ≤ (1 : Int32).toInt ∧ (1 : Int32).toInt ≤ 1) ∧ ((1 : Int32).toInt = 1 ∧ zRunN f_shut (zWo f_all i_z0 i_inns) (zLo f_all i_z0) 499 f_posts c_ 0 = zRunN f_shut (zWo f_all i_z0 i_inns) (zLo f_all i_z0) (499 - j_gone_15.toInt.toNat) g_posts_16 j_at_14 j_gone_15.toInt.toNat ∨ (1 : Int32).toInt = 0 ∧ zRunN f_shut (zWo f_all i_z0 i_inns) (zLo f_all i_z0) 499 f_posts c_ 0 = (g_posts_16, j_at_14, j_gone_15.toInt.toNat)) ∧ ((1 : Int32).toInt = 1 ∧ zWasN f_shut (zWo f_all i_z0 i_inns) (zLo f_all i_z0) 499 f_posts c_ g_was_1 = zWasN f_shut (zWo f_all i_z0 i_inns) (zLo f_all i_z0) (499 - j_gone_15.toInt.toNat) g_posts_16 j_at_14 g_was_17 ∨ (1 : Int32).toInt = 0 ∧ zWasN f_shut (zWo f_all i_z0 i_inns) (zLo f_all i_z0) 499 f_posts c_ g_was_1 = g_was_17) from ⟨by omega, by omega, by omega, by omega, (by assumption), (by assumption), by decide, (Or.inl ⟨by decide, by rcases hR with ⟨q8, e8⟩ | ⟨q8, e8⟩ <;> first | (exfalso; omega) | (rw [e8, show 499 - y.toInt.toNat = (499 - j_gone_15.toInt.toNat) + 1 by omega, zRunN, if_neg h_25, ← h_26, ← h_22, show y.toInt.toNat + 1 = j_gone_15.toInt.toNat by omega])⟩), (Or.inl ⟨by decide, by rcases hW9 with ⟨q8, e8⟩ | ⟨q8, e8⟩ <;> first | (exfalso; omega) | (rw [e8, show 499 - y.toInt.toNat = (499 - j_gone_15.toInt.toNat) + 1 by omega, zWasN, if_neg h_25, ← h_26, ← h_22, show zVi xw j_at_14 = g_was_17 from (if_pos ⟨by omega, by omega⟩).trans h_28.symm])⟩)⟩) (show (499 - j_gone_15.toInt).toNat + (1 : Int32).toInt.toNat < (499 - y.toInt).toNat + b.toInt.toNat from by have e1 : (1 : Int32).toInt = 1 := rfl; have e0 : (0 : Int32).toInt = 0 := rfl; omega) _ _ ls G (lv_sub hl [0, 1, 2] rfl)
      · have h_29 : zStep xp f_shut (zWo f_all i_z0 i_inns) (zLo f_all i_z0) x = -1 := h_29
        have h_30 : j_at_14 = x := h_30
        have h_31 : j_gone_15 = y := h_31
        have h_32 : g_was_17 = xw := h_32
        have hg9 := congrArg Int32.toInt h_31
        refine lv_istore_n (lv' := [(2, .int 0), (0, .ref mo), (1, .int c_)]) hx hb dX12_walks_25 rfl hl (by decide) rfl (fun ls hl => ?_)
        refine lv_goto (tgt := 7) hx hb dX12_walks_26 (by decide) ?_
        have G := G.sub (bs' := [[(m_all, .inl (T.2 0, 3952, .inl f_all))], [(m_posts, .inl (T.2 0, 7, .inl g_posts_16))], [(m_shut, .inl (T.2 0, 7, .inl f_shut))], [(mo, .inr (11, [.ref m_all, .ref m_has, .int i_size, .int i_next, .int i_where, .int i_token, .int i_number, .int i_word, .int i_wrong, .int i_farCrossing, .ref m_read, .int i_z0, .int i_crossings, .int i_inns, .ref m_posts, .ref m_shut, .ref m_here, .int i_steps, .int i_done, .int j_at_14, .int j_gone_15, .ref m_was, .ref m_came, .ref m_seenAt, .ref m_rowWorth, .ref m_farBy, .ref m_used, .int i_everywhere, .int i_again0, .int i_d0, .int i_never, .int i_firstCame, .int i_longRun, .int i_moved, .int i_crowd, .int i_l0, .int i_fitMany, .int i_fitLeast, .int i_fitMost, .ref m_fitPost, .ref m_fitEnd, .ref m_keptPosts, .int i_x0]))], [(m_was, .inl (T.2 0, 7, .inl g_was_17))]]) [1, 2, 3, 0, 4] rfl
        exact ih_7 (j_at_14, j_gone_15, 0, g_posts_16, g_was_17) (show 0 ≤ j_at_14.toInt ∧ j_at_14.toInt ≤ 6 ∧ 0 ≤ j_gone_15.toInt ∧ j_gone_15.toInt ≤ 499 ∧ zMP g_posts_16 ∧ zMV (zRo f_all i_z0) g_posts_16 ∧ (0 ≤ (0 : Int32).toInt ∧ (0 : Int32).toInt ≤ 1) ∧ ((0 : Int32).toInt = 1 ∧ zRunN f_shut (zWo f_all i_z0 i_inns) (zLo f_all i_z0) 499 f_posts c_ 0 = zRunN f_shut (zWo f_all i_z0 i_inns) (zLo f_all i_z0) (499 - j_gone_15.toInt.toNat) g_posts_16 j_at_14 j_gone_15.toInt.toNat ∨ (0 : Int32).toInt = 0 ∧ zRunN f_shut (zWo f_all i_z0 i_inns) (zLo f_all i_z0) 499 f_posts c_ 0 = (g_posts_16, j_at_14, j_gone_15.toInt.toNat)) ∧ ((0 : Int32).toInt = 1 ∧ zWasN f_shut (zWo f_all i_z0 i_inns) (zLo f_all i_z0) 499 f_posts c_ g_was_1 = zWasN f_shut (zWo f_all i_z0 i_inns) (zLo f_all i_z0) (499 - j_gone_15.toInt.toNat) g_posts_16 j_at_14 g_was_17 ∨ (0 : Int32).toInt = 0 ∧ zWasN f_shut (zWo f_all i_z0 i_inns) (zLo f_all i_z0) 499 f_posts c_ g_was_1 = g_was_17) from ⟨by omega, by omega, by omega, by omega, (by assumption), (by assumption), by decide, (Or.inr ⟨by decide, by rcases hR with ⟨q8, e8⟩ | ⟨q8, e8⟩ <;> first | (exfalso; omega) | (rw [e8, show 499 - y.toInt.toNat = (498 - y.toInt.toNat) + 1 by omega, zRunN, if_pos h_29, ← h_22, h_30, h_31])⟩), (Or.inr ⟨by decide, by rcases hW9 with ⟨q8, e8⟩ | ⟨q8, e8⟩ <;> first | (exfalso; omega) | (rw [e8, show 499 - y.toInt.toNat = (498 - y.toInt.toNat) + 1 by omega, zWasN, if_pos h_29, h_32])⟩)⟩) (show (499 - j_gone_15.toInt).toNat + (0 : Int32).toInt.toNat < (499 - y.toInt).toNat + b.toInt.toNat from by have e1 : (1 : Int32).toInt = 1 := rfl; have e0 : (0 : Int32).toInt = 0 := rfl; omega) _ _ ls G (lv_sub hl [0, 1, 2] rfl)
def kW (cr inn : Int32) (k1 : Nat → Int32) (j : Nat) : Int32 := zWays cr inn k1 (nI j)
def pW (f : Nat → Int32) (z : Int32) : Nat → Int32 := zWo f z (f (z.toInt.toNat + 1))
/-- the class's rows of a land walk as the record's -/
theorem zLnd_w {cr inn z : Int32} {k1 k2 k3 k4 f : Nat → Int32} {B : Nat} (h : zLnd cr inn k1 k2 k3 k4 (fun j => f (B + j))) (hF : zLF (fun j => f (B + j))) (hz : z.toInt.toNat = B) : (∀ j, j < 7 → kW cr inn k1 j = pW f z j) ∧ zLs (kW cr inn k1) k2 (zLo f z) ∧ (∀ j, j < 7 → k3 j = zPo f z j) ∧ zP3 k3 (kW cr inn k1) ∧ cr = f z.toInt.toNat ∧ inn = f (z.toInt.toNat + 1) := by
  obtain ⟨ha, hab, hi, hd, hx, hr⟩ := h
  obtain ⟨hf0, hf1, hf2⟩ := hF
  have ha : cr = f B := ha
  have hab : 0 ≤ (f B).toInt ∧ (f B).toInt ≤ 7 := hab
  have hi : inn = f (B + 1) := hi
  have hd : ∀ j : Nat, j < 7 → k1 j = f (B + (2 + j)) ∧ k3 j = f (B + (9 + j)) ∧ k4 j = f (B + (16 + j)) := hd
  have hx : ∀ j : Nat, j < 7 → (f B).toInt ≤ (j : Int) → k1 j = 0 := hx
  have hr : ∀ j r : Nat, j < 7 → r < 4 → (r : Int) < (k1 j).toInt → k2 (4 * j + r) = f (B + (23 + 4 * j + r)) := hr
  have hf1 : ∀ c : Nat, c < 7 → (0 ≤ (f (B + (2 + c))).toInt ∧ (f (B + (2 + c))).toInt ≤ 4) ∧ (0 ≤ (f (B + (9 + c))).toInt ∧ (f (B + (9 + c))).toInt ≤ 3) ∧ 0 ≤ (f (B + (16 + c))).toInt ∧ (f (B + (16 + c))).toInt ≤ 9 := hf1
  have hw : ∀ j : Nat, j < 7 → kW cr inn k1 j = if zBit inn (nI j) = 1 then 0 else k1 j := fun j hj => by
    have t := nI_toInt (n := j) (by omega)
    have t2 := nI_clamp (n := j) (by omega)
    have hcr : cr.toInt = (f B).toInt := by rw [ha]
    unfold kW zWays
    by_cases b : zBit inn (nI j) = 1
    · rw [if_pos b, if_neg (fun q => zBit_o b q.2.2.2)]
    · rw [if_neg b]
      by_cases q : (j : Int) < (f B).toInt
      · rw [if_pos ⟨by omega, by omega, by omega, zBit_n b⟩, t2]
      · rw [if_neg (fun q2 => by omega), hx j hj (by omega)]
  have hp : ∀ j, j < 7 → kW cr inn k1 j = pW f z j := fun j hj => by
    rw [hw j hj]
    unfold pW zWo zRo
    rw [hz, ← hi, (hd j hj).1]
  have hk0 : (0 : Int32).toInt = 0 := rfl
  have hk : ∀ j, j < 7 → 0 ≤ (kW cr inn k1 j).toInt ∧ (kW cr inn k1 j).toInt ≤ (k1 j).toInt ∧ (k1 j).toInt ≤ 4 := fun j hj => by
    have q := (hf1 j hj).1
    rw [hw j hj, (hd j hj).1]
    split
    · rw [hk0]; exact ⟨by omega, q.1, q.2⟩
    · exact ⟨q.1, by omega, q.2⟩
  refine ⟨hp, fun j r hj hr4 hq => ?_, fun j hj => ?_, fun j hj => ⟨⟨(hk j hj).1, by have := hk j hj; omega⟩, ?_⟩, by rw [hz]; exact ha, by rw [hz]; exact hi⟩
  · rw [hr j r hj hr4 (by have := hk j hj; omega)]
    unfold zLo
    rw [hz]
    exact congrArg f (by omega)
  · unfold zPo
    rw [hz]
    exact (hd j hj).2.1
  · rw [(hd j hj).2.1]
    have q := (hf1 j hj).2.1
    exact ⟨q.1, by omega⟩
/-- a land's row as it can be kept: posts point to roads, inns are crossings that are there, roads lead to such -/
def zVR (R : Nat → Int32) : Prop := ∀ c, c < 7 → ((R (9 + c)).toInt = 0 ∨ (R (9 + c)).toInt < (R (2 + c)).toInt) ∧ ((R 0).toInt ≤ (c : Int) → zBit (R 1) (nI c) = 0) ∧ ∀ r : Nat, r < 4 → (r : Int) < (R (2 + c)).toInt → (R (23 + 4 * c + r)).toInt < (R 0).toInt
theorem zVR_cg {R R' : Nat → Int32} (e : ∀ j, j < 51 → R' j = R j) (h : zVR R) : zVR R' := by
  intro c hc
  obtain ⟨a, b, d⟩ := h c hc
  refine ⟨?_, ?_, fun r hr hq => ?_⟩
  · rw [e _ (by omega), e _ (by omega)]; exact a
  · rw [e _ (by omega), e _ (by omega)]; exact b
  · rw [e _ (by omega)] at hq
    rw [e _ (by omega), e _ (by omega)]
    exact d r hr hq
/-- so of each land that is kept, told or in an image -/
def zVA (f : Nat → Int32) : Prop := ∀ i k, i < 4 → k < 2 → zVR (fun j => f (988 * i + (610 + 51 * k + j)))
theorem zVA_0 {f : Nat → Int32} {z : Int32} (h : zVA f) (hz : z.toInt = 610 ∨ z.toInt = 661) : zVR (fun j => f (z.toInt.toNat + j)) := by
  rcases hz with q | q
  · exact zVR_cg (fun j _ => congrArg f (by omega)) (h 0 0 (by decide) (by decide))
  · exact zVR_cg (fun j _ => congrArg f (by omega)) (h 0 1 (by decide) (by decide))
theorem zVA_z {f P : Nat → Int32} {z : Int32} (h : zVA f) (hz : z.toInt = 610 ∨ z.toInt = 661) (hP : ∀ j, j < 7 → P j = zPt f z (nI j)) : zMV (zRo f z) P := by
  intro c hc
  rw [hP c hc]
  have e := nI_toInt (n := c) (by omega)
  have e1 : zPt f z (nI c) = f (z.toInt.toNat + (9 + c)) := congrArg f (by omega)
  rw [e1]
  exact Or.inr (zVA_0 h hz c hc).1
theorem zPt_o {f P : Nat → Int32} {z : Int32} (hP : ∀ j, j < 7 → P j = zPt f z (nI j)) : ∀ j, j < 7 → P j = zPo f z j := fun j hj => (hP j hj).trans (by
  have e := nI_toInt (n := j) (by omega)
  exact congrArg f (by omega))
/-- the reference's rows are a walk's rows -/
theorem zP3_m {f P : Nat → Int32} {z cr n : Int32} (h : zML f z cr) (hP : zMP P) : zP3 P (zWo f z n) := by
  intro j hj
  have e := nI_toInt (n := j) (by omega)
  have r : 0 ≤ (zRo f z j).toInt ∧ (zRo f z j).toInt ≤ 4 := (h.2.2.2.1 j hj).1
  have p := hP j hj
  refine ⟨?_, p.1, by omega⟩
  unfold zWo
  split
  · exact ⟨by decide, by decide⟩
  · exact r
def pBk (a : pS) : Prop := ¬ a.2.1.toInt = 0 → ¬ a.2.2.1.toInt = 0
section PBK
variable {k : pT} {a : pS}
theorem pBk_ends (h : pBk a) : pBk (pEnds k a) := by
  unfold pEnds
  split
  · exact fun _ => by show ¬ (1 : Int32).toInt = 0; decide
  · exact h
theorem pBk_also {kd w : Int32} (h : pBk a) : pBk (pAlso kd w a) := by
  unfold pAlso
  split
  · exact h
  · rename_i q
    exact fun q2 => absurd (Or.inl q2) q
theorem pBk_num {lo hi : Int32} (h : pBk a) : pBk (pNum k lo hi a).2 := by
  unfold pNum
  split
  · exact pBk_ends h
  · split
    · exact h
    · exact pBk_also (kd := 2) (w := nI (pWh k a.1)) h
theorem pBk_word {lo hi : Nat} (h : pBk a) : pBk (pWord k lo hi a).2 := by
  unfold pWord
  split
  · exact pBk_ends h
  · exact h
theorem pBk_endL (h : pBk a) : pBk (pEndL k a) := by
  unfold pEndL
  split
  · exact h
  · exact pBk_ends h
theorem pBk_cr (h : pBk a) : pBk (pCr k a).2 := pBk_num (k := k) (lo := 0) (hi := 6) h
theorem pBk_roads : ∀ (i m : Nat) (a : pS) (f : Nat → Int32), pBk a → pBk (pRoads k i m a f).2.1
  | 0, m, a, f, h => h
  | i + 1, m, a, f, h => by
    unfold pRoads
    split
    · refine pBk_roads i _ _ _ (pBk_cr ?_)
      split
      · exact pBk_also h
      · exact h
    · exact h
theorem pBk_db {m : Int} {w : Int32} {f : Nat → Int32} (h : pBk a) : pBk (pDB m w f a) := by
  unfold pDB
  split
  · exact pBk_also h
  · exact h
theorem pBk_other {d : Nat} {w : Int32} {f : Nat → Int32} (h : pBk a) : pBk (pOther k d w a f).1 := by
  unfold pOther
  split
  · exact h
  · split
    · exact pBk_roads 601 0 _ _ (pBk_db h)
    · split
      · exact pBk_cr h
      · exact pBk_num (pBk_cr h)
theorem pBk_land {f : Nat → Int32} (h : pBk a) : pBk (pLand k a f).1 := pBk_endL (pBk_other (pBk_word h))
theorem pBk_lines : ∀ (i : Nat) (a : pS) (f : Nat → Int32), pBk a → pBk (pLines k 0 i a f).1
  | 0, a, f, h => h
  | i + 1, a, f, h => by
    unfold pLines
    split
    · refine pBk_lines i _ _ ?_
      rw [show pLine k 0 a f = pLand k a f from if_pos rfl]
      exact pBk_land h
    · exact h
end PBK
/-- inns told: of crossings that were told -/
def zIq (inn fa : Int32) : Prop := ∃ t : Nat, t < 128 ∧ inn = nI t ∧ (-1 ≤ fa.toInt ∧ fa.toInt ≤ 6) ∧ ∀ d : Nat, d ≤ 7 → fa.toInt < (d : Int) → t / 2 ^ d = 0
theorem zIq_m {inn fa fb : Int32} (h : zIq inn fa) (h1 : fa.toInt ≤ fb.toInt) (h2 : fb.toInt ≤ 6) : zIq inn fb := by
  obtain ⟨t, ht, e, hf, hd⟩ := h
  exact ⟨t, ht, e, ⟨by omega, h2⟩, fun d hd8 hq => hd d hd8 (by omega)⟩
theorem zIq_t {inn fa c : Int32} (h : zIq inn fa) (hc : 0 ≤ c.toInt ∧ c.toInt ≤ 6) : zIq (inn ||| ((1 : Int32) <<< (c &&& 31))) (if fa.toInt < c.toInt then c else fa) := by
  obtain ⟨t, ht, rfl, hf, hd⟩ := h
  have ec : c = nI c.toInt.toNat := z_nI (by omega) (by omega)
  have k1 := zTof_k1 t ht c.toInt.toNat (by omega)
  rw [← ec] at k1
  refine ⟨t ||| 2 ^ c.toInt.toNat, k1.2, k1.1, ?_, fun d hd8 hq => (zTof_k2 t ht c.toInt.toNat (by omega) d (by omega)).mpr ?_⟩
  · split <;> omega
  · split at hq
    · exact ⟨hd d hd8 (by omega), by omega⟩
    · exact ⟨hd d hd8 hq, by omega⟩
theorem zIq_b : ∀ t, t < 128 → ∀ j, j < 7 → t / 2 ^ j = 0 → zBit (nI t) (nI j) = 0 := by decide +kernel
theorem zIq_0 : zIq 0 (-1) := ⟨0, by decide, rfl, by decide, fun d _ _ => Nat.zero_div _⟩
/-- roads told lead to crossings that were told -/
def zJq (f : Nat → Int32) (fa : Int32) : Prop := ∀ c r : Nat, c < 7 → r < 4 → (r : Int) < (f (2 + c)).toInt → (f (23 + 4 * c + r)).toInt ≤ fa.toInt
theorem zJq_m {f : Nat → Int32} {fa fb : Int32} (h : zJq f fa) (q : fa.toInt ≤ fb.toInt) : zJq f fb := fun c r hc hr hq => Int.le_trans (h c r hc hr hq) q
theorem zJq_l {f : Nat → Int32} {fa fb v : Int32} {k : Nat} (h : zJq f fa) (q : fa.toInt ≤ fb.toInt) (hv : v.toInt ≤ fb.toInt) (hk : 23 ≤ k) : zJq (upd f k v) fb := by
  intro c r hc hr hq
  rw [z_ne (by omega)] at hq
  by_cases e : 23 + 4 * c + r = k
  · rw [z_eq e]; exact hv
  · rw [z_ne e]; exact Int.le_trans (h c r hc hr hq) q
theorem zJq_o {f : Nat → Int32} {fa v : Int32} {k : Nat} (h : zJq f fa) (hk : k < 23) (hk2 : ¬ (2 ≤ k ∧ k < 9)) : zJq (upd f k v) fa := by
  intro c r hc hr hq
  rw [z_ne (by omega)] at hq
  rw [z_ne (by omega)]
  exact h c r hc hr hq
section PFA
variable {k : pT} {a : pS}
theorem pEnds_a : (pEnds k a).2.2.2.2 = a.2.2.2.2 := by
  unfold pEnds
  split <;> rfl
theorem pAlso_a {kd w : Int32} : (pAlso kd w a).2.2.2.2 = a.2.2.2.2 := by
  unfold pAlso
  split <;> rfl
theorem pNum_a {lo hi : Int32} : (pNum k lo hi a).2.2.2.2.2 = a.2.2.2.2 := by
  unfold pNum
  split
  · exact pEnds_a
  · split
    · rfl
    · exact pAlso_a
theorem pWord_a {lo hi : Nat} : (pWord k lo hi a).2.2.2.2.2 = a.2.2.2.2 := by
  unfold pWord
  split
  · exact pEnds_a
  · rfl
theorem pEndL_aa : (pEndL k a).2.2.2.2 = a.2.2.2.2 := by
  unfold pEndL
  split
  · rfl
  · exact pEnds_a
theorem pNum_b : 0 ≤ (pNum k 0 6 a).1.toInt ∧ (pNum k 0 6 a).1.toInt ≤ 6 := by
  unfold pNum
  split
  · exact ⟨by show (0 : Int) ≤ (0 : Int32).toInt; decide, by show (0 : Int32).toInt ≤ 6; decide⟩
  · split
    · rename_i q
      exact q
    · exact ⟨by show (0 : Int) ≤ (0 : Int32).toInt; decide, by show (0 : Int32).toInt ≤ 6; decide⟩
theorem pCr_a : (pCr k a).2.2.2.2.2 = if a.2.2.2.2.toInt < (pNum k 0 6 a).1.toInt then (pNum k 0 6 a).1 else a.2.2.2.2 := by
  have e : (pCr k a).2.2.2.2.2 = if (pNum k 0 6 a).2.2.2.2.2.toInt < (pNum k 0 6 a).1.toInt then (pNum k 0 6 a).1 else (pNum k 0 6 a).2.2.2.2.2 := rfl
  rw [e, pNum_a]
theorem zIq_cr {inn : Int32} (h : zIq inn a.2.2.2.2) : zIq inn (pCr k a).2.2.2.2.2 := by
  have b := pNum_b (k := k) (a := a)
  have hf : -1 ≤ a.2.2.2.2.toInt ∧ a.2.2.2.2.toInt ≤ 6 := by
    obtain ⟨t, -, -, hf, -⟩ := h
    exact hf
  rw [pCr_a]
  refine zIq_m h ?_ ?_
  · split <;> omega
  · split <;> omega
theorem pCr_m : a.2.2.2.2.toInt ≤ (pCr k a).2.2.2.2.2.toInt ∧ (pCr k a).1.toInt ≤ (pCr k a).2.2.2.2.2.toInt := by
  rw [pCr_a]
  show a.2.2.2.2.toInt ≤ (if a.2.2.2.2.toInt < (pNum k 0 6 a).1.toInt then (pNum k 0 6 a).1 else a.2.2.2.2).toInt ∧ (pNum k 0 6 a).1.toInt ≤ (if a.2.2.2.2.toInt < (pNum k 0 6 a).1.toInt then (pNum k 0 6 a).1 else a.2.2.2.2).toInt
  split <;> omega
/-- the roads of a crossing, while they are told -/
def zJm (f : Nat → Int32) (fa : Int32) (m : Nat) : Prop := zJq f fa ∧ ∀ r : Nat, r < m → r < 4 → (f 0).toInt < 7 → (f (23 + 4 * (f 0).toInt.toNat + r)).toInt ≤ fa.toInt
theorem zIq_roads {inn cr : Int32} : ∀ (i m : Nat) (a : pS) (f : Nat → Int32), m ≤ 4 → f 1 = inn → f 0 = cr → zIq inn a.2.2.2.2 → zJm f a.2.2.2.2 m → ((pRoads k i m a f).2.2 1 = inn ∧ (pRoads k i m a f).2.2 0 = cr ∧ (pRoads k i m a f).1 ≤ 4) ∧ zIq inn (pRoads k i m a f).2.1.2.2.2.2 ∧ zJm (pRoads k i m a f).2.2 (pRoads k i m a f).2.1.2.2.2.2 (pRoads k i m a f).1
  | 0, m, a, f, hm, e, e0, h, hJ => ⟨⟨e, e0, hm⟩, h, hJ⟩
  | i + 1, m, a, f, hm, e, e0, h, hJ => by
    have hx : ∀ b : pS, b.2.2.2.2 = a.2.2.2.2 → zIq inn (pCr k b).2.2.2.2.2 ∧ zJm (if (f 0).toInt < 7 ∧ m < 4 then upd f (23 + 4 * (f 0).toInt.toNat + m) (pCr k b).1 else f) (pCr k b).2.2.2.2.2 (if m < 4 then m + 1 else 4) := by
      intro b hb
      have hm2 := pCr_m (k := k) (a := b)
      rw [hb] at hm2
      refine ⟨zIq_cr (by rw [hb]; exact h), ?_⟩
      by_cases q : (f 0).toInt < 7 ∧ m < 4
      · rw [if_pos q, if_pos q.2]
        refine ⟨zJq_l hJ.1 hm2.1 hm2.2 (by omega), fun r hr hr4 h7 => ?_⟩
        rw [show upd f (23 + 4 * (f 0).toInt.toNat + m) (pCr k b).1 0 = f 0 from z_ne (by omega)]
        by_cases t : r = m
        · rw [z_eq (by omega)]
          exact hm2.2
        · rw [z_ne (by omega)]
          exact Int.le_trans (hJ.2 r (by omega) hr4 q.1) hm2.1
      · rw [if_neg q]
        refine ⟨zJq_m hJ.1 hm2.1, fun r hr hr4 h7 => Int.le_trans (hJ.2 r ?_ hr4 h7) hm2.1⟩
        by_cases t : m < 4
        · exact absurd ⟨h7, t⟩ q
        · omega
    unfold pRoads
    split
    · have hb : (if m = 4 then pAlso 3 (nI (pWh k a.1)) a else a).2.2.2.2 = a.2.2.2.2 := by
        split
        · exact pAlso_a
        · rfl
      have hy := hx _ hb
      refine zIq_roads i _ _ _ (by split <;> omega) ?_ ?_ hy.1 hy.2
      · split
        · rw [z_ne (by omega)]; exact e
        · exact e
      · split
        · rw [z_ne (by omega)]; exact e0
        · exact e0
    · exact ⟨⟨e, e0, hm⟩, h, hJ⟩
/-- what holds of a land's row while it is read -/
def zKv (f : Nat → Int32) (fa : Int32) : Prop := zIq (f 1) fa ∧ zJq f fa ∧ 0 ≤ (f 0).toInt ∧ (f 0).toInt ≤ 7
theorem zKv_other {d : Nat} {w : Int32} {f : Nat → Int32} (h : zKv f a.2.2.2.2) : zKv (pOther k d w a f).2 (pOther k d w a f).1.2.2.2.2 := by
  obtain ⟨hI, hJ, h0⟩ := h
  unfold pOther
  split
  · exact ⟨hI, hJ, h0⟩
  · split
    · have hb : (pDB 7 w f a).2.2.2.2 = a.2.2.2.2 := by
        unfold pDB
        split
        · exact pAlso_a
        · rfl
      obtain ⟨⟨r1, r2, r3⟩, r4, r5, r6⟩ := zIq_roads (k := k) 601 0 (pDB 7 w f a) f (by decide) rfl rfl (by rw [hb]; exact hI) ⟨by rw [hb]; exact hJ, fun r hr _ _ => absurd hr (Nat.not_lt_zero r)⟩
      show zKv (if 7 ≤ (f 0).toInt then (pRoads k 601 0 (pDB 7 w f a) f).2.2 else upd (upd (pRoads k 601 0 (pDB 7 w f a) f).2.2 (2 + ((pRoads k 601 0 (pDB 7 w f a) f).2.2 0).toInt.toNat) (nI (pRoads k 601 0 (pDB 7 w f a) f).1)) 0 ((pRoads k 601 0 (pDB 7 w f a) f).2.2 0 + 1)) (pRoads k 601 0 (pDB 7 w f a) f).2.1.2.2.2.2
      revert r1 r2 r3 r4 r5 r6
      generalize (pRoads k 601 0 (pDB 7 w f a) f).2.2 = g
      generalize (pRoads k 601 0 (pDB 7 w f a) f).2.1.2.2.2.2 = fb
      generalize (pRoads k 601 0 (pDB 7 w f a) f).1 = m
      intro r1 r2 r3 r4 r5 r6
      split
      · exact ⟨by rw [r1]; exact r4, r5, by rw [r2]; exact h0⟩
      · have e1 : (g 0 + 1).toInt = (g 0).toInt + 1 := z_iaddI (by rw [r2]; show -2147483648 ≤ (f 0).toInt + 1; omega) (by rw [r2]; show (f 0).toInt + 1 < 2147483648; omega)
        rw [r2] at e1 ⊢
        refine ⟨?_, zJq_o ?_ (by decide) (by decide), ?_⟩
        · rw [z_ne (by omega), z_ne (by omega), r1]; exact r4
        · intro c r hc hr hq
          by_cases t : c = (f 0).toInt.toNat
          · rw [z_ne (by omega)]
            rw [z_eq (by omega)] at hq
            have em := nI_toInt (n := m) (by omega)
            have x := r6 r (by omega) hr (by rw [r2]; omega)
            rw [r2, ← t] at x
            exact x
          · rw [z_ne (by omega)] at hq
            rw [z_ne (by omega)]
            exact r5 c r hc hr hq
        · rw [z_eq rfl, e1]
          omega
    · split
      · have b := pNum_b (k := k) (a := a)
        have t := zIq_t hI b
        rw [← pCr_a] at t
        have hm2 := pCr_m (k := k) (a := a)
        show zKv (upd f 1 (f 1 ||| ((1 : Int32) <<< ((pCr k a).1 &&& 31)))) (pCr k a).2.2.2.2.2
        exact ⟨by rw [z_eq rfl]; exact t, zJq_o (zJq_m hJ hm2.1) (by decide) (by decide), by rw [z_ne (by decide)]; exact h0⟩
      · have t := zIq_cr (k := k) hI
        have hm2 := pCr_m (k := k) (a := a)
        have b : 0 ≤ (pCr k a).1.toInt ∧ (pCr k a).1.toInt ≤ 6 := pNum_b (k := k) (a := a)
        show zKv (upd f ((if d = 2 then 9 else 16) + (pCr k a).1.toInt.toNat) (pNum k 0 (if d = 2 then 3 else 9) (pCr k a).2).1) (pNum k 0 (if d = 2 then 3 else 9) (pCr k a).2).2.2.2.2.2
        rw [pNum_a]
        have e : (if d = 2 then 9 else 16) = 9 ∨ (if d = 2 then 9 else 16) = 16 := by
          split
          · exact Or.inl rfl
          · exact Or.inr rfl
        exact ⟨by rw [z_ne (by omega)]; exact t, zJq_o (zJq_m hJ hm2.1) (by omega) (by omega), by rw [z_ne (by omega)]; exact h0⟩
theorem zKv_land {f : Nat → Int32} (h : zKv f a.2.2.2.2) : zKv (pLand k a f).2 (pLand k a f).1.2.2.2.2 := by
  show zKv _ (pEndL k _).2.2.2.2
  rw [pEndL_aa]
  exact zKv_other (by rw [pWord_a]; exact h)
theorem zKv_lines : ∀ (i : Nat) (a : pS) (f : Nat → Int32), zKv f a.2.2.2.2 → zKv (pLines k 0 i a f).2 (pLines k 0 i a f).1.2.2.2.2
  | 0, a, f, h => h
  | i + 1, a, f, h => by
    unfold pLines
    split
    · refine zKv_lines i _ _ ?_
      rw [show pLine k 0 a f = pLand k a f from if_pos rfl]
      exact zKv_land h
    · exact h
theorem zKv_0 : zKv (fun _ => 0) (-1) := ⟨zIq_0, fun c r _ _ hq => absurd hq (by show ¬ (r : Int) < (0 : Int32).toInt; have : (0 : Int32).toInt = 0 := rfl; omega), by decide⟩
end PFA
theorem pRead_V {k : pT} {n : Nat} (h : (pRead k n 0).1.2.2.1.toInt = 0) : zVR (pRead k n 0).2 := by
  have hb : pBk (pLines k 0 601 (0, 0, 0, -1, -1) (fun _ => 0)).1 := pBk_lines 601 _ _ (fun q => absurd rfl q)
  have hi : zKv (pLines k 0 601 (0, 0, 0, -1, -1) (fun _ => 0)).2 (pLines k 0 601 (0, 0, 0, -1, -1) (fun _ => 0)).1.2.2.2.2 := zKv_lines 601 _ _ zKv_0
  have h : (pF5 n 0 (pF4 n 0 (pLines k 0 601 (0, 0, 0, -1, -1) (fun _ => 0)).1 (pLines k 0 601 (0, 0, 0, -1, -1) (fun _ => 0)).2) (pLines k 0 601 (0, 0, 0, -1, -1) (fun _ => 0)).2).2.2.1.toInt = 0 := h
  show zVR (pLines k 0 601 (0, 0, 0, -1, -1) (fun _ => 0)).2
  revert hb hi h
  generalize (pLines k 0 601 (0, 0, 0, -1, -1) (fun _ => 0)).1 = a
  generalize (pLines k 0 601 (0, 0, 0, -1, -1) (fun _ => 0)).2 = f
  intro hb hi h
  have hb4 : pBk (pF4 n 0 a f) := by
    unfold pF4
    split
    · exact pBk_also hb
    · exact hb
  have h4 : (pF4 n 0 a f).2.2.1.toInt = 0 ∧ pPosts f = true := by
    revert hb4 h
    generalize pF4 n 0 a f = b
    intro h hb4
    by_cases hq : b.2.2.1.toInt = 0
    · refine ⟨hq, ?_⟩
      by_cases hp : pPosts f = true
      · exact hp
      · exfalso
        unfold pF5 at h
        rw [if_pos ⟨rfl, hq, Bool.eq_false_iff.mpr hp⟩] at h
        unfold pAlso at h
        by_cases hc : b.2.1.toInt = 0
        · rw [if_neg (fun z => z.elim (fun z => z hc) (fun z => z.1 hq))] at h
          exact absurd (show (5 : Int32).toInt = 0 from h) (by decide)
        · exact hb4 hc hq
    · exfalso
      unfold pF5 at h
      rw [if_neg (fun z => hq z.2.1)] at h
      exact hq h
  have h5 := h4.1
  unfold pF4 at h5
  have ha : a.2.2.1.toInt = 0 := by
    by_cases hq : a.2.2.1.toInt = 0
    · exact hq
    · rw [if_neg (fun z => hq z.2.1)] at h5
      exact h5
  have hf : ¬ (f 0).toInt ≤ a.2.2.2.2.toInt := fun q => by
    rw [if_pos ⟨rfl, ha, q⟩] at h5
    unfold pAlso at h5
    by_cases hc2 : a.2.1.toInt = 0
    · rw [if_neg (fun z => z.elim (fun z => z hc2) (fun z => z.1 ha))] at h5
      exact absurd (show (4 : Int32).toInt = 0 from h5) (by decide)
    · exact hb hc2 ha
  obtain ⟨⟨t, ht, e, -, hd⟩, hJ, -⟩ := hi
  intro c hc
  refine ⟨pPosts_t.mp h4.2 c hc, fun hn => ?_, fun r hr hq => ?_⟩
  · rw [e]
    exact zIq_b t ht c hc (hd c (by omega) (by omega))
  · have := hJ c r hc hr hq
    omega
theorem zVA_low {f g : Nat → Int32} (hV : zVA f) (e : ∀ j, 610 ≤ j → g j = f j) : zVA g := fun i q hi hq => zVR_cg (fun j _ => e _ (by omega)) (hV i q hi hq)
theorem zVA_text {k : pT} {n s : Nat} {at_ r : Int32} {f g : Nat → Int32} (hV : zVA f) (hs : s < 3) (F2 : zText (pRead k n s) s at_ f g r) (T2 : ∀ j, 988 ≤ j → g j = f j) : zVA g := by
  have ho : ∀ (a b : Int32) (j : Nat), 7 ≤ j → pHd f a b j = f j := fun a b j hj => by
    unfold pHd
    rw [z_ne (by omega), z_ne (by omega), z_ne (by omega)]
  rcases F2 with ⟨-, -, z⟩ | ⟨-, -, -, z⟩ | ⟨-, y, -, z⟩
  · refine zVA_low hV (fun j hj => ?_)
    by_cases q : j < 988
    · rw [z j q, ho _ _ _ (by omega)]
    · exact T2 j (by omega)
  · refine zVA_low hV (fun j hj => ?_)
    by_cases q : j < 988
    · rw [z j q, ho _ _ _ (by omega)]
    · exact T2 j (by omega)
  · have hc2 : ∀ (G : Nat → Int32) (j : Nat), 7 ≤ j → pCnt s at_ G j = G j := fun G j hj => by
      unfold pCnt
      split
      · exact z_ne (by omega)
      · rfl
    intro i q hi hq
    by_cases e : i = 0
    · by_cases hs0 : s = 0 ∧ (pNr 0 at_ f).toInt.toNat = q
      · obtain ⟨hs0, hn⟩ := hs0
        subst hs0
        refine zVR_cg (fun j hj => ?_) (pRead_V y)
        show g (988 * i + (610 + 51 * q + j)) = (pRead k n 0).2 j
        rw [z _ (by omega), hn]
        unfold pPut
        have hp : pBase 0 q = 610 + 51 * q := rfl
        have hz : pSize 0 = 51 := rfl
        rw [hp, hz, if_pos (by omega)]
        exact congrArg _ (by omega)
      · refine zVR_cg (fun j hj => ?_) (hV i q hi hq)
        show g (988 * i + (610 + 51 * q + j)) = f (988 * i + (610 + 51 * q + j))
        rw [z _ (by omega)]
        have hx : ¬ (pBase s (pNr s at_ f).toInt.toNat ≤ 988 * i + (610 + 51 * q + j) ∧ 988 * i + (610 + 51 * q + j) < pBase s (pNr s at_ f).toInt.toNat + pSize s) := by
          rcases (show s = 0 ∨ s = 1 ∨ s = 2 by omega) with t | t | t
          · subst t
            have hp : pBase 0 (pNr 0 at_ f).toInt.toNat = 610 + 51 * (pNr 0 at_ f).toInt.toNat := rfl
            have hz : pSize 0 = 51 := rfl
            rw [hp, hz]
            have hn : ¬ (pNr 0 at_ f).toInt.toNat = q := fun w => hs0 ⟨rfl, w⟩
            omega
          · subst t
            have hp : pBase 1 (pNr 1 at_ f).toInt.toNat = 712 + 121 * (pNr 1 at_ f).toInt.toNat := rfl
            rw [hp]
            omega
          · subst t
            have hp : pBase 2 (pNr 2 at_ f).toInt.toNat = 954 + 17 * (pNr 2 at_ f).toInt.toNat := rfl
            rw [hp]
            omega
        unfold pPut
        rw [if_neg hx, hc2 _ _ (by omega), ho _ _ _ (by omega)]
    · exact zVR_cg (fun j _ => T2 _ (by omega)) (hV i q hi hq)
theorem zVA_feed {p : Nat} {a b c d e r : Int32} {f g : Nat → Int32} (hV : zVA f) (hp6 : p ≤ 600) (F2 : 580 < p ∧ r = -1 ∧ g = f ∨ p ≤ 580 ∧ r = nI (p + 20) ∧ zFeedR p a b c d e f g) : zVA g := by
  rcases F2 with ⟨-, -, y⟩ | ⟨hp5, -, y⟩
  · rw [y]; exact hV
  · obtain ⟨-, -, z3⟩ := y
    exact zVA_low hV (fun j hj => z3 j (by omega) (by omega))
theorem zVA_end {n r : Int32} {f g : Nat → Int32} (hV : zVA f) (F2 : (n.toInt < 0 ∨ (f 4).toInt < n.toInt) ∧ r.toInt = -1 ∧ g = f ∨ (0 ≤ n.toInt ∧ n.toInt ≤ (f 4).toInt) ∧ g = upd f 4 n ∧ r = n) : zVA g := by
  rcases F2 with ⟨-, -, y⟩ | ⟨-, y, -⟩
  · rw [y]; exact hV
  · rw [y]; exact zVA_low hV (fun j hj => z_ne (by omega))
theorem zVA_hd {f g : Nat → Int32} (hV : zVA f) (hg : g = upd (upd (upd f 4 0) 5 0) 6 (-1)) : zVA g := by
  rw [hg]
  exact zVA_low hV (fun j hj => by rw [z_ne (by omega), z_ne (by omega), z_ne (by omega)])
theorem zVA_img {f g : Nat → Int32} {k : Nat} (hk : k < 3) (hV : zVA f) (c1 : ∀ j, j < 988 → g (988 * (k + 1) + j) = f j) (c2 : ∀ j, (j < 988 * (k + 1) ∨ 988 * (k + 1) + 988 ≤ j) → g j = f j) : zVA g := by
  intro i q hi hq
  by_cases e : i = k + 1
  · subst e
    exact zVR_cg (fun j _ => (c1 _ (by omega)).trans (congrArg f (by omega))) (hV 0 q (by decide) hq)
  · have : i < k + 1 ∨ k + 1 < i := by omega
    exact zVR_cg (fun j _ => c2 _ (by omega)) (hV i q hi hq)
theorem zVA_ag {K : Nat} {x r' : Int32} {fh f g : Nat → Int32} (hV : zVA f) (hx : x.toInt = (K : Int)) (hK : K < 3) (F2 : r' = 0 ∧ (x.toInt < 0 ∨ 3 ≤ x.toInt ∨ fh x.toNatClampNeg = 0) ∧ g = f ∨ r' = 1 ∧ (0 ≤ x.toInt ∧ x.toInt < 3) ∧ ¬ fh x.toNatClampNeg = 0 ∧ (∀ j, j < 988 → g j = f (988 * (x.toNatClampNeg + 1) + j)) ∧ ∀ j, 988 ≤ j → g j = f j) : zVA g := by
  have e : x.toNatClampNeg = K := by have := z_clI (x := x) (by omega); omega
  rw [e] at F2
  rcases F2 with ⟨-, -, z⟩ | ⟨-, -, -, z, z2⟩
  · rw [z]; exact hV
  · intro i q hi hq
    by_cases e : i = 0
    · exact zVR_cg (fun j _ => (z _ (by omega)).trans (congrArg f (by omega))) (hV (K + 1) q (by omega) hq)
    · exact zVR_cg (fun j _ => z2 _ (by omega)) (hV i q hi hq)
theorem zBit_z (y : Int32) : zBit 0 y = 0 := by
  unfold zBit
  rw [Int32.zero_shiftRight]
  rfl
theorem zVR_z {R : Nat → Int32} (h : ∀ j, j < 51 → R j = 0) : zVR R := by
  intro c hc
  rw [h _ (by omega), h _ (by omega), h _ (by omega), h _ (by omega)]
  exact ⟨Or.inl rfl, fun _ => zBit_z _, fun r _ hq => absurd hq (by show ¬ (r : Int) < (0 : Int32).toInt; have : (0 : Int32).toInt = 0 := rfl; omega)⟩
theorem zVA_st : zVA (upd (fun _ => 0) 6 (-1)) := fun i q _ _ => zVR_z (fun j _ => if_neg (by omega))
theorem zLs_c {W W' L L' : Nat → Int32} (h : zLs W L L') (e : ∀ j, j < 7 → W' j = W j) : zLs W' L L' := fun j r hj hr hq => h j r hj hr (by rw [← e j hj]; exact hq)
abbrev zHas (cr x : Int32) : Prop := 0 ≤ x.toInt ∧ x.toInt < cr.toInt ∧ x.toInt < 7
/-- roads lead to crossings that are there -/
def zLq (cr : Int32) (k1 k2 : Nat → Int32) : Prop := ∀ j r : Nat, j < 7 → r < 4 → (r : Int) < (k1 j).toInt → 0 ≤ (k2 (4 * j + r)).toInt ∧ (k2 (4 * j + r)).toInt < cr.toInt
theorem zLq_e {cr inn z : Int32} {k1 k2 k3 k4 f : Nat → Int32} {B : Nat} (h : zLnd cr inn k1 k2 k3 k4 (fun j => f (B + j))) (hF : zLF (fun j => f (B + j))) (hz : z.toInt.toNat = B) (hV : zVR (fun j => f (z.toInt.toNat + j))) : zLq cr k1 k2 := by
  obtain ⟨ha, -, -, hd, -, hr⟩ := h
  rw [hz] at hV
  intro j r hj hr4 hq
  have e := hr j r hj hr4 hq
  have e : k2 (4 * j + r) = f (B + (23 + 4 * j + r)) := e
  have b : 0 ≤ (f (B + (23 + (4 * j + r)))).toInt := (hF.2.2 (4 * j + r) (by omega)).1
  have d : k1 j = f (B + (2 + j)) := (hd j hj).1
  have v : (r : Int) < (f (B + (2 + j))).toInt → (f (B + (23 + 4 * j + r))).toInt < (f (B + 0)).toInt := (hV j hj).2.2 r hr4
  have ha : cr = f (B + 0) := ha
  rw [e, ha]
  rw [show B + (23 + (4 * j + r)) = B + (23 + 4 * j + r) by omega] at b
  exact ⟨b, v (by rw [← d]; exact hq)⟩
theorem zStep_h {cr inn x : Int32} {f1 f2 f3 k1 k2 : Nat → Int32} (hI : zP3 f1 f3) (hW : ∀ j, j < 7 → f3 j = zWays cr inn k1 (nI j)) (hr : ∀ j, j < 7 → (f3 j).toInt ≤ (k1 j).toInt) (hL : zLq cr k1 k2) (h7 : cr.toInt ≤ 7) (h : ¬ zStep f1 f2 f3 k2 x = -1) : zHas cr (zStep f1 f2 f3 k2 x) := by
  unfold zStep at h ⊢
  by_cases t : zTurn f1 f2 f3 x = -1
  · rw [if_pos t] at h
    exact absurd rfl h
  · rw [if_neg t]
    have g := (zTurn_lt (f2 := f2) hI x).resolve_left t
    have e1 := z_clI g.1
    have e2 := z_clI g.2.2.1
    have q := hI x.toNatClampNeg (by omega)
    have q2 := hr x.toNatClampNeg (by omega)
    have y := hL x.toNatClampNeg (zTurn f1 f2 f3 x).toNatClampNeg (by omega) (by omega) (by omega)
    exact ⟨y.1, y.2, by omega⟩
theorem zWays_r {cr inn : Int32} {k1 k3 f3 : Nat → Int32} (hI : zLI cr k1 k3) (hW : ∀ j, j < 7 → f3 j = zWays cr inn k1 (nI j)) : ∀ j, j < 7 → (f3 j).toInt ≤ (k1 j).toInt := by
  intro j hj
  rw [hW j hj]
  have t2 := nI_clamp (n := j) (by omega)
  have b := (hI.2.1 j hj).1
  unfold zWays
  split
  · rw [t2]; exact Int.le_refl _
  · exact b
theorem zRunN_h {cr inn : Int32} {f2 f3 k1 k2 : Nat → Int32} (hW : ∀ j, j < 7 → f3 j = zWays cr inn k1 (nI j)) (hr : ∀ j, j < 7 → (f3 j).toInt ≤ (k1 j).toInt) (hL : zLq cr k1 k2) (h7 : cr.toInt ≤ 7) : ∀ (n : Nat) (f : Nat → Int32) (x : Int32) (k : Nat), zP3 f f3 → zHas cr x → zHas cr (zRunN f2 f3 k2 n f x k).2.1
  | 0, f, x, k, _, h => h
  | n + 1, f, x, k, hI, h => by
    unfold zRunN
    by_cases q : zStep f f2 f3 k2 x = -1
    · rw [if_pos q]; exact h
    · rw [if_neg q]
      exact zRunN_h hW hr hL h7 n _ _ _ (zPost_I hI x) (zStep_h hI hW hr hL h7 q)
/-- posts, roads shut, walkers; steps; how many came to no inn -/
abbrev zK : Type := (Nat → Int32) × (Nat → Int32) × (Nat → Int32) × Int32 × Int32
def zMvH (H : Nat → Int32) (x y : Int32) : Nat → Int32 := upd (upd H x.toNatClampNeg (H x.toNatClampNeg - 1)) y.toNatClampNeg (upd H x.toNatClampNeg (H x.toNatClampNeg - 1) y.toNatClampNeg + 1)
def zGoF (cr : Int32) (W L : Nat → Int32) (x : Int32) (D : zK) : Option zK := if (zHas cr x ∧ 1 ≤ (D.2.2.1 x.toNatClampNeg).toInt) ∧ ¬ zStep D.1 D.2.1 W L x = -1 then some (zPost D.1 D.2.1 W x, D.2.1, zMvH D.2.2.1 x (zStep D.1 D.2.1 W L x), D.2.2.2.1 + 1, D.2.2.2.2) else none
def zRuF (cr inn : Int32) (W L : Nat → Int32) (x : Int32) (D : zK) : Option zK := if zHas cr x ∧ 1 ≤ (D.2.2.1 x.toNatClampNeg).toInt then some ((zRunN D.2.1 W L 499 D.1 x 0).1, D.2.1, zMvH D.2.2.1 x (zRunN D.2.1 W L 499 D.1 x 0).2.1, D.2.2.2.1 + nI (zRunN D.2.1 W L 499 D.1 x 0).2.2, if zBit inn (zRunN D.2.1 W L 499 D.1 x 0).2.1 = 1 then D.2.2.2.2 else D.2.2.2.2 + 1) else none
def zTuF (cr : Int32) (W : Nat → Int32) (x : Int32) (D : zK) : Option zK := if zHas cr x ∧ ¬ zTurn D.1 D.2.1 W x = -1 then some (zPost D.1 D.2.1 W x, D.2) else none
def zAdF (cr x : Int32) (D : zK) : Option zK := if zHas cr x ∧ (D.2.2.1 x.toNatClampNeg).toInt < 99 then some (D.1, D.2.1, upd D.2.2.1 x.toNatClampNeg (D.2.2.1 x.toNatClampNeg + 1), D.2.2.2) else none
def zShF (cr : Int32) (Ro : Nat → Int32) (x y : Int32) (D : zK) : Option zK := if zHas cr x ∧ (0 ≤ y.toInt ∧ y.toInt < (Ro x.toNatClampNeg).toInt ∧ y.toInt < 4) ∧ zBit (D.2.1 x.toNatClampNeg) y = 0 then some (D.1, upd D.2.1 x.toNatClampNeg (D.2.1 x.toNatClampNeg ||| 1 <<< (y &&& 31)), D.2.2) else none
def zOpF (cr : Int32) (Ro : Nat → Int32) (x y : Int32) (D : zK) : Option zK := if zHas cr x ∧ (0 ≤ y.toInt ∧ y.toInt < (Ro x.toNatClampNeg).toInt ∧ y.toInt < 4) ∧ ¬ zBit (D.2.1 x.toNatClampNeg) y = 0 then some (D.1, upd D.2.1 x.toNatClampNeg (D.2.1 x.toNatClampNeg &&& (1 <<< (y &&& 31) ^^^ (-1))), D.2.2) else none
/-- a deed -/
def zDe (cr inn : Int32) (W Ro L : Nat → Int32) (d x y : Int32) (D : zK) : Option zK := if d.toInt = 0 then zGoF cr W L x D else if d.toInt = 1 then zRuF cr inn W L x D else if d.toInt = 2 then zTuF cr W x D else if d.toInt = 3 then zAdF cr x D else if d.toInt = 4 then zShF cr Ro x y D else if d.toInt = 5 then zOpF cr Ro x y D else none
set_option maxHeartbeats 4000000 in
set_option maxRecDepth 100000 in
/-- c_f_move -/
theorem c_f_move (l : Launch) (T : zTy) (h : Nat) (po : Nat) (la : Nat) (fw : Nat → Int32) (v0 : Int32) (v1 : Int32) (v2 : Int32) (v3 : Int32) (v4 : Int32) (v5 : Int32) (v6 : Int32) (v7 : Int32) (wc : va_W) (cr : Int32) (inn : Int32) (k1 : Nat → Int32) (k2 : Nat → Int32) (k3 : Nat → Int32) (k4 : Nat → Int32) (z : va_W) (x : Int32) (y : Int32) (hc : bCourse T h po la fw v0 v1 v2 v3 v4 v5 v6 v7 wc) (hz : bLand T la cr inn k1 k2 k3 k4 z) (hhx : zHas cr x) (hhy : zHas cr y) : zMv l T yX1_move cX1_move 3 3 0 0 [.ref h, .int x, .int y] [wc, z] (fun bs => ∃ (wc2 : va_W) (gw : Nat → Int32) (u3 : Int32) (u5 : Int32), bs = [wc2, z] ∧ bCourse T h po la gw v0 v1 v2 u3 v4 u5 v6 v7 wc2 ∧ gw = zMvH fw x y) := by
  refine zMv_of (own := RX1) (by decide) rfl (Nat.le_of_ble_eq_true rfl) ?_
  intro p e s m args below meth c A ls C hr hlocks hnm hAe G hl
  have hx := C.1
  have hb := C.2.1
  have hl : lv_has ls 3 [(0, .ref h), (1, .int x), (2, .int y)] := hl
  refine lv_aload_n hx hb dX1_move_0 rfl (lv_at hl 0 rfl) ?_
  obtain ⟨a1_1, rfl⟩ := hc
  have G : zS T A s.heap s [[(h, .inr (1, [.ref po, .ref a1_1, .int v0, .ref la, .int v1, .int v2, .int v3, .int v4, .int v5, .int v6, .int v7]))], [(a1_1, .inl (T.2 0, 7, .inl fw))], z] _ _ := G.re rfl
  refine z_get C G clX1 0 rfl 3 (by decide) m_fl_RX1_25 rfl dX1_move_1 ?_
  refine lv_iload_n hx hb dX1_move_4 rfl (lv_at hl 1 rfl) ?_
  refine z_Vi (bc := [z]) (br := [[(h, .inr (1, [.ref po, .ref a1_1, .int v0, .ref la, .int v1, .int v2, .int v3, .int v4, .int v5, .int v6, .int v7]))], [(a1_1, .inl (T.2 0, 7, .inl fw))]]) (As := [.int x]) (rest := []) C G (c_has l T la cr inn k1 k2 k3 k4 z x hz) (kV_RX1_112 C.2.2.2.2 (Nat.le_of_ble_eq_true rfl) (Nat.le_of_ble_eq_true rfl)) [2] [0, 1] rfl rfl (ci := 4) (qc := (RX4, TX4, 6)) rfl rfl (List.mem_flatten.mpr ⟨_, List.mem_of_getElem? (i := 0) rfl, (bLand_mem hz).choose_spec⟩) rfl rfl hl.1 dX1_move_5 (Nat.le_of_ble_eq_true rfl) (Nat.le_of_ble_eq_true rfl) (fun r_3 b1 H locs hw G => ?_)
  obtain ⟨rfl, hc_2⟩ := hw
  have G : zS T A s.heap s [[(h, .inr (1, [.ref po, .ref a1_1, .int v0, .ref la, .int v1, .int v2, .int v3, .int v4, .int v5, .int v6, .int v7]))], [(a1_1, .inl (T.2 0, 7, .inl fw))], z] _ _ := G
  rcases hc_2 with ⟨rfl, h_4, h_5, h_6⟩ | ⟨rfl, h_7⟩
  · have h_4 : 0 ≤ x.toInt := h_4
    have h_5 : x.toInt < cr.toInt := h_5
    have h_6 : x.toInt < 7 := h_6
    refine lv_if_eq (tgt := 22) hx hb dX1_move_8 (by decide) (fun q => absurd q (by decide)) (fun _ => ?_)
    refine lv_aload_n hx hb dX1_move_11 rfl (lv_at hl 0 rfl) ?_
    refine z_get C G clX1 0 rfl 3 (by decide) m_fl_RX1_25 rfl dX1_move_12 ?_
    refine lv_iload_n hx hb dX1_move_15 rfl (lv_at hl 2 rfl) ?_
    refine z_Vi (bc := [z]) (br := [[(h, .inr (1, [.ref po, .ref a1_1, .int v0, .ref la, .int v1, .int v2, .int v3, .int v4, .int v5, .int v6, .int v7]))], [(a1_1, .inl (T.2 0, 7, .inl fw))]]) (As := [.int y]) (rest := []) C G (c_has l T la cr inn k1 k2 k3 k4 z y hz) (kV_RX1_112 C.2.2.2.2 (Nat.le_of_ble_eq_true rfl) (Nat.le_of_ble_eq_true rfl)) [2] [0, 1] rfl rfl (ci := 4) (qc := (RX4, TX4, 6)) rfl rfl (List.mem_flatten.mpr ⟨_, List.mem_of_getElem? (i := 0) rfl, (bLand_mem hz).choose_spec⟩) rfl rfl hl.1 dX1_move_16 (Nat.le_of_ble_eq_true rfl) (Nat.le_of_ble_eq_true rfl) (fun r_9 b1 H locs hw G => ?_)
    obtain ⟨rfl, hc_8⟩ := hw
    have G : zS T A s.heap s [[(h, .inr (1, [.ref po, .ref a1_1, .int v0, .ref la, .int v1, .int v2, .int v3, .int v4, .int v5, .int v6, .int v7]))], [(a1_1, .inl (T.2 0, 7, .inl fw))], z] _ _ := G
    rcases hc_8 with ⟨rfl, h_10, h_11, h_12⟩ | ⟨rfl, h_13⟩
    · have h_10 : 0 ≤ y.toInt := h_10
      have h_11 : y.toInt < cr.toInt := h_11
      have h_12 : y.toInt < 7 := h_12
      refine lv_if_ne (tgt := 23) hx hb dX1_move_19 (by decide) (fun _ => ?_) (fun q => absurd q (by decide))
      refine lv_aload_n hx hb dX1_move_23 rfl (lv_at hl 0 rfl) ?_
      refine z_get C G clX1 0 rfl 1 (by decide) m_fl_RX1_18 rfl dX1_move_24 ?_
      refine lv_iload_n hx hb dX1_move_27 rfl (lv_at hl 1 rfl) ?_
      refine lv_dup2_11 hx hb dX1_move_28 rfl rfl ?_
      refine z_ild C G 1 rfl (vp_in_iff.mpr ⟨by omega, by omega⟩) dX1_move_29 ?_
      refine lv_topi (fun v_14 ev_14 => ?_)
      subst ev_14
      refine lv_iconst (v := 1) hx hb dX1_move_30 (by decide) ?_
      refine lv_isub hx hb dX1_move_31 ?_
      refine z_ist C G 1 rfl (vp_in_iff.mpr ⟨by omega, by omega⟩) dX1_move_32 (fun H locs G => ?_)
      have G : zS T A s.heap s [[(h, .inr (1, [.ref po, .ref a1_1, .int v0, .ref la, .int v1, .int v2, .int v3, .int v4, .int v5, .int v6, .int v7]))], [(a1_1, .inl (T.2 0, 7, .inl (upd fw x.toNatClampNeg ((fw x.toNatClampNeg) - 1))))], z] _ _ := G
      refine lv_aload_n hx hb dX1_move_33 rfl (lv_at hl 0 rfl) ?_
      refine z_get C G clX1 0 rfl 1 (by decide) m_fl_RX1_18 rfl dX1_move_34 ?_
      refine lv_iload_n hx hb dX1_move_37 rfl (lv_at hl 2 rfl) ?_
      refine lv_dup2_11 hx hb dX1_move_38 rfl rfl ?_
      refine z_ild C G 1 rfl (vp_in_iff.mpr ⟨by omega, by omega⟩) dX1_move_39 ?_
      refine lv_topi (fun v_15 ev_15 => ?_)
      subst ev_15
      refine lv_iconst (v := 1) hx hb dX1_move_40 (by decide) ?_
      refine lv_iadd hx hb dX1_move_41 ?_
      refine z_ist C G 1 rfl (vp_in_iff.mpr ⟨by omega, by omega⟩) dX1_move_42 (fun H locs G => ?_)
      have G : zS T A s.heap s [[(h, .inr (1, [.ref po, .ref a1_1, .int v0, .ref la, .int v1, .int v2, .int v3, .int v4, .int v5, .int v6, .int v7]))], [(a1_1, .inl (T.2 0, 7, .inl (upd (upd fw x.toNatClampNeg ((fw x.toNatClampNeg) - 1)) y.toNatClampNeg (((upd fw x.toNatClampNeg ((fw x.toNatClampNeg) - 1)) y.toNatClampNeg) + 1))))], z] _ _ := G
      refine lv_iload_n hx hb dX1_move_43 rfl (lv_at hl 1 rfl) ?_
      refine lv_iload_n hx hb dX1_move_44 rfl (lv_at hl 2 rfl) ?_
      refine lv_icmp_eq (tgt := 58) hx hb dX1_move_45 (by decide) (fun c_16 => ?_) (fun c_16 => ?_)
      · have c_16n : x.toInt = y.toInt := (fa_eq _ _).mp c_16
        refine lv_aload_n hx hb dX1_move_58 rfl (lv_at hl 0 rfl) ?_
        refine z_get C G clX1 0 rfl 6 (by decide) m_fl_RX1_44 rfl dX1_move_59 ?_
        refine lv_iconst (v := (-1)) hx hb dX1_move_62 (by decide) ?_
        refine lv_icmp_ne (tgt := 96) hx hb dX1_move_63 (by decide) (fun c_17 => ?_) (fun c_17 => ?_)
        · have c_17n : ¬ v3.toInt = (-1 : Int) := fun q => c_17 ((fa_eq _ _).mpr q)
          have hw_18 : bCourse T h po la (upd (upd fw x.toNatClampNeg ((fw x.toNatClampNeg) - 1)) y.toNatClampNeg (((upd fw x.toNatClampNeg ((fw x.toNatClampNeg) - 1)) y.toNatClampNeg) + 1)) v0 v1 v2 v3 v4 v5 v6 v7 [(h, .inr (1, [.ref po, .ref a1_1, .int v0, .ref la, .int v1, .int v2, .int v3, .int v4, .int v5, .int v6, .int v7])), (a1_1, .inl (T.2 0, 7, .inl (upd (upd fw x.toNatClampNeg ((fw x.toNatClampNeg) - 1)) y.toNatClampNeg (((upd fw x.toNatClampNeg ((fw x.toNatClampNeg) - 1)) y.toNatClampNeg) + 1))))] := ⟨a1_1, rfl⟩
          have G : zS T A s.heap s [[(h, .inr (1, [.ref po, .ref a1_1, .int v0, .ref la, .int v1, .int v2, .int v3, .int v4, .int v5, .int v6, .int v7])), (a1_1, .inl (T.2 0, 7, .inl (upd (upd fw x.toNatClampNeg ((fw x.toNatClampNeg) - 1)) y.toNatClampNeg (((upd fw x.toNatClampNeg ((fw x.toNatClampNeg) - 1)) y.toNatClampNeg) + 1))))], z] _ _ := G.re rfl
          exact z_vret C hr hlocks G (Nat.le_of_ble_eq_true rfl) (Nat.le_of_ble_eq_true rfl) dX1_move_96 ⟨([(h, .inr (1, [.ref po, .ref a1_1, .int v0, .ref la, .int v1, .int v2, .int v3, .int v4, .int v5, .int v6, .int v7])), (a1_1, .inl (T.2 0, 7, .inl (upd (upd fw x.toNatClampNeg ((fw x.toNatClampNeg) - 1)) y.toNatClampNeg (((upd fw x.toNatClampNeg ((fw x.toNatClampNeg) - 1)) y.toNatClampNeg) + 1))))]), (upd (upd fw x.toNatClampNeg ((fw x.toNatClampNeg) - 1)) y.toNatClampNeg (((upd fw x.toNatClampNeg ((fw x.toNatClampNeg) - 1)) y.toNatClampNeg) + 1)), v3, v5, rfl, hw_18, rfl⟩
        · have c_17n : v3.toInt = (-1 : Int) := (fa_eq _ _).mp c_17
          refine lv_aload_n hx hb dX1_move_66 rfl (lv_at hl 0 rfl) ?_
          refine z_get C G clX1 0 rfl 3 (by decide) m_fl_RX1_25 rfl dX1_move_67 ?_
          refine lv_iload_n hx hb dX1_move_70 rfl (lv_at hl 2 rfl) ?_
          refine z_Vi (bc := [z]) (br := [[(h, .inr (1, [.ref po, .ref a1_1, .int v0, .ref la, .int v1, .int v2, .int v3, .int v4, .int v5, .int v6, .int v7]))], [(a1_1, .inl (T.2 0, 7, .inl (upd (upd fw x.toNatClampNeg ((fw x.toNatClampNeg) - 1)) y.toNatClampNeg (((upd fw x.toNatClampNeg ((fw x.toNatClampNeg) - 1)) y.toNatClampNeg) + 1))))]]) (As := [.int y]) (rest := []) C G (c_isInn l T la cr inn k1 k2 k3 k4 z y hz) (kV_RX1_135 C.2.2.2.2 (Nat.le_of_ble_eq_true rfl) (Nat.le_of_ble_eq_true rfl)) [2] [0, 1] rfl rfl (ci := 4) (qc := (RX4, TX4, 6)) rfl rfl (List.mem_flatten.mpr ⟨_, List.mem_of_getElem? (i := 0) rfl, (bLand_mem hz).choose_spec⟩) rfl rfl hl.1 dX1_move_71 (Nat.le_of_ble_eq_true rfl) (Nat.le_of_ble_eq_true rfl) (fun r_20 b1 H locs hw G => ?_)
          obtain ⟨rfl, hc_19⟩ := hw
          have G : zS T A s.heap s [[(h, .inr (1, [.ref po, .ref a1_1, .int v0, .ref la, .int v1, .int v2, .int v3, .int v4, .int v5, .int v6, .int v7]))], [(a1_1, .inl (T.2 0, 7, .inl (upd (upd fw x.toNatClampNeg ((fw x.toNatClampNeg) - 1)) y.toNatClampNeg (((upd fw x.toNatClampNeg ((fw x.toNatClampNeg) - 1)) y.toNatClampNeg) + 1))))], z] _ _ := G
          rcases hc_19 with ⟨rfl, h_21, h_22, h_23, h_24⟩ | ⟨rfl, h_25⟩
          · have h_21 : 0 ≤ y.toInt := h_21
            have h_22 : y.toInt < cr.toInt := h_22
            have h_23 : y.toInt < 7 := h_23
            have h_24 : ¬ zBit inn y = 0 := h_24
            refine lv_if_eq (tgt := 96) hx hb dX1_move_74 (by decide) (fun q => absurd q (by decide)) (fun _ => ?_)
            refine lv_aload_n hx hb dX1_move_77 rfl (lv_at hl 0 rfl) ?_
            refine z_get C G clX1 0 rfl 3 (by decide) m_fl_RX1_25 rfl dX1_move_78 ?_
            refine lv_iload_n hx hb dX1_move_81 rfl (lv_at hl 1 rfl) ?_
            refine z_Vi (bc := [z]) (br := [[(h, .inr (1, [.ref po, .ref a1_1, .int v0, .ref la, .int v1, .int v2, .int v3, .int v4, .int v5, .int v6, .int v7]))], [(a1_1, .inl (T.2 0, 7, .inl (upd (upd fw x.toNatClampNeg ((fw x.toNatClampNeg) - 1)) y.toNatClampNeg (((upd fw x.toNatClampNeg ((fw x.toNatClampNeg) - 1)) y.toNatClampNeg) + 1))))]]) (As := [.int x]) (rest := []) C G (c_isInn l T la cr inn k1 k2 k3 k4 z x hz) (kV_RX1_135 C.2.2.2.2 (Nat.le_of_ble_eq_true rfl) (Nat.le_of_ble_eq_true rfl)) [2] [0, 1] rfl rfl (ci := 4) (qc := (RX4, TX4, 6)) rfl rfl (List.mem_flatten.mpr ⟨_, List.mem_of_getElem? (i := 0) rfl, (bLand_mem hz).choose_spec⟩) rfl rfl hl.1 dX1_move_82 (Nat.le_of_ble_eq_true rfl) (Nat.le_of_ble_eq_true rfl) (fun r_27 b1 H locs hw G => ?_)
            obtain ⟨rfl, hc_26⟩ := hw
            have G : zS T A s.heap s [[(h, .inr (1, [.ref po, .ref a1_1, .int v0, .ref la, .int v1, .int v2, .int v3, .int v4, .int v5, .int v6, .int v7]))], [(a1_1, .inl (T.2 0, 7, .inl (upd (upd fw x.toNatClampNeg ((fw x.toNatClampNeg) - 1)) y.toNatClampNeg (((upd fw x.toNatClampNeg ((fw x.toNatClampNeg) - 1)) y.toNatClampNeg) + 1))))], z] _ _ := G
            rcases hc_26 with ⟨rfl, h_28, h_29, h_30, h_31⟩ | ⟨rfl, h_32⟩
            · have h_28 : 0 ≤ x.toInt := h_28
              have h_29 : x.toInt < cr.toInt := h_29
              have h_30 : x.toInt < 7 := h_30
              have h_31 : ¬ zBit inn x = 0 := h_31
              refine lv_if_ne (tgt := 96) hx hb dX1_move_85 (by decide) (fun _ => ?_) (fun q => absurd q (by decide))
              have hw_33 : bCourse T h po la (upd (upd fw x.toNatClampNeg ((fw x.toNatClampNeg) - 1)) y.toNatClampNeg (((upd fw x.toNatClampNeg ((fw x.toNatClampNeg) - 1)) y.toNatClampNeg) + 1)) v0 v1 v2 v3 v4 v5 v6 v7 [(h, .inr (1, [.ref po, .ref a1_1, .int v0, .ref la, .int v1, .int v2, .int v3, .int v4, .int v5, .int v6, .int v7])), (a1_1, .inl (T.2 0, 7, .inl (upd (upd fw x.toNatClampNeg ((fw x.toNatClampNeg) - 1)) y.toNatClampNeg (((upd fw x.toNatClampNeg ((fw x.toNatClampNeg) - 1)) y.toNatClampNeg) + 1))))] := ⟨a1_1, rfl⟩
              have G : zS T A s.heap s [[(h, .inr (1, [.ref po, .ref a1_1, .int v0, .ref la, .int v1, .int v2, .int v3, .int v4, .int v5, .int v6, .int v7])), (a1_1, .inl (T.2 0, 7, .inl (upd (upd fw x.toNatClampNeg ((fw x.toNatClampNeg) - 1)) y.toNatClampNeg (((upd fw x.toNatClampNeg ((fw x.toNatClampNeg) - 1)) y.toNatClampNeg) + 1))))], z] _ _ := G.re rfl
              exact z_vret C hr hlocks G (Nat.le_of_ble_eq_true rfl) (Nat.le_of_ble_eq_true rfl) dX1_move_96 ⟨([(h, .inr (1, [.ref po, .ref a1_1, .int v0, .ref la, .int v1, .int v2, .int v3, .int v4, .int v5, .int v6, .int v7])), (a1_1, .inl (T.2 0, 7, .inl (upd (upd fw x.toNatClampNeg ((fw x.toNatClampNeg) - 1)) y.toNatClampNeg (((upd fw x.toNatClampNeg ((fw x.toNatClampNeg) - 1)) y.toNatClampNeg) + 1))))]), (upd (upd fw x.toNatClampNeg ((fw x.toNatClampNeg) - 1)) y.toNatClampNeg (((upd fw x.toNatClampNeg ((fw x.toNatClampNeg) - 1)) y.toNatClampNeg) + 1)), v3, v5, rfl, hw_33, rfl⟩
            · have h_32 : (x.toInt < 0 ∨ cr.toInt ≤ x.toInt ∨ 7 ≤ x.toInt ∨ zBit inn x = 0) := h_32
              refine lv_if_ne (tgt := 96) hx hb dX1_move_85 (by decide) (fun q => absurd (by decide) q) (fun _ => ?_)
              refine lv_aload_n hx hb dX1_move_88 rfl (lv_at hl 0 rfl) ?_
              refine lv_aload_n hx hb dX1_move_89 rfl (lv_at hl 0 rfl) ?_
              refine z_get C G clX1 0 rfl 5 (by decide) m_fl_RX1_41 rfl dX1_move_90 ?_
              refine z_put C G clX1 0 rfl 6 (by decide) m_fl_RX1_44 rfl rfl rfl (Nat.le_of_ble_eq_true rfl) dX1_move_93 (fun H locs G => ?_)
              have G : zS T A s.heap s [[(h, .inr (1, [.ref po, .ref a1_1, .int v0, .ref la, .int v1, .int v2, .int v2, .int v4, .int v5, .int v6, .int v7]))], [(a1_1, .inl (T.2 0, 7, .inl (upd (upd fw x.toNatClampNeg ((fw x.toNatClampNeg) - 1)) y.toNatClampNeg (((upd fw x.toNatClampNeg ((fw x.toNatClampNeg) - 1)) y.toNatClampNeg) + 1))))], z] _ _ := G
              have hw_34 : bCourse T h po la (upd (upd fw x.toNatClampNeg ((fw x.toNatClampNeg) - 1)) y.toNatClampNeg (((upd fw x.toNatClampNeg ((fw x.toNatClampNeg) - 1)) y.toNatClampNeg) + 1)) v0 v1 v2 v2 v4 v5 v6 v7 [(h, .inr (1, [.ref po, .ref a1_1, .int v0, .ref la, .int v1, .int v2, .int v2, .int v4, .int v5, .int v6, .int v7])), (a1_1, .inl (T.2 0, 7, .inl (upd (upd fw x.toNatClampNeg ((fw x.toNatClampNeg) - 1)) y.toNatClampNeg (((upd fw x.toNatClampNeg ((fw x.toNatClampNeg) - 1)) y.toNatClampNeg) + 1))))] := ⟨a1_1, rfl⟩
              have G : zS T A s.heap s [[(h, .inr (1, [.ref po, .ref a1_1, .int v0, .ref la, .int v1, .int v2, .int v2, .int v4, .int v5, .int v6, .int v7])), (a1_1, .inl (T.2 0, 7, .inl (upd (upd fw x.toNatClampNeg ((fw x.toNatClampNeg) - 1)) y.toNatClampNeg (((upd fw x.toNatClampNeg ((fw x.toNatClampNeg) - 1)) y.toNatClampNeg) + 1))))], z] _ _ := G.re rfl
              exact z_vret C hr hlocks G (Nat.le_of_ble_eq_true rfl) (Nat.le_of_ble_eq_true rfl) dX1_move_96 ⟨([(h, .inr (1, [.ref po, .ref a1_1, .int v0, .ref la, .int v1, .int v2, .int v2, .int v4, .int v5, .int v6, .int v7])), (a1_1, .inl (T.2 0, 7, .inl (upd (upd fw x.toNatClampNeg ((fw x.toNatClampNeg) - 1)) y.toNatClampNeg (((upd fw x.toNatClampNeg ((fw x.toNatClampNeg) - 1)) y.toNatClampNeg) + 1))))]), (upd (upd fw x.toNatClampNeg ((fw x.toNatClampNeg) - 1)) y.toNatClampNeg (((upd fw x.toNatClampNeg ((fw x.toNatClampNeg) - 1)) y.toNatClampNeg) + 1)), v2, v5, rfl, hw_34, rfl⟩
          · have h_25 : (y.toInt < 0 ∨ cr.toInt ≤ y.toInt ∨ 7 ≤ y.toInt ∨ zBit inn y = 0) := h_25
            refine lv_if_eq (tgt := 96) hx hb dX1_move_74 (by decide) (fun _ => ?_) (fun q => absurd (by decide) q)
            have hw_35 : bCourse T h po la (upd (upd fw x.toNatClampNeg ((fw x.toNatClampNeg) - 1)) y.toNatClampNeg (((upd fw x.toNatClampNeg ((fw x.toNatClampNeg) - 1)) y.toNatClampNeg) + 1)) v0 v1 v2 v3 v4 v5 v6 v7 [(h, .inr (1, [.ref po, .ref a1_1, .int v0, .ref la, .int v1, .int v2, .int v3, .int v4, .int v5, .int v6, .int v7])), (a1_1, .inl (T.2 0, 7, .inl (upd (upd fw x.toNatClampNeg ((fw x.toNatClampNeg) - 1)) y.toNatClampNeg (((upd fw x.toNatClampNeg ((fw x.toNatClampNeg) - 1)) y.toNatClampNeg) + 1))))] := ⟨a1_1, rfl⟩
            have G : zS T A s.heap s [[(h, .inr (1, [.ref po, .ref a1_1, .int v0, .ref la, .int v1, .int v2, .int v3, .int v4, .int v5, .int v6, .int v7])), (a1_1, .inl (T.2 0, 7, .inl (upd (upd fw x.toNatClampNeg ((fw x.toNatClampNeg) - 1)) y.toNatClampNeg (((upd fw x.toNatClampNeg ((fw x.toNatClampNeg) - 1)) y.toNatClampNeg) + 1))))], z] _ _ := G.re rfl
            exact z_vret C hr hlocks G (Nat.le_of_ble_eq_true rfl) (Nat.le_of_ble_eq_true rfl) dX1_move_96 ⟨([(h, .inr (1, [.ref po, .ref a1_1, .int v0, .ref la, .int v1, .int v2, .int v3, .int v4, .int v5, .int v6, .int v7])), (a1_1, .inl (T.2 0, 7, .inl (upd (upd fw x.toNatClampNeg ((fw x.toNatClampNeg) - 1)) y.toNatClampNeg (((upd fw x.toNatClampNeg ((fw x.toNatClampNeg) - 1)) y.toNatClampNeg) + 1))))]), (upd (upd fw x.toNatClampNeg ((fw x.toNatClampNeg) - 1)) y.toNatClampNeg (((upd fw x.toNatClampNeg ((fw x.toNatClampNeg) - 1)) y.toNatClampNeg) + 1)), v3, v5, rfl, hw_35, rfl⟩
      · have c_16n : ¬ x.toInt = y.toInt := fun q => c_16 ((fa_eq _ _).mpr q)
        refine lv_aload_n hx hb dX1_move_48 rfl (lv_at hl 0 rfl) ?_
        refine lv_dup hx hb dX1_move_49 rfl ?_
        refine z_get C G clX1 0 rfl 8 (by decide) m_fl_RX1_50 rfl dX1_move_50 ?_
        refine lv_iconst (v := 1) hx hb dX1_move_53 (by decide) ?_
        refine lv_iadd hx hb dX1_move_54 ?_
        refine z_put C G clX1 0 rfl 8 (by decide) m_fl_RX1_50 rfl rfl rfl (Nat.le_of_ble_eq_true rfl) dX1_move_55 (fun H locs G => ?_)
        have G : zS T A s.heap s [[(h, .inr (1, [.ref po, .ref a1_1, .int v0, .ref la, .int v1, .int v2, .int v3, .int v4, .int (v5 + 1), .int v6, .int v7]))], [(a1_1, .inl (T.2 0, 7, .inl (upd (upd fw x.toNatClampNeg ((fw x.toNatClampNeg) - 1)) y.toNatClampNeg (((upd fw x.toNatClampNeg ((fw x.toNatClampNeg) - 1)) y.toNatClampNeg) + 1))))], z] _ _ := G
        refine lv_aload_n hx hb dX1_move_58 rfl (lv_at hl 0 rfl) ?_
        refine z_get C G clX1 0 rfl 6 (by decide) m_fl_RX1_44 rfl dX1_move_59 ?_
        refine lv_iconst (v := (-1)) hx hb dX1_move_62 (by decide) ?_
        refine lv_icmp_ne (tgt := 96) hx hb dX1_move_63 (by decide) (fun c_36 => ?_) (fun c_36 => ?_)
        · have c_36n : ¬ v3.toInt = (-1 : Int) := fun q => c_36 ((fa_eq _ _).mpr q)
          have hw_37 : bCourse T h po la (upd (upd fw x.toNatClampNeg ((fw x.toNatClampNeg) - 1)) y.toNatClampNeg (((upd fw x.toNatClampNeg ((fw x.toNatClampNeg) - 1)) y.toNatClampNeg) + 1)) v0 v1 v2 v3 v4 (v5 + 1) v6 v7 [(h, .inr (1, [.ref po, .ref a1_1, .int v0, .ref la, .int v1, .int v2, .int v3, .int v4, .int (v5 + 1), .int v6, .int v7])), (a1_1, .inl (T.2 0, 7, .inl (upd (upd fw x.toNatClampNeg ((fw x.toNatClampNeg) - 1)) y.toNatClampNeg (((upd fw x.toNatClampNeg ((fw x.toNatClampNeg) - 1)) y.toNatClampNeg) + 1))))] := ⟨a1_1, rfl⟩
          have G : zS T A s.heap s [[(h, .inr (1, [.ref po, .ref a1_1, .int v0, .ref la, .int v1, .int v2, .int v3, .int v4, .int (v5 + 1), .int v6, .int v7])), (a1_1, .inl (T.2 0, 7, .inl (upd (upd fw x.toNatClampNeg ((fw x.toNatClampNeg) - 1)) y.toNatClampNeg (((upd fw x.toNatClampNeg ((fw x.toNatClampNeg) - 1)) y.toNatClampNeg) + 1))))], z] _ _ := G.re rfl
          exact z_vret C hr hlocks G (Nat.le_of_ble_eq_true rfl) (Nat.le_of_ble_eq_true rfl) dX1_move_96 ⟨([(h, .inr (1, [.ref po, .ref a1_1, .int v0, .ref la, .int v1, .int v2, .int v3, .int v4, .int (v5 + 1), .int v6, .int v7])), (a1_1, .inl (T.2 0, 7, .inl (upd (upd fw x.toNatClampNeg ((fw x.toNatClampNeg) - 1)) y.toNatClampNeg (((upd fw x.toNatClampNeg ((fw x.toNatClampNeg) - 1)) y.toNatClampNeg) + 1))))]), (upd (upd fw x.toNatClampNeg ((fw x.toNatClampNeg) - 1)) y.toNatClampNeg (((upd fw x.toNatClampNeg ((fw x.toNatClampNeg) - 1)) y.toNatClampNeg) + 1)), v3, (v5 + 1), rfl, hw_37, rfl⟩
        · have c_36n : v3.toInt = (-1 : Int) := (fa_eq _ _).mp c_36
          refine lv_aload_n hx hb dX1_move_66 rfl (lv_at hl 0 rfl) ?_
          refine z_get C G clX1 0 rfl 3 (by decide) m_fl_RX1_25 rfl dX1_move_67 ?_
          refine lv_iload_n hx hb dX1_move_70 rfl (lv_at hl 2 rfl) ?_
          refine z_Vi (bc := [z]) (br := [[(h, .inr (1, [.ref po, .ref a1_1, .int v0, .ref la, .int v1, .int v2, .int v3, .int v4, .int (v5 + 1), .int v6, .int v7]))], [(a1_1, .inl (T.2 0, 7, .inl (upd (upd fw x.toNatClampNeg ((fw x.toNatClampNeg) - 1)) y.toNatClampNeg (((upd fw x.toNatClampNeg ((fw x.toNatClampNeg) - 1)) y.toNatClampNeg) + 1))))]]) (As := [.int y]) (rest := []) C G (c_isInn l T la cr inn k1 k2 k3 k4 z y hz) (kV_RX1_135 C.2.2.2.2 (Nat.le_of_ble_eq_true rfl) (Nat.le_of_ble_eq_true rfl)) [2] [0, 1] rfl rfl (ci := 4) (qc := (RX4, TX4, 6)) rfl rfl (List.mem_flatten.mpr ⟨_, List.mem_of_getElem? (i := 0) rfl, (bLand_mem hz).choose_spec⟩) rfl rfl hl.1 dX1_move_71 (Nat.le_of_ble_eq_true rfl) (Nat.le_of_ble_eq_true rfl) (fun r_39 b1 H locs hw G => ?_)
          obtain ⟨rfl, hc_38⟩ := hw
          have G : zS T A s.heap s [[(h, .inr (1, [.ref po, .ref a1_1, .int v0, .ref la, .int v1, .int v2, .int v3, .int v4, .int (v5 + 1), .int v6, .int v7]))], [(a1_1, .inl (T.2 0, 7, .inl (upd (upd fw x.toNatClampNeg ((fw x.toNatClampNeg) - 1)) y.toNatClampNeg (((upd fw x.toNatClampNeg ((fw x.toNatClampNeg) - 1)) y.toNatClampNeg) + 1))))], z] _ _ := G
          rcases hc_38 with ⟨rfl, h_40, h_41, h_42, h_43⟩ | ⟨rfl, h_44⟩
          · have h_40 : 0 ≤ y.toInt := h_40
            have h_41 : y.toInt < cr.toInt := h_41
            have h_42 : y.toInt < 7 := h_42
            have h_43 : ¬ zBit inn y = 0 := h_43
            refine lv_if_eq (tgt := 96) hx hb dX1_move_74 (by decide) (fun q => absurd q (by decide)) (fun _ => ?_)
            refine lv_aload_n hx hb dX1_move_77 rfl (lv_at hl 0 rfl) ?_
            refine z_get C G clX1 0 rfl 3 (by decide) m_fl_RX1_25 rfl dX1_move_78 ?_
            refine lv_iload_n hx hb dX1_move_81 rfl (lv_at hl 1 rfl) ?_
            refine z_Vi (bc := [z]) (br := [[(h, .inr (1, [.ref po, .ref a1_1, .int v0, .ref la, .int v1, .int v2, .int v3, .int v4, .int (v5 + 1), .int v6, .int v7]))], [(a1_1, .inl (T.2 0, 7, .inl (upd (upd fw x.toNatClampNeg ((fw x.toNatClampNeg) - 1)) y.toNatClampNeg (((upd fw x.toNatClampNeg ((fw x.toNatClampNeg) - 1)) y.toNatClampNeg) + 1))))]]) (As := [.int x]) (rest := []) C G (c_isInn l T la cr inn k1 k2 k3 k4 z x hz) (kV_RX1_135 C.2.2.2.2 (Nat.le_of_ble_eq_true rfl) (Nat.le_of_ble_eq_true rfl)) [2] [0, 1] rfl rfl (ci := 4) (qc := (RX4, TX4, 6)) rfl rfl (List.mem_flatten.mpr ⟨_, List.mem_of_getElem? (i := 0) rfl, (bLand_mem hz).choose_spec⟩) rfl rfl hl.1 dX1_move_82 (Nat.le_of_ble_eq_true rfl) (Nat.le_of_ble_eq_true rfl) (fun r_46 b1 H locs hw G => ?_)
            obtain ⟨rfl, hc_45⟩ := hw
            have G : zS T A s.heap s [[(h, .inr (1, [.ref po, .ref a1_1, .int v0, .ref la, .int v1, .int v2, .int v3, .int v4, .int (v5 + 1), .int v6, .int v7]))], [(a1_1, .inl (T.2 0, 7, .inl (upd (upd fw x.toNatClampNeg ((fw x.toNatClampNeg) - 1)) y.toNatClampNeg (((upd fw x.toNatClampNeg ((fw x.toNatClampNeg) - 1)) y.toNatClampNeg) + 1))))], z] _ _ := G
            rcases hc_45 with ⟨rfl, h_47, h_48, h_49, h_50⟩ | ⟨rfl, h_51⟩
            · have h_47 : 0 ≤ x.toInt := h_47
              have h_48 : x.toInt < cr.toInt := h_48
              have h_49 : x.toInt < 7 := h_49
              have h_50 : ¬ zBit inn x = 0 := h_50
              refine lv_if_ne (tgt := 96) hx hb dX1_move_85 (by decide) (fun _ => ?_) (fun q => absurd q (by decide))
              have hw_52 : bCourse T h po la (upd (upd fw x.toNatClampNeg ((fw x.toNatClampNeg) - 1)) y.toNatClampNeg (((upd fw x.toNatClampNeg ((fw x.toNatClampNeg) - 1)) y.toNatClampNeg) + 1)) v0 v1 v2 v3 v4 (v5 + 1) v6 v7 [(h, .inr (1, [.ref po, .ref a1_1, .int v0, .ref la, .int v1, .int v2, .int v3, .int v4, .int (v5 + 1), .int v6, .int v7])), (a1_1, .inl (T.2 0, 7, .inl (upd (upd fw x.toNatClampNeg ((fw x.toNatClampNeg) - 1)) y.toNatClampNeg (((upd fw x.toNatClampNeg ((fw x.toNatClampNeg) - 1)) y.toNatClampNeg) + 1))))] := ⟨a1_1, rfl⟩
              have G : zS T A s.heap s [[(h, .inr (1, [.ref po, .ref a1_1, .int v0, .ref la, .int v1, .int v2, .int v3, .int v4, .int (v5 + 1), .int v6, .int v7])), (a1_1, .inl (T.2 0, 7, .inl (upd (upd fw x.toNatClampNeg ((fw x.toNatClampNeg) - 1)) y.toNatClampNeg (((upd fw x.toNatClampNeg ((fw x.toNatClampNeg) - 1)) y.toNatClampNeg) + 1))))], z] _ _ := G.re rfl
              exact z_vret C hr hlocks G (Nat.le_of_ble_eq_true rfl) (Nat.le_of_ble_eq_true rfl) dX1_move_96 ⟨([(h, .inr (1, [.ref po, .ref a1_1, .int v0, .ref la, .int v1, .int v2, .int v3, .int v4, .int (v5 + 1), .int v6, .int v7])), (a1_1, .inl (T.2 0, 7, .inl (upd (upd fw x.toNatClampNeg ((fw x.toNatClampNeg) - 1)) y.toNatClampNeg (((upd fw x.toNatClampNeg ((fw x.toNatClampNeg) - 1)) y.toNatClampNeg) + 1))))]), (upd (upd fw x.toNatClampNeg ((fw x.toNatClampNeg) - 1)) y.toNatClampNeg (((upd fw x.toNatClampNeg ((fw x.toNatClampNeg) - 1)) y.toNatClampNeg) + 1)), v3, (v5 + 1), rfl, hw_52, rfl⟩
            · have h_51 : (x.toInt < 0 ∨ cr.toInt ≤ x.toInt ∨ 7 ≤ x.toInt ∨ zBit inn x = 0) := h_51
              refine lv_if_ne (tgt := 96) hx hb dX1_move_85 (by decide) (fun q => absurd (by decide) q) (fun _ => ?_)
              refine lv_aload_n hx hb dX1_move_88 rfl (lv_at hl 0 rfl) ?_
              refine lv_aload_n hx hb dX1_move_89 rfl (lv_at hl 0 rfl) ?_
              refine z_get C G clX1 0 rfl 5 (by decide) m_fl_RX1_41 rfl dX1_move_90 ?_
              refine z_put C G clX1 0 rfl 6 (by decide) m_fl_RX1_44 rfl rfl rfl (Nat.le_of_ble_eq_true rfl) dX1_move_93 (fun H locs G => ?_)
              have G : zS T A s.heap s [[(h, .inr (1, [.ref po, .ref a1_1, .int v0, .ref la, .int v1, .int v2, .int v2, .int v4, .int (v5 + 1), .int v6, .int v7]))], [(a1_1, .inl (T.2 0, 7, .inl (upd (upd fw x.toNatClampNeg ((fw x.toNatClampNeg) - 1)) y.toNatClampNeg (((upd fw x.toNatClampNeg ((fw x.toNatClampNeg) - 1)) y.toNatClampNeg) + 1))))], z] _ _ := G
              have hw_53 : bCourse T h po la (upd (upd fw x.toNatClampNeg ((fw x.toNatClampNeg) - 1)) y.toNatClampNeg (((upd fw x.toNatClampNeg ((fw x.toNatClampNeg) - 1)) y.toNatClampNeg) + 1)) v0 v1 v2 v2 v4 (v5 + 1) v6 v7 [(h, .inr (1, [.ref po, .ref a1_1, .int v0, .ref la, .int v1, .int v2, .int v2, .int v4, .int (v5 + 1), .int v6, .int v7])), (a1_1, .inl (T.2 0, 7, .inl (upd (upd fw x.toNatClampNeg ((fw x.toNatClampNeg) - 1)) y.toNatClampNeg (((upd fw x.toNatClampNeg ((fw x.toNatClampNeg) - 1)) y.toNatClampNeg) + 1))))] := ⟨a1_1, rfl⟩
              have G : zS T A s.heap s [[(h, .inr (1, [.ref po, .ref a1_1, .int v0, .ref la, .int v1, .int v2, .int v2, .int v4, .int (v5 + 1), .int v6, .int v7])), (a1_1, .inl (T.2 0, 7, .inl (upd (upd fw x.toNatClampNeg ((fw x.toNatClampNeg) - 1)) y.toNatClampNeg (((upd fw x.toNatClampNeg ((fw x.toNatClampNeg) - 1)) y.toNatClampNeg) + 1))))], z] _ _ := G.re rfl
              exact z_vret C hr hlocks G (Nat.le_of_ble_eq_true rfl) (Nat.le_of_ble_eq_true rfl) dX1_move_96 ⟨([(h, .inr (1, [.ref po, .ref a1_1, .int v0, .ref la, .int v1, .int v2, .int v2, .int v4, .int (v5 + 1), .int v6, .int v7])), (a1_1, .inl (T.2 0, 7, .inl (upd (upd fw x.toNatClampNeg ((fw x.toNatClampNeg) - 1)) y.toNatClampNeg (((upd fw x.toNatClampNeg ((fw x.toNatClampNeg) - 1)) y.toNatClampNeg) + 1))))]), (upd (upd fw x.toNatClampNeg ((fw x.toNatClampNeg) - 1)) y.toNatClampNeg (((upd fw x.toNatClampNeg ((fw x.toNatClampNeg) - 1)) y.toNatClampNeg) + 1)), v2, (v5 + 1), rfl, hw_53, rfl⟩
          · have h_44 : (y.toInt < 0 ∨ cr.toInt ≤ y.toInt ∨ 7 ≤ y.toInt ∨ zBit inn y = 0) := h_44
            refine lv_if_eq (tgt := 96) hx hb dX1_move_74 (by decide) (fun _ => ?_) (fun q => absurd (by decide) q)
            have hw_54 : bCourse T h po la (upd (upd fw x.toNatClampNeg ((fw x.toNatClampNeg) - 1)) y.toNatClampNeg (((upd fw x.toNatClampNeg ((fw x.toNatClampNeg) - 1)) y.toNatClampNeg) + 1)) v0 v1 v2 v3 v4 (v5 + 1) v6 v7 [(h, .inr (1, [.ref po, .ref a1_1, .int v0, .ref la, .int v1, .int v2, .int v3, .int v4, .int (v5 + 1), .int v6, .int v7])), (a1_1, .inl (T.2 0, 7, .inl (upd (upd fw x.toNatClampNeg ((fw x.toNatClampNeg) - 1)) y.toNatClampNeg (((upd fw x.toNatClampNeg ((fw x.toNatClampNeg) - 1)) y.toNatClampNeg) + 1))))] := ⟨a1_1, rfl⟩
            have G : zS T A s.heap s [[(h, .inr (1, [.ref po, .ref a1_1, .int v0, .ref la, .int v1, .int v2, .int v3, .int v4, .int (v5 + 1), .int v6, .int v7])), (a1_1, .inl (T.2 0, 7, .inl (upd (upd fw x.toNatClampNeg ((fw x.toNatClampNeg) - 1)) y.toNatClampNeg (((upd fw x.toNatClampNeg ((fw x.toNatClampNeg) - 1)) y.toNatClampNeg) + 1))))], z] _ _ := G.re rfl
            exact z_vret C hr hlocks G (Nat.le_of_ble_eq_true rfl) (Nat.le_of_ble_eq_true rfl) dX1_move_96 ⟨([(h, .inr (1, [.ref po, .ref a1_1, .int v0, .ref la, .int v1, .int v2, .int v3, .int v4, .int (v5 + 1), .int v6, .int v7])), (a1_1, .inl (T.2 0, 7, .inl (upd (upd fw x.toNatClampNeg ((fw x.toNatClampNeg) - 1)) y.toNatClampNeg (((upd fw x.toNatClampNeg ((fw x.toNatClampNeg) - 1)) y.toNatClampNeg) + 1))))]), (upd (upd fw x.toNatClampNeg ((fw x.toNatClampNeg) - 1)) y.toNatClampNeg (((upd fw x.toNatClampNeg ((fw x.toNatClampNeg) - 1)) y.toNatClampNeg) + 1)), v3, (v5 + 1), rfl, hw_54, rfl⟩
    · have h_13 : (y.toInt < 0 ∨ cr.toInt ≤ y.toInt ∨ 7 ≤ y.toInt) := h_13
      refine lv_if_ne (tgt := 23) hx hb dX1_move_19 (by decide) (fun q => absurd (by decide) q) (fun _ => ?_)
      have hw_55 : bCourse T h po la fw v0 v1 v2 v3 v4 v5 v6 v7 [(h, .inr (1, [.ref po, .ref a1_1, .int v0, .ref la, .int v1, .int v2, .int v3, .int v4, .int v5, .int v6, .int v7])), (a1_1, .inl (T.2 0, 7, .inl fw))] := ⟨a1_1, rfl⟩
      have G : zS T A s.heap s [[(h, .inr (1, [.ref po, .ref a1_1, .int v0, .ref la, .int v1, .int v2, .int v3, .int v4, .int v5, .int v6, .int v7])), (a1_1, .inl (T.2 0, 7, .inl fw))], z] _ _ := G.re rfl
      exact z_vret C hr hlocks G (Nat.le_of_ble_eq_true rfl) (Nat.le_of_ble_eq_true rfl) dX1_move_22 ⟨([(h, .inr (1, [.ref po, .ref a1_1, .int v0, .ref la, .int v1, .int v2, .int v3, .int v4, .int v5, .int v6, .int v7])), (a1_1, .inl (T.2 0, 7, .inl fw))]), fw, v3, v5, rfl, hw_55, (by exfalso; omega)⟩
  · have h_7 : (x.toInt < 0 ∨ cr.toInt ≤ x.toInt ∨ 7 ≤ x.toInt) := h_7
    refine lv_if_eq (tgt := 22) hx hb dX1_move_8 (by decide) (fun _ => ?_) (fun q => absurd (by decide) q)
    have hw_56 : bCourse T h po la fw v0 v1 v2 v3 v4 v5 v6 v7 [(h, .inr (1, [.ref po, .ref a1_1, .int v0, .ref la, .int v1, .int v2, .int v3, .int v4, .int v5, .int v6, .int v7])), (a1_1, .inl (T.2 0, 7, .inl fw))] := ⟨a1_1, rfl⟩
    have G : zS T A s.heap s [[(h, .inr (1, [.ref po, .ref a1_1, .int v0, .ref la, .int v1, .int v2, .int v3, .int v4, .int v5, .int v6, .int v7])), (a1_1, .inl (T.2 0, 7, .inl fw))], z] _ _ := G.re rfl
    exact z_vret C hr hlocks G (Nat.le_of_ble_eq_true rfl) (Nat.le_of_ble_eq_true rfl) dX1_move_22 ⟨([(h, .inr (1, [.ref po, .ref a1_1, .int v0, .ref la, .int v1, .int v2, .int v3, .int v4, .int v5, .int v6, .int v7])), (a1_1, .inl (T.2 0, 7, .inl fw))]), fw, v3, v5, rfl, hw_56, (by exfalso; omega)⟩
theorem zStep_t {f1 f2 f3 lf : Nat → Int32} {x : Int32} (h : zStep f1 f2 f3 lf x = -1) (hI : zP3 f1 f3) (hb : ∀ j r : Nat, j < 7 → r < 4 → (r : Int) < (f3 j).toInt → 0 ≤ (lf (4 * j + r)).toInt) : zTurn f1 f2 f3 x = -1 := by
  by_cases t : zTurn f1 f2 f3 x = -1
  · exact t
  · exfalso
    unfold zStep at h
    rw [if_neg t] at h
    have g := (zTurn_lt (f2 := f2) hI x).resolve_left t
    have e1 := z_clI g.1
    have e2 := z_clI g.2.2.1
    have q := (hI x.toNatClampNeg (by omega)).1
    have b := hb x.toNatClampNeg (zTurn f1 f2 f3 x).toNatClampNeg (by omega) (by omega) (by omega)
    rw [h] at b
    exact absurd b (by decide)
theorem zLq_b {cr inn : Int32} {f3 k1 k2 : Nat → Int32} (hr : ∀ j, j < 7 → (f3 j).toInt ≤ (k1 j).toInt) (hL : zLq cr k1 k2) : ∀ j r : Nat, j < 7 → r < 4 → (r : Int) < (f3 j).toInt → 0 ≤ (k2 (4 * j + r)).toInt := fun j r hj hr4 hq => (hL j r hj hr4 (Int.lt_of_lt_of_le hq (hr j hj))).1
set_option maxHeartbeats 4000000 in
set_option maxRecDepth 100000 in
/-- c_f_go -/
theorem c_f_go (l : Launch) (T : zTy) (h : Nat) (po : Nat) (la : Nat) (fw : Nat → Int32) (v0 : Int32) (v1 : Int32) (v2 : Int32) (v3 : Int32) (v4 : Int32) (v5 : Int32) (v6 : Int32) (v7 : Int32) (wc : va_W) (f1 : Nat → Int32) (f2 : Nat → Int32) (f3 : Nat → Int32) (st : Int32) (wh : Int32) (wp : va_W) (cr : Int32) (inn : Int32) (k1 : Nat → Int32) (k2 : Nat → Int32) (k3 : Nat → Int32) (k4 : Nat → Int32) (z : va_W) (x : Int32) (hc : bCourse T h po la fw v0 v1 v2 v3 v4 v5 v6 v7 wc) (hp : bPosts T po la f1 f2 f3 st wh wp) (hz : bLand T la cr inn k1 k2 k3 k4 z) (hP : zP3 f1 f3) (hI : zLI cr k1 k3) (hW : ∀ j, j < 7 → f3 j = zWays cr inn k1 (nI j)) (hLq : zLq cr k1 k2) : zMi l T yX1_go cX1_go 3 (some .boolean) 4 0 0 [.ref h, .int x] [wc, wp, z] (fun (r : Int32) bs => ∃ (wc2 : va_W) (gw : Nat → Int32) (u0 : Int32) (u1 : Int32) (u2 : Int32) (u3 : Int32) (u4 : Int32) (u5 : Int32) (u6 : Int32) (u7 : Int32) (wp2 : va_W) (g1 : Nat → Int32) (g2 : Nat → Int32) (sa : Int32) (wa : Int32), bs = [wc2, wp2, z] ∧ bCourse T h po la gw u0 u1 u2 u3 u4 u5 u6 u7 wc2 ∧ bPosts T po la g1 g2 f3 sa wa wp2 ∧ zP3 g1 f3 ∧ (r = 1 ∧ zGoF cr f3 k2 x (f1, f2, fw, v0, v1) = some (g1, g2, gw, u0, u1) ∨ r = 0 ∧ zGoF cr f3 k2 x (f1, f2, fw, v0, v1) = none ∧ g1 = f1 ∧ g2 = f2 ∧ gw = fw ∧ u0 = v0 ∧ u1 = v1) ∧ (u2 = v2 ∧ u7 = v7)) := by
  refine zMi_of (own := RX1) (by decide) rfl (Nat.le_of_ble_eq_true rfl) ?_
  intro p e s m args below meth c A ls C hr hlocks hnm hAe G hl
  have hx := C.1
  have hb := C.2.1
  have hl : lv_has ls 3 [(0, .ref h), (1, .int x)] := hl
  have h7 := hI.1.2
  have hWr := zWays_r hI hW
  have hLb := zLq_b (inn := inn) hWr hLq
  refine lv_aload_n hx hb dX1_go_0 rfl (lv_at hl 0 rfl) ?_
  obtain ⟨a1_1, rfl⟩ := hc
  have G : zS T A s.heap s [[(h, .inr (1, [.ref po, .ref a1_1, .int v0, .ref la, .int v1, .int v2, .int v3, .int v4, .int v5, .int v6, .int v7]))], [(a1_1, .inl (T.2 0, 7, .inl fw))], wp, z] _ _ := G.re rfl
  refine z_get C G clX1 0 rfl 3 (by decide) m_fl_RX1_25 rfl dX1_go_1 ?_
  refine lv_iload_n hx hb dX1_go_4 rfl (lv_at hl 1 rfl) ?_
  refine z_Vi (bc := [z]) (br := [[(h, .inr (1, [.ref po, .ref a1_1, .int v0, .ref la, .int v1, .int v2, .int v3, .int v4, .int v5, .int v6, .int v7]))], [(a1_1, .inl (T.2 0, 7, .inl fw))], wp]) (As := [.int x]) (rest := []) C G (c_has l T la cr inn k1 k2 k3 k4 z x hz) (kV_RX1_112 C.2.2.2.2 (Nat.le_of_ble_eq_true rfl) (Nat.le_of_ble_eq_true rfl)) [3] [0, 1, 2] rfl rfl (ci := 4) (qc := (RX4, TX4, 6)) rfl rfl (List.mem_flatten.mpr ⟨_, List.mem_of_getElem? (i := 0) rfl, (bLand_mem hz).choose_spec⟩) rfl rfl hl.1 dX1_go_5 (Nat.le_of_ble_eq_true rfl) (Nat.le_of_ble_eq_true rfl) (fun r_3 b1 H locs hw G => ?_)
  obtain ⟨rfl, hc_2⟩ := hw
  have G : zS T A s.heap s [[(h, .inr (1, [.ref po, .ref a1_1, .int v0, .ref la, .int v1, .int v2, .int v3, .int v4, .int v5, .int v6, .int v7]))], [(a1_1, .inl (T.2 0, 7, .inl fw))], wp, z] _ _ := G
  rcases hc_2 with ⟨rfl, h_4, h_5, h_6⟩ | ⟨rfl, h_7⟩
  · have h_4 : 0 ≤ x.toInt := h_4
    have h_5 : x.toInt < cr.toInt := h_5
    have h_6 : x.toInt < 7 := h_6
    refine lv_if_eq (tgt := 21) hx hb dX1_go_8 (by decide) (fun q => absurd q (by decide)) (fun _ => ?_)
    refine lv_aload_n hx hb dX1_go_11 rfl (lv_at hl 0 rfl) ?_
    refine z_get C G clX1 0 rfl 1 (by decide) m_fl_RX1_18 rfl dX1_go_12 ?_
    refine lv_iload_n hx hb dX1_go_15 rfl (lv_at hl 1 rfl) ?_
    refine z_ild C G 1 rfl (vp_in_iff.mpr ⟨by omega, by omega⟩) dX1_go_16 ?_
    refine lv_topi (fun v_8 ev_8 => ?_)
    subst ev_8
    refine lv_iconst (v := 1) hx hb dX1_go_17 (by decide) ?_
    refine lv_icmp_ge (tgt := 23) hx hb dX1_go_18 (by decide) (fun c_9 => ?_) (fun c_9 => ?_)
    · have c_9n : (1 : Int) ≤ (fw x.toNatClampNeg).toInt := (fa_le _ _).mp c_9
      refine lv_aload_n hx hb dX1_go_23 rfl (lv_at hl 0 rfl) ?_
      refine z_get C G clX1 0 rfl 0 (by decide) m_fl_RX1_12 rfl dX1_go_24 ?_
      refine lv_iload_n hx hb dX1_go_27 rfl (lv_at hl 1 rfl) ?_
      refine z_Vi (bc := [wp, z]) (br := [[(h, .inr (1, [.ref po, .ref a1_1, .int v0, .ref la, .int v1, .int v2, .int v3, .int v4, .int v5, .int v6, .int v7]))], [(a1_1, .inl (T.2 0, 7, .inl fw))]]) (As := [.int x]) (rest := []) C G (c_step l T po la f1 f2 f3 st wh wp cr inn k1 k2 k3 k4 z x hp hz hP) (kV_RX1_115 C.2.2.2.2 (Nat.le_of_ble_eq_true rfl) (Nat.le_of_ble_eq_true rfl)) [2, 3] [0, 1] rfl rfl (ci := 6) (qc := (RX6, TX6, 6)) rfl rfl (List.mem_flatten.mpr ⟨_, List.mem_of_getElem? (i := 0) rfl, (bPosts_mem hp).choose_spec⟩) rfl rfl hl.1 dX1_go_28 (Nat.le_of_ble_eq_true rfl) (Nat.le_of_ble_eq_true rfl) (fun r_15 b1 H locs hw G => ?_)
      obtain ⟨w2_10, g1_11, rfl, h_12, h_13, h_14⟩ := hw
      have G : zS T A s.heap s [[(h, .inr (1, [.ref po, .ref a1_1, .int v0, .ref la, .int v1, .int v2, .int v3, .int v4, .int v5, .int v6, .int v7]))], [(a1_1, .inl (T.2 0, 7, .inl fw))], w2_10, z] _ _ := G
      subst h_12
      have hQ2 : zP3 g1_11 f3 := by rw [h_14]; exact zPost_I hP _
      refine lv_istore_n (lv' := [(2, .int (zStep f1 f2 f3 k2 x)), (0, .ref h), (1, .int x)]) hx hb dX1_go_31 rfl hl (by decide) rfl (fun ls hl => ?_)
      refine lv_iload_n hx hb dX1_go_32 rfl (lv_at hl 0 rfl) ?_
      refine lv_iconst (v := (-1)) hx hb dX1_go_33 (by decide) ?_
      refine lv_icmp_ne (tgt := 39) hx hb dX1_go_34 (by decide) (fun c_16 => ?_) (fun c_16 => ?_)
      · have c_16n : ¬ (zStep f1 f2 f3 k2 x).toInt = (-1 : Int) := fun q => c_16 ((fa_eq _ _).mpr q)
        have hhs : zHas cr (zStep f1 f2 f3 k2 x) := zStep_h hP hW hWr hLq h7 (by assumption)
        refine lv_aload_n hx hb dX1_go_39 rfl (lv_at hl 1 rfl) ?_
        refine lv_dup hx hb dX1_go_40 rfl ?_
        refine z_get C G clX1 0 rfl 2 (by decide) m_fl_RX1_34 rfl dX1_go_41 ?_
        refine lv_iconst (v := 1) hx hb dX1_go_44 (by decide) ?_
        refine lv_iadd hx hb dX1_go_45 ?_
        refine z_put C G clX1 0 rfl 2 (by decide) m_fl_RX1_34 rfl rfl rfl (Nat.le_of_ble_eq_true rfl) dX1_go_46 (fun H locs G => ?_)
        have G : zS T A s.heap s [[(h, .inr (1, [.ref po, .ref a1_1, .int (v0 + 1), .ref la, .int v1, .int v2, .int v3, .int v4, .int v5, .int v6, .int v7]))], [(a1_1, .inl (T.2 0, 7, .inl fw))], w2_10, z] _ _ := G
        refine lv_aload_n hx hb dX1_go_49 rfl (lv_at hl 1 rfl) ?_
        refine lv_iload_n hx hb dX1_go_50 rfl (lv_at hl 2 rfl) ?_
        refine lv_iload_n hx hb dX1_go_51 rfl (lv_at hl 0 rfl) ?_
        have hw_17 : bCourse T h po la fw (v0 + 1) v1 v2 v3 v4 v5 v6 v7 [(h, .inr (1, [.ref po, .ref a1_1, .int (v0 + 1), .ref la, .int v1, .int v2, .int v3, .int v4, .int v5, .int v6, .int v7])), (a1_1, .inl (T.2 0, 7, .inl fw))] := ⟨a1_1, rfl⟩
        have G : zS T A s.heap s [[(h, .inr (1, [.ref po, .ref a1_1, .int (v0 + 1), .ref la, .int v1, .int v2, .int v3, .int v4, .int v5, .int v6, .int v7])), (a1_1, .inl (T.2 0, 7, .inl fw))], w2_10, z] _ _ := G.re rfl
        refine z_Vv (bc := [[(h, .inr (1, [.ref po, .ref a1_1, .int (v0 + 1), .ref la, .int v1, .int v2, .int v3, .int v4, .int v5, .int v6, .int v7])), (a1_1, .inl (T.2 0, 7, .inl fw))], z]) (br := [w2_10]) (As := [.int x, .int (zStep f1 f2 f3 k2 x)]) (rest := []) C G (c_f_move l T h po la fw (v0 + 1) v1 v2 v3 v4 v5 v6 v7 ([(h, .inr (1, [.ref po, .ref a1_1, .int (v0 + 1), .ref la, .int v1, .int v2, .int v3, .int v4, .int v5, .int v6, .int v7])), (a1_1, .inl (T.2 0, 7, .inl fw))]) cr inn k1 k2 k3 k4 z x (zStep f1 f2 f3 k2 x) hw_17 hz ⟨by omega, by omega, by omega⟩ hhs) (kV_RX1_118 C.2.2.2.2 (Nat.le_of_ble_eq_true rfl) (Nat.le_of_ble_eq_true rfl)) [0, 2] [1] rfl rfl (ci := 1) (qc := (RX1, TX1, 11)) rfl rfl (List.mem_flatten.mpr ⟨_, List.mem_of_getElem? (i := 0) rfl, (bCourse_mem hw_17).choose_spec⟩) rfl rfl hl.1 dX1_go_52 (Nat.le_of_ble_eq_true rfl) (Nat.le_of_ble_eq_true rfl) (fun b1 H locs hw G => ?_)
        obtain ⟨wc2_18, gw_19, u3_20, u5_21, rfl, h_22, h_23⟩ := hw
        have G : zS T A s.heap s [w2_10, wc2_18, z] _ _ := G
        refine lv_iconst (v := 1) hx hb dX1_go_55 (by decide) ?_
        have G := G.sub (bs' := [wc2_18, w2_10, z]) [1, 0, 2] rfl
        exact z_zret C hr hlocks G (Nat.le_of_ble_eq_true rfl) (Nat.le_of_ble_eq_true rfl) dX1_go_56 rfl ⟨wc2_18, gw_19, (v0 + 1), v1, v2, u3_20, v4, u5_21, v6, v7, w2_10, g1_11, f2, st, wh, rfl, h_22, h_13, hQ2, (Or.inl ⟨rfl, by unfold zGoF; rw [if_pos ⟨⟨⟨by omega, by omega, by omega⟩, by omega⟩, by assumption⟩, h_23, h_14]⟩), ⟨rfl, rfl⟩⟩
      · have c_16n : (zStep f1 f2 f3 k2 x).toInt = (-1 : Int) := (fa_eq _ _).mp c_16
        refine lv_iconst (v := 0) hx hb dX1_go_37 (by decide) ?_
        have hw_25 : bCourse T h po la fw v0 v1 v2 v3 v4 v5 v6 v7 [(h, .inr (1, [.ref po, .ref a1_1, .int v0, .ref la, .int v1, .int v2, .int v3, .int v4, .int v5, .int v6, .int v7])), (a1_1, .inl (T.2 0, 7, .inl fw))] := ⟨a1_1, rfl⟩
        have G : zS T A s.heap s [[(h, .inr (1, [.ref po, .ref a1_1, .int v0, .ref la, .int v1, .int v2, .int v3, .int v4, .int v5, .int v6, .int v7])), (a1_1, .inl (T.2 0, 7, .inl fw))], w2_10, z] _ _ := G.re rfl
        exact z_zret C hr hlocks G (Nat.le_of_ble_eq_true rfl) (Nat.le_of_ble_eq_true rfl) dX1_go_38 rfl ⟨([(h, .inr (1, [.ref po, .ref a1_1, .int v0, .ref la, .int v1, .int v2, .int v3, .int v4, .int v5, .int v6, .int v7])), (a1_1, .inl (T.2 0, 7, .inl fw))]), fw, v0, v1, v2, v3, v4, v5, v6, v7, w2_10, g1_11, f2, st, wh, rfl, hw_25, h_13, hQ2, (Or.inr ⟨rfl, by unfold zGoF; rw [if_neg (fun q8 => q8.2 (by assumption))], by rw [h_14]; unfold zPost; rw [if_pos (zStep_t (by assumption) hP hLb)], rfl, rfl, rfl, rfl⟩), ⟨rfl, rfl⟩⟩
    · have c_9n : ¬ (1 : Int) ≤ (fw x.toNatClampNeg).toInt := fun q => c_9 ((fa_le _ _).mpr q)
      refine lv_iconst (v := 0) hx hb dX1_go_21 (by decide) ?_
      have hw_26 : bCourse T h po la fw v0 v1 v2 v3 v4 v5 v6 v7 [(h, .inr (1, [.ref po, .ref a1_1, .int v0, .ref la, .int v1, .int v2, .int v3, .int v4, .int v5, .int v6, .int v7])), (a1_1, .inl (T.2 0, 7, .inl fw))] := ⟨a1_1, rfl⟩
      have G : zS T A s.heap s [[(h, .inr (1, [.ref po, .ref a1_1, .int v0, .ref la, .int v1, .int v2, .int v3, .int v4, .int v5, .int v6, .int v7])), (a1_1, .inl (T.2 0, 7, .inl fw))], wp, z] _ _ := G.re rfl
      exact z_zret C hr hlocks G (Nat.le_of_ble_eq_true rfl) (Nat.le_of_ble_eq_true rfl) dX1_go_22 rfl ⟨([(h, .inr (1, [.ref po, .ref a1_1, .int v0, .ref la, .int v1, .int v2, .int v3, .int v4, .int v5, .int v6, .int v7])), (a1_1, .inl (T.2 0, 7, .inl fw))]), fw, v0, v1, v2, v3, v4, v5, v6, v7, wp, f1, f2, st, wh, rfl, hw_26, hp, hP, (Or.inr ⟨rfl, by unfold zGoF; rw [if_neg (fun q8 => by dsimp only at q8; omega)], rfl, rfl, rfl, rfl, rfl⟩), ⟨rfl, rfl⟩⟩
  · have h_7 : (x.toInt < 0 ∨ cr.toInt ≤ x.toInt ∨ 7 ≤ x.toInt) := h_7
    refine lv_if_eq (tgt := 21) hx hb dX1_go_8 (by decide) (fun _ => ?_) (fun q => absurd (by decide) q)
    refine lv_iconst (v := 0) hx hb dX1_go_21 (by decide) ?_
    have hw_27 : bCourse T h po la fw v0 v1 v2 v3 v4 v5 v6 v7 [(h, .inr (1, [.ref po, .ref a1_1, .int v0, .ref la, .int v1, .int v2, .int v3, .int v4, .int v5, .int v6, .int v7])), (a1_1, .inl (T.2 0, 7, .inl fw))] := ⟨a1_1, rfl⟩
    have G : zS T A s.heap s [[(h, .inr (1, [.ref po, .ref a1_1, .int v0, .ref la, .int v1, .int v2, .int v3, .int v4, .int v5, .int v6, .int v7])), (a1_1, .inl (T.2 0, 7, .inl fw))], wp, z] _ _ := G.re rfl
    exact z_zret C hr hlocks G (Nat.le_of_ble_eq_true rfl) (Nat.le_of_ble_eq_true rfl) dX1_go_22 rfl ⟨([(h, .inr (1, [.ref po, .ref a1_1, .int v0, .ref la, .int v1, .int v2, .int v3, .int v4, .int v5, .int v6, .int v7])), (a1_1, .inl (T.2 0, 7, .inl fw))]), fw, v0, v1, v2, v3, v4, v5, v6, v7, wp, f1, f2, st, wh, rfl, hw_27, hp, hP, (Or.inr ⟨rfl, by unfold zGoF; rw [if_neg (fun q8 => by dsimp only at q8; omega)], rfl, rfl, rfl, rfl, rfl⟩), ⟨rfl, rfl⟩⟩
theorem zRuF_i {cr inn x w s2 : Int32} {W L P S H g1 gw : Nat → Int32} {st nv n2 : Int32} (h : zHas cr x ∧ 1 ≤ (H x.toNatClampNeg).toInt) (e1 : g1 = (zRunN S W L 499 P x 0).1) (e2 : s2 = nI (zRunN S W L 499 P x 0).2.2) (e3 : w = (zRunN S W L 499 P x 0).2.1) (e4 : gw = zMvH H x w) (e5 : (if zBit inn w = 1 then nv else nv + 1) = n2) : zRuF cr inn W L x (P, S, H, st, nv) = some (g1, S, gw, st + s2, n2) := by
  unfold zRuF
  rw [if_pos h, e1, e4, e2, ← e5, e3]
set_option maxHeartbeats 4000000 in
set_option maxRecDepth 100000 in
/-- c_f_Course_run -/
theorem c_f_Course_run (l : Launch) (T : zTy) (h : Nat) (po : Nat) (la : Nat) (fw : Nat → Int32) (v0 : Int32) (v1 : Int32) (v2 : Int32) (v3 : Int32) (v4 : Int32) (v5 : Int32) (v6 : Int32) (v7 : Int32) (wc : va_W) (f1 : Nat → Int32) (f2 : Nat → Int32) (f3 : Nat → Int32) (st : Int32) (wh : Int32) (wp : va_W) (cr : Int32) (inn : Int32) (k1 : Nat → Int32) (k2 : Nat → Int32) (k3 : Nat → Int32) (k4 : Nat → Int32) (z : va_W) (x : Int32) (hc : bCourse T h po la fw v0 v1 v2 v3 v4 v5 v6 v7 wc) (hp : bPosts T po la f1 f2 f3 st wh wp) (hz : bLand T la cr inn k1 k2 k3 k4 z) (hP : zP3 f1 f3) (hI : zLI cr k1 k3) (hW : ∀ j, j < 7 → f3 j = zWays cr inn k1 (nI j)) (hLq : zLq cr k1 k2) : zMi l T yX1_run cX1_run 2 (some .boolean) 4 0 0 [.ref h, .int x] [wc, wp, z] (fun (r : Int32) bs => ∃ (wc2 : va_W) (gw : Nat → Int32) (u0 : Int32) (u1 : Int32) (u2 : Int32) (u3 : Int32) (u4 : Int32) (u5 : Int32) (u6 : Int32) (u7 : Int32) (wp2 : va_W) (g1 : Nat → Int32) (g2 : Nat → Int32) (sa : Int32) (wa : Int32), bs = [wc2, wp2, z] ∧ bCourse T h po la gw u0 u1 u2 u3 u4 u5 u6 u7 wc2 ∧ bPosts T po la g1 g2 f3 sa wa wp2 ∧ zP3 g1 f3 ∧ (r = 1 ∧ zRuF cr inn f3 k2 x (f1, f2, fw, v0, v1) = some (g1, g2, gw, u0, u1) ∨ r = 0 ∧ zRuF cr inn f3 k2 x (f1, f2, fw, v0, v1) = none ∧ g1 = f1 ∧ g2 = f2 ∧ gw = fw ∧ u0 = v0 ∧ u1 = v1) ∧ (u2 = v2 ∧ u7 = v7)) := by
  refine zMi_of (own := RX1) (by decide) rfl (Nat.le_of_ble_eq_true rfl) ?_
  intro p e s m args below meth c A ls C hr hlocks hnm hAe G hl
  have hx := C.1
  have hb := C.2.1
  have hl : lv_has ls 2 [(0, .ref h), (1, .int x)] := hl
  have h7 := hI.1.2
  have hWr := zWays_r hI hW
  have hLb := zLq_b (inn := inn) hWr hLq
  refine lv_aload_n hx hb dX1_run_0 rfl (lv_at hl 0 rfl) ?_
  obtain ⟨a1_1, rfl⟩ := hc
  have G : zS T A s.heap s [[(h, .inr (1, [.ref po, .ref a1_1, .int v0, .ref la, .int v1, .int v2, .int v3, .int v4, .int v5, .int v6, .int v7]))], [(a1_1, .inl (T.2 0, 7, .inl fw))], wp, z] _ _ := G.re rfl
  refine z_get C G clX1 0 rfl 3 (by decide) m_fl_RX1_25 rfl dX1_run_1 ?_
  refine lv_iload_n hx hb dX1_run_4 rfl (lv_at hl 1 rfl) ?_
  refine z_Vi (bc := [z]) (br := [[(h, .inr (1, [.ref po, .ref a1_1, .int v0, .ref la, .int v1, .int v2, .int v3, .int v4, .int v5, .int v6, .int v7]))], [(a1_1, .inl (T.2 0, 7, .inl fw))], wp]) (As := [.int x]) (rest := []) C G (c_has l T la cr inn k1 k2 k3 k4 z x hz) (kV_RX1_112 C.2.2.2.2 (Nat.le_of_ble_eq_true rfl) (Nat.le_of_ble_eq_true rfl)) [3] [0, 1, 2] rfl rfl (ci := 4) (qc := (RX4, TX4, 6)) rfl rfl (List.mem_flatten.mpr ⟨_, List.mem_of_getElem? (i := 0) rfl, (bLand_mem hz).choose_spec⟩) rfl rfl hl.1 dX1_run_5 (Nat.le_of_ble_eq_true rfl) (Nat.le_of_ble_eq_true rfl) (fun r_3 b1 H locs hw G => ?_)
  obtain ⟨rfl, hc_2⟩ := hw
  have G : zS T A s.heap s [[(h, .inr (1, [.ref po, .ref a1_1, .int v0, .ref la, .int v1, .int v2, .int v3, .int v4, .int v5, .int v6, .int v7]))], [(a1_1, .inl (T.2 0, 7, .inl fw))], wp, z] _ _ := G
  rcases hc_2 with ⟨rfl, h_4, h_5, h_6⟩ | ⟨rfl, h_7⟩
  · have h_4 : 0 ≤ x.toInt := h_4
    have h_5 : x.toInt < cr.toInt := h_5
    have h_6 : x.toInt < 7 := h_6
    refine lv_if_eq (tgt := 21) hx hb dX1_run_8 (by decide) (fun q => absurd q (by decide)) (fun _ => ?_)
    refine lv_aload_n hx hb dX1_run_11 rfl (lv_at hl 0 rfl) ?_
    refine z_get C G clX1 0 rfl 1 (by decide) m_fl_RX1_18 rfl dX1_run_12 ?_
    refine lv_iload_n hx hb dX1_run_15 rfl (lv_at hl 1 rfl) ?_
    refine z_ild C G 1 rfl (vp_in_iff.mpr ⟨by omega, by omega⟩) dX1_run_16 ?_
    refine lv_topi (fun v_8 ev_8 => ?_)
    subst ev_8
    refine lv_iconst (v := 1) hx hb dX1_run_17 (by decide) ?_
    refine lv_icmp_ge (tgt := 23) hx hb dX1_run_18 (by decide) (fun c_9 => ?_) (fun c_9 => ?_)
    · have c_9n : (1 : Int) ≤ (fw x.toNatClampNeg).toInt := (fa_le _ _).mp c_9
      refine lv_aload_n hx hb dX1_run_23 rfl (lv_at hl 0 rfl) ?_
      refine z_get C G clX1 0 rfl 0 (by decide) m_fl_RX1_12 rfl dX1_run_24 ?_
      refine lv_iload_n hx hb dX1_run_27 rfl (lv_at hl 1 rfl) ?_
      refine z_Vv (bc := [wp, z]) (br := [[(h, .inr (1, [.ref po, .ref a1_1, .int v0, .ref la, .int v1, .int v2, .int v3, .int v4, .int v5, .int v6, .int v7]))], [(a1_1, .inl (T.2 0, 7, .inl fw))]]) (As := [.int x]) (rest := []) C G (c_Posts_run l T po la f1 f2 f3 st wh wp cr inn k1 k2 k3 k4 z x hp hz hP) (kV_RX1_122 C.2.2.2.2 (Nat.le_of_ble_eq_true rfl) (Nat.le_of_ble_eq_true rfl)) [2, 3] [0, 1] rfl rfl (ci := 6) (qc := (RX6, TX6, 6)) rfl rfl (List.mem_flatten.mpr ⟨_, List.mem_of_getElem? (i := 0) rfl, (bPosts_mem hp).choose_spec⟩) rfl rfl hl.1 dX1_run_28 (Nat.le_of_ble_eq_true rfl) (Nat.le_of_ble_eq_true rfl) (fun b1 H locs hw G => ?_)
      obtain ⟨w2_10, g1_11, s2_12, x2_13, rfl, h_14, h_15, h_16, h_17⟩ := hw
      have G : zS T A s.heap s [[(h, .inr (1, [.ref po, .ref a1_1, .int v0, .ref la, .int v1, .int v2, .int v3, .int v4, .int v5, .int v6, .int v7]))], [(a1_1, .inl (T.2 0, 7, .inl fw))], w2_10, z] _ _ := G
      have hQ2 : zP3 g1_11 f3 := by rw [h_15]; exact zRunN_I _ _ _ _ hP
      have hhs : zHas cr x2_13 := by rw [h_17]; exact zRunN_h hW hWr hLq h7 499 _ _ _ hP ⟨by omega, by omega, by omega⟩
      refine lv_aload_n hx hb dX1_run_31 rfl (lv_at hl 0 rfl) ?_
      refine lv_dup hx hb dX1_run_32 rfl ?_
      refine z_get C G clX1 0 rfl 2 (by decide) m_fl_RX1_34 rfl dX1_run_33 ?_
      refine lv_aload_n hx hb dX1_run_36 rfl (lv_at hl 0 rfl) ?_
      refine z_get C G clX1 0 rfl 0 (by decide) m_fl_RX1_12 rfl dX1_run_37 ?_
      obtain ⟨a1_19, a2_20, a3_21, rfl⟩ := h_14
      have G : zS T A s.heap s [[(h, .inr (1, [.ref po, .ref a1_1, .int v0, .ref la, .int v1, .int v2, .int v3, .int v4, .int v5, .int v6, .int v7]))], [(a1_1, .inl (T.2 0, 7, .inl fw))], [(po, .inr (6, [.ref la, .ref a1_19, .ref a2_20, .int s2_12, .int x2_13, .ref a3_21]))], [(a1_19, .inl (T.2 0, 7, .inl g1_11))], [(a2_20, .inl (T.2 0, 7, .inl f2))], [(a3_21, .inl (T.2 0, 7, .inl f3))], z] _ _ := G.re rfl
      refine z_get C G clX6 2 rfl 3 (by decide) m_fl_RX1_125 rfl dX1_run_40 ?_
      refine lv_iadd hx hb dX1_run_43 ?_
      refine z_put C G clX1 0 rfl 2 (by decide) m_fl_RX1_34 rfl rfl rfl (Nat.le_of_ble_eq_true rfl) dX1_run_44 (fun H locs G => ?_)
      have G : zS T A s.heap s [[(h, .inr (1, [.ref po, .ref a1_1, .int (v0 + s2_12), .ref la, .int v1, .int v2, .int v3, .int v4, .int v5, .int v6, .int v7]))], [(a1_1, .inl (T.2 0, 7, .inl fw))], [(po, .inr (6, [.ref la, .ref a1_19, .ref a2_20, .int s2_12, .int x2_13, .ref a3_21]))], [(a1_19, .inl (T.2 0, 7, .inl g1_11))], [(a2_20, .inl (T.2 0, 7, .inl f2))], [(a3_21, .inl (T.2 0, 7, .inl f3))], z] _ _ := G
      refine lv_aload_n hx hb dX1_run_47 rfl (lv_at hl 0 rfl) ?_
      refine lv_aload_n hx hb dX1_run_48 rfl (lv_at hl 0 rfl) ?_
      refine z_get C G clX1 0 rfl 7 (by decide) m_fl_RX1_47 rfl dX1_run_49 ?_
      refine lv_aload_n hx hb dX1_run_52 rfl (lv_at hl 0 rfl) ?_
      refine z_get C G clX1 0 rfl 0 (by decide) m_fl_RX1_12 rfl dX1_run_53 ?_
      refine z_get C G clX6 2 rfl 3 (by decide) m_fl_RX1_125 rfl dX1_run_56 ?_
      refine va_mmax hx hb (C.2.2.1.trans hl.1.symm) C.2.2.2.1 (C.2.2.2.2 _ m_ml_RX1_126) (C.2.2.2.2 _ m_st_math_max) (C.2.2.2.2 _ m_ii_math) (C.2.2.2.2 _ m_co_math_max) (Nat.le_of_ble_eq_true rfl) (Nat.le_of_ble_eq_true rfl) (Nat.le_of_ble_eq_true rfl) (Nat.le_of_ble_eq_true rfl) dX1_run_59 ?_
      refine lv_topi (fun v_22 ev_22 => ?_)
      subst ev_22
      refine z_put C G clX1 0 rfl 7 (by decide) m_fl_RX1_47 rfl rfl rfl (Nat.le_of_ble_eq_true rfl) dX1_run_62 (fun H locs G => ?_)
      have G : zS T A s.heap s [[(h, .inr (1, [.ref po, .ref a1_1, .int (v0 + s2_12), .ref la, .int v1, .int v2, .int v3, .int (if v4 < s2_12 then s2_12 else v4), .int v5, .int v6, .int v7]))], [(a1_1, .inl (T.2 0, 7, .inl fw))], [(po, .inr (6, [.ref la, .ref a1_19, .ref a2_20, .int s2_12, .int x2_13, .ref a3_21]))], [(a1_19, .inl (T.2 0, 7, .inl g1_11))], [(a2_20, .inl (T.2 0, 7, .inl f2))], [(a3_21, .inl (T.2 0, 7, .inl f3))], z] _ _ := G
      refine lv_aload_n hx hb dX1_run_65 rfl (lv_at hl 0 rfl) ?_
      refine z_get C G clX1 0 rfl 3 (by decide) m_fl_RX1_25 rfl dX1_run_66 ?_
      refine lv_aload_n hx hb dX1_run_69 rfl (lv_at hl 0 rfl) ?_
      refine z_get C G clX1 0 rfl 0 (by decide) m_fl_RX1_12 rfl dX1_run_70 ?_
      refine z_get C G clX6 2 rfl 4 (by decide) m_fl_RX1_132 rfl dX1_run_73 ?_
      refine z_Vi (bc := [z]) (br := [[(h, .inr (1, [.ref po, .ref a1_1, .int (v0 + s2_12), .ref la, .int v1, .int v2, .int v3, .int (if v4 < s2_12 then s2_12 else v4), .int v5, .int v6, .int v7]))], [(a1_1, .inl (T.2 0, 7, .inl fw))], [(po, .inr (6, [.ref la, .ref a1_19, .ref a2_20, .int s2_12, .int x2_13, .ref a3_21]))], [(a1_19, .inl (T.2 0, 7, .inl g1_11))], [(a2_20, .inl (T.2 0, 7, .inl f2))], [(a3_21, .inl (T.2 0, 7, .inl f3))]]) (As := [.int x2_13]) (rest := []) C G (c_isInn l T la cr inn k1 k2 k3 k4 z x2_13 hz) (kV_RX1_135 C.2.2.2.2 (Nat.le_of_ble_eq_true rfl) (Nat.le_of_ble_eq_true rfl)) [6] [0, 1, 2, 3, 4, 5] rfl rfl (ci := 4) (qc := (RX4, TX4, 6)) rfl rfl (List.mem_flatten.mpr ⟨_, List.mem_of_getElem? (i := 0) rfl, (bLand_mem hz).choose_spec⟩) rfl rfl hl.1 dX1_run_76 (Nat.le_of_ble_eq_true rfl) (Nat.le_of_ble_eq_true rfl) (fun r_24 b1 H locs hw G => ?_)
      obtain ⟨rfl, hc_23⟩ := hw
      have G : zS T A s.heap s [[(h, .inr (1, [.ref po, .ref a1_1, .int (v0 + s2_12), .ref la, .int v1, .int v2, .int v3, .int (if v4 < s2_12 then s2_12 else v4), .int v5, .int v6, .int v7]))], [(a1_1, .inl (T.2 0, 7, .inl fw))], [(po, .inr (6, [.ref la, .ref a1_19, .ref a2_20, .int s2_12, .int x2_13, .ref a3_21]))], [(a1_19, .inl (T.2 0, 7, .inl g1_11))], [(a2_20, .inl (T.2 0, 7, .inl f2))], [(a3_21, .inl (T.2 0, 7, .inl f3))], z] _ _ := G
      rcases hc_23 with ⟨rfl, h_25, h_26, h_27, h_28⟩ | ⟨rfl, h_29⟩
      · have h_25 : 0 ≤ x2_13.toInt := h_25
        have h_26 : x2_13.toInt < cr.toInt := h_26
        have h_27 : x2_13.toInt < 7 := h_27
        have h_28 : ¬ zBit inn x2_13 = 0 := h_28
        refine lv_if_ne (tgt := 92) hx hb dX1_run_79 (by decide) (fun _ => ?_) (fun q => absurd q (by decide))
        refine lv_aload_n hx hb dX1_run_92 rfl (lv_at hl 0 rfl) ?_
        refine lv_iload_n hx hb dX1_run_93 rfl (lv_at hl 1 rfl) ?_
        refine lv_aload_n hx hb dX1_run_94 rfl (lv_at hl 0 rfl) ?_
        refine z_get C G clX1 0 rfl 0 (by decide) m_fl_RX1_12 rfl dX1_run_95 ?_
        refine z_get C G clX6 2 rfl 4 (by decide) m_fl_RX1_132 rfl dX1_run_98 ?_
        have hw_30 : bCourse T h po la fw (v0 + s2_12) v1 v2 v3 (if v4 < s2_12 then s2_12 else v4) v5 v6 v7 [(h, .inr (1, [.ref po, .ref a1_1, .int (v0 + s2_12), .ref la, .int v1, .int v2, .int v3, .int (if v4 < s2_12 then s2_12 else v4), .int v5, .int v6, .int v7])), (a1_1, .inl (T.2 0, 7, .inl fw))] := ⟨a1_1, rfl⟩
        have G : zS T A s.heap s [[(h, .inr (1, [.ref po, .ref a1_1, .int (v0 + s2_12), .ref la, .int v1, .int v2, .int v3, .int (if v4 < s2_12 then s2_12 else v4), .int v5, .int v6, .int v7])), (a1_1, .inl (T.2 0, 7, .inl fw))], [(po, .inr (6, [.ref la, .ref a1_19, .ref a2_20, .int s2_12, .int x2_13, .ref a3_21]))], [(a1_19, .inl (T.2 0, 7, .inl g1_11))], [(a2_20, .inl (T.2 0, 7, .inl f2))], [(a3_21, .inl (T.2 0, 7, .inl f3))], z] _ _ := G.re rfl
        refine z_Vv (bc := [[(h, .inr (1, [.ref po, .ref a1_1, .int (v0 + s2_12), .ref la, .int v1, .int v2, .int v3, .int (if v4 < s2_12 then s2_12 else v4), .int v5, .int v6, .int v7])), (a1_1, .inl (T.2 0, 7, .inl fw))], z]) (br := [[(po, .inr (6, [.ref la, .ref a1_19, .ref a2_20, .int s2_12, .int x2_13, .ref a3_21]))], [(a1_19, .inl (T.2 0, 7, .inl g1_11))], [(a2_20, .inl (T.2 0, 7, .inl f2))], [(a3_21, .inl (T.2 0, 7, .inl f3))]]) (As := [.int x, .int x2_13]) (rest := []) C G (c_f_move l T h po la fw (v0 + s2_12) v1 v2 v3 (if v4 < s2_12 then s2_12 else v4) v5 v6 v7 ([(h, .inr (1, [.ref po, .ref a1_1, .int (v0 + s2_12), .ref la, .int v1, .int v2, .int v3, .int (if v4 < s2_12 then s2_12 else v4), .int v5, .int v6, .int v7])), (a1_1, .inl (T.2 0, 7, .inl fw))]) cr inn k1 k2 k3 k4 z x x2_13 hw_30 hz ⟨by omega, by omega, by omega⟩ hhs) (kV_RX1_118 C.2.2.2.2 (Nat.le_of_ble_eq_true rfl) (Nat.le_of_ble_eq_true rfl)) [0, 5] [1, 2, 3, 4] rfl rfl (ci := 1) (qc := (RX1, TX1, 11)) rfl rfl (List.mem_flatten.mpr ⟨_, List.mem_of_getElem? (i := 0) rfl, (bCourse_mem hw_30).choose_spec⟩) rfl rfl hl.1 dX1_run_101 (Nat.le_of_ble_eq_true rfl) (Nat.le_of_ble_eq_true rfl) (fun b1 H locs hw G => ?_)
        obtain ⟨wc2_31, gw_32, u3_33, u5_34, rfl, h_35, h_36⟩ := hw
        have G : zS T A s.heap s [[(po, .inr (6, [.ref la, .ref a1_19, .ref a2_20, .int s2_12, .int x2_13, .ref a3_21]))], [(a1_19, .inl (T.2 0, 7, .inl g1_11))], [(a2_20, .inl (T.2 0, 7, .inl f2))], [(a3_21, .inl (T.2 0, 7, .inl f3))], wc2_31, z] _ _ := G
        refine lv_iconst (v := 1) hx hb dX1_run_104 (by decide) ?_
        have hw_38 : bPosts T po la g1_11 f2 f3 s2_12 x2_13 [(po, .inr (6, [.ref la, .ref a1_19, .ref a2_20, .int s2_12, .int x2_13, .ref a3_21])), (a1_19, .inl (T.2 0, 7, .inl g1_11)), (a2_20, .inl (T.2 0, 7, .inl f2)), (a3_21, .inl (T.2 0, 7, .inl f3))] := ⟨a1_19, a2_20, a3_21, rfl⟩
        have G : zS T A s.heap s [[(po, .inr (6, [.ref la, .ref a1_19, .ref a2_20, .int s2_12, .int x2_13, .ref a3_21])), (a1_19, .inl (T.2 0, 7, .inl g1_11)), (a2_20, .inl (T.2 0, 7, .inl f2)), (a3_21, .inl (T.2 0, 7, .inl f3))], wc2_31, z] _ _ := G.re rfl
        have G := G.sub (bs' := [wc2_31, [(po, .inr (6, [.ref la, .ref a1_19, .ref a2_20, .int s2_12, .int x2_13, .ref a3_21])), (a1_19, .inl (T.2 0, 7, .inl g1_11)), (a2_20, .inl (T.2 0, 7, .inl f2)), (a3_21, .inl (T.2 0, 7, .inl f3))], z]) [1, 0, 2] rfl
        exact z_zret C hr hlocks G (Nat.le_of_ble_eq_true rfl) (Nat.le_of_ble_eq_true rfl) dX1_run_105 rfl ⟨wc2_31, gw_32, (v0 + s2_12), v1, v2, u3_33, (if v4 < s2_12 then s2_12 else v4), u5_34, v6, v7, ([(po, .inr (6, [.ref la, .ref a1_19, .ref a2_20, .int s2_12, .int x2_13, .ref a3_21])), (a1_19, .inl (T.2 0, 7, .inl g1_11)), (a2_20, .inl (T.2 0, 7, .inl f2)), (a3_21, .inl (T.2 0, 7, .inl f3))]), g1_11, f2, s2_12, x2_13, rfl, h_35, hw_38, hQ2, (Or.inl ⟨rfl, zRuF_i ⟨⟨by omega, by omega, by omega⟩, by omega⟩ h_15 h_16 h_17 h_36 (if_pos (zBit_p h_28))⟩), ⟨rfl, rfl⟩⟩
      · have h_29 : (x2_13.toInt < 0 ∨ cr.toInt ≤ x2_13.toInt ∨ 7 ≤ x2_13.toInt ∨ zBit inn x2_13 = 0) := h_29
        refine lv_if_ne (tgt := 92) hx hb dX1_run_79 (by decide) (fun q => absurd (by decide) q) (fun _ => ?_)
        refine lv_aload_n hx hb dX1_run_82 rfl (lv_at hl 0 rfl) ?_
        refine lv_dup hx hb dX1_run_83 rfl ?_
        refine z_get C G clX1 0 rfl 4 (by decide) m_fl_RX1_38 rfl dX1_run_84 ?_
        refine lv_iconst (v := 1) hx hb dX1_run_87 (by decide) ?_
        refine lv_iadd hx hb dX1_run_88 ?_
        refine z_put C G clX1 0 rfl 4 (by decide) m_fl_RX1_38 rfl rfl rfl (Nat.le_of_ble_eq_true rfl) dX1_run_89 (fun H locs G => ?_)
        have G : zS T A s.heap s [[(h, .inr (1, [.ref po, .ref a1_1, .int (v0 + s2_12), .ref la, .int (v1 + 1), .int v2, .int v3, .int (if v4 < s2_12 then s2_12 else v4), .int v5, .int v6, .int v7]))], [(a1_1, .inl (T.2 0, 7, .inl fw))], [(po, .inr (6, [.ref la, .ref a1_19, .ref a2_20, .int s2_12, .int x2_13, .ref a3_21]))], [(a1_19, .inl (T.2 0, 7, .inl g1_11))], [(a2_20, .inl (T.2 0, 7, .inl f2))], [(a3_21, .inl (T.2 0, 7, .inl f3))], z] _ _ := G
        refine lv_aload_n hx hb dX1_run_92 rfl (lv_at hl 0 rfl) ?_
        refine lv_iload_n hx hb dX1_run_93 rfl (lv_at hl 1 rfl) ?_
        refine lv_aload_n hx hb dX1_run_94 rfl (lv_at hl 0 rfl) ?_
        refine z_get C G clX1 0 rfl 0 (by decide) m_fl_RX1_12 rfl dX1_run_95 ?_
        refine z_get C G clX6 2 rfl 4 (by decide) m_fl_RX1_132 rfl dX1_run_98 ?_
        have hw_39 : bCourse T h po la fw (v0 + s2_12) (v1 + 1) v2 v3 (if v4 < s2_12 then s2_12 else v4) v5 v6 v7 [(h, .inr (1, [.ref po, .ref a1_1, .int (v0 + s2_12), .ref la, .int (v1 + 1), .int v2, .int v3, .int (if v4 < s2_12 then s2_12 else v4), .int v5, .int v6, .int v7])), (a1_1, .inl (T.2 0, 7, .inl fw))] := ⟨a1_1, rfl⟩
        have G : zS T A s.heap s [[(h, .inr (1, [.ref po, .ref a1_1, .int (v0 + s2_12), .ref la, .int (v1 + 1), .int v2, .int v3, .int (if v4 < s2_12 then s2_12 else v4), .int v5, .int v6, .int v7])), (a1_1, .inl (T.2 0, 7, .inl fw))], [(po, .inr (6, [.ref la, .ref a1_19, .ref a2_20, .int s2_12, .int x2_13, .ref a3_21]))], [(a1_19, .inl (T.2 0, 7, .inl g1_11))], [(a2_20, .inl (T.2 0, 7, .inl f2))], [(a3_21, .inl (T.2 0, 7, .inl f3))], z] _ _ := G.re rfl
        refine z_Vv (bc := [[(h, .inr (1, [.ref po, .ref a1_1, .int (v0 + s2_12), .ref la, .int (v1 + 1), .int v2, .int v3, .int (if v4 < s2_12 then s2_12 else v4), .int v5, .int v6, .int v7])), (a1_1, .inl (T.2 0, 7, .inl fw))], z]) (br := [[(po, .inr (6, [.ref la, .ref a1_19, .ref a2_20, .int s2_12, .int x2_13, .ref a3_21]))], [(a1_19, .inl (T.2 0, 7, .inl g1_11))], [(a2_20, .inl (T.2 0, 7, .inl f2))], [(a3_21, .inl (T.2 0, 7, .inl f3))]]) (As := [.int x, .int x2_13]) (rest := []) C G (c_f_move l T h po la fw (v0 + s2_12) (v1 + 1) v2 v3 (if v4 < s2_12 then s2_12 else v4) v5 v6 v7 ([(h, .inr (1, [.ref po, .ref a1_1, .int (v0 + s2_12), .ref la, .int (v1 + 1), .int v2, .int v3, .int (if v4 < s2_12 then s2_12 else v4), .int v5, .int v6, .int v7])), (a1_1, .inl (T.2 0, 7, .inl fw))]) cr inn k1 k2 k3 k4 z x x2_13 hw_39 hz ⟨by omega, by omega, by omega⟩ hhs) (kV_RX1_118 C.2.2.2.2 (Nat.le_of_ble_eq_true rfl) (Nat.le_of_ble_eq_true rfl)) [0, 5] [1, 2, 3, 4] rfl rfl (ci := 1) (qc := (RX1, TX1, 11)) rfl rfl (List.mem_flatten.mpr ⟨_, List.mem_of_getElem? (i := 0) rfl, (bCourse_mem hw_39).choose_spec⟩) rfl rfl hl.1 dX1_run_101 (Nat.le_of_ble_eq_true rfl) (Nat.le_of_ble_eq_true rfl) (fun b1 H locs hw G => ?_)
        obtain ⟨wc2_40, gw_41, u3_42, u5_43, rfl, h_44, h_45⟩ := hw
        have G : zS T A s.heap s [[(po, .inr (6, [.ref la, .ref a1_19, .ref a2_20, .int s2_12, .int x2_13, .ref a3_21]))], [(a1_19, .inl (T.2 0, 7, .inl g1_11))], [(a2_20, .inl (T.2 0, 7, .inl f2))], [(a3_21, .inl (T.2 0, 7, .inl f3))], wc2_40, z] _ _ := G
        refine lv_iconst (v := 1) hx hb dX1_run_104 (by decide) ?_
        have hw_47 : bPosts T po la g1_11 f2 f3 s2_12 x2_13 [(po, .inr (6, [.ref la, .ref a1_19, .ref a2_20, .int s2_12, .int x2_13, .ref a3_21])), (a1_19, .inl (T.2 0, 7, .inl g1_11)), (a2_20, .inl (T.2 0, 7, .inl f2)), (a3_21, .inl (T.2 0, 7, .inl f3))] := ⟨a1_19, a2_20, a3_21, rfl⟩
        have G : zS T A s.heap s [[(po, .inr (6, [.ref la, .ref a1_19, .ref a2_20, .int s2_12, .int x2_13, .ref a3_21])), (a1_19, .inl (T.2 0, 7, .inl g1_11)), (a2_20, .inl (T.2 0, 7, .inl f2)), (a3_21, .inl (T.2 0, 7, .inl f3))], wc2_40, z] _ _ := G.re rfl
        have G := G.sub (bs' := [wc2_40, [(po, .inr (6, [.ref la, .ref a1_19, .ref a2_20, .int s2_12, .int x2_13, .ref a3_21])), (a1_19, .inl (T.2 0, 7, .inl g1_11)), (a2_20, .inl (T.2 0, 7, .inl f2)), (a3_21, .inl (T.2 0, 7, .inl f3))], z]) [1, 0, 2] rfl
        exact z_zret C hr hlocks G (Nat.le_of_ble_eq_true rfl) (Nat.le_of_ble_eq_true rfl) dX1_run_105 rfl ⟨wc2_40, gw_41, (v0 + s2_12), (v1 + 1), v2, u3_42, (if v4 < s2_12 then s2_12 else v4), u5_43, v6, v7, ([(po, .inr (6, [.ref la, .ref a1_19, .ref a2_20, .int s2_12, .int x2_13, .ref a3_21])), (a1_19, .inl (T.2 0, 7, .inl g1_11)), (a2_20, .inl (T.2 0, 7, .inl f2)), (a3_21, .inl (T.2 0, 7, .inl f3))]), g1_11, f2, s2_12, x2_13, rfl, h_44, hw_47, hQ2, (Or.inl ⟨rfl, zRuF_i ⟨⟨by omega, by omega, by omega⟩, by omega⟩ h_15 h_16 h_17 h_45 (if_neg (fun q8 => by rcases h_29 with e9 | e9 | e9 | e9 <;> first | omega | exact zBit_o q8 e9))⟩), ⟨rfl, rfl⟩⟩
    · have c_9n : ¬ (1 : Int) ≤ (fw x.toNatClampNeg).toInt := fun q => c_9 ((fa_le _ _).mpr q)
      refine lv_iconst (v := 0) hx hb dX1_run_21 (by decide) ?_
      have hw_48 : bCourse T h po la fw v0 v1 v2 v3 v4 v5 v6 v7 [(h, .inr (1, [.ref po, .ref a1_1, .int v0, .ref la, .int v1, .int v2, .int v3, .int v4, .int v5, .int v6, .int v7])), (a1_1, .inl (T.2 0, 7, .inl fw))] := ⟨a1_1, rfl⟩
      have G : zS T A s.heap s [[(h, .inr (1, [.ref po, .ref a1_1, .int v0, .ref la, .int v1, .int v2, .int v3, .int v4, .int v5, .int v6, .int v7])), (a1_1, .inl (T.2 0, 7, .inl fw))], wp, z] _ _ := G.re rfl
      exact z_zret C hr hlocks G (Nat.le_of_ble_eq_true rfl) (Nat.le_of_ble_eq_true rfl) dX1_run_22 rfl ⟨([(h, .inr (1, [.ref po, .ref a1_1, .int v0, .ref la, .int v1, .int v2, .int v3, .int v4, .int v5, .int v6, .int v7])), (a1_1, .inl (T.2 0, 7, .inl fw))]), fw, v0, v1, v2, v3, v4, v5, v6, v7, wp, f1, f2, st, wh, rfl, hw_48, hp, hP, (Or.inr ⟨rfl, by unfold zRuF; rw [if_neg (fun q8 => by dsimp only at q8; omega)], rfl, rfl, rfl, rfl, rfl⟩), ⟨rfl, rfl⟩⟩
  · have h_7 : (x.toInt < 0 ∨ cr.toInt ≤ x.toInt ∨ 7 ≤ x.toInt) := h_7
    refine lv_if_eq (tgt := 21) hx hb dX1_run_8 (by decide) (fun _ => ?_) (fun q => absurd (by decide) q)
    refine lv_iconst (v := 0) hx hb dX1_run_21 (by decide) ?_
    have hw_49 : bCourse T h po la fw v0 v1 v2 v3 v4 v5 v6 v7 [(h, .inr (1, [.ref po, .ref a1_1, .int v0, .ref la, .int v1, .int v2, .int v3, .int v4, .int v5, .int v6, .int v7])), (a1_1, .inl (T.2 0, 7, .inl fw))] := ⟨a1_1, rfl⟩
    have G : zS T A s.heap s [[(h, .inr (1, [.ref po, .ref a1_1, .int v0, .ref la, .int v1, .int v2, .int v3, .int v4, .int v5, .int v6, .int v7])), (a1_1, .inl (T.2 0, 7, .inl fw))], wp, z] _ _ := G.re rfl
    exact z_zret C hr hlocks G (Nat.le_of_ble_eq_true rfl) (Nat.le_of_ble_eq_true rfl) dX1_run_22 rfl ⟨([(h, .inr (1, [.ref po, .ref a1_1, .int v0, .ref la, .int v1, .int v2, .int v3, .int v4, .int v5, .int v6, .int v7])), (a1_1, .inl (T.2 0, 7, .inl fw))]), fw, v0, v1, v2, v3, v4, v5, v6, v7, wp, f1, f2, st, wh, rfl, hw_49, hp, hP, (Or.inr ⟨rfl, by unfold zRuF; rw [if_neg (fun q8 => by dsimp only at q8; omega)], rfl, rfl, rfl, rfl, rfl⟩), ⟨rfl, rfl⟩⟩
set_option maxHeartbeats 4000000 in
set_option maxRecDepth 100000 in
/-- c_f_Course_add -/
theorem c_f_Course_add (l : Launch) (T : zTy) (h : Nat) (po : Nat) (la : Nat) (fw : Nat → Int32) (v0 : Int32) (v1 : Int32) (v2 : Int32) (v3 : Int32) (v4 : Int32) (v5 : Int32) (v6 : Int32) (v7 : Int32) (wc : va_W) (cr : Int32) (inn : Int32) (k1 : Nat → Int32) (k2 : Nat → Int32) (k3 : Nat → Int32) (k4 : Nat → Int32) (z : va_W) (x : Int32) (hc : bCourse T h po la fw v0 v1 v2 v3 v4 v5 v6 v7 wc) (hz : bLand T la cr inn k1 k2 k3 k4 z) : zMi l T yX1_add cX1_add 2 (some .boolean) 2 0 0 [.ref h, .int x] [wc, z] (fun (r : Int32) bs => ∃ (wc2 : va_W) (gw : Nat → Int32), bs = [wc2, z] ∧ bCourse T h po la gw v0 v1 v2 v3 v4 v5 v6 v7 wc2 ∧ (∀ f1 f2 : Nat → Int32, r = 1 ∧ zAdF cr x (f1, f2, fw, v0, v1) = some (f1, f2, gw, v0, v1) ∨ r = 0 ∧ zAdF cr x (f1, f2, fw, v0, v1) = none ∧ gw = fw)) := by
  refine zMi_of (own := RX1) (by decide) rfl (Nat.le_of_ble_eq_true rfl) ?_
  intro p e s m args below meth c A ls C hr hlocks hnm hAe G hl
  have hx := C.1
  have hb := C.2.1
  have hl : lv_has ls 2 [(0, .ref h), (1, .int x)] := hl
  refine lv_aload_n hx hb dX1_add_0 rfl (lv_at hl 0 rfl) ?_
  obtain ⟨a1_1, rfl⟩ := hc
  have G : zS T A s.heap s [[(h, .inr (1, [.ref po, .ref a1_1, .int v0, .ref la, .int v1, .int v2, .int v3, .int v4, .int v5, .int v6, .int v7]))], [(a1_1, .inl (T.2 0, 7, .inl fw))], z] _ _ := G.re rfl
  refine z_get C G clX1 0 rfl 3 (by decide) m_fl_RX1_25 rfl dX1_add_1 ?_
  refine lv_iload_n hx hb dX1_add_4 rfl (lv_at hl 1 rfl) ?_
  refine z_Vi (bc := [z]) (br := [[(h, .inr (1, [.ref po, .ref a1_1, .int v0, .ref la, .int v1, .int v2, .int v3, .int v4, .int v5, .int v6, .int v7]))], [(a1_1, .inl (T.2 0, 7, .inl fw))]]) (As := [.int x]) (rest := []) C G (c_has l T la cr inn k1 k2 k3 k4 z x hz) (kV_RX1_112 C.2.2.2.2 (Nat.le_of_ble_eq_true rfl) (Nat.le_of_ble_eq_true rfl)) [2] [0, 1] rfl rfl (ci := 4) (qc := (RX4, TX4, 6)) rfl rfl (List.mem_flatten.mpr ⟨_, List.mem_of_getElem? (i := 0) rfl, (bLand_mem hz).choose_spec⟩) rfl rfl hl.1 dX1_add_5 (Nat.le_of_ble_eq_true rfl) (Nat.le_of_ble_eq_true rfl) (fun r_3 b1 H locs hw G => ?_)
  obtain ⟨rfl, hc_2⟩ := hw
  have G : zS T A s.heap s [[(h, .inr (1, [.ref po, .ref a1_1, .int v0, .ref la, .int v1, .int v2, .int v3, .int v4, .int v5, .int v6, .int v7]))], [(a1_1, .inl (T.2 0, 7, .inl fw))], z] _ _ := G
  rcases hc_2 with ⟨rfl, h_4, h_5, h_6⟩ | ⟨rfl, h_7⟩
  · have h_4 : 0 ≤ x.toInt := h_4
    have h_5 : x.toInt < cr.toInt := h_5
    have h_6 : x.toInt < 7 := h_6
    refine lv_if_eq (tgt := 22) hx hb dX1_add_8 (by decide) (fun q => absurd q (by decide)) (fun _ => ?_)
    refine lv_aload_n hx hb dX1_add_11 rfl (lv_at hl 0 rfl) ?_
    refine z_get C G clX1 0 rfl 1 (by decide) m_fl_RX1_18 rfl dX1_add_12 ?_
    refine lv_iload_n hx hb dX1_add_15 rfl (lv_at hl 1 rfl) ?_
    refine z_ild C G 1 rfl (vp_in_iff.mpr ⟨by omega, by omega⟩) dX1_add_16 ?_
    refine lv_topi (fun v_8 ev_8 => ?_)
    subst ev_8
    refine lv_bipush (v := 99) hx hb dX1_add_17 (by decide) ?_
    refine lv_icmp_lt (tgt := 24) hx hb dX1_add_19 (by decide) (fun c_9 => ?_) (fun c_9 => ?_)
    · have c_9n : (fw x.toNatClampNeg).toInt < (99 : Int) := (fa_lt _ _).mp c_9
      refine lv_aload_n hx hb dX1_add_24 rfl (lv_at hl 0 rfl) ?_
      refine z_get C G clX1 0 rfl 1 (by decide) m_fl_RX1_18 rfl dX1_add_25 ?_
      refine lv_iload_n hx hb dX1_add_28 rfl (lv_at hl 1 rfl) ?_
      refine lv_dup2_11 hx hb dX1_add_29 rfl rfl ?_
      refine z_ild C G 1 rfl (vp_in_iff.mpr ⟨by omega, by omega⟩) dX1_add_30 ?_
      refine lv_topi (fun v_10 ev_10 => ?_)
      subst ev_10
      refine lv_iconst (v := 1) hx hb dX1_add_31 (by decide) ?_
      refine lv_iadd hx hb dX1_add_32 ?_
      refine z_ist C G 1 rfl (vp_in_iff.mpr ⟨by omega, by omega⟩) dX1_add_33 (fun H locs G => ?_)
      have G : zS T A s.heap s [[(h, .inr (1, [.ref po, .ref a1_1, .int v0, .ref la, .int v1, .int v2, .int v3, .int v4, .int v5, .int v6, .int v7]))], [(a1_1, .inl (T.2 0, 7, .inl (upd fw x.toNatClampNeg ((fw x.toNatClampNeg) + 1))))], z] _ _ := G
      refine lv_iconst (v := 1) hx hb dX1_add_34 (by decide) ?_
      have hw_11 : bCourse T h po la (upd fw x.toNatClampNeg ((fw x.toNatClampNeg) + 1)) v0 v1 v2 v3 v4 v5 v6 v7 [(h, .inr (1, [.ref po, .ref a1_1, .int v0, .ref la, .int v1, .int v2, .int v3, .int v4, .int v5, .int v6, .int v7])), (a1_1, .inl (T.2 0, 7, .inl (upd fw x.toNatClampNeg ((fw x.toNatClampNeg) + 1))))] := ⟨a1_1, rfl⟩
      have G : zS T A s.heap s [[(h, .inr (1, [.ref po, .ref a1_1, .int v0, .ref la, .int v1, .int v2, .int v3, .int v4, .int v5, .int v6, .int v7])), (a1_1, .inl (T.2 0, 7, .inl (upd fw x.toNatClampNeg ((fw x.toNatClampNeg) + 1))))], z] _ _ := G.re rfl
      exact z_zret C hr hlocks G (Nat.le_of_ble_eq_true rfl) (Nat.le_of_ble_eq_true rfl) dX1_add_35 rfl ⟨([(h, .inr (1, [.ref po, .ref a1_1, .int v0, .ref la, .int v1, .int v2, .int v3, .int v4, .int v5, .int v6, .int v7])), (a1_1, .inl (T.2 0, 7, .inl (upd fw x.toNatClampNeg ((fw x.toNatClampNeg) + 1))))]), (upd fw x.toNatClampNeg ((fw x.toNatClampNeg) + 1)), rfl, hw_11, (fun f1 f2 => Or.inl ⟨rfl, by unfold zAdF; rw [if_pos ⟨⟨by omega, by omega, by omega⟩, by assumption⟩]⟩)⟩
    · have c_9n : ¬ (fw x.toNatClampNeg).toInt < (99 : Int) := fun q => c_9 ((fa_lt _ _).mpr q)
      refine lv_iconst (v := 0) hx hb dX1_add_22 (by decide) ?_
      have hw_12 : bCourse T h po la fw v0 v1 v2 v3 v4 v5 v6 v7 [(h, .inr (1, [.ref po, .ref a1_1, .int v0, .ref la, .int v1, .int v2, .int v3, .int v4, .int v5, .int v6, .int v7])), (a1_1, .inl (T.2 0, 7, .inl fw))] := ⟨a1_1, rfl⟩
      have G : zS T A s.heap s [[(h, .inr (1, [.ref po, .ref a1_1, .int v0, .ref la, .int v1, .int v2, .int v3, .int v4, .int v5, .int v6, .int v7])), (a1_1, .inl (T.2 0, 7, .inl fw))], z] _ _ := G.re rfl
      exact z_zret C hr hlocks G (Nat.le_of_ble_eq_true rfl) (Nat.le_of_ble_eq_true rfl) dX1_add_23 rfl ⟨([(h, .inr (1, [.ref po, .ref a1_1, .int v0, .ref la, .int v1, .int v2, .int v3, .int v4, .int v5, .int v6, .int v7])), (a1_1, .inl (T.2 0, 7, .inl fw))]), fw, rfl, hw_12, (fun f1 f2 => Or.inr ⟨rfl, by unfold zAdF; rw [if_neg (fun q8 => by have q7 := q8.2; have q7 : (fw x.toNatClampNeg).toInt < 99 := q7; omega)], rfl⟩)⟩
  · have h_7 : (x.toInt < 0 ∨ cr.toInt ≤ x.toInt ∨ 7 ≤ x.toInt) := h_7
    refine lv_if_eq (tgt := 22) hx hb dX1_add_8 (by decide) (fun _ => ?_) (fun q => absurd (by decide) q)
    refine lv_iconst (v := 0) hx hb dX1_add_22 (by decide) ?_
    have hw_13 : bCourse T h po la fw v0 v1 v2 v3 v4 v5 v6 v7 [(h, .inr (1, [.ref po, .ref a1_1, .int v0, .ref la, .int v1, .int v2, .int v3, .int v4, .int v5, .int v6, .int v7])), (a1_1, .inl (T.2 0, 7, .inl fw))] := ⟨a1_1, rfl⟩
    have G : zS T A s.heap s [[(h, .inr (1, [.ref po, .ref a1_1, .int v0, .ref la, .int v1, .int v2, .int v3, .int v4, .int v5, .int v6, .int v7])), (a1_1, .inl (T.2 0, 7, .inl fw))], z] _ _ := G.re rfl
    exact z_zret C hr hlocks G (Nat.le_of_ble_eq_true rfl) (Nat.le_of_ble_eq_true rfl) dX1_add_23 rfl ⟨([(h, .inr (1, [.ref po, .ref a1_1, .int v0, .ref la, .int v1, .int v2, .int v3, .int v4, .int v5, .int v6, .int v7])), (a1_1, .inl (T.2 0, 7, .inl fw))]), fw, rfl, hw_13, (fun f1 f2 => Or.inr ⟨rfl, by unfold zAdF; rw [if_neg (fun q8 => by have q7 := q8.2; have q7 : (fw x.toNatClampNeg).toInt < 99 := q7; omega)], rfl⟩)⟩
set_option maxHeartbeats 4000000 in
set_option maxRecDepth 100000 in
/-- c_f_Course_shut -/
theorem c_f_Course_shut (l : Launch) (T : zTy) (h : Nat) (po : Nat) (la : Nat) (fw : Nat → Int32) (v0 : Int32) (v1 : Int32) (v2 : Int32) (v3 : Int32) (v4 : Int32) (v5 : Int32) (v6 : Int32) (v7 : Int32) (wc : va_W) (f1 : Nat → Int32) (f2 : Nat → Int32) (f3 : Nat → Int32) (st : Int32) (wh : Int32) (wp : va_W) (cr : Int32) (inn : Int32) (k1 : Nat → Int32) (k2 : Nat → Int32) (k3 : Nat → Int32) (k4 : Nat → Int32) (z : va_W) (x : Int32) (y : Int32) (hc : bCourse T h po la fw v0 v1 v2 v3 v4 v5 v6 v7 wc) (hp : bPosts T po la f1 f2 f3 st wh wp) (hz : bLand T la cr inn k1 k2 k3 k4 z) : zMi l T yX1_shut cX1_shut 4 (some .boolean) 3 0 0 [.ref h, .int x, .int y] [wc, wp, z] (fun (r : Int32) bs => ∃ (wp2 : va_W) (g2 : Nat → Int32), bs = [wc, wp2, z] ∧ bPosts T po la f1 g2 f3 st wh wp2 ∧ (∀ (fw : Nat → Int32) (v0 v1 : Int32), r = 1 ∧ zShF cr k1 x y (f1, f2, fw, v0, v1) = some (f1, g2, fw, v0, v1) ∨ r = 0 ∧ zShF cr k1 x y (f1, f2, fw, v0, v1) = none ∧ g2 = f2)) := by
  refine zMi_of (own := RX1) (by decide) rfl (Nat.le_of_ble_eq_true rfl) ?_
  intro p e s m args below meth c A ls C hr hlocks hnm hAe G hl
  have hx := C.1
  have hb := C.2.1
  have hl : lv_has ls 4 [(0, .ref h), (1, .int x), (2, .int y)] := hl
  refine lv_aload_n hx hb dX1_shut_0 rfl (lv_at hl 0 rfl) ?_
  obtain ⟨a1_1, rfl⟩ := hc
  have G : zS T A s.heap s [[(h, .inr (1, [.ref po, .ref a1_1, .int v0, .ref la, .int v1, .int v2, .int v3, .int v4, .int v5, .int v6, .int v7]))], [(a1_1, .inl (T.2 0, 7, .inl fw))], wp, z] _ _ := G.re rfl
  refine z_get C G clX1 0 rfl 3 (by decide) m_fl_RX1_25 rfl dX1_shut_1 ?_
  refine lv_iload_n hx hb dX1_shut_4 rfl (lv_at hl 1 rfl) ?_
  refine lv_iload_n hx hb dX1_shut_5 rfl (lv_at hl 2 rfl) ?_
  refine z_Vi (bc := [z]) (br := [[(h, .inr (1, [.ref po, .ref a1_1, .int v0, .ref la, .int v1, .int v2, .int v3, .int v4, .int v5, .int v6, .int v7]))], [(a1_1, .inl (T.2 0, 7, .inl fw))], wp]) (As := [.int x, .int y]) (rest := []) C G (c_hasRoad l T la cr inn k1 k2 k3 k4 z x y hz) (kV_RX1_138 C.2.2.2.2 (Nat.le_of_ble_eq_true rfl) (Nat.le_of_ble_eq_true rfl)) [3] [0, 1, 2] rfl rfl (ci := 4) (qc := (RX4, TX4, 6)) rfl rfl (List.mem_flatten.mpr ⟨_, List.mem_of_getElem? (i := 0) rfl, (bLand_mem hz).choose_spec⟩) rfl rfl hl.1 dX1_shut_6 (Nat.le_of_ble_eq_true rfl) (Nat.le_of_ble_eq_true rfl) (fun r_3 b1 H locs hw G => ?_)
  obtain ⟨rfl, hc_2⟩ := hw
  have G : zS T A s.heap s [[(h, .inr (1, [.ref po, .ref a1_1, .int v0, .ref la, .int v1, .int v2, .int v3, .int v4, .int v5, .int v6, .int v7]))], [(a1_1, .inl (T.2 0, 7, .inl fw))], wp, z] _ _ := G
  rcases hc_2 with ⟨rfl, h_4, h_5, h_6, h_7, h_8, h_9⟩ | ⟨rfl, h_10⟩
  · have h_4 : 0 ≤ x.toInt := h_4
    have h_5 : x.toInt < cr.toInt := h_5
    have h_6 : x.toInt < 7 := h_6
    have h_7 : 0 ≤ y.toInt := h_7
    have h_8 : y.toInt < (k1 x.toNatClampNeg).toInt := h_8
    have h_9 : y.toInt < 4 := h_9
    refine lv_if_eq (tgt := 28) hx hb dX1_shut_9 (by decide) (fun q => absurd q (by decide)) (fun _ => ?_)
    refine lv_aload_n hx hb dX1_shut_12 rfl (lv_at hl 0 rfl) ?_
    refine z_get C G clX1 0 rfl 0 (by decide) m_fl_RX1_12 rfl dX1_shut_13 ?_
    refine lv_iload_n hx hb dX1_shut_16 rfl (lv_at hl 1 rfl) ?_
    refine lv_iload_n hx hb dX1_shut_17 rfl (lv_at hl 2 rfl) ?_
    refine z_Vi (bc := [wp, z]) (br := [[(h, .inr (1, [.ref po, .ref a1_1, .int v0, .ref la, .int v1, .int v2, .int v3, .int v4, .int v5, .int v6, .int v7]))], [(a1_1, .inl (T.2 0, 7, .inl fw))]]) (As := [.int x, .int y]) (rest := []) C G (c_isShut l T po la f1 f2 f3 st wh wp cr inn k1 k2 k3 k4 z x y hp hz) (kV_RX1_141 C.2.2.2.2 (Nat.le_of_ble_eq_true rfl) (Nat.le_of_ble_eq_true rfl)) [2, 3] [0, 1] rfl rfl (ci := 6) (qc := (RX6, TX6, 6)) rfl rfl (List.mem_flatten.mpr ⟨_, List.mem_of_getElem? (i := 0) rfl, (bPosts_mem hp).choose_spec⟩) rfl rfl hl.1 dX1_shut_18 (Nat.le_of_ble_eq_true rfl) (Nat.le_of_ble_eq_true rfl) (fun r_12 b1 H locs hw G => ?_)
    obtain ⟨rfl, hc_11⟩ := hw
    have G : zS T A s.heap s [[(h, .inr (1, [.ref po, .ref a1_1, .int v0, .ref la, .int v1, .int v2, .int v3, .int v4, .int v5, .int v6, .int v7]))], [(a1_1, .inl (T.2 0, 7, .inl fw))], wp, z] _ _ := G
    rcases hc_11 with ⟨rfl, h_13, h_14, h_15, h_16, h_17, h_18, h_19⟩ | ⟨rfl, h_20⟩
    · have h_13 : 0 ≤ x.toInt := h_13
      have h_14 : x.toInt < cr.toInt := h_14
      have h_15 : x.toInt < 7 := h_15
      have h_16 : 0 ≤ y.toInt := h_16
      have h_17 : y.toInt < (k1 x.toNatClampNeg).toInt := h_17
      have h_18 : y.toInt < 4 := h_18
      have h_19 : ¬ zBit (f2 x.toNatClampNeg) y = 0 := h_19
      refine lv_if_ne (tgt := 28) hx hb dX1_shut_21 (by decide) (fun _ => ?_) (fun q => absurd q (by decide))
      refine lv_iconst (v := 0) hx hb dX1_shut_28 (by decide) ?_
      refine lv_istore_n (lv' := [(3, .int 0), (0, .ref h), (1, .int x), (2, .int y)]) hx hb dX1_shut_29 rfl hl (by decide) rfl (fun ls hl => ?_)
      refine lv_iload_n hx hb dX1_shut_30 rfl (lv_at hl 0 rfl) ?_
      refine lv_if_eq (tgt := 43) hx hb dX1_shut_31 (by decide) (fun _ => ?_) (fun q => absurd (by decide) q)
      refine lv_iload_n hx hb dX1_shut_43 rfl (lv_at hl 0 rfl) ?_
      have hw_21 : bCourse T h po la fw v0 v1 v2 v3 v4 v5 v6 v7 [(h, .inr (1, [.ref po, .ref a1_1, .int v0, .ref la, .int v1, .int v2, .int v3, .int v4, .int v5, .int v6, .int v7])), (a1_1, .inl (T.2 0, 7, .inl fw))] := ⟨a1_1, rfl⟩
      have G : zS T A s.heap s [[(h, .inr (1, [.ref po, .ref a1_1, .int v0, .ref la, .int v1, .int v2, .int v3, .int v4, .int v5, .int v6, .int v7])), (a1_1, .inl (T.2 0, 7, .inl fw))], wp, z] _ _ := G.re rfl
      exact z_zret C hr hlocks G (Nat.le_of_ble_eq_true rfl) (Nat.le_of_ble_eq_true rfl) dX1_shut_44 rfl ⟨wp, f2, rfl, hp, (fun fw v0 v1 => Or.inr ⟨rfl, by unfold zShF; rw [if_neg (fun q8 => by obtain ⟨⟨a1, a2, a3⟩, ⟨b1, b2, b3⟩, b4⟩ := q8; have b4 : zBit (f2 x.toNatClampNeg) y = 0 := b4; first | omega | (rcases hns with e9 | e9 | e9 | e9 | e9 | e9 | e9 <;> first | omega | exact absurd e9 b4 | exact absurd b4 e9) | exact absurd b4 (by assumption))], rfl⟩)⟩
    · have h_20 : (x.toInt < 0 ∨ cr.toInt ≤ x.toInt ∨ 7 ≤ x.toInt ∨ y.toInt < 0 ∨ (k1 x.toNatClampNeg).toInt ≤ y.toInt ∨ 4 ≤ y.toInt ∨ zBit (f2 x.toNatClampNeg) y = 0) := h_20
      have hns := h_20
      refine lv_if_ne (tgt := 28) hx hb dX1_shut_21 (by decide) (fun q => absurd (by decide) q) (fun _ => ?_)
      refine lv_iconst (v := 1) hx hb dX1_shut_24 (by decide) ?_
      refine lv_goto (tgt := 29) hx hb dX1_shut_25 (by decide) ?_
      refine lv_istore_n (lv' := [(3, .int 1), (0, .ref h), (1, .int x), (2, .int y)]) hx hb dX1_shut_29 rfl hl (by decide) rfl (fun ls hl => ?_)
      refine lv_iload_n hx hb dX1_shut_30 rfl (lv_at hl 0 rfl) ?_
      refine lv_if_eq (tgt := 43) hx hb dX1_shut_31 (by decide) (fun q => absurd q (by decide)) (fun _ => ?_)
      refine lv_aload_n hx hb dX1_shut_34 rfl (lv_at hl 1 rfl) ?_
      refine z_get C G clX1 0 rfl 0 (by decide) m_fl_RX1_12 rfl dX1_shut_35 ?_
      refine lv_iload_n hx hb dX1_shut_38 rfl (lv_at hl 2 rfl) ?_
      refine lv_iload_n hx hb dX1_shut_39 rfl (lv_at hl 3 rfl) ?_
      refine z_Vv (bc := [wp, z]) (br := [[(h, .inr (1, [.ref po, .ref a1_1, .int v0, .ref la, .int v1, .int v2, .int v3, .int v4, .int v5, .int v6, .int v7]))], [(a1_1, .inl (T.2 0, 7, .inl fw))]]) (As := [.int x, .int y]) (rest := []) C G (c_shutRoad l T po la f1 f2 f3 st wh wp cr inn k1 k2 k3 k4 z x y hp hz) (kV_RX1_144 C.2.2.2.2 (Nat.le_of_ble_eq_true rfl) (Nat.le_of_ble_eq_true rfl)) [2, 3] [0, 1] rfl rfl (ci := 6) (qc := (RX6, TX6, 6)) rfl rfl (List.mem_flatten.mpr ⟨_, List.mem_of_getElem? (i := 0) rfl, (bPosts_mem hp).choose_spec⟩) rfl rfl hl.1 dX1_shut_40 (Nat.le_of_ble_eq_true rfl) (Nat.le_of_ble_eq_true rfl) (fun b1 H locs hw G => ?_)
      obtain ⟨w2_22, g2_23, rfl, h_24, h_25⟩ := hw
      have G : zS T A s.heap s [[(h, .inr (1, [.ref po, .ref a1_1, .int v0, .ref la, .int v1, .int v2, .int v3, .int v4, .int v5, .int v6, .int v7]))], [(a1_1, .inl (T.2 0, 7, .inl fw))], w2_22, z] _ _ := G
      refine lv_iload_n hx hb dX1_shut_43 rfl (lv_at hl 0 rfl) ?_
      have hw_27 : bCourse T h po la fw v0 v1 v2 v3 v4 v5 v6 v7 [(h, .inr (1, [.ref po, .ref a1_1, .int v0, .ref la, .int v1, .int v2, .int v3, .int v4, .int v5, .int v6, .int v7])), (a1_1, .inl (T.2 0, 7, .inl fw))] := ⟨a1_1, rfl⟩
      have G : zS T A s.heap s [[(h, .inr (1, [.ref po, .ref a1_1, .int v0, .ref la, .int v1, .int v2, .int v3, .int v4, .int v5, .int v6, .int v7])), (a1_1, .inl (T.2 0, 7, .inl fw))], w2_22, z] _ _ := G.re rfl
      exact z_zret C hr hlocks G (Nat.le_of_ble_eq_true rfl) (Nat.le_of_ble_eq_true rfl) dX1_shut_44 rfl ⟨w2_22, g2_23, rfl, h_24, (fun fw v0 v1 => Or.inl ⟨rfl, by unfold zShF; rw [if_pos ⟨⟨by omega, by omega, by omega⟩, ⟨by omega, by omega, by omega⟩, (show zBit (f2 x.toNatClampNeg) y = 0 from by first | assumption | (rcases hns with e9 | e9 | e9 | e9 | e9 | e9 | e9 <;> first | exact e9 | (exfalso; omega)))⟩, h_25]; unfold zShut; rw [if_pos ⟨by omega, by omega, by omega, by omega, by omega, by omega⟩]⟩)⟩
  · have h_10 : (x.toInt < 0 ∨ cr.toInt ≤ x.toInt ∨ 7 ≤ x.toInt ∨ y.toInt < 0 ∨ (k1 x.toNatClampNeg).toInt ≤ y.toInt ∨ 4 ≤ y.toInt) := h_10
    refine lv_if_eq (tgt := 28) hx hb dX1_shut_9 (by decide) (fun _ => ?_) (fun q => absurd (by decide) q)
    refine lv_iconst (v := 0) hx hb dX1_shut_28 (by decide) ?_
    refine lv_istore_n (lv' := [(3, .int 0), (0, .ref h), (1, .int x), (2, .int y)]) hx hb dX1_shut_29 rfl hl (by decide) rfl (fun ls hl => ?_)
    refine lv_iload_n hx hb dX1_shut_30 rfl (lv_at hl 0 rfl) ?_
    refine lv_if_eq (tgt := 43) hx hb dX1_shut_31 (by decide) (fun _ => ?_) (fun q => absurd (by decide) q)
    refine lv_iload_n hx hb dX1_shut_43 rfl (lv_at hl 0 rfl) ?_
    have hw_28 : bCourse T h po la fw v0 v1 v2 v3 v4 v5 v6 v7 [(h, .inr (1, [.ref po, .ref a1_1, .int v0, .ref la, .int v1, .int v2, .int v3, .int v4, .int v5, .int v6, .int v7])), (a1_1, .inl (T.2 0, 7, .inl fw))] := ⟨a1_1, rfl⟩
    have G : zS T A s.heap s [[(h, .inr (1, [.ref po, .ref a1_1, .int v0, .ref la, .int v1, .int v2, .int v3, .int v4, .int v5, .int v6, .int v7])), (a1_1, .inl (T.2 0, 7, .inl fw))], wp, z] _ _ := G.re rfl
    exact z_zret C hr hlocks G (Nat.le_of_ble_eq_true rfl) (Nat.le_of_ble_eq_true rfl) dX1_shut_44 rfl ⟨wp, f2, rfl, hp, (fun fw v0 v1 => Or.inr ⟨rfl, by unfold zShF; rw [if_neg (fun q8 => by obtain ⟨⟨a1, a2, a3⟩, ⟨b1, b2, b3⟩, b4⟩ := q8; have b4 : zBit (f2 x.toNatClampNeg) y = 0 := b4; first | omega | (rcases hns with e9 | e9 | e9 | e9 | e9 | e9 | e9 <;> first | omega | exact absurd e9 b4 | exact absurd b4 e9) | exact absurd b4 (by assumption))], rfl⟩)⟩
set_option maxHeartbeats 4000000 in
set_option maxRecDepth 100000 in
/-- c_f_Course_open -/
theorem c_f_Course_open (l : Launch) (T : zTy) (h : Nat) (po : Nat) (la : Nat) (fw : Nat → Int32) (v0 : Int32) (v1 : Int32) (v2 : Int32) (v3 : Int32) (v4 : Int32) (v5 : Int32) (v6 : Int32) (v7 : Int32) (wc : va_W) (f1 : Nat → Int32) (f2 : Nat → Int32) (f3 : Nat → Int32) (st : Int32) (wh : Int32) (wp : va_W) (cr : Int32) (inn : Int32) (k1 : Nat → Int32) (k2 : Nat → Int32) (k3 : Nat → Int32) (k4 : Nat → Int32) (z : va_W) (x : Int32) (y : Int32) (hc : bCourse T h po la fw v0 v1 v2 v3 v4 v5 v6 v7 wc) (hp : bPosts T po la f1 f2 f3 st wh wp) (hz : bLand T la cr inn k1 k2 k3 k4 z) : zMi l T yX1_open cX1_open 4 (some .boolean) 3 0 0 [.ref h, .int x, .int y] [wc, wp, z] (fun (r : Int32) bs => ∃ (wp2 : va_W) (g2 : Nat → Int32), bs = [wc, wp2, z] ∧ bPosts T po la f1 g2 f3 st wh wp2 ∧ (∀ (fw : Nat → Int32) (v0 v1 : Int32), r = 1 ∧ zOpF cr k1 x y (f1, f2, fw, v0, v1) = some (f1, g2, fw, v0, v1) ∨ r = 0 ∧ zOpF cr k1 x y (f1, f2, fw, v0, v1) = none ∧ g2 = f2)) := by
  refine zMi_of (own := RX1) (by decide) rfl (Nat.le_of_ble_eq_true rfl) ?_
  intro p e s m args below meth c A ls C hr hlocks hnm hAe G hl
  have hx := C.1
  have hb := C.2.1
  have hl : lv_has ls 4 [(0, .ref h), (1, .int x), (2, .int y)] := hl
  refine lv_aload_n hx hb dX1_open_0 rfl (lv_at hl 0 rfl) ?_
  obtain ⟨a1_1, rfl⟩ := hc
  have G : zS T A s.heap s [[(h, .inr (1, [.ref po, .ref a1_1, .int v0, .ref la, .int v1, .int v2, .int v3, .int v4, .int v5, .int v6, .int v7]))], [(a1_1, .inl (T.2 0, 7, .inl fw))], wp, z] _ _ := G.re rfl
  refine z_get C G clX1 0 rfl 0 (by decide) m_fl_RX1_12 rfl dX1_open_1 ?_
  refine lv_iload_n hx hb dX1_open_4 rfl (lv_at hl 1 rfl) ?_
  refine lv_iload_n hx hb dX1_open_5 rfl (lv_at hl 2 rfl) ?_
  refine z_Vi (bc := [wp, z]) (br := [[(h, .inr (1, [.ref po, .ref a1_1, .int v0, .ref la, .int v1, .int v2, .int v3, .int v4, .int v5, .int v6, .int v7]))], [(a1_1, .inl (T.2 0, 7, .inl fw))]]) (As := [.int x, .int y]) (rest := []) C G (c_isShut l T po la f1 f2 f3 st wh wp cr inn k1 k2 k3 k4 z x y hp hz) (kV_RX1_141 C.2.2.2.2 (Nat.le_of_ble_eq_true rfl) (Nat.le_of_ble_eq_true rfl)) [2, 3] [0, 1] rfl rfl (ci := 6) (qc := (RX6, TX6, 6)) rfl rfl (List.mem_flatten.mpr ⟨_, List.mem_of_getElem? (i := 0) rfl, (bPosts_mem hp).choose_spec⟩) rfl rfl hl.1 dX1_open_6 (Nat.le_of_ble_eq_true rfl) (Nat.le_of_ble_eq_true rfl) (fun r_3 b1 H locs hw G => ?_)
  obtain ⟨rfl, hc_2⟩ := hw
  have G : zS T A s.heap s [[(h, .inr (1, [.ref po, .ref a1_1, .int v0, .ref la, .int v1, .int v2, .int v3, .int v4, .int v5, .int v6, .int v7]))], [(a1_1, .inl (T.2 0, 7, .inl fw))], wp, z] _ _ := G
  rcases hc_2 with ⟨rfl, h_4, h_5, h_6, h_7, h_8, h_9, h_10⟩ | ⟨rfl, h_11⟩
  · have h_4 : 0 ≤ x.toInt := h_4
    have h_5 : x.toInt < cr.toInt := h_5
    have h_6 : x.toInt < 7 := h_6
    have h_7 : 0 ≤ y.toInt := h_7
    have h_8 : y.toInt < (k1 x.toNatClampNeg).toInt := h_8
    have h_9 : y.toInt < 4 := h_9
    have h_10 : ¬ zBit (f2 x.toNatClampNeg) y = 0 := h_10
    refine lv_istore_n (lv' := [(3, .int 1), (0, .ref h), (1, .int x), (2, .int y)]) hx hb dX1_open_9 rfl hl (by decide) rfl (fun ls hl => ?_)
    refine lv_iload_n hx hb dX1_open_10 rfl (lv_at hl 0 rfl) ?_
    refine lv_if_eq (tgt := 23) hx hb dX1_open_11 (by decide) (fun q => absurd q (by decide)) (fun _ => ?_)
    refine lv_aload_n hx hb dX1_open_14 rfl (lv_at hl 1 rfl) ?_
    refine z_get C G clX1 0 rfl 0 (by decide) m_fl_RX1_12 rfl dX1_open_15 ?_
    refine lv_iload_n hx hb dX1_open_18 rfl (lv_at hl 2 rfl) ?_
    refine lv_iload_n hx hb dX1_open_19 rfl (lv_at hl 3 rfl) ?_
    refine z_Vv (bc := [wp, z]) (br := [[(h, .inr (1, [.ref po, .ref a1_1, .int v0, .ref la, .int v1, .int v2, .int v3, .int v4, .int v5, .int v6, .int v7]))], [(a1_1, .inl (T.2 0, 7, .inl fw))]]) (As := [.int x, .int y]) (rest := []) C G (c_openRoad l T po la f1 f2 f3 st wh wp cr inn k1 k2 k3 k4 z x y hp hz) (kV_RX1_147 C.2.2.2.2 (Nat.le_of_ble_eq_true rfl) (Nat.le_of_ble_eq_true rfl)) [2, 3] [0, 1] rfl rfl (ci := 6) (qc := (RX6, TX6, 6)) rfl rfl (List.mem_flatten.mpr ⟨_, List.mem_of_getElem? (i := 0) rfl, (bPosts_mem hp).choose_spec⟩) rfl rfl hl.1 dX1_open_20 (Nat.le_of_ble_eq_true rfl) (Nat.le_of_ble_eq_true rfl) (fun b1 H locs hw G => ?_)
    obtain ⟨w2_12, g2_13, rfl, h_14, h_15⟩ := hw
    have G : zS T A s.heap s [[(h, .inr (1, [.ref po, .ref a1_1, .int v0, .ref la, .int v1, .int v2, .int v3, .int v4, .int v5, .int v6, .int v7]))], [(a1_1, .inl (T.2 0, 7, .inl fw))], w2_12, z] _ _ := G
    refine lv_iload_n hx hb dX1_open_23 rfl (lv_at hl 0 rfl) ?_
    have hw_17 : bCourse T h po la fw v0 v1 v2 v3 v4 v5 v6 v7 [(h, .inr (1, [.ref po, .ref a1_1, .int v0, .ref la, .int v1, .int v2, .int v3, .int v4, .int v5, .int v6, .int v7])), (a1_1, .inl (T.2 0, 7, .inl fw))] := ⟨a1_1, rfl⟩
    have G : zS T A s.heap s [[(h, .inr (1, [.ref po, .ref a1_1, .int v0, .ref la, .int v1, .int v2, .int v3, .int v4, .int v5, .int v6, .int v7])), (a1_1, .inl (T.2 0, 7, .inl fw))], w2_12, z] _ _ := G.re rfl
    exact z_zret C hr hlocks G (Nat.le_of_ble_eq_true rfl) (Nat.le_of_ble_eq_true rfl) dX1_open_24 rfl ⟨w2_12, g2_13, rfl, h_14, (fun fw v0 v1 => Or.inl ⟨rfl, by unfold zOpF; rw [if_pos ⟨⟨by omega, by omega, by omega⟩, ⟨by omega, by omega, by omega⟩, (show ¬ zBit (f2 x.toNatClampNeg) y = 0 from by first | assumption | (rcases hns with e9 | e9 | e9 | e9 | e9 | e9 | e9 <;> first | exact e9 | (exfalso; omega)))⟩, h_15]; unfold zOpen; rw [if_pos ⟨by omega, by omega, by omega, by omega, by omega, by omega⟩]⟩)⟩
  · have h_11 : (x.toInt < 0 ∨ cr.toInt ≤ x.toInt ∨ 7 ≤ x.toInt ∨ y.toInt < 0 ∨ (k1 x.toNatClampNeg).toInt ≤ y.toInt ∨ 4 ≤ y.toInt ∨ zBit (f2 x.toNatClampNeg) y = 0) := h_11
    have hns := h_11
    refine lv_istore_n (lv' := [(3, .int 0), (0, .ref h), (1, .int x), (2, .int y)]) hx hb dX1_open_9 rfl hl (by decide) rfl (fun ls hl => ?_)
    refine lv_iload_n hx hb dX1_open_10 rfl (lv_at hl 0 rfl) ?_
    refine lv_if_eq (tgt := 23) hx hb dX1_open_11 (by decide) (fun _ => ?_) (fun q => absurd (by decide) q)
    refine lv_iload_n hx hb dX1_open_23 rfl (lv_at hl 0 rfl) ?_
    have hw_18 : bCourse T h po la fw v0 v1 v2 v3 v4 v5 v6 v7 [(h, .inr (1, [.ref po, .ref a1_1, .int v0, .ref la, .int v1, .int v2, .int v3, .int v4, .int v5, .int v6, .int v7])), (a1_1, .inl (T.2 0, 7, .inl fw))] := ⟨a1_1, rfl⟩
    have G : zS T A s.heap s [[(h, .inr (1, [.ref po, .ref a1_1, .int v0, .ref la, .int v1, .int v2, .int v3, .int v4, .int v5, .int v6, .int v7])), (a1_1, .inl (T.2 0, 7, .inl fw))], wp, z] _ _ := G.re rfl
    exact z_zret C hr hlocks G (Nat.le_of_ble_eq_true rfl) (Nat.le_of_ble_eq_true rfl) dX1_open_24 rfl ⟨wp, f2, rfl, hp, (fun fw v0 v1 => Or.inr ⟨rfl, by unfold zOpF; rw [if_neg (fun q8 => by obtain ⟨⟨a1, a2, a3⟩, ⟨b1, b2, b3⟩, b4⟩ := q8; have b4 : ¬ zBit (f2 x.toNatClampNeg) y = 0 := b4; first | omega | (rcases hns with e9 | e9 | e9 | e9 | e9 | e9 | e9 <;> first | omega | exact absurd e9 b4 | exact absurd b4 e9) | exact absurd b4 (by assumption))], rfl⟩)⟩
section ZDE
variable {cr inn d x y : Int32} {W Ro L : Nat → Int32} {D : zK}
theorem zDe_k0 (h : d.toInt = 0) : zDe cr inn W Ro L d x y D = zGoF cr W L x D := if_pos h
theorem zDe_k1 (h : d.toInt = 1) : zDe cr inn W Ro L d x y D = zRuF cr inn W L x D := by
  unfold zDe
  rw [if_neg (by omega), if_pos h]
theorem zDe_k2 (h : d.toInt = 2) : zDe cr inn W Ro L d x y D = zTuF cr W x D := by
  unfold zDe
  rw [if_neg (by omega), if_neg (by omega), if_pos h]
theorem zDe_k3 (h : d.toInt = 3) : zDe cr inn W Ro L d x y D = zAdF cr x D := by
  unfold zDe
  rw [if_neg (by omega), if_neg (by omega), if_neg (by omega), if_pos h]
theorem zDe_k4 (h : d.toInt = 4) : zDe cr inn W Ro L d x y D = zShF cr Ro x y D := by
  unfold zDe
  rw [if_neg (by omega), if_neg (by omega), if_neg (by omega), if_neg (by omega), if_pos h]
theorem zDe_k5 (h : d.toInt = 5) : zDe cr inn W Ro L d x y D = zOpF cr Ro x y D := by
  unfold zDe
  rw [if_neg (by omega), if_neg (by omega), if_neg (by omega), if_neg (by omega), if_neg (by omega), if_pos h]
theorem zDe_kn (h : d.toInt < 0 ∨ 5 < d.toInt) : zDe cr inn W Ro L d x y D = none := by
  unfold zDe
  rw [if_neg (by omega), if_neg (by omega), if_neg (by omega), if_neg (by omega), if_neg (by omega), if_neg (by omega)]
end ZDE
theorem zTurn_has {cr inn x : Int32} {f1 f2 f3 k1 : Nat → Int32} (hI : zP3 f1 f3) (hW : ∀ j, j < 7 → f3 j = zWays cr inn k1 (nI j)) (h : ¬ zTurn f1 f2 f3 x = -1) : zHas cr x := by
  have g := (zTurn_lt (f2 := f2) hI x).resolve_left h
  have e := z_clI g.1
  have t := nI_toInt (n := x.toNatClampNeg) (by omega)
  have w := hW x.toNatClampNeg (by omega)
  have q := zWays_in (cr := cr) (inn := inn) (f1 := k1) (x := nI x.toNatClampNeg) (fun q => by
    rw [w, q] at g
    have z0 : (0 : Int32).toInt = 0 := rfl
    omega)
  exact ⟨g.1, by omega, g.2.1⟩
theorem zTuF_i {cr x : Int32} {W P S H g1 : Nat → Int32} {st nv : Int32} (h : zHas cr x ∧ ¬ zTurn P S W x = -1) (e : g1 = zPost P S W x) : zTuF cr W x (P, S, H, st, nv) = some (g1, S, H, st, nv) := by
  unfold zTuF
  rw [if_pos h, e]
theorem zTuF_n {cr x : Int32} {W P S H g1 : Nat → Int32} {st nv : Int32} (h : zTurn P S W x = -1) (e : g1 = zPost P S W x) : zTuF cr W x (P, S, H, st, nv) = none ∧ g1 = P := by
  unfold zTuF
  refine ⟨if_neg (fun q => q.2 h), ?_⟩
  rw [e]
  unfold zPost
  rw [if_pos h]
/-- deeds one behind the other, from the k-th, n of them at most: which can't be done, and what is then -/
def zDayN (F : Nat → zK → Option zK) : Nat → Nat → zK → Nat × zK
  | 0, k, D => (k, D)
  | n + 1, k, D => match F k D with
    | none => (k, D)
    | some E => zDayN F n (k + 1) E
theorem zInc1 (i : Nat) : nI i + 1 = nI (i + 1) := z_inc i 1
theorem zDayN_z {F : Nat → zK → Option zK} {n k : Nat} {D : zK} (h : n = 0) : zDayN F n k D = (k, D) := by
  subst h
  rfl
theorem zDayN_s {F : Nat → zK → Option zK} {n k : Nat} {D E : zK} (h : F k D = some E) : zDayN F (n + 1) k D = zDayN F n (k + 1) E := by
  rw [zDayN, h]
theorem zDayN_n {F : Nat → zK → Option zK} {n k : Nat} {D : zK} (h : F k D = none) : zDayN F n k D = (k, D) := by
  cases n with
  | zero => rfl
  | succ n => rw [zDayN, h]
set_option maxHeartbeats 4000000 in
set_option maxRecDepth 100000 in
/-- c_f_does -/
theorem c_f_does (l : Launch) (T : zTy) (h : Nat) (po : Nat) (la : Nat) (fw : Nat → Int32) (v0 : Int32) (v1 : Int32) (v2 : Int32) (v3 : Int32) (v4 : Int32) (v5 : Int32) (v6 : Int32) (v7 : Int32) (wc : va_W) (f1 : Nat → Int32) (f2 : Nat → Int32) (f3 : Nat → Int32) (st : Int32) (wh : Int32) (wp : va_W) (cr : Int32) (inn : Int32) (k1 : Nat → Int32) (k2 : Nat → Int32) (k3 : Nat → Int32) (k4 : Nat → Int32) (z : va_W) (d : Int32) (x : Int32) (y : Int32) (hc : bCourse T h po la fw v0 v1 v2 v3 v4 v5 v6 v7 wc) (hp : bPosts T po la f1 f2 f3 st wh wp) (hz : bLand T la cr inn k1 k2 k3 k4 z) (hP : zP3 f1 f3) (hI : zLI cr k1 k3) (hW : ∀ j, j < 7 → f3 j = zWays cr inn k1 (nI j)) (hLq : zLq cr k1 k2) : zMi l T yX1_does cX1_does 5 (some .boolean) 6 0 0 [.ref h, .int d, .int x, .int y] [wc, wp, z] (fun (r : Int32) bs => ∃ (wc2 : va_W) (gw : Nat → Int32) (u0 : Int32) (u1 : Int32) (u2 : Int32) (u3 : Int32) (u4 : Int32) (u5 : Int32) (u6 : Int32) (u7 : Int32) (wp2 : va_W) (g1 : Nat → Int32) (g2 : Nat → Int32) (sa : Int32) (wa : Int32), bs = [wc2, wp2, z] ∧ bCourse T h po la gw u0 u1 u2 u3 u4 u5 u6 u7 wc2 ∧ bPosts T po la g1 g2 f3 sa wa wp2 ∧ zP3 g1 f3 ∧ (r = 1 ∧ zDe cr inn f3 k1 k2 d x y (f1, f2, fw, v0, v1) = some (g1, g2, gw, u0, u1) ∧ u2 = v2 + 1 ∨ r = 0 ∧ zDe cr inn f3 k1 k2 d x y (f1, f2, fw, v0, v1) = none ∧ g1 = f1 ∧ g2 = f2 ∧ gw = fw ∧ u0 = v0 ∧ u1 = v1 ∧ u2 = v2) ∧ u7 = v7) := by
  refine zMi_of (own := RX1) (by decide) rfl (Nat.le_of_ble_eq_true rfl) ?_
  intro p e s m args below meth c A ls C hr hlocks hnm hAe G hl
  have hx := C.1
  have hb := C.2.1
  have hl : lv_has ls 5 [(0, .ref h), (1, .int d), (2, .int x), (3, .int y)] := hl
  refine lv_iload_n hx hb dX1_does_0 rfl (lv_at hl 1 rfl) ?_
  by_cases c_1o : d.toInt < 0 ∨ 5 < d.toInt
  · refine lv_tableOut (tgt := 114) hx hb dX1_does_1 c_1o (by decide) ?_
    refine lv_iconst (v := 0) hx hb dX1_does_114 (by decide) ?_
    refine lv_istore (lv' := [(4, .int 0), (0, .ref h), (1, .int d), (2, .int x), (3, .int y)]) hx hb dX1_does_115 hl (by decide) rfl (fun ls hl => ?_)
    refine lv_iload hx hb dX1_does_117 (lv_at hl 0 rfl) ?_
    refine lv_if_eq (tgt := 136) hx hb dX1_does_119 (by decide) (fun _ => ?_) (fun q => absurd (by decide) q)
    refine lv_iload hx hb dX1_does_136 (lv_at hl 0 rfl) ?_
    exact z_zret C hr hlocks G (Nat.le_of_ble_eq_true rfl) (Nat.le_of_ble_eq_true rfl) dX1_does_138 rfl ⟨wc, fw, v0, v1, v2, v3, v4, v5, v6, v7, wp, f1, f2, st, wh, rfl, hc, hp, hP, (Or.inr ⟨rfl, zDe_kn (by omega), rfl, rfl, rfl, rfl, rfl, rfl⟩), rfl⟩
  · have c_1r : d.toInt = 0 ∨ d.toInt = 1 ∨ d.toInt = 2 ∨ d.toInt = 3 ∨ d.toInt = 4 ∨ d.toInt = 5 := by omega
    rcases c_1r with c_1 | c_1 | c_1 | c_1 | c_1 | c_1
    · refine lv_tableIn (tgt := 40) hx hb dX1_does_1 (by omega) (by omega) (by rw [c_1]; rfl) (by decide) ?_
      refine lv_aload_n hx hb dX1_does_40 rfl (lv_at hl 0 rfl) ?_
      refine lv_iload_n hx hb dX1_does_41 rfl (lv_at hl 2 rfl) ?_
      refine z_Vi (bc := [wc, wp, z]) (br := []) (As := [.int x]) (rest := []) C G (c_f_go l T h po la fw v0 v1 v2 v3 v4 v5 v6 v7 wc f1 f2 f3 st wh wp cr inn k1 k2 k3 k4 z x hc hp hz hP hI hW hLq) (kV_RX1_96 C.2.2.2.2 (Nat.le_of_ble_eq_true rfl) (Nat.le_of_ble_eq_true rfl)) [0, 1, 2] [] rfl rfl (ci := 1) (qc := (RX1, TX1, 11)) rfl rfl (List.mem_flatten.mpr ⟨_, List.mem_of_getElem? (i := 0) rfl, (bCourse_mem hc).choose_spec⟩) rfl rfl hl.1 dX1_does_42 (Nat.le_of_ble_eq_true rfl) (Nat.le_of_ble_eq_true rfl) (fun r_22 b1 H locs hw G => ?_)
      obtain ⟨wc2_2, gw_3, u0_4, u1_5, u2_6, u3_7, u4_8, u5_9, u6_10, u7_11, wp2_12, g1_13, g2_14, sa_15, wa_16, rfl, h_17, h_18, h_19, h_20, h_21⟩ := hw
      have G : zS T A s.heap s [wc2_2, wp2_12, z] _ _ := G
      refine lv_istore (lv' := [(4, .int r_22), (0, .ref h), (1, .int d), (2, .int x), (3, .int y)]) hx hb dX1_does_45 hl (by decide) rfl (fun ls hl => ?_)
      refine lv_goto (tgt := 117) hx hb dX1_does_47 (by decide) ?_
      refine lv_iload hx hb dX1_does_117 (lv_at hl 0 rfl) ?_
      refine lv_if_eq (tgt := 136) hx hb dX1_does_119 (by decide) (fun c_23 => ?_) (fun c_23 => ?_)
      · have c_23n : r_22.toInt = (0 : Int) := (fa_eq _ _).mp c_23
        have hs := (h_20).resolve_left (fun q8 => by have e8 : r_22.toInt = 1 := (by rw [q8.1]; rfl); omega)
        refine lv_iload hx hb dX1_does_136 (lv_at hl 0 rfl) ?_
        exact z_zret C hr hlocks G (Nat.le_of_ble_eq_true rfl) (Nat.le_of_ble_eq_true rfl) dX1_does_138 (by rcases h_20 with q | q <;> rw [q.1] <;> rfl) ⟨wc2_2, gw_3, u0_4, u1_5, u2_6, u3_7, u4_8, u5_9, u6_10, u7_11, wp2_12, g1_13, g2_14, sa_15, wa_16, rfl, h_17, h_18, (show zP3 g1_13 f3 from h_19), (Or.inr ⟨hs.1, (zDe_k0 (by omega)).trans hs.2.1, hs.2.2.1, hs.2.2.2.1, hs.2.2.2.2.1, hs.2.2.2.2.2.1, hs.2.2.2.2.2.2, h_21.1⟩), h_21.2⟩
      · have c_23n : ¬ r_22.toInt = (0 : Int) := fun q => c_23 ((fa_eq _ _).mpr q)
        have hs := (h_20).resolve_right (fun q8 => by have e8 : r_22.toInt = 0 := (by rw [q8.1]; rfl); omega)
        refine lv_aload_n hx hb dX1_does_122 rfl (lv_at hl 1 rfl) ?_
        refine lv_dup hx hb dX1_does_123 rfl ?_
        obtain ⟨a1_24, rfl⟩ := h_17
        have G : zS T A s.heap s [[(h, .inr (1, [.ref po, .ref a1_24, .int u0_4, .ref la, .int u1_5, .int u2_6, .int u3_7, .int u4_8, .int u5_9, .int u6_10, .int u7_11]))], [(a1_24, .inl (T.2 0, 7, .inl gw_3))], wp2_12, z] _ _ := G.re rfl
        refine z_get C G clX1 0 rfl 5 (by decide) m_fl_RX1_41 rfl dX1_does_124 ?_
        refine lv_iconst (v := 1) hx hb dX1_does_127 (by decide) ?_
        refine lv_iadd hx hb dX1_does_128 ?_
        refine z_put C G clX1 0 rfl 5 (by decide) m_fl_RX1_41 rfl rfl rfl (Nat.le_of_ble_eq_true rfl) dX1_does_129 (fun H locs G => ?_)
        have G : zS T A s.heap s [[(h, .inr (1, [.ref po, .ref a1_24, .int u0_4, .ref la, .int u1_5, .int (u2_6 + 1), .int u3_7, .int u4_8, .int u5_9, .int u6_10, .int u7_11]))], [(a1_24, .inl (T.2 0, 7, .inl gw_3))], wp2_12, z] _ _ := G
        refine lv_aload_n hx hb dX1_does_132 rfl (lv_at hl 1 rfl) ?_
        have hw_25 : bCourse T h po la gw_3 u0_4 u1_5 (u2_6 + 1) u3_7 u4_8 u5_9 u6_10 u7_11 [(h, .inr (1, [.ref po, .ref a1_24, .int u0_4, .ref la, .int u1_5, .int (u2_6 + 1), .int u3_7, .int u4_8, .int u5_9, .int u6_10, .int u7_11])), (a1_24, .inl (T.2 0, 7, .inl gw_3))] := ⟨a1_24, rfl⟩
        have G : zS T A s.heap s [[(h, .inr (1, [.ref po, .ref a1_24, .int u0_4, .ref la, .int u1_5, .int (u2_6 + 1), .int u3_7, .int u4_8, .int u5_9, .int u6_10, .int u7_11])), (a1_24, .inl (T.2 0, 7, .inl gw_3))], wp2_12, z] _ _ := G.re rfl
        refine z_Vv (bc := [[(h, .inr (1, [.ref po, .ref a1_24, .int u0_4, .ref la, .int u1_5, .int (u2_6 + 1), .int u3_7, .int u4_8, .int u5_9, .int u6_10, .int u7_11])), (a1_24, .inl (T.2 0, 7, .inl gw_3))], z]) (br := [wp2_12]) (As := []) (rest := []) C G (c_lookAtCrowd l T h po la gw_3 u0_4 u1_5 (u2_6 + 1) u3_7 u4_8 u5_9 u6_10 u7_11 ([(h, .inr (1, [.ref po, .ref a1_24, .int u0_4, .ref la, .int u1_5, .int (u2_6 + 1), .int u3_7, .int u4_8, .int u5_9, .int u6_10, .int u7_11])), (a1_24, .inl (T.2 0, 7, .inl gw_3))]) cr inn k1 k2 k3 k4 z hw_25 hz (by first | with_reducible assumption | with_reducible rfl | omega | assumption | rfl)) (kV_RX1_56 C.2.2.2.2 (Nat.le_of_ble_eq_true rfl) (Nat.le_of_ble_eq_true rfl)) [0, 2] [1] rfl rfl (ci := 1) (qc := (RX1, TX1, 11)) rfl rfl (List.mem_flatten.mpr ⟨_, List.mem_of_getElem? (i := 0) rfl, (bCourse_mem hw_25).choose_spec⟩) rfl rfl hl.1 dX1_does_133 (Nat.le_of_ble_eq_true rfl) (Nat.le_of_ble_eq_true rfl) (fun b1 H locs hw G => ?_)
        obtain ⟨wc2_26, u6_27, rfl, h_28⟩ := hw
        have G : zS T A s.heap s [wp2_12, wc2_26, z] _ _ := G
        refine lv_iload hx hb dX1_does_136 (lv_at hl 0 rfl) ?_
        have G := G.sub (bs' := [wc2_26, wp2_12, z]) [1, 0, 2] rfl
        exact z_zret C hr hlocks G (Nat.le_of_ble_eq_true rfl) (Nat.le_of_ble_eq_true rfl) dX1_does_138 (by rcases h_20 with q | q <;> rw [q.1] <;> rfl) ⟨wc2_26, gw_3, u0_4, u1_5, (u2_6 + 1), u3_7, u4_8, u5_9, u6_27, u7_11, wp2_12, g1_13, g2_14, sa_15, wa_16, rfl, h_28, h_18, (show zP3 g1_13 f3 from h_19), (Or.inl ⟨hs.1, (zDe_k0 (by omega)).trans hs.2, by rw [h_21.1]⟩), h_21.2⟩
    · refine lv_tableIn (tgt := 50) hx hb dX1_does_1 (by omega) (by omega) (by rw [c_1]; rfl) (by decide) ?_
      refine lv_aload_n hx hb dX1_does_50 rfl (lv_at hl 0 rfl) ?_
      refine lv_iload_n hx hb dX1_does_51 rfl (lv_at hl 2 rfl) ?_
      refine z_Vi (bc := [wc, wp, z]) (br := []) (As := [.int x]) (rest := []) C G (c_f_Course_run l T h po la fw v0 v1 v2 v3 v4 v5 v6 v7 wc f1 f2 f3 st wh wp cr inn k1 k2 k3 k4 z x hc hp hz hP hI hW hLq) (kV_RX1_92 C.2.2.2.2 (Nat.le_of_ble_eq_true rfl) (Nat.le_of_ble_eq_true rfl)) [0, 1, 2] [] rfl rfl (ci := 1) (qc := (RX1, TX1, 11)) rfl rfl (List.mem_flatten.mpr ⟨_, List.mem_of_getElem? (i := 0) rfl, (bCourse_mem hc).choose_spec⟩) rfl rfl hl.1 dX1_does_52 (Nat.le_of_ble_eq_true rfl) (Nat.le_of_ble_eq_true rfl) (fun r_50 b1 H locs hw G => ?_)
      obtain ⟨wc2_30, gw_31, u0_32, u1_33, u2_34, u3_35, u4_36, u5_37, u6_38, u7_39, wp2_40, g1_41, g2_42, sa_43, wa_44, rfl, h_45, h_46, h_47, h_48, h_49⟩ := hw
      have G : zS T A s.heap s [wc2_30, wp2_40, z] _ _ := G
      refine lv_istore (lv' := [(4, .int r_50), (0, .ref h), (1, .int d), (2, .int x), (3, .int y)]) hx hb dX1_does_55 hl (by decide) rfl (fun ls hl => ?_)
      refine lv_goto (tgt := 117) hx hb dX1_does_57 (by decide) ?_
      refine lv_iload hx hb dX1_does_117 (lv_at hl 0 rfl) ?_
      refine lv_if_eq (tgt := 136) hx hb dX1_does_119 (by decide) (fun c_51 => ?_) (fun c_51 => ?_)
      · have c_51n : r_50.toInt = (0 : Int) := (fa_eq _ _).mp c_51
        have hs := (h_48).resolve_left (fun q8 => by have e8 : r_50.toInt = 1 := (by rw [q8.1]; rfl); omega)
        refine lv_iload hx hb dX1_does_136 (lv_at hl 0 rfl) ?_
        exact z_zret C hr hlocks G (Nat.le_of_ble_eq_true rfl) (Nat.le_of_ble_eq_true rfl) dX1_does_138 (by rcases h_48 with q | q <;> rw [q.1] <;> rfl) ⟨wc2_30, gw_31, u0_32, u1_33, u2_34, u3_35, u4_36, u5_37, u6_38, u7_39, wp2_40, g1_41, g2_42, sa_43, wa_44, rfl, h_45, h_46, (show zP3 g1_41 f3 from h_47), (Or.inr ⟨hs.1, (zDe_k1 (by omega)).trans hs.2.1, hs.2.2.1, hs.2.2.2.1, hs.2.2.2.2.1, hs.2.2.2.2.2.1, hs.2.2.2.2.2.2, h_49.1⟩), h_49.2⟩
      · have c_51n : ¬ r_50.toInt = (0 : Int) := fun q => c_51 ((fa_eq _ _).mpr q)
        have hs := (h_48).resolve_right (fun q8 => by have e8 : r_50.toInt = 0 := (by rw [q8.1]; rfl); omega)
        refine lv_aload_n hx hb dX1_does_122 rfl (lv_at hl 1 rfl) ?_
        refine lv_dup hx hb dX1_does_123 rfl ?_
        obtain ⟨a1_52, rfl⟩ := h_45
        have G : zS T A s.heap s [[(h, .inr (1, [.ref po, .ref a1_52, .int u0_32, .ref la, .int u1_33, .int u2_34, .int u3_35, .int u4_36, .int u5_37, .int u6_38, .int u7_39]))], [(a1_52, .inl (T.2 0, 7, .inl gw_31))], wp2_40, z] _ _ := G.re rfl
        refine z_get C G clX1 0 rfl 5 (by decide) m_fl_RX1_41 rfl dX1_does_124 ?_
        refine lv_iconst (v := 1) hx hb dX1_does_127 (by decide) ?_
        refine lv_iadd hx hb dX1_does_128 ?_
        refine z_put C G clX1 0 rfl 5 (by decide) m_fl_RX1_41 rfl rfl rfl (Nat.le_of_ble_eq_true rfl) dX1_does_129 (fun H locs G => ?_)
        have G : zS T A s.heap s [[(h, .inr (1, [.ref po, .ref a1_52, .int u0_32, .ref la, .int u1_33, .int (u2_34 + 1), .int u3_35, .int u4_36, .int u5_37, .int u6_38, .int u7_39]))], [(a1_52, .inl (T.2 0, 7, .inl gw_31))], wp2_40, z] _ _ := G
        refine lv_aload_n hx hb dX1_does_132 rfl (lv_at hl 1 rfl) ?_
        have hw_53 : bCourse T h po la gw_31 u0_32 u1_33 (u2_34 + 1) u3_35 u4_36 u5_37 u6_38 u7_39 [(h, .inr (1, [.ref po, .ref a1_52, .int u0_32, .ref la, .int u1_33, .int (u2_34 + 1), .int u3_35, .int u4_36, .int u5_37, .int u6_38, .int u7_39])), (a1_52, .inl (T.2 0, 7, .inl gw_31))] := ⟨a1_52, rfl⟩
        have G : zS T A s.heap s [[(h, .inr (1, [.ref po, .ref a1_52, .int u0_32, .ref la, .int u1_33, .int (u2_34 + 1), .int u3_35, .int u4_36, .int u5_37, .int u6_38, .int u7_39])), (a1_52, .inl (T.2 0, 7, .inl gw_31))], wp2_40, z] _ _ := G.re rfl
        refine z_Vv (bc := [[(h, .inr (1, [.ref po, .ref a1_52, .int u0_32, .ref la, .int u1_33, .int (u2_34 + 1), .int u3_35, .int u4_36, .int u5_37, .int u6_38, .int u7_39])), (a1_52, .inl (T.2 0, 7, .inl gw_31))], z]) (br := [wp2_40]) (As := []) (rest := []) C G (c_lookAtCrowd l T h po la gw_31 u0_32 u1_33 (u2_34 + 1) u3_35 u4_36 u5_37 u6_38 u7_39 ([(h, .inr (1, [.ref po, .ref a1_52, .int u0_32, .ref la, .int u1_33, .int (u2_34 + 1), .int u3_35, .int u4_36, .int u5_37, .int u6_38, .int u7_39])), (a1_52, .inl (T.2 0, 7, .inl gw_31))]) cr inn k1 k2 k3 k4 z hw_53 hz (by first | with_reducible assumption | with_reducible rfl | omega | assumption | rfl)) (kV_RX1_56 C.2.2.2.2 (Nat.le_of_ble_eq_true rfl) (Nat.le_of_ble_eq_true rfl)) [0, 2] [1] rfl rfl (ci := 1) (qc := (RX1, TX1, 11)) rfl rfl (List.mem_flatten.mpr ⟨_, List.mem_of_getElem? (i := 0) rfl, (bCourse_mem hw_53).choose_spec⟩) rfl rfl hl.1 dX1_does_133 (Nat.le_of_ble_eq_true rfl) (Nat.le_of_ble_eq_true rfl) (fun b1 H locs hw G => ?_)
        obtain ⟨wc2_54, u6_55, rfl, h_56⟩ := hw
        have G : zS T A s.heap s [wp2_40, wc2_54, z] _ _ := G
        refine lv_iload hx hb dX1_does_136 (lv_at hl 0 rfl) ?_
        have G := G.sub (bs' := [wc2_54, wp2_40, z]) [1, 0, 2] rfl
        exact z_zret C hr hlocks G (Nat.le_of_ble_eq_true rfl) (Nat.le_of_ble_eq_true rfl) dX1_does_138 (by rcases h_48 with q | q <;> rw [q.1] <;> rfl) ⟨wc2_54, gw_31, u0_32, u1_33, (u2_34 + 1), u3_35, u4_36, u5_37, u6_55, u7_39, wp2_40, g1_41, g2_42, sa_43, wa_44, rfl, h_56, h_46, (show zP3 g1_41 f3 from h_47), (Or.inl ⟨hs.1, (zDe_k1 (by omega)).trans hs.2, by rw [h_49.1]⟩), h_49.2⟩
    · refine lv_tableIn (tgt := 60) hx hb dX1_does_1 (by omega) (by omega) (by rw [c_1]; rfl) (by decide) ?_
      refine lv_aload_n hx hb dX1_does_60 rfl (lv_at hl 0 rfl) ?_
      obtain ⟨a1_58, rfl⟩ := hc
      have G : zS T A s.heap s [[(h, .inr (1, [.ref po, .ref a1_58, .int v0, .ref la, .int v1, .int v2, .int v3, .int v4, .int v5, .int v6, .int v7]))], [(a1_58, .inl (T.2 0, 7, .inl fw))], wp, z] _ _ := G.re rfl
      refine z_get C G clX1 0 rfl 0 (by decide) m_fl_RX1_12 rfl dX1_does_61 ?_
      refine lv_iload_n hx hb dX1_does_64 rfl (lv_at hl 2 rfl) ?_
      refine z_Vi (bc := [wp]) (br := [[(h, .inr (1, [.ref po, .ref a1_58, .int v0, .ref la, .int v1, .int v2, .int v3, .int v4, .int v5, .int v6, .int v7]))], [(a1_58, .inl (T.2 0, 7, .inl fw))], z]) (As := [.int x]) (rest := []) C G (c_turn l T po la f1 f2 f3 st wh wp x hp hP) (kV_RX1_99 C.2.2.2.2 (Nat.le_of_ble_eq_true rfl) (Nat.le_of_ble_eq_true rfl)) [2] [0, 1, 3] rfl rfl (ci := 6) (qc := (RX6, TX6, 6)) rfl rfl (List.mem_flatten.mpr ⟨_, List.mem_of_getElem? (i := 0) rfl, (bPosts_mem hp).choose_spec⟩) rfl rfl hl.1 dX1_does_65 (Nat.le_of_ble_eq_true rfl) (Nat.le_of_ble_eq_true rfl) (fun r_64 b1 H locs hw G => ?_)
      obtain ⟨w2_59, g1_60, rfl, h_61, h_62, h_63⟩ := hw
      have G : zS T A s.heap s [[(h, .inr (1, [.ref po, .ref a1_58, .int v0, .ref la, .int v1, .int v2, .int v3, .int v4, .int v5, .int v6, .int v7]))], [(a1_58, .inl (T.2 0, 7, .inl fw))], z, w2_59] _ _ := G
      subst h_61
      have hQt : zP3 g1_60 f3 := by rw [h_63]; exact zPost_I hP _
      refine lv_iconst (v := (-1)) hx hb dX1_does_68 (by decide) ?_
      refine lv_icmp_eq (tgt := 76) hx hb dX1_does_69 (by decide) (fun c_65 => ?_) (fun c_65 => ?_)
      · have c_65n : (zTurn f1 f2 f3 x).toInt = (-1 : Int) := (fa_eq _ _).mp c_65
        refine lv_iconst (v := 0) hx hb dX1_does_76 (by decide) ?_
        refine lv_istore (lv' := [(4, .int 0), (0, .ref h), (1, .int d), (2, .int x), (3, .int y)]) hx hb dX1_does_77 hl (by decide) rfl (fun ls hl => ?_)
        refine lv_goto (tgt := 117) hx hb dX1_does_79 (by decide) ?_
        refine lv_iload hx hb dX1_does_117 (lv_at hl 0 rfl) ?_
        refine lv_if_eq (tgt := 136) hx hb dX1_does_119 (by decide) (fun _ => ?_) (fun q => absurd (by decide) q)
        refine lv_iload hx hb dX1_does_136 (lv_at hl 0 rfl) ?_
        have hw_66 : bCourse T h po la fw v0 v1 v2 v3 v4 v5 v6 v7 [(h, .inr (1, [.ref po, .ref a1_58, .int v0, .ref la, .int v1, .int v2, .int v3, .int v4, .int v5, .int v6, .int v7])), (a1_58, .inl (T.2 0, 7, .inl fw))] := ⟨a1_58, rfl⟩
        have G : zS T A s.heap s [[(h, .inr (1, [.ref po, .ref a1_58, .int v0, .ref la, .int v1, .int v2, .int v3, .int v4, .int v5, .int v6, .int v7])), (a1_58, .inl (T.2 0, 7, .inl fw))], z, w2_59] _ _ := G.re rfl
        have G := G.sub (bs' := [[(h, .inr (1, [.ref po, .ref a1_58, .int v0, .ref la, .int v1, .int v2, .int v3, .int v4, .int v5, .int v6, .int v7])), (a1_58, .inl (T.2 0, 7, .inl fw))], w2_59, z]) [0, 2, 1] rfl
        exact z_zret C hr hlocks G (Nat.le_of_ble_eq_true rfl) (Nat.le_of_ble_eq_true rfl) dX1_does_138 rfl ⟨([(h, .inr (1, [.ref po, .ref a1_58, .int v0, .ref la, .int v1, .int v2, .int v3, .int v4, .int v5, .int v6, .int v7])), (a1_58, .inl (T.2 0, 7, .inl fw))]), fw, v0, v1, v2, v3, v4, v5, v6, v7, w2_59, g1_60, f2, st, wh, rfl, hw_66, h_62, hQt, (Or.inr ⟨rfl, (zDe_k2 (by omega)).trans (zTuF_n (by assumption) h_63).1, (zTuF_n (cr := cr) (H := fw) (st := v0) (nv := v1) (by assumption) h_63).2, rfl, rfl, rfl, rfl, rfl⟩), rfl⟩
      · have c_65n : ¬ (zTurn f1 f2 f3 x).toInt = (-1 : Int) := fun q => c_65 ((fa_eq _ _).mpr q)
        refine lv_iconst (v := 1) hx hb dX1_does_72 (by decide) ?_
        refine lv_goto (tgt := 77) hx hb dX1_does_73 (by decide) ?_
        refine lv_istore (lv' := [(4, .int 1), (0, .ref h), (1, .int d), (2, .int x), (3, .int y)]) hx hb dX1_does_77 hl (by decide) rfl (fun ls hl => ?_)
        refine lv_goto (tgt := 117) hx hb dX1_does_79 (by decide) ?_
        refine lv_iload hx hb dX1_does_117 (lv_at hl 0 rfl) ?_
        refine lv_if_eq (tgt := 136) hx hb dX1_does_119 (by decide) (fun q => absurd q (by decide)) (fun _ => ?_)
        refine lv_aload_n hx hb dX1_does_122 rfl (lv_at hl 1 rfl) ?_
        refine lv_dup hx hb dX1_does_123 rfl ?_
        refine z_get C G clX1 0 rfl 5 (by decide) m_fl_RX1_41 rfl dX1_does_124 ?_
        refine lv_iconst (v := 1) hx hb dX1_does_127 (by decide) ?_
        refine lv_iadd hx hb dX1_does_128 ?_
        refine z_put C G clX1 0 rfl 5 (by decide) m_fl_RX1_41 rfl rfl rfl (Nat.le_of_ble_eq_true rfl) dX1_does_129 (fun H locs G => ?_)
        have G : zS T A s.heap s [[(h, .inr (1, [.ref po, .ref a1_58, .int v0, .ref la, .int v1, .int (v2 + 1), .int v3, .int v4, .int v5, .int v6, .int v7]))], [(a1_58, .inl (T.2 0, 7, .inl fw))], z, w2_59] _ _ := G
        refine lv_aload_n hx hb dX1_does_132 rfl (lv_at hl 1 rfl) ?_
        have hw_67 : bCourse T h po la fw v0 v1 (v2 + 1) v3 v4 v5 v6 v7 [(h, .inr (1, [.ref po, .ref a1_58, .int v0, .ref la, .int v1, .int (v2 + 1), .int v3, .int v4, .int v5, .int v6, .int v7])), (a1_58, .inl (T.2 0, 7, .inl fw))] := ⟨a1_58, rfl⟩
        have G : zS T A s.heap s [[(h, .inr (1, [.ref po, .ref a1_58, .int v0, .ref la, .int v1, .int (v2 + 1), .int v3, .int v4, .int v5, .int v6, .int v7])), (a1_58, .inl (T.2 0, 7, .inl fw))], z, w2_59] _ _ := G.re rfl
        refine z_Vv (bc := [[(h, .inr (1, [.ref po, .ref a1_58, .int v0, .ref la, .int v1, .int (v2 + 1), .int v3, .int v4, .int v5, .int v6, .int v7])), (a1_58, .inl (T.2 0, 7, .inl fw))], z]) (br := [w2_59]) (As := []) (rest := []) C G (c_lookAtCrowd l T h po la fw v0 v1 (v2 + 1) v3 v4 v5 v6 v7 ([(h, .inr (1, [.ref po, .ref a1_58, .int v0, .ref la, .int v1, .int (v2 + 1), .int v3, .int v4, .int v5, .int v6, .int v7])), (a1_58, .inl (T.2 0, 7, .inl fw))]) cr inn k1 k2 k3 k4 z hw_67 hz (by first | with_reducible assumption | with_reducible rfl | omega | assumption | rfl)) (kV_RX1_56 C.2.2.2.2 (Nat.le_of_ble_eq_true rfl) (Nat.le_of_ble_eq_true rfl)) [0, 1] [2] rfl rfl (ci := 1) (qc := (RX1, TX1, 11)) rfl rfl (List.mem_flatten.mpr ⟨_, List.mem_of_getElem? (i := 0) rfl, (bCourse_mem hw_67).choose_spec⟩) rfl rfl hl.1 dX1_does_133 (Nat.le_of_ble_eq_true rfl) (Nat.le_of_ble_eq_true rfl) (fun b1 H locs hw G => ?_)
        obtain ⟨wc2_68, u6_69, rfl, h_70⟩ := hw
        have G : zS T A s.heap s [w2_59, wc2_68, z] _ _ := G
        refine lv_iload hx hb dX1_does_136 (lv_at hl 0 rfl) ?_
        have G := G.sub (bs' := [wc2_68, w2_59, z]) [1, 0, 2] rfl
        exact z_zret C hr hlocks G (Nat.le_of_ble_eq_true rfl) (Nat.le_of_ble_eq_true rfl) dX1_does_138 rfl ⟨wc2_68, fw, v0, v1, (v2 + 1), v3, v4, v5, u6_69, v7, w2_59, g1_60, f2, st, wh, rfl, h_70, h_62, hQt, (Or.inl ⟨rfl, (zDe_k2 (by omega)).trans (zTuF_i ⟨zTurn_has hP hW (by assumption), by assumption⟩ h_63), rfl⟩), rfl⟩
    · refine lv_tableIn (tgt := 82) hx hb dX1_does_1 (by omega) (by omega) (by rw [c_1]; rfl) (by decide) ?_
      refine lv_aload_n hx hb dX1_does_82 rfl (lv_at hl 0 rfl) ?_
      refine lv_iload_n hx hb dX1_does_83 rfl (lv_at hl 2 rfl) ?_
      refine z_Vi (bc := [wc, z]) (br := [wp]) (As := [.int x]) (rest := []) C G (c_f_Course_add l T h po la fw v0 v1 v2 v3 v4 v5 v6 v7 wc cr inn k1 k2 k3 k4 z x hc hz) (kV_RX1_102 C.2.2.2.2 (Nat.le_of_ble_eq_true rfl) (Nat.le_of_ble_eq_true rfl)) [0, 2] [1] rfl rfl (ci := 1) (qc := (RX1, TX1, 11)) rfl rfl (List.mem_flatten.mpr ⟨_, List.mem_of_getElem? (i := 0) rfl, (bCourse_mem hc).choose_spec⟩) rfl rfl hl.1 dX1_does_84 (Nat.le_of_ble_eq_true rfl) (Nat.le_of_ble_eq_true rfl) (fun r_76 b1 H locs hw G => ?_)
      obtain ⟨wc2_72, gw_73, rfl, h_74, h_75⟩ := hw
      have G : zS T A s.heap s [wp, wc2_72, z] _ _ := G
      refine lv_istore (lv' := [(4, .int r_76), (0, .ref h), (1, .int d), (2, .int x), (3, .int y)]) hx hb dX1_does_87 hl (by decide) rfl (fun ls hl => ?_)
      refine lv_goto (tgt := 117) hx hb dX1_does_89 (by decide) ?_
      refine lv_iload hx hb dX1_does_117 (lv_at hl 0 rfl) ?_
      refine lv_if_eq (tgt := 136) hx hb dX1_does_119 (by decide) (fun c_77 => ?_) (fun c_77 => ?_)
      · have c_77n : r_76.toInt = (0 : Int) := (fa_eq _ _).mp c_77
        have hs := (h_75 f1 f2).resolve_left (fun q8 => by have e8 : r_76.toInt = 1 := (by rw [q8.1]; rfl); omega)
        refine lv_iload hx hb dX1_does_136 (lv_at hl 0 rfl) ?_
        have G := G.sub (bs' := [wc2_72, wp, z]) [1, 0, 2] rfl
        exact z_zret C hr hlocks G (Nat.le_of_ble_eq_true rfl) (Nat.le_of_ble_eq_true rfl) dX1_does_138 (by rcases h_75 f1 f2 with q | q <;> rw [q.1] <;> rfl) ⟨wc2_72, gw_73, v0, v1, v2, v3, v4, v5, v6, v7, wp, f1, f2, st, wh, rfl, h_74, hp, hP, (Or.inr ⟨hs.1, (zDe_k3 (by omega)).trans hs.2.1, rfl, rfl, hs.2.2, rfl, rfl, rfl⟩), rfl⟩
      · have c_77n : ¬ r_76.toInt = (0 : Int) := fun q => c_77 ((fa_eq _ _).mpr q)
        have hs := (h_75 f1 f2).resolve_right (fun q8 => by have e8 : r_76.toInt = 0 := (by rw [q8.1]; rfl); omega)
        refine lv_aload_n hx hb dX1_does_122 rfl (lv_at hl 1 rfl) ?_
        refine lv_dup hx hb dX1_does_123 rfl ?_
        obtain ⟨a1_78, rfl⟩ := h_74
        have G : zS T A s.heap s [wp, [(h, .inr (1, [.ref po, .ref a1_78, .int v0, .ref la, .int v1, .int v2, .int v3, .int v4, .int v5, .int v6, .int v7]))], [(a1_78, .inl (T.2 0, 7, .inl gw_73))], z] _ _ := G.re rfl
        refine z_get C G clX1 1 rfl 5 (by decide) m_fl_RX1_41 rfl dX1_does_124 ?_
        refine lv_iconst (v := 1) hx hb dX1_does_127 (by decide) ?_
        refine lv_iadd hx hb dX1_does_128 ?_
        refine z_put C G clX1 1 rfl 5 (by decide) m_fl_RX1_41 rfl rfl rfl (Nat.le_of_ble_eq_true rfl) dX1_does_129 (fun H locs G => ?_)
        have G : zS T A s.heap s [wp, [(h, .inr (1, [.ref po, .ref a1_78, .int v0, .ref la, .int v1, .int (v2 + 1), .int v3, .int v4, .int v5, .int v6, .int v7]))], [(a1_78, .inl (T.2 0, 7, .inl gw_73))], z] _ _ := G
        refine lv_aload_n hx hb dX1_does_132 rfl (lv_at hl 1 rfl) ?_
        have hw_79 : bCourse T h po la gw_73 v0 v1 (v2 + 1) v3 v4 v5 v6 v7 [(h, .inr (1, [.ref po, .ref a1_78, .int v0, .ref la, .int v1, .int (v2 + 1), .int v3, .int v4, .int v5, .int v6, .int v7])), (a1_78, .inl (T.2 0, 7, .inl gw_73))] := ⟨a1_78, rfl⟩
        have G : zS T A s.heap s [wp, [(h, .inr (1, [.ref po, .ref a1_78, .int v0, .ref la, .int v1, .int (v2 + 1), .int v3, .int v4, .int v5, .int v6, .int v7])), (a1_78, .inl (T.2 0, 7, .inl gw_73))], z] _ _ := G.re rfl
        refine z_Vv (bc := [[(h, .inr (1, [.ref po, .ref a1_78, .int v0, .ref la, .int v1, .int (v2 + 1), .int v3, .int v4, .int v5, .int v6, .int v7])), (a1_78, .inl (T.2 0, 7, .inl gw_73))], z]) (br := [wp]) (As := []) (rest := []) C G (c_lookAtCrowd l T h po la gw_73 v0 v1 (v2 + 1) v3 v4 v5 v6 v7 ([(h, .inr (1, [.ref po, .ref a1_78, .int v0, .ref la, .int v1, .int (v2 + 1), .int v3, .int v4, .int v5, .int v6, .int v7])), (a1_78, .inl (T.2 0, 7, .inl gw_73))]) cr inn k1 k2 k3 k4 z hw_79 hz (by first | with_reducible assumption | with_reducible rfl | omega | assumption | rfl)) (kV_RX1_56 C.2.2.2.2 (Nat.le_of_ble_eq_true rfl) (Nat.le_of_ble_eq_true rfl)) [1, 2] [0] rfl rfl (ci := 1) (qc := (RX1, TX1, 11)) rfl rfl (List.mem_flatten.mpr ⟨_, List.mem_of_getElem? (i := 0) rfl, (bCourse_mem hw_79).choose_spec⟩) rfl rfl hl.1 dX1_does_133 (Nat.le_of_ble_eq_true rfl) (Nat.le_of_ble_eq_true rfl) (fun b1 H locs hw G => ?_)
        obtain ⟨wc2_80, u6_81, rfl, h_82⟩ := hw
        have G : zS T A s.heap s [wp, wc2_80, z] _ _ := G
        refine lv_iload hx hb dX1_does_136 (lv_at hl 0 rfl) ?_
        have G := G.sub (bs' := [wc2_80, wp, z]) [1, 0, 2] rfl
        exact z_zret C hr hlocks G (Nat.le_of_ble_eq_true rfl) (Nat.le_of_ble_eq_true rfl) dX1_does_138 (by rcases h_75 f1 f2 with q | q <;> rw [q.1] <;> rfl) ⟨wc2_80, gw_73, v0, v1, (v2 + 1), v3, v4, v5, u6_81, v7, wp, f1, f2, st, wh, rfl, h_82, hp, hP, (Or.inl ⟨hs.1, (zDe_k3 (by omega)).trans hs.2, rfl⟩), rfl⟩
    · refine lv_tableIn (tgt := 92) hx hb dX1_does_1 (by omega) (by omega) (by rw [c_1]; rfl) (by decide) ?_
      refine lv_aload_n hx hb dX1_does_92 rfl (lv_at hl 0 rfl) ?_
      refine lv_iload_n hx hb dX1_does_93 rfl (lv_at hl 2 rfl) ?_
      refine lv_iload_n hx hb dX1_does_94 rfl (lv_at hl 3 rfl) ?_
      refine z_Vi (bc := [wc, wp, z]) (br := []) (As := [.int x, .int y]) (rest := []) C G (c_f_Course_shut l T h po la fw v0 v1 v2 v3 v4 v5 v6 v7 wc f1 f2 f3 st wh wp cr inn k1 k2 k3 k4 z x y hc hp hz) (kV_RX1_105 C.2.2.2.2 (Nat.le_of_ble_eq_true rfl) (Nat.le_of_ble_eq_true rfl)) [0, 1, 2] [] rfl rfl (ci := 1) (qc := (RX1, TX1, 11)) rfl rfl (List.mem_flatten.mpr ⟨_, List.mem_of_getElem? (i := 0) rfl, (bCourse_mem hc).choose_spec⟩) rfl rfl hl.1 dX1_does_95 (Nat.le_of_ble_eq_true rfl) (Nat.le_of_ble_eq_true rfl) (fun r_88 b1 H locs hw G => ?_)
      obtain ⟨wp2_84, g2_85, rfl, h_86, h_87⟩ := hw
      have G : zS T A s.heap s [wc, wp2_84, z] _ _ := G
      refine lv_istore (lv' := [(4, .int r_88), (0, .ref h), (1, .int d), (2, .int x), (3, .int y)]) hx hb dX1_does_98 hl (by decide) rfl (fun ls hl => ?_)
      refine lv_goto (tgt := 117) hx hb dX1_does_100 (by decide) ?_
      refine lv_iload hx hb dX1_does_117 (lv_at hl 0 rfl) ?_
      refine lv_if_eq (tgt := 136) hx hb dX1_does_119 (by decide) (fun c_89 => ?_) (fun c_89 => ?_)
      · have c_89n : r_88.toInt = (0 : Int) := (fa_eq _ _).mp c_89
        have hs := (h_87 fw v0 v1).resolve_left (fun q8 => by have e8 : r_88.toInt = 1 := (by rw [q8.1]; rfl); omega)
        refine lv_iload hx hb dX1_does_136 (lv_at hl 0 rfl) ?_
        exact z_zret C hr hlocks G (Nat.le_of_ble_eq_true rfl) (Nat.le_of_ble_eq_true rfl) dX1_does_138 (by rcases h_87 fw v0 v1 with q | q <;> rw [q.1] <;> rfl) ⟨wc, fw, v0, v1, v2, v3, v4, v5, v6, v7, wp2_84, f1, g2_85, st, wh, rfl, hc, h_86, hP, (Or.inr ⟨hs.1, (zDe_k4 (by omega)).trans hs.2.1, rfl, hs.2.2, rfl, rfl, rfl, rfl⟩), rfl⟩
      · have c_89n : ¬ r_88.toInt = (0 : Int) := fun q => c_89 ((fa_eq _ _).mpr q)
        have hs := (h_87 fw v0 v1).resolve_right (fun q8 => by have e8 : r_88.toInt = 0 := (by rw [q8.1]; rfl); omega)
        refine lv_aload_n hx hb dX1_does_122 rfl (lv_at hl 1 rfl) ?_
        refine lv_dup hx hb dX1_does_123 rfl ?_
        obtain ⟨a1_90, rfl⟩ := hc
        have G : zS T A s.heap s [[(h, .inr (1, [.ref po, .ref a1_90, .int v0, .ref la, .int v1, .int v2, .int v3, .int v4, .int v5, .int v6, .int v7]))], [(a1_90, .inl (T.2 0, 7, .inl fw))], wp2_84, z] _ _ := G.re rfl
        refine z_get C G clX1 0 rfl 5 (by decide) m_fl_RX1_41 rfl dX1_does_124 ?_
        refine lv_iconst (v := 1) hx hb dX1_does_127 (by decide) ?_
        refine lv_iadd hx hb dX1_does_128 ?_
        refine z_put C G clX1 0 rfl 5 (by decide) m_fl_RX1_41 rfl rfl rfl (Nat.le_of_ble_eq_true rfl) dX1_does_129 (fun H locs G => ?_)
        have G : zS T A s.heap s [[(h, .inr (1, [.ref po, .ref a1_90, .int v0, .ref la, .int v1, .int (v2 + 1), .int v3, .int v4, .int v5, .int v6, .int v7]))], [(a1_90, .inl (T.2 0, 7, .inl fw))], wp2_84, z] _ _ := G
        refine lv_aload_n hx hb dX1_does_132 rfl (lv_at hl 1 rfl) ?_
        have hw_91 : bCourse T h po la fw v0 v1 (v2 + 1) v3 v4 v5 v6 v7 [(h, .inr (1, [.ref po, .ref a1_90, .int v0, .ref la, .int v1, .int (v2 + 1), .int v3, .int v4, .int v5, .int v6, .int v7])), (a1_90, .inl (T.2 0, 7, .inl fw))] := ⟨a1_90, rfl⟩
        have G : zS T A s.heap s [[(h, .inr (1, [.ref po, .ref a1_90, .int v0, .ref la, .int v1, .int (v2 + 1), .int v3, .int v4, .int v5, .int v6, .int v7])), (a1_90, .inl (T.2 0, 7, .inl fw))], wp2_84, z] _ _ := G.re rfl
        refine z_Vv (bc := [[(h, .inr (1, [.ref po, .ref a1_90, .int v0, .ref la, .int v1, .int (v2 + 1), .int v3, .int v4, .int v5, .int v6, .int v7])), (a1_90, .inl (T.2 0, 7, .inl fw))], z]) (br := [wp2_84]) (As := []) (rest := []) C G (c_lookAtCrowd l T h po la fw v0 v1 (v2 + 1) v3 v4 v5 v6 v7 ([(h, .inr (1, [.ref po, .ref a1_90, .int v0, .ref la, .int v1, .int (v2 + 1), .int v3, .int v4, .int v5, .int v6, .int v7])), (a1_90, .inl (T.2 0, 7, .inl fw))]) cr inn k1 k2 k3 k4 z hw_91 hz (by first | with_reducible assumption | with_reducible rfl | omega | assumption | rfl)) (kV_RX1_56 C.2.2.2.2 (Nat.le_of_ble_eq_true rfl) (Nat.le_of_ble_eq_true rfl)) [0, 2] [1] rfl rfl (ci := 1) (qc := (RX1, TX1, 11)) rfl rfl (List.mem_flatten.mpr ⟨_, List.mem_of_getElem? (i := 0) rfl, (bCourse_mem hw_91).choose_spec⟩) rfl rfl hl.1 dX1_does_133 (Nat.le_of_ble_eq_true rfl) (Nat.le_of_ble_eq_true rfl) (fun b1 H locs hw G => ?_)
        obtain ⟨wc2_92, u6_93, rfl, h_94⟩ := hw
        have G : zS T A s.heap s [wp2_84, wc2_92, z] _ _ := G
        refine lv_iload hx hb dX1_does_136 (lv_at hl 0 rfl) ?_
        have G := G.sub (bs' := [wc2_92, wp2_84, z]) [1, 0, 2] rfl
        exact z_zret C hr hlocks G (Nat.le_of_ble_eq_true rfl) (Nat.le_of_ble_eq_true rfl) dX1_does_138 (by rcases h_87 fw v0 v1 with q | q <;> rw [q.1] <;> rfl) ⟨wc2_92, fw, v0, v1, (v2 + 1), v3, v4, v5, u6_93, v7, wp2_84, f1, g2_85, st, wh, rfl, h_94, h_86, hP, (Or.inl ⟨hs.1, (zDe_k4 (by omega)).trans hs.2, rfl⟩), rfl⟩
    · refine lv_tableIn (tgt := 103) hx hb dX1_does_1 (by omega) (by omega) (by rw [c_1]; rfl) (by decide) ?_
      refine lv_aload_n hx hb dX1_does_103 rfl (lv_at hl 0 rfl) ?_
      refine lv_iload_n hx hb dX1_does_104 rfl (lv_at hl 2 rfl) ?_
      refine lv_iload_n hx hb dX1_does_105 rfl (lv_at hl 3 rfl) ?_
      refine z_Vi (bc := [wc, wp, z]) (br := []) (As := [.int x, .int y]) (rest := []) C G (c_f_Course_open l T h po la fw v0 v1 v2 v3 v4 v5 v6 v7 wc f1 f2 f3 st wh wp cr inn k1 k2 k3 k4 z x y hc hp hz) (kV_RX1_109 C.2.2.2.2 (Nat.le_of_ble_eq_true rfl) (Nat.le_of_ble_eq_true rfl)) [0, 1, 2] [] rfl rfl (ci := 1) (qc := (RX1, TX1, 11)) rfl rfl (List.mem_flatten.mpr ⟨_, List.mem_of_getElem? (i := 0) rfl, (bCourse_mem hc).choose_spec⟩) rfl rfl hl.1 dX1_does_106 (Nat.le_of_ble_eq_true rfl) (Nat.le_of_ble_eq_true rfl) (fun r_100 b1 H locs hw G => ?_)
      obtain ⟨wp2_96, g2_97, rfl, h_98, h_99⟩ := hw
      have G : zS T A s.heap s [wc, wp2_96, z] _ _ := G
      refine lv_istore (lv' := [(4, .int r_100), (0, .ref h), (1, .int d), (2, .int x), (3, .int y)]) hx hb dX1_does_109 hl (by decide) rfl (fun ls hl => ?_)
      refine lv_goto (tgt := 117) hx hb dX1_does_111 (by decide) ?_
      refine lv_iload hx hb dX1_does_117 (lv_at hl 0 rfl) ?_
      refine lv_if_eq (tgt := 136) hx hb dX1_does_119 (by decide) (fun c_101 => ?_) (fun c_101 => ?_)
      · have c_101n : r_100.toInt = (0 : Int) := (fa_eq _ _).mp c_101
        have hs := (h_99 fw v0 v1).resolve_left (fun q8 => by have e8 : r_100.toInt = 1 := (by rw [q8.1]; rfl); omega)
        refine lv_iload hx hb dX1_does_136 (lv_at hl 0 rfl) ?_
        exact z_zret C hr hlocks G (Nat.le_of_ble_eq_true rfl) (Nat.le_of_ble_eq_true rfl) dX1_does_138 (by rcases h_99 fw v0 v1 with q | q <;> rw [q.1] <;> rfl) ⟨wc, fw, v0, v1, v2, v3, v4, v5, v6, v7, wp2_96, f1, g2_97, st, wh, rfl, hc, h_98, hP, (Or.inr ⟨hs.1, (zDe_k5 (by omega)).trans hs.2.1, rfl, hs.2.2, rfl, rfl, rfl, rfl⟩), rfl⟩
      · have c_101n : ¬ r_100.toInt = (0 : Int) := fun q => c_101 ((fa_eq _ _).mpr q)
        have hs := (h_99 fw v0 v1).resolve_right (fun q8 => by have e8 : r_100.toInt = 0 := (by rw [q8.1]; rfl); omega)
        refine lv_aload_n hx hb dX1_does_122 rfl (lv_at hl 1 rfl) ?_
        refine lv_dup hx hb dX1_does_123 rfl ?_
        obtain ⟨a1_102, rfl⟩ := hc
        have G : zS T A s.heap s [[(h, .inr (1, [.ref po, .ref a1_102, .int v0, .ref la, .int v1, .int v2, .int v3, .int v4, .int v5, .int v6, .int v7]))], [(a1_102, .inl (T.2 0, 7, .inl fw))], wp2_96, z] _ _ := G.re rfl
        refine z_get C G clX1 0 rfl 5 (by decide) m_fl_RX1_41 rfl dX1_does_124 ?_
        refine lv_iconst (v := 1) hx hb dX1_does_127 (by decide) ?_
        refine lv_iadd hx hb dX1_does_128 ?_
        refine z_put C G clX1 0 rfl 5 (by decide) m_fl_RX1_41 rfl rfl rfl (Nat.le_of_ble_eq_true rfl) dX1_does_129 (fun H locs G => ?_)
        have G : zS T A s.heap s [[(h, .inr (1, [.ref po, .ref a1_102, .int v0, .ref la, .int v1, .int (v2 + 1), .int v3, .int v4, .int v5, .int v6, .int v7]))], [(a1_102, .inl (T.2 0, 7, .inl fw))], wp2_96, z] _ _ := G
        refine lv_aload_n hx hb dX1_does_132 rfl (lv_at hl 1 rfl) ?_
        have hw_103 : bCourse T h po la fw v0 v1 (v2 + 1) v3 v4 v5 v6 v7 [(h, .inr (1, [.ref po, .ref a1_102, .int v0, .ref la, .int v1, .int (v2 + 1), .int v3, .int v4, .int v5, .int v6, .int v7])), (a1_102, .inl (T.2 0, 7, .inl fw))] := ⟨a1_102, rfl⟩
        have G : zS T A s.heap s [[(h, .inr (1, [.ref po, .ref a1_102, .int v0, .ref la, .int v1, .int (v2 + 1), .int v3, .int v4, .int v5, .int v6, .int v7])), (a1_102, .inl (T.2 0, 7, .inl fw))], wp2_96, z] _ _ := G.re rfl
        refine z_Vv (bc := [[(h, .inr (1, [.ref po, .ref a1_102, .int v0, .ref la, .int v1, .int (v2 + 1), .int v3, .int v4, .int v5, .int v6, .int v7])), (a1_102, .inl (T.2 0, 7, .inl fw))], z]) (br := [wp2_96]) (As := []) (rest := []) C G (c_lookAtCrowd l T h po la fw v0 v1 (v2 + 1) v3 v4 v5 v6 v7 ([(h, .inr (1, [.ref po, .ref a1_102, .int v0, .ref la, .int v1, .int (v2 + 1), .int v3, .int v4, .int v5, .int v6, .int v7])), (a1_102, .inl (T.2 0, 7, .inl fw))]) cr inn k1 k2 k3 k4 z hw_103 hz (by first | with_reducible assumption | with_reducible rfl | omega | assumption | rfl)) (kV_RX1_56 C.2.2.2.2 (Nat.le_of_ble_eq_true rfl) (Nat.le_of_ble_eq_true rfl)) [0, 2] [1] rfl rfl (ci := 1) (qc := (RX1, TX1, 11)) rfl rfl (List.mem_flatten.mpr ⟨_, List.mem_of_getElem? (i := 0) rfl, (bCourse_mem hw_103).choose_spec⟩) rfl rfl hl.1 dX1_does_133 (Nat.le_of_ble_eq_true rfl) (Nat.le_of_ble_eq_true rfl) (fun b1 H locs hw G => ?_)
        obtain ⟨wc2_104, u6_105, rfl, h_106⟩ := hw
        have G : zS T A s.heap s [wp2_96, wc2_104, z] _ _ := G
        refine lv_iload hx hb dX1_does_136 (lv_at hl 0 rfl) ?_
        have G := G.sub (bs' := [wc2_104, wp2_96, z]) [1, 0, 2] rfl
        exact z_zret C hr hlocks G (Nat.le_of_ble_eq_true rfl) (Nat.le_of_ble_eq_true rfl) dX1_does_138 (by rcases h_99 fw v0 v1 with q | q <;> rw [q.1] <;> rfl) ⟨wc2_104, fw, v0, v1, (v2 + 1), v3, v4, v5, u6_105, v7, wp2_96, f1, g2_97, st, wh, rfl, h_106, h_98, hP, (Or.inl ⟨hs.1, (zDe_k5 (by omega)).trans hs.2, rfl⟩), rfl⟩
set_option maxHeartbeats 4000000 in
set_option maxRecDepth 100000 in
/-- c_f_goThrough -/
theorem c_f_goThrough (l : Launch) (T : zTy) (h : Nat) (po : Nat) (la : Nat) (fw : Nat → Int32) (v0 : Int32) (v1 : Int32) (v2 : Int32) (v3 : Int32) (v4 : Int32) (v5 : Int32) (v6 : Int32) (v7 : Int32) (wc : va_W) (lp : Nat) (f1 : Nat → Int32) (f2 : Nat → Int32) (f3 : Nat → Int32) (st : Int32) (wh : Int32) (wp : va_W) (o : Nat) (cr : Int32) (inn : Int32) (k1 : Nat → Int32) (k2 : Nat → Int32) (k3 : Nat → Int32) (k4 : Nat → Int32) (z : va_W) (dy : Nat) (dd : Int32) (d1 : Nat → Int32) (d2 : Nat → Int32) (d3 : Nat → Int32) (wd : va_W) (n : Int32) (hc : bCourse T h po la fw v0 v1 v2 v3 v4 v5 v6 v7 wc) (hp : bPosts T po lp f1 f2 f3 st wh wp) (hz : bLand T o cr inn k1 k2 k3 k4 z) (hI : zLI cr k1 k3) (hd : bDay T dy dd d1 d2 d3 wd) (hLq : zLq cr k1 k2) : zMi l T yX1_goThrough cX1_goThrough 5 (some .int) 7 0 0 [.ref h, .ref o, .ref dy, .int n] [wc, wp, z, wd] (fun (r : Int32) bs => ∃ (wc2 : va_W) (gw : Nat → Int32) (u0 : Int32) (u1 : Int32) (u2 : Int32) (u3 : Int32) (u4 : Int32) (u5 : Int32) (u6 : Int32) (u7 : Int32) (wp2 : va_W) (g1 : Nat → Int32) (g2 : Nat → Int32) (g3 : Nat → Int32) (sa : Int32) (wa : Int32), bs = [wc2, wp2, z, wd] ∧ bCourse T h po o gw u0 u1 u2 u3 u4 u5 u6 u7 wc2 ∧ bPosts T po o g1 g2 g3 sa wa wp2 ∧ zP3 g1 g3 ∧ (∃ P0 S0 W0 H0 : Nat → Int32, (zP3 P0 W0 ∧ (∀ j, j < 7 → P0 j = k3 j) ∧ (∀ j, j < 7 → S0 j = 0) ∧ (∀ j, j < 7 → W0 j = zWays cr inn k1 (nI j)) ∧ ∀ j, j < 7 → H0 j = k4 j) ∧ r = nI (zDayN (fun k D => zDe cr inn W0 k1 k2 (d1 k) (d2 k) (d3 k) D) (min (min n.toInt dd.toInt) 40).toNat 0 (P0, S0, H0, 0, 0)).1 ∧ (g1, g2, gw, u0, u1) = (zDayN (fun k D => zDe cr inn W0 k1 k2 (d1 k) (d2 k) (d3 k) D) (min (min n.toInt dd.toInt) 40).toNat 0 (P0, S0, H0, 0, 0)).2)) := by
  refine zMi_of (own := RX1) (by decide) rfl (Nat.le_of_ble_eq_true rfl) ?_
  intro p e s m args below meth c A ls C hr hlocks hnm hAe G hl
  have hx := C.1
  have hb := C.2.1
  have hl : lv_has ls 5 [(0, .ref h), (1, .ref o), (2, .ref dy), (3, .int n)] := hl
  refine lv_aload_n hx hb dX1_goThrough_0 rfl (lv_at hl 0 rfl) ?_
  refine lv_aload_n hx hb dX1_goThrough_1 rfl (lv_at hl 1 rfl) ?_
  refine z_Vv (bc := [wc, wp, z]) (br := [wd]) (As := [.ref o]) (rest := []) C G (c_Course_begin l T h po la fw v0 v1 v2 v3 v4 v5 v6 v7 wc lp f1 f2 f3 st wh wp o cr inn k1 k2 k3 k4 z hc hp hz (by first | with_reducible assumption | with_reducible rfl | omega | assumption | rfl)) (kV_RX1_59 C.2.2.2.2 (Nat.le_of_ble_eq_true rfl) (Nat.le_of_ble_eq_true rfl)) [0, 1, 2] [3] rfl rfl (ci := 1) (qc := (RX1, TX1, 11)) rfl rfl (List.mem_flatten.mpr ⟨_, List.mem_of_getElem? (i := 0) rfl, (bCourse_mem hc).choose_spec⟩) rfl rfl hl.1 dX1_goThrough_2 (Nat.le_of_ble_eq_true rfl) (Nat.le_of_ble_eq_true rfl) (fun b1 H locs hw G => ?_)
  obtain ⟨wc2_1, gw_2, u6_3, wp2_4, g1_5, g2_6, g3_7, rfl, h_8, h_9, h_10, h_11, h_12, h_13, h_14⟩ := hw
  have G : zS T A s.heap s [wd, wc2_1, wp2_4, z] _ _ := G
  have hQ : zP3 g1_5 g3_7 := h_11
  have hW : ∀ j, j < 7 → g3_7 j = zWays cr inn k1 (nI j) := h_14
  obtain ⟨R9, hR9⟩ : ∃ R9, R9 = zDayN (fun k D => zDe cr inn g3_7 k1 k2 (d1 k) (d2 k) (d3 k) D) (min (min n.toInt dd.toInt) 40).toNat 0 (g1_5, g2_6, gw_2, 0, 0) := ⟨_, rfl⟩
  refine lv_iconst (v := 0) hx hb dX1_goThrough_5 (by decide) ?_
  refine lv_istore (lv' := [(4, .int 0), (0, .ref h), (1, .ref o), (2, .ref dy), (3, .int n)]) hx hb dX1_goThrough_6 hl (by decide) rfl (fun ls hl => ?_)
  obtain ⟨a1_16, rfl⟩ := h_8
  have G : zS T A s.heap s [wd, [(h, .inr (1, [.ref po, .ref a1_16, .int 0, .ref o, .int 0, .int 0, .int (-1), .int 0, .int 0, .int u6_3, .int v7]))], [(a1_16, .inl (T.2 0, 7, .inl gw_2))], wp2_4, z] _ _ := G.re rfl
  obtain ⟨a1_17, a2_18, a3_19, rfl⟩ := h_9
  have G : zS T A s.heap s [wd, [(h, .inr (1, [.ref po, .ref a1_16, .int 0, .ref o, .int 0, .int 0, .int (-1), .int 0, .int 0, .int u6_3, .int v7]))], [(a1_16, .inl (T.2 0, 7, .inl gw_2))], [(po, .inr (6, [.ref o, .ref a1_17, .ref a2_18, .int 0, .int 0, .ref a3_19]))], [(a1_17, .inl (T.2 0, 7, .inl g1_5))], [(a2_18, .inl (T.2 0, 7, .inl g2_6))], [(a3_19, .inl (T.2 0, 7, .inl g3_7))], z] _ _ := G.re rfl
  obtain ⟨a1_20, a2_21, a3_22, a4_23, rfl⟩ := hz
  have G : zS T A s.heap s [wd, [(h, .inr (1, [.ref po, .ref a1_16, .int 0, .ref o, .int 0, .int 0, .int (-1), .int 0, .int 0, .int u6_3, .int v7]))], [(a1_16, .inl (T.2 0, 7, .inl gw_2))], [(po, .inr (6, [.ref o, .ref a1_17, .ref a2_18, .int 0, .int 0, .ref a3_19]))], [(a1_17, .inl (T.2 0, 7, .inl g1_5))], [(a2_18, .inl (T.2 0, 7, .inl g2_6))], [(a3_19, .inl (T.2 0, 7, .inl g3_7))], [(o, .inr (4, [.int cr, .int inn, .ref a1_20, .ref a2_21, .ref a3_22, .ref a4_23]))], [(a1_20, .inl (T.2 0, 7, .inl k1))], [(a2_21, .inl (T.2 0, 28, .inl k2))], [(a3_22, .inl (T.2 0, 7, .inl k3))], [(a4_23, .inl (T.2 0, 7, .inl k4))]] _ _ := G.re rfl
  obtain ⟨a1_24, a2_25, a3_26, rfl⟩ := hd
  have G : zS T A s.heap s [[(dy, .inr (2, [.int dd, .ref a1_24, .ref a2_25, .ref a3_26]))], [(a1_24, .inl (T.2 0, 40, .inl d1))], [(a2_25, .inl (T.2 0, 40, .inl d2))], [(a3_26, .inl (T.2 0, 40, .inl d3))], [(h, .inr (1, [.ref po, .ref a1_16, .int 0, .ref o, .int 0, .int 0, .int (-1), .int 0, .int 0, .int u6_3, .int v7]))], [(a1_16, .inl (T.2 0, 7, .inl gw_2))], [(po, .inr (6, [.ref o, .ref a1_17, .ref a2_18, .int 0, .int 0, .ref a3_19]))], [(a1_17, .inl (T.2 0, 7, .inl g1_5))], [(a2_18, .inl (T.2 0, 7, .inl g2_6))], [(a3_19, .inl (T.2 0, 7, .inl g3_7))], [(o, .inr (4, [.int cr, .int inn, .ref a1_20, .ref a2_21, .ref a3_22, .ref a4_23]))], [(a1_20, .inl (T.2 0, 7, .inl k1))], [(a2_21, .inl (T.2 0, 28, .inl k2))], [(a3_22, .inl (T.2 0, 7, .inl k3))], [(a4_23, .inl (T.2 0, 7, .inl k4))]] _ _ := G.re rfl
  have hw_27 : bCourse T h po o gw_2 0 0 0 (-1) 0 0 u6_3 v7 [(h, .inr (1, [.ref po, .ref a1_16, .int 0, .ref o, .int 0, .int 0, .int (-1), .int 0, .int 0, .int u6_3, .int v7])), (a1_16, .inl (T.2 0, 7, .inl gw_2))] := ⟨a1_16, rfl⟩
  have G : zS T A s.heap s [[(dy, .inr (2, [.int dd, .ref a1_24, .ref a2_25, .ref a3_26]))], [(a1_24, .inl (T.2 0, 40, .inl d1))], [(a2_25, .inl (T.2 0, 40, .inl d2))], [(a3_26, .inl (T.2 0, 40, .inl d3))], [(h, .inr (1, [.ref po, .ref a1_16, .int 0, .ref o, .int 0, .int 0, .int (-1), .int 0, .int 0, .int u6_3, .int v7])), (a1_16, .inl (T.2 0, 7, .inl gw_2))], [(po, .inr (6, [.ref o, .ref a1_17, .ref a2_18, .int 0, .int 0, .ref a3_19]))], [(a1_17, .inl (T.2 0, 7, .inl g1_5))], [(a2_18, .inl (T.2 0, 7, .inl g2_6))], [(a3_19, .inl (T.2 0, 7, .inl g3_7))], [(o, .inr (4, [.int cr, .int inn, .ref a1_20, .ref a2_21, .ref a3_22, .ref a4_23]))], [(a1_20, .inl (T.2 0, 7, .inl k1))], [(a2_21, .inl (T.2 0, 28, .inl k2))], [(a3_22, .inl (T.2 0, 7, .inl k3))], [(a4_23, .inl (T.2 0, 7, .inl k4))]] _ _ := G.re rfl
  have hw_28 : bPosts T po o g1_5 g2_6 g3_7 0 0 [(po, .inr (6, [.ref o, .ref a1_17, .ref a2_18, .int 0, .int 0, .ref a3_19])), (a1_17, .inl (T.2 0, 7, .inl g1_5)), (a2_18, .inl (T.2 0, 7, .inl g2_6)), (a3_19, .inl (T.2 0, 7, .inl g3_7))] := ⟨a1_17, a2_18, a3_19, rfl⟩
  have G : zS T A s.heap s [[(dy, .inr (2, [.int dd, .ref a1_24, .ref a2_25, .ref a3_26]))], [(a1_24, .inl (T.2 0, 40, .inl d1))], [(a2_25, .inl (T.2 0, 40, .inl d2))], [(a3_26, .inl (T.2 0, 40, .inl d3))], [(h, .inr (1, [.ref po, .ref a1_16, .int 0, .ref o, .int 0, .int 0, .int (-1), .int 0, .int 0, .int u6_3, .int v7])), (a1_16, .inl (T.2 0, 7, .inl gw_2))], [(po, .inr (6, [.ref o, .ref a1_17, .ref a2_18, .int 0, .int 0, .ref a3_19])), (a1_17, .inl (T.2 0, 7, .inl g1_5)), (a2_18, .inl (T.2 0, 7, .inl g2_6)), (a3_19, .inl (T.2 0, 7, .inl g3_7))], [(o, .inr (4, [.int cr, .int inn, .ref a1_20, .ref a2_21, .ref a3_22, .ref a4_23]))], [(a1_20, .inl (T.2 0, 7, .inl k1))], [(a2_21, .inl (T.2 0, 28, .inl k2))], [(a3_22, .inl (T.2 0, 7, .inl k3))], [(a4_23, .inl (T.2 0, 7, .inl k4))]] _ _ := G.re rfl
  have hw_29 : bLand T o cr inn k1 k2 k3 k4 [(o, .inr (4, [.int cr, .int inn, .ref a1_20, .ref a2_21, .ref a3_22, .ref a4_23])), (a1_20, .inl (T.2 0, 7, .inl k1)), (a2_21, .inl (T.2 0, 28, .inl k2)), (a3_22, .inl (T.2 0, 7, .inl k3)), (a4_23, .inl (T.2 0, 7, .inl k4))] := ⟨a1_20, a2_21, a3_22, a4_23, rfl⟩
  have G : zS T A s.heap s [[(dy, .inr (2, [.int dd, .ref a1_24, .ref a2_25, .ref a3_26]))], [(a1_24, .inl (T.2 0, 40, .inl d1))], [(a2_25, .inl (T.2 0, 40, .inl d2))], [(a3_26, .inl (T.2 0, 40, .inl d3))], [(h, .inr (1, [.ref po, .ref a1_16, .int 0, .ref o, .int 0, .int 0, .int (-1), .int 0, .int 0, .int u6_3, .int v7])), (a1_16, .inl (T.2 0, 7, .inl gw_2))], [(po, .inr (6, [.ref o, .ref a1_17, .ref a2_18, .int 0, .int 0, .ref a3_19])), (a1_17, .inl (T.2 0, 7, .inl g1_5)), (a2_18, .inl (T.2 0, 7, .inl g2_6)), (a3_19, .inl (T.2 0, 7, .inl g3_7))], [(o, .inr (4, [.int cr, .int inn, .ref a1_20, .ref a2_21, .ref a3_22, .ref a4_23])), (a1_20, .inl (T.2 0, 7, .inl k1)), (a2_21, .inl (T.2 0, 28, .inl k2)), (a3_22, .inl (T.2 0, 7, .inl k3)), (a4_23, .inl (T.2 0, 7, .inl k4))]] _ _ := G.re rfl
  have hw_30 : bDay T dy dd d1 d2 d3 [(dy, .inr (2, [.int dd, .ref a1_24, .ref a2_25, .ref a3_26])), (a1_24, .inl (T.2 0, 40, .inl d1)), (a2_25, .inl (T.2 0, 40, .inl d2)), (a3_26, .inl (T.2 0, 40, .inl d3))] := ⟨a1_24, a2_25, a3_26, rfl⟩
  have G : zS T A s.heap s [[(dy, .inr (2, [.int dd, .ref a1_24, .ref a2_25, .ref a3_26])), (a1_24, .inl (T.2 0, 40, .inl d1)), (a2_25, .inl (T.2 0, 40, .inl d2)), (a3_26, .inl (T.2 0, 40, .inl d3))], [(h, .inr (1, [.ref po, .ref a1_16, .int 0, .ref o, .int 0, .int 0, .int (-1), .int 0, .int 0, .int u6_3, .int v7])), (a1_16, .inl (T.2 0, 7, .inl gw_2))], [(po, .inr (6, [.ref o, .ref a1_17, .ref a2_18, .int 0, .int 0, .ref a3_19])), (a1_17, .inl (T.2 0, 7, .inl g1_5)), (a2_18, .inl (T.2 0, 7, .inl g2_6)), (a3_19, .inl (T.2 0, 7, .inl g3_7))], [(o, .inr (4, [.int cr, .int inn, .ref a1_20, .ref a2_21, .ref a3_22, .ref a4_23])), (a1_20, .inl (T.2 0, 7, .inl k1)), (a2_21, .inl (T.2 0, 28, .inl k2)), (a3_22, .inl (T.2 0, 7, .inl k3)), (a4_23, .inl (T.2 0, 7, .inl k4))]] _ _ := G.re rfl
  refine z_loop (T := T) (α := Nat × va_W × (Nat → Int32) × Int32 × Int32 × Int32 × Int32 × Int32 × Int32 × Int32 × Int32 × va_W × (Nat → Int32) × (Nat → Int32) × Int32 × Int32) 8 (fun (i, wc3, xw, y0, y1, y2, y3, y4, y5, y6, y7, wp3, x1, x2, sb, wb) => [[(dy, .inr (2, [.int dd, .ref a1_24, .ref a2_25, .ref a3_26])), (a1_24, .inl (T.2 0, 40, .inl d1)), (a2_25, .inl (T.2 0, 40, .inl d2)), (a3_26, .inl (T.2 0, 40, .inl d3))], wc3, wp3, [(o, .inr (4, [.int cr, .int inn, .ref a1_20, .ref a2_21, .ref a3_22, .ref a4_23])), (a1_20, .inl (T.2 0, 7, .inl k1)), (a2_21, .inl (T.2 0, 28, .inl k2)), (a3_22, .inl (T.2 0, 7, .inl k3)), (a4_23, .inl (T.2 0, 7, .inl k4))]]) (fun (i, wc3, xw, y0, y1, y2, y3, y4, y5, y6, y7, wp3, x1, x2, sb, wb) => [(4, .int (nI i)), (0, .ref h), (1, .ref o), (2, .ref dy), (3, .int n)]) (fun (i, wc3, xw, y0, y1, y2, y3, y4, y5, y6, y7, wp3, x1, x2, sb, wb) => bCourse T h po o xw y0 y1 y2 y3 y4 y5 y6 y7 wc3 ∧ bPosts T po o x1 x2 g3_7 sb wb wp3 ∧ i ≤ 40 ∧ zP3 x1 g3_7 ∧ y2 = nI i ∧ R9 = zDayN (fun k D => zDe cr inn g3_7 k1 k2 (d1 k) (d2 k) (d3 k) D) ((min (min n.toInt dd.toInt) 40).toNat - i) i (x1, x2, xw, y0, y1)) (fun (i, wc3, xw, y0, y1, y2, y3, y4, y5, y6, y7, wp3, x1, x2, sb, wb) => 40 - i) ?_ (0, ([(h, .inr (1, [.ref po, .ref a1_16, .int 0, .ref o, .int 0, .int 0, .int (-1), .int 0, .int 0, .int u6_3, .int v7])), (a1_16, .inl (T.2 0, 7, .inl gw_2))]), gw_2, 0, 0, 0, (-1), 0, 0, u6_3, v7, ([(po, .inr (6, [.ref o, .ref a1_17, .ref a2_18, .int 0, .int 0, .ref a3_19])), (a1_17, .inl (T.2 0, 7, .inl g1_5)), (a2_18, .inl (T.2 0, 7, .inl g2_6)), (a3_19, .inl (T.2 0, 7, .inl g3_7))]), g1_5, g2_6, 0, 0) (show bCourse T h po o gw_2 0 0 0 (-1) 0 0 u6_3 v7 ([(h, .inr (1, [.ref po, .ref a1_16, .int 0, .ref o, .int 0, .int 0, .int (-1), .int 0, .int 0, .int u6_3, .int v7])), (a1_16, .inl (T.2 0, 7, .inl gw_2))]) ∧ bPosts T po o g1_5 g2_6 g3_7 0 0 ([(po, .inr (6, [.ref o, .ref a1_17, .ref a2_18, .int 0, .int 0, .ref a3_19])), (a1_17, .inl (T.2 0, 7, .inl g1_5)), (a2_18, .inl (T.2 0, 7, .inl g2_6)), (a3_19, .inl (T.2 0, 7, .inl g3_7))]) ∧ 0 ≤ 40 ∧ zP3 g1_5 g3_7 ∧ 0 = nI 0 ∧ R9 = zDayN (fun k D => zDe cr inn g3_7 k1 k2 (d1 k) (d2 k) (d3 k) D) ((min (min n.toInt dd.toInt) 40).toNat - 0) 0 (g1_5, g2_6, gw_2, 0, 0) from ⟨hw_27, hw_28, by omega, hQ, rfl, hR9⟩) G (lv_sub hl [0, 1, 2, 3, 4] rfl)
  rintro ⟨i, wc3, xw, y0, y1, y2, y3, y4, y5, y6, y7, wp3, x1, x2, sb, wb⟩ ⟨hc3, hp3, hi, hQx, hy2, hR⟩ ih_8 H locs ls G hl
  replace hc3 : bCourse T h po o xw y0 y1 y2 y3 y4 y5 y6 y7 wc3 := hc3
  replace hp3 : bPosts T po o x1 x2 g3_7 sb wb wp3 := hp3
  replace hi : i ≤ 40 := hi
  replace hQx : zP3 x1 g3_7 := hQx
  replace hy2 : y2 = nI i := hy2
  replace hR : R9 = zDayN (fun k D => zDe cr inn g3_7 k1 k2 (d1 k) (d2 k) (d3 k) D) ((min (min n.toInt dd.toInt) 40).toNat - i) i (x1, x2, xw, y0, y1) := hR
  replace G : zS T A s.heap s [[(dy, .inr (2, [.int dd, .ref a1_24, .ref a2_25, .ref a3_26])), (a1_24, .inl (T.2 0, 40, .inl d1)), (a2_25, .inl (T.2 0, 40, .inl d2)), (a3_26, .inl (T.2 0, 40, .inl d3))], wc3, wp3, [(o, .inr (4, [.int cr, .int inn, .ref a1_20, .ref a2_21, .ref a3_22, .ref a4_23])), (a1_20, .inl (T.2 0, 7, .inl k1)), (a2_21, .inl (T.2 0, 28, .inl k2)), (a3_22, .inl (T.2 0, 7, .inl k3)), (a4_23, .inl (T.2 0, 7, .inl k4))]] _ _ := G
  replace hl : lv_has ls 5 [(4, .int (nI i)), (0, .ref h), (1, .ref o), (2, .ref dy), (3, .int n)] := hl
  refine lv_iload hx hb dX1_goThrough_8 (lv_at hl 0 rfl) ?_
  refine lv_iload_n hx hb dX1_goThrough_10 rfl (lv_at hl 4 rfl) ?_
  refine lv_icmp_ge (tgt := 69) hx hb dX1_goThrough_11 (by decide) (fun c_31 => ?_) (fun c_31 => ?_)
  · have c_31n : n.toInt ≤ (i : Int) := by have q := (fa_le _ _).mp c_31; rw [nI_toInt (n := i) (by omega)] at q; exact q
    refine lv_aload_n hx hb dX1_goThrough_69 rfl (lv_at hl 1 rfl) ?_
    obtain ⟨a1_32, rfl⟩ := hc3
    have G : zS T A s.heap s [[(dy, .inr (2, [.int dd, .ref a1_24, .ref a2_25, .ref a3_26])), (a1_24, .inl (T.2 0, 40, .inl d1)), (a2_25, .inl (T.2 0, 40, .inl d2)), (a3_26, .inl (T.2 0, 40, .inl d3))], [(h, .inr (1, [.ref po, .ref a1_32, .int y0, .ref o, .int y1, .int y2, .int y3, .int y4, .int y5, .int y6, .int y7]))], [(a1_32, .inl (T.2 0, 7, .inl xw))], wp3, [(o, .inr (4, [.int cr, .int inn, .ref a1_20, .ref a2_21, .ref a3_22, .ref a4_23])), (a1_20, .inl (T.2 0, 7, .inl k1)), (a2_21, .inl (T.2 0, 28, .inl k2)), (a3_22, .inl (T.2 0, 7, .inl k3)), (a4_23, .inl (T.2 0, 7, .inl k4))]] _ _ := G.re rfl
    refine z_get C G clX1 1 rfl 5 (by decide) m_fl_RX1_41 rfl dX1_goThrough_70 ?_
    have hw_33 : bCourse T h po o xw y0 y1 y2 y3 y4 y5 y6 y7 [(h, .inr (1, [.ref po, .ref a1_32, .int y0, .ref o, .int y1, .int y2, .int y3, .int y4, .int y5, .int y6, .int y7])), (a1_32, .inl (T.2 0, 7, .inl xw))] := ⟨a1_32, rfl⟩
    have G : zS T A s.heap s [[(dy, .inr (2, [.int dd, .ref a1_24, .ref a2_25, .ref a3_26])), (a1_24, .inl (T.2 0, 40, .inl d1)), (a2_25, .inl (T.2 0, 40, .inl d2)), (a3_26, .inl (T.2 0, 40, .inl d3))], [(h, .inr (1, [.ref po, .ref a1_32, .int y0, .ref o, .int y1, .int y2, .int y3, .int y4, .int y5, .int y6, .int y7])), (a1_32, .inl (T.2 0, 7, .inl xw))], wp3, [(o, .inr (4, [.int cr, .int inn, .ref a1_20, .ref a2_21, .ref a3_22, .ref a4_23])), (a1_20, .inl (T.2 0, 7, .inl k1)), (a2_21, .inl (T.2 0, 28, .inl k2)), (a3_22, .inl (T.2 0, 7, .inl k3)), (a4_23, .inl (T.2 0, 7, .inl k4))]] _ _ := G.re rfl
    have G := G.sub (bs' := [[(h, .inr (1, [.ref po, .ref a1_32, .int y0, .ref o, .int y1, .int y2, .int y3, .int y4, .int y5, .int y6, .int y7])), (a1_32, .inl (T.2 0, 7, .inl xw))], wp3, [(o, .inr (4, [.int cr, .int inn, .ref a1_20, .ref a2_21, .ref a3_22, .ref a4_23])), (a1_20, .inl (T.2 0, 7, .inl k1)), (a2_21, .inl (T.2 0, 28, .inl k2)), (a3_22, .inl (T.2 0, 7, .inl k3)), (a4_23, .inl (T.2 0, 7, .inl k4))], [(dy, .inr (2, [.int dd, .ref a1_24, .ref a2_25, .ref a3_26])), (a1_24, .inl (T.2 0, 40, .inl d1)), (a2_25, .inl (T.2 0, 40, .inl d2)), (a3_26, .inl (T.2 0, 40, .inl d3))]]) [1, 2, 3, 0] rfl
    exact z_iret C hr hlocks G (Nat.le_of_ble_eq_true rfl) (Nat.le_of_ble_eq_true rfl) dX1_goThrough_73 ⟨([(h, .inr (1, [.ref po, .ref a1_32, .int y0, .ref o, .int y1, .int y2, .int y3, .int y4, .int y5, .int y6, .int y7])), (a1_32, .inl (T.2 0, 7, .inl xw))]), xw, y0, y1, y2, y3, y4, y5, y6, y7, wp3, x1, x2, g3_7, sb, wb, rfl, hw_33, hp3, hQx, ⟨g1_5, g2_6, g3_7, gw_2, ⟨hQ, h_12, h_13, h_14, h_10⟩, (hy2.trans (congrArg (fun q => nI q.1) (hR9.symm.trans (hR.trans (zDayN_z (by omega))))).symm), ((congrArg (fun q => q.2) (hR9.symm.trans (hR.trans (zDayN_z (by omega))))).symm)⟩⟩
  · have c_31n : ¬ n.toInt ≤ (i : Int) := fun q => c_31 ((fa_le _ _).mpr (by rw [nI_toInt (n := i) (by omega)]; exact q))
    refine lv_iload hx hb dX1_goThrough_14 (lv_at hl 0 rfl) ?_
    refine lv_aload_n hx hb dX1_goThrough_16 rfl (lv_at hl 3 rfl) ?_
    have G : zS T A s.heap s [[(dy, .inr (2, [.int dd, .ref a1_24, .ref a2_25, .ref a3_26]))], [(a1_24, .inl (T.2 0, 40, .inl d1))], [(a2_25, .inl (T.2 0, 40, .inl d2))], [(a3_26, .inl (T.2 0, 40, .inl d3))], wc3, wp3, [(o, .inr (4, [.int cr, .int inn, .ref a1_20, .ref a2_21, .ref a3_22, .ref a4_23])), (a1_20, .inl (T.2 0, 7, .inl k1)), (a2_21, .inl (T.2 0, 28, .inl k2)), (a3_22, .inl (T.2 0, 7, .inl k3)), (a4_23, .inl (T.2 0, 7, .inl k4))]] _ _ := G.re rfl
    refine z_get C G clX2 0 rfl 0 (by decide) m_fl_RX1_60 rfl dX1_goThrough_17 ?_
    refine lv_icmp_ge (tgt := 69) hx hb dX1_goThrough_20 (by decide) (fun c_34 => ?_) (fun c_34 => ?_)
    · have c_34n : dd.toInt ≤ (i : Int) := by have q := (fa_le _ _).mp c_34; rw [nI_toInt (n := i) (by omega)] at q; exact q
      refine lv_aload_n hx hb dX1_goThrough_69 rfl (lv_at hl 1 rfl) ?_
      obtain ⟨a1_35, rfl⟩ := hc3
      have G : zS T A s.heap s [[(dy, .inr (2, [.int dd, .ref a1_24, .ref a2_25, .ref a3_26]))], [(a1_24, .inl (T.2 0, 40, .inl d1))], [(a2_25, .inl (T.2 0, 40, .inl d2))], [(a3_26, .inl (T.2 0, 40, .inl d3))], [(h, .inr (1, [.ref po, .ref a1_35, .int y0, .ref o, .int y1, .int y2, .int y3, .int y4, .int y5, .int y6, .int y7]))], [(a1_35, .inl (T.2 0, 7, .inl xw))], wp3, [(o, .inr (4, [.int cr, .int inn, .ref a1_20, .ref a2_21, .ref a3_22, .ref a4_23])), (a1_20, .inl (T.2 0, 7, .inl k1)), (a2_21, .inl (T.2 0, 28, .inl k2)), (a3_22, .inl (T.2 0, 7, .inl k3)), (a4_23, .inl (T.2 0, 7, .inl k4))]] _ _ := G.re rfl
      refine z_get C G clX1 4 rfl 5 (by decide) m_fl_RX1_41 rfl dX1_goThrough_70 ?_
      have hw_36 : bCourse T h po o xw y0 y1 y2 y3 y4 y5 y6 y7 [(h, .inr (1, [.ref po, .ref a1_35, .int y0, .ref o, .int y1, .int y2, .int y3, .int y4, .int y5, .int y6, .int y7])), (a1_35, .inl (T.2 0, 7, .inl xw))] := ⟨a1_35, rfl⟩
      have G : zS T A s.heap s [[(dy, .inr (2, [.int dd, .ref a1_24, .ref a2_25, .ref a3_26]))], [(a1_24, .inl (T.2 0, 40, .inl d1))], [(a2_25, .inl (T.2 0, 40, .inl d2))], [(a3_26, .inl (T.2 0, 40, .inl d3))], [(h, .inr (1, [.ref po, .ref a1_35, .int y0, .ref o, .int y1, .int y2, .int y3, .int y4, .int y5, .int y6, .int y7])), (a1_35, .inl (T.2 0, 7, .inl xw))], wp3, [(o, .inr (4, [.int cr, .int inn, .ref a1_20, .ref a2_21, .ref a3_22, .ref a4_23])), (a1_20, .inl (T.2 0, 7, .inl k1)), (a2_21, .inl (T.2 0, 28, .inl k2)), (a3_22, .inl (T.2 0, 7, .inl k3)), (a4_23, .inl (T.2 0, 7, .inl k4))]] _ _ := G.re rfl
      have hw_37 : bDay T dy dd d1 d2 d3 [(dy, .inr (2, [.int dd, .ref a1_24, .ref a2_25, .ref a3_26])), (a1_24, .inl (T.2 0, 40, .inl d1)), (a2_25, .inl (T.2 0, 40, .inl d2)), (a3_26, .inl (T.2 0, 40, .inl d3))] := ⟨a1_24, a2_25, a3_26, rfl⟩
      have G : zS T A s.heap s [[(dy, .inr (2, [.int dd, .ref a1_24, .ref a2_25, .ref a3_26])), (a1_24, .inl (T.2 0, 40, .inl d1)), (a2_25, .inl (T.2 0, 40, .inl d2)), (a3_26, .inl (T.2 0, 40, .inl d3))], [(h, .inr (1, [.ref po, .ref a1_35, .int y0, .ref o, .int y1, .int y2, .int y3, .int y4, .int y5, .int y6, .int y7])), (a1_35, .inl (T.2 0, 7, .inl xw))], wp3, [(o, .inr (4, [.int cr, .int inn, .ref a1_20, .ref a2_21, .ref a3_22, .ref a4_23])), (a1_20, .inl (T.2 0, 7, .inl k1)), (a2_21, .inl (T.2 0, 28, .inl k2)), (a3_22, .inl (T.2 0, 7, .inl k3)), (a4_23, .inl (T.2 0, 7, .inl k4))]] _ _ := G.re rfl
      have G := G.sub (bs' := [[(h, .inr (1, [.ref po, .ref a1_35, .int y0, .ref o, .int y1, .int y2, .int y3, .int y4, .int y5, .int y6, .int y7])), (a1_35, .inl (T.2 0, 7, .inl xw))], wp3, [(o, .inr (4, [.int cr, .int inn, .ref a1_20, .ref a2_21, .ref a3_22, .ref a4_23])), (a1_20, .inl (T.2 0, 7, .inl k1)), (a2_21, .inl (T.2 0, 28, .inl k2)), (a3_22, .inl (T.2 0, 7, .inl k3)), (a4_23, .inl (T.2 0, 7, .inl k4))], [(dy, .inr (2, [.int dd, .ref a1_24, .ref a2_25, .ref a3_26])), (a1_24, .inl (T.2 0, 40, .inl d1)), (a2_25, .inl (T.2 0, 40, .inl d2)), (a3_26, .inl (T.2 0, 40, .inl d3))]]) [1, 2, 3, 0] rfl
      exact z_iret C hr hlocks G (Nat.le_of_ble_eq_true rfl) (Nat.le_of_ble_eq_true rfl) dX1_goThrough_73 ⟨([(h, .inr (1, [.ref po, .ref a1_35, .int y0, .ref o, .int y1, .int y2, .int y3, .int y4, .int y5, .int y6, .int y7])), (a1_35, .inl (T.2 0, 7, .inl xw))]), xw, y0, y1, y2, y3, y4, y5, y6, y7, wp3, x1, x2, g3_7, sb, wb, rfl, hw_36, hp3, hQx, ⟨g1_5, g2_6, g3_7, gw_2, ⟨hQ, h_12, h_13, h_14, h_10⟩, (hy2.trans (congrArg (fun q => nI q.1) (hR9.symm.trans (hR.trans (zDayN_z (by omega))))).symm), ((congrArg (fun q => q.2) (hR9.symm.trans (hR.trans (zDayN_z (by omega))))).symm)⟩⟩
    · have c_34n : ¬ dd.toInt ≤ (i : Int) := fun q => c_34 ((fa_le _ _).mpr (by rw [nI_toInt (n := i) (by omega)]; exact q))
      refine lv_iload hx hb dX1_goThrough_23 (lv_at hl 0 rfl) ?_
      refine lv_bipush (v := 40) hx hb dX1_goThrough_25 (by decide) ?_
      refine lv_icmp_ge (tgt := 69) hx hb dX1_goThrough_27 (by decide) (fun c_38 => ?_) (fun c_38 => ?_)
      · have c_38n : 40 ≤ i := (nI_leI (a := 40) (b := i) (by omega) (by omega)).mp c_38
        refine lv_aload_n hx hb dX1_goThrough_69 rfl (lv_at hl 1 rfl) ?_
        obtain ⟨a1_39, rfl⟩ := hc3
        have G : zS T A s.heap s [[(dy, .inr (2, [.int dd, .ref a1_24, .ref a2_25, .ref a3_26]))], [(a1_24, .inl (T.2 0, 40, .inl d1))], [(a2_25, .inl (T.2 0, 40, .inl d2))], [(a3_26, .inl (T.2 0, 40, .inl d3))], [(h, .inr (1, [.ref po, .ref a1_39, .int y0, .ref o, .int y1, .int y2, .int y3, .int y4, .int y5, .int y6, .int y7]))], [(a1_39, .inl (T.2 0, 7, .inl xw))], wp3, [(o, .inr (4, [.int cr, .int inn, .ref a1_20, .ref a2_21, .ref a3_22, .ref a4_23])), (a1_20, .inl (T.2 0, 7, .inl k1)), (a2_21, .inl (T.2 0, 28, .inl k2)), (a3_22, .inl (T.2 0, 7, .inl k3)), (a4_23, .inl (T.2 0, 7, .inl k4))]] _ _ := G.re rfl
        refine z_get C G clX1 4 rfl 5 (by decide) m_fl_RX1_41 rfl dX1_goThrough_70 ?_
        have hw_40 : bCourse T h po o xw y0 y1 y2 y3 y4 y5 y6 y7 [(h, .inr (1, [.ref po, .ref a1_39, .int y0, .ref o, .int y1, .int y2, .int y3, .int y4, .int y5, .int y6, .int y7])), (a1_39, .inl (T.2 0, 7, .inl xw))] := ⟨a1_39, rfl⟩
        have G : zS T A s.heap s [[(dy, .inr (2, [.int dd, .ref a1_24, .ref a2_25, .ref a3_26]))], [(a1_24, .inl (T.2 0, 40, .inl d1))], [(a2_25, .inl (T.2 0, 40, .inl d2))], [(a3_26, .inl (T.2 0, 40, .inl d3))], [(h, .inr (1, [.ref po, .ref a1_39, .int y0, .ref o, .int y1, .int y2, .int y3, .int y4, .int y5, .int y6, .int y7])), (a1_39, .inl (T.2 0, 7, .inl xw))], wp3, [(o, .inr (4, [.int cr, .int inn, .ref a1_20, .ref a2_21, .ref a3_22, .ref a4_23])), (a1_20, .inl (T.2 0, 7, .inl k1)), (a2_21, .inl (T.2 0, 28, .inl k2)), (a3_22, .inl (T.2 0, 7, .inl k3)), (a4_23, .inl (T.2 0, 7, .inl k4))]] _ _ := G.re rfl
        have hw_41 : bDay T dy dd d1 d2 d3 [(dy, .inr (2, [.int dd, .ref a1_24, .ref a2_25, .ref a3_26])), (a1_24, .inl (T.2 0, 40, .inl d1)), (a2_25, .inl (T.2 0, 40, .inl d2)), (a3_26, .inl (T.2 0, 40, .inl d3))] := ⟨a1_24, a2_25, a3_26, rfl⟩
        have G : zS T A s.heap s [[(dy, .inr (2, [.int dd, .ref a1_24, .ref a2_25, .ref a3_26])), (a1_24, .inl (T.2 0, 40, .inl d1)), (a2_25, .inl (T.2 0, 40, .inl d2)), (a3_26, .inl (T.2 0, 40, .inl d3))], [(h, .inr (1, [.ref po, .ref a1_39, .int y0, .ref o, .int y1, .int y2, .int y3, .int y4, .int y5, .int y6, .int y7])), (a1_39, .inl (T.2 0, 7, .inl xw))], wp3, [(o, .inr (4, [.int cr, .int inn, .ref a1_20, .ref a2_21, .ref a3_22, .ref a4_23])), (a1_20, .inl (T.2 0, 7, .inl k1)), (a2_21, .inl (T.2 0, 28, .inl k2)), (a3_22, .inl (T.2 0, 7, .inl k3)), (a4_23, .inl (T.2 0, 7, .inl k4))]] _ _ := G.re rfl
        have G := G.sub (bs' := [[(h, .inr (1, [.ref po, .ref a1_39, .int y0, .ref o, .int y1, .int y2, .int y3, .int y4, .int y5, .int y6, .int y7])), (a1_39, .inl (T.2 0, 7, .inl xw))], wp3, [(o, .inr (4, [.int cr, .int inn, .ref a1_20, .ref a2_21, .ref a3_22, .ref a4_23])), (a1_20, .inl (T.2 0, 7, .inl k1)), (a2_21, .inl (T.2 0, 28, .inl k2)), (a3_22, .inl (T.2 0, 7, .inl k3)), (a4_23, .inl (T.2 0, 7, .inl k4))], [(dy, .inr (2, [.int dd, .ref a1_24, .ref a2_25, .ref a3_26])), (a1_24, .inl (T.2 0, 40, .inl d1)), (a2_25, .inl (T.2 0, 40, .inl d2)), (a3_26, .inl (T.2 0, 40, .inl d3))]]) [1, 2, 3, 0] rfl
        exact z_iret C hr hlocks G (Nat.le_of_ble_eq_true rfl) (Nat.le_of_ble_eq_true rfl) dX1_goThrough_73 ⟨([(h, .inr (1, [.ref po, .ref a1_39, .int y0, .ref o, .int y1, .int y2, .int y3, .int y4, .int y5, .int y6, .int y7])), (a1_39, .inl (T.2 0, 7, .inl xw))]), xw, y0, y1, y2, y3, y4, y5, y6, y7, wp3, x1, x2, g3_7, sb, wb, rfl, hw_40, hp3, hQx, ⟨g1_5, g2_6, g3_7, gw_2, ⟨hQ, h_12, h_13, h_14, h_10⟩, (hy2.trans (congrArg (fun q => nI q.1) (hR9.symm.trans (hR.trans (zDayN_z (by omega))))).symm), ((congrArg (fun q => q.2) (hR9.symm.trans (hR.trans (zDayN_z (by omega))))).symm)⟩⟩
      · have c_38n : ¬ 40 ≤ i := fun q => c_38 ((nI_leI (a := 40) (b := i) (by omega) (by omega)).mpr q)
        refine lv_aload_n hx hb dX1_goThrough_30 rfl (lv_at hl 1 rfl) ?_
        refine lv_aload_n hx hb dX1_goThrough_31 rfl (lv_at hl 3 rfl) ?_
        refine z_get C G clX2 0 rfl 1 (by decide) m_fl_RX1_65 rfl dX1_goThrough_32 ?_
        refine lv_iload hx hb dX1_goThrough_35 (lv_at hl 0 rfl) ?_
        refine z_ild C G 1 rfl (vp_in_nI (by omega) (by omega)) dX1_goThrough_37 ?_
        refine lv_topi (fun v_42 ev_42 => ?_)
        rw [nI_clamp (by omega)] at ev_42
        subst ev_42
        refine lv_aload_n hx hb dX1_goThrough_38 rfl (lv_at hl 3 rfl) ?_
        refine z_get C G clX2 0 rfl 2 (by decide) m_fl_RX1_68 rfl dX1_goThrough_39 ?_
        refine lv_iload hx hb dX1_goThrough_42 (lv_at hl 0 rfl) ?_
        refine z_ild C G 2 rfl (vp_in_nI (by omega) (by omega)) dX1_goThrough_44 ?_
        refine lv_topi (fun v_43 ev_43 => ?_)
        rw [nI_clamp (by omega)] at ev_43
        subst ev_43
        refine lv_aload_n hx hb dX1_goThrough_45 rfl (lv_at hl 3 rfl) ?_
        refine z_get C G clX2 0 rfl 3 (by decide) m_fl_RX1_71 rfl dX1_goThrough_46 ?_
        refine lv_iload hx hb dX1_goThrough_49 (lv_at hl 0 rfl) ?_
        refine z_ild C G 3 rfl (vp_in_nI (by omega) (by omega)) dX1_goThrough_51 ?_
        refine lv_topi (fun v_44 ev_44 => ?_)
        rw [nI_clamp (by omega)] at ev_44
        subst ev_44
        refine z_Vi (bc := [wc3, wp3, [(o, .inr (4, [.int cr, .int inn, .ref a1_20, .ref a2_21, .ref a3_22, .ref a4_23])), (a1_20, .inl (T.2 0, 7, .inl k1)), (a2_21, .inl (T.2 0, 28, .inl k2)), (a3_22, .inl (T.2 0, 7, .inl k3)), (a4_23, .inl (T.2 0, 7, .inl k4))]]) (br := [[(dy, .inr (2, [.int dd, .ref a1_24, .ref a2_25, .ref a3_26]))], [(a1_24, .inl (T.2 0, 40, .inl d1))], [(a2_25, .inl (T.2 0, 40, .inl d2))], [(a3_26, .inl (T.2 0, 40, .inl d3))]]) (As := [.int (d1 i), .int (d2 i), .int (d3 i)]) (rest := []) C G (c_f_does l T h po o xw y0 y1 y2 y3 y4 y5 y6 y7 wc3 x1 x2 g3_7 sb wb wp3 cr inn k1 k2 k3 k4 ([(o, .inr (4, [.int cr, .int inn, .ref a1_20, .ref a2_21, .ref a3_22, .ref a4_23])), (a1_20, .inl (T.2 0, 7, .inl k1)), (a2_21, .inl (T.2 0, 28, .inl k2)), (a3_22, .inl (T.2 0, 7, .inl k3)), (a4_23, .inl (T.2 0, 7, .inl k4))]) (d1 i) (d2 i) (d3 i) hc3 hp3 hw_29 hQx hI hW hLq) (kV_RX1_74 C.2.2.2.2 (Nat.le_of_ble_eq_true rfl) (Nat.le_of_ble_eq_true rfl)) [4, 5, 6] [0, 1, 2, 3] rfl rfl (ci := 1) (qc := (RX1, TX1, 11)) rfl rfl (List.mem_flatten.mpr ⟨_, List.mem_of_getElem? (i := 0) rfl, (bCourse_mem hc3).choose_spec⟩) rfl rfl hl.1 dX1_goThrough_52 (Nat.le_of_ble_eq_true rfl) (Nat.le_of_ble_eq_true rfl) (fun r_65 b1 H locs hw G => ?_)
        obtain ⟨wc2_45, gw_46, u0_47, u1_48, u2_49, u3_50, u4_51, u5_52, u6_53, u7_54, wp2_55, g1_56, g2_57, sa_58, wa_59, rfl, h_60, h_61, h_62, h_63, h_64⟩ := hw
        have G : zS T A s.heap s [[(dy, .inr (2, [.int dd, .ref a1_24, .ref a2_25, .ref a3_26]))], [(a1_24, .inl (T.2 0, 40, .inl d1))], [(a2_25, .inl (T.2 0, 40, .inl d2))], [(a3_26, .inl (T.2 0, 40, .inl d3))], wc2_45, wp2_55, [(o, .inr (4, [.int cr, .int inn, .ref a1_20, .ref a2_21, .ref a3_22, .ref a4_23])), (a1_20, .inl (T.2 0, 7, .inl k1)), (a2_21, .inl (T.2 0, 28, .inl k2)), (a3_22, .inl (T.2 0, 7, .inl k3)), (a4_23, .inl (T.2 0, 7, .inl k4))]] _ _ := G
        have hQ2 : zP3 g1_56 g3_7 := h_62
        refine lv_if_ne (tgt := 63) hx hb dX1_goThrough_55 (by decide) (fun c_66 => ?_) (fun c_66 => ?_)
        · have c_66n : ¬ r_65.toInt = (0 : Int) := fun q => c_66 ((fa_eq _ _).mpr q)
          have hs := (h_63).resolve_right (fun q8 => by have e8 : r_65.toInt = 0 := (by rw [q8.1]; rfl); omega)
          refine lv_iinc (v := nI (i + 1)) (lv' := [(4, .int (nI (i + 1))), (0, .ref h), (1, .ref o), (2, .ref dy), (3, .int n)]) hx hb dX1_goThrough_63 hl (k := 0) rfl (z_inc i 1) (by decide) rfl (fun ls hl => ?_)
          refine lv_goto (tgt := 8) hx hb dX1_goThrough_66 (by decide) ?_
          have hw_67 : bDay T dy dd d1 d2 d3 [(dy, .inr (2, [.int dd, .ref a1_24, .ref a2_25, .ref a3_26])), (a1_24, .inl (T.2 0, 40, .inl d1)), (a2_25, .inl (T.2 0, 40, .inl d2)), (a3_26, .inl (T.2 0, 40, .inl d3))] := ⟨a1_24, a2_25, a3_26, rfl⟩
          have G : zS T A s.heap s [[(dy, .inr (2, [.int dd, .ref a1_24, .ref a2_25, .ref a3_26])), (a1_24, .inl (T.2 0, 40, .inl d1)), (a2_25, .inl (T.2 0, 40, .inl d2)), (a3_26, .inl (T.2 0, 40, .inl d3))], wc2_45, wp2_55, [(o, .inr (4, [.int cr, .int inn, .ref a1_20, .ref a2_21, .ref a3_22, .ref a4_23])), (a1_20, .inl (T.2 0, 7, .inl k1)), (a2_21, .inl (T.2 0, 28, .inl k2)), (a3_22, .inl (T.2 0, 7, .inl k3)), (a4_23, .inl (T.2 0, 7, .inl k4))]] _ _ := G.re rfl
          exact ih_8 ((i + 1), wc2_45, gw_46, u0_47, u1_48, u2_49, u3_50, u4_51, u5_52, u6_53, u7_54, wp2_55, g1_56, g2_57, sa_58, wa_59) (show bCourse T h po o gw_46 u0_47 u1_48 u2_49 u3_50 u4_51 u5_52 u6_53 u7_54 wc2_45 ∧ bPosts T po o g1_56 g2_57 g3_7 sa_58 wa_59 wp2_55 ∧ (i + 1) ≤ 40 ∧ zP3 g1_56 g3_7 ∧ u2_49 = nI (i + 1) ∧ R9 = zDayN (fun k D => zDe cr inn g3_7 k1 k2 (d1 k) (d2 k) (d3 k) D) ((min (min n.toInt dd.toInt) 40).toNat - (i + 1)) (i + 1) (g1_56, g2_57, gw_46, u0_47, u1_48) from ⟨h_60, h_61, by omega, hQ2, hs.2.2.trans ((congrArg (fun q => q + 1) hy2).trans (zInc1 i)), (hR.trans (by rw [show (min (min n.toInt dd.toInt) 40).toNat - i = ((min (min n.toInt dd.toInt) 40).toNat - (i + 1)) + 1 by omega]; exact zDayN_s hs.2.1))⟩) (show 40 - (i + 1) < 40 - i from by omega) _ _ ls G (lv_sub hl [0, 1, 2, 3, 4] rfl)
        · have c_66n : r_65.toInt = (0 : Int) := (fa_eq _ _).mp c_66
          have hs := (h_63).resolve_left (fun q8 => by have e8 : r_65.toInt = 1 := (by rw [q8.1]; rfl); omega)
          refine lv_aload_n hx hb dX1_goThrough_58 rfl (lv_at hl 1 rfl) ?_
          obtain ⟨a1_68, rfl⟩ := h_60
          have G : zS T A s.heap s [[(dy, .inr (2, [.int dd, .ref a1_24, .ref a2_25, .ref a3_26]))], [(a1_24, .inl (T.2 0, 40, .inl d1))], [(a2_25, .inl (T.2 0, 40, .inl d2))], [(a3_26, .inl (T.2 0, 40, .inl d3))], [(h, .inr (1, [.ref po, .ref a1_68, .int u0_47, .ref o, .int u1_48, .int u2_49, .int u3_50, .int u4_51, .int u5_52, .int u6_53, .int u7_54]))], [(a1_68, .inl (T.2 0, 7, .inl gw_46))], wp2_55, [(o, .inr (4, [.int cr, .int inn, .ref a1_20, .ref a2_21, .ref a3_22, .ref a4_23])), (a1_20, .inl (T.2 0, 7, .inl k1)), (a2_21, .inl (T.2 0, 28, .inl k2)), (a3_22, .inl (T.2 0, 7, .inl k3)), (a4_23, .inl (T.2 0, 7, .inl k4))]] _ _ := G.re rfl
          refine z_get C G clX1 4 rfl 5 (by decide) m_fl_RX1_41 rfl dX1_goThrough_59 ?_
          have hw_69 : bDay T dy dd d1 d2 d3 [(dy, .inr (2, [.int dd, .ref a1_24, .ref a2_25, .ref a3_26])), (a1_24, .inl (T.2 0, 40, .inl d1)), (a2_25, .inl (T.2 0, 40, .inl d2)), (a3_26, .inl (T.2 0, 40, .inl d3))] := ⟨a1_24, a2_25, a3_26, rfl⟩
          have G : zS T A s.heap s [[(dy, .inr (2, [.int dd, .ref a1_24, .ref a2_25, .ref a3_26])), (a1_24, .inl (T.2 0, 40, .inl d1)), (a2_25, .inl (T.2 0, 40, .inl d2)), (a3_26, .inl (T.2 0, 40, .inl d3))], [(h, .inr (1, [.ref po, .ref a1_68, .int u0_47, .ref o, .int u1_48, .int u2_49, .int u3_50, .int u4_51, .int u5_52, .int u6_53, .int u7_54]))], [(a1_68, .inl (T.2 0, 7, .inl gw_46))], wp2_55, [(o, .inr (4, [.int cr, .int inn, .ref a1_20, .ref a2_21, .ref a3_22, .ref a4_23])), (a1_20, .inl (T.2 0, 7, .inl k1)), (a2_21, .inl (T.2 0, 28, .inl k2)), (a3_22, .inl (T.2 0, 7, .inl k3)), (a4_23, .inl (T.2 0, 7, .inl k4))]] _ _ := G.re rfl
          have hw_70 : bCourse T h po o gw_46 u0_47 u1_48 u2_49 u3_50 u4_51 u5_52 u6_53 u7_54 [(h, .inr (1, [.ref po, .ref a1_68, .int u0_47, .ref o, .int u1_48, .int u2_49, .int u3_50, .int u4_51, .int u5_52, .int u6_53, .int u7_54])), (a1_68, .inl (T.2 0, 7, .inl gw_46))] := ⟨a1_68, rfl⟩
          have G : zS T A s.heap s [[(dy, .inr (2, [.int dd, .ref a1_24, .ref a2_25, .ref a3_26])), (a1_24, .inl (T.2 0, 40, .inl d1)), (a2_25, .inl (T.2 0, 40, .inl d2)), (a3_26, .inl (T.2 0, 40, .inl d3))], [(h, .inr (1, [.ref po, .ref a1_68, .int u0_47, .ref o, .int u1_48, .int u2_49, .int u3_50, .int u4_51, .int u5_52, .int u6_53, .int u7_54])), (a1_68, .inl (T.2 0, 7, .inl gw_46))], wp2_55, [(o, .inr (4, [.int cr, .int inn, .ref a1_20, .ref a2_21, .ref a3_22, .ref a4_23])), (a1_20, .inl (T.2 0, 7, .inl k1)), (a2_21, .inl (T.2 0, 28, .inl k2)), (a3_22, .inl (T.2 0, 7, .inl k3)), (a4_23, .inl (T.2 0, 7, .inl k4))]] _ _ := G.re rfl
          have G := G.sub (bs' := [[(h, .inr (1, [.ref po, .ref a1_68, .int u0_47, .ref o, .int u1_48, .int u2_49, .int u3_50, .int u4_51, .int u5_52, .int u6_53, .int u7_54])), (a1_68, .inl (T.2 0, 7, .inl gw_46))], wp2_55, [(o, .inr (4, [.int cr, .int inn, .ref a1_20, .ref a2_21, .ref a3_22, .ref a4_23])), (a1_20, .inl (T.2 0, 7, .inl k1)), (a2_21, .inl (T.2 0, 28, .inl k2)), (a3_22, .inl (T.2 0, 7, .inl k3)), (a4_23, .inl (T.2 0, 7, .inl k4))], [(dy, .inr (2, [.int dd, .ref a1_24, .ref a2_25, .ref a3_26])), (a1_24, .inl (T.2 0, 40, .inl d1)), (a2_25, .inl (T.2 0, 40, .inl d2)), (a3_26, .inl (T.2 0, 40, .inl d3))]]) [1, 2, 3, 0] rfl
          exact z_iret C hr hlocks G (Nat.le_of_ble_eq_true rfl) (Nat.le_of_ble_eq_true rfl) dX1_goThrough_62 ⟨([(h, .inr (1, [.ref po, .ref a1_68, .int u0_47, .ref o, .int u1_48, .int u2_49, .int u3_50, .int u4_51, .int u5_52, .int u6_53, .int u7_54])), (a1_68, .inl (T.2 0, 7, .inl gw_46))]), gw_46, u0_47, u1_48, u2_49, u3_50, u4_51, u5_52, u6_53, u7_54, wp2_55, g1_56, g2_57, g3_7, sa_58, wa_59, rfl, hw_70, h_61, hQ2, ⟨g1_5, g2_6, g3_7, gw_2, ⟨hQ, h_12, h_13, h_14, h_10⟩, (by rw [← hR9, hR.trans (zDayN_n hs.2.1)]; exact hs.2.2.2.2.2.2.2.trans hy2), (by rw [← hR9, hR.trans (zDayN_n hs.2.1)]; rw [hs.2.2.1, hs.2.2.2.1, hs.2.2.2.2.1, hs.2.2.2.2.2.1, hs.2.2.2.2.2.2.1])⟩⟩
/-- walkers: none below nothing, never many -/
def zHB (m : Int) (H : Nat → Int32) : Prop := ∀ j, j < 7 → 0 ≤ (H j).toInt ∧ (H j).toInt ≤ m
theorem zMvH_b {m : Int} {H : Nat → Int32} {x y : Int32} (hm : m ≤ 100000) (h : zHB m H) (hx : 0 ≤ x.toInt ∧ x.toInt < 7) (hy : 0 ≤ y.toInt ∧ y.toInt < 7) (h1 : 1 ≤ (H x.toNatClampNeg).toInt) : zHB (m + 1) (zMvH H x y) := by
  have ex := z_clI hx.1
  have ey := z_clI hy.1
  have bx := h x.toNatClampNeg (by omega)
  have e1 : (1 : Int32).toInt = 1 := rfl
  have d : (H x.toNatClampNeg - 1).toInt = (H x.toNatClampNeg).toInt - 1 := (z_isubI (x := H x.toNatClampNeg) (y := 1) (by rw [e1]; omega) (by rw [e1]; omega)).trans (by rw [e1])
  have g : zHB m (upd H x.toNatClampNeg (H x.toNatClampNeg - 1)) := by
    intro j hj
    unfold upd
    split
    · omega
    · exact h j hj
  have by_ := g y.toNatClampNeg (by omega)
  intro j hj
  unfold zMvH
  by_cases q : j = y.toNatClampNeg
  · rw [z_eq q, z_iaddI (by rw [e1]; omega) (by rw [e1]; omega), e1]
    omega
  · rw [z_ne q]
    have := g j hj
    omega
theorem zAdd_b {m : Int} {H : Nat → Int32} {k : Nat} (hm : m ≤ 100000) (h : zHB m H) (hk : k < 7) : zHB (m + 1) (upd H k (H k + 1)) := by
  have e1 : (1 : Int32).toInt = 1 := rfl
  have b := h k hk
  intro j hj
  by_cases q : j = k
  · rw [z_eq q, z_iaddI (by rw [e1]; omega) (by rw [e1]; omega), e1]
    omega
  · rw [z_ne q]
    have := h j hj
    omega
theorem zHB_m {m n : Int} {H : Nat → Int32} (h : zHB m H) (q : m ≤ n) : zHB n H := fun j hj => ⟨(h j hj).1, Int.le_trans (h j hj).2 q⟩
/-- roads shut: of four -/
def zS15 (S : Nat → Int32) : Prop := ∀ j, j < 7 → 0 ≤ (S j).toInt ∧ (S j).toInt ≤ 15
theorem zSx1 : ∀ t, t < 16 → ∀ c, c < 4 → (zBit (nI t) (nI c) = 0 → nI t ^^^ ((1 : Int32) <<< (nI c &&& 31)) = nI t ||| ((1 : Int32) <<< (nI c &&& 31)) ∧ 0 ≤ (nI t ||| ((1 : Int32) <<< (nI c &&& 31))).toInt ∧ (nI t ||| ((1 : Int32) <<< (nI c &&& 31))).toInt ≤ 15) ∧ (¬ zBit (nI t) (nI c) = 0 → nI t ^^^ ((1 : Int32) <<< (nI c &&& 31)) = nI t &&& ((1 : Int32) <<< (nI c &&& 31) ^^^ (-1)) ∧ 0 ≤ (nI t &&& ((1 : Int32) <<< (nI c &&& 31) ^^^ (-1))).toInt ∧ (nI t &&& ((1 : Int32) <<< (nI c &&& 31) ^^^ (-1))).toInt ≤ 15) := by decide +kernel
theorem zSx {s k : Int32} (hs : 0 ≤ s.toInt ∧ s.toInt ≤ 15) (hk : 0 ≤ k.toInt ∧ k.toInt ≤ 3) : (zBit s k = 0 → s ^^^ ((1 : Int32) <<< (k &&& 31)) = s ||| ((1 : Int32) <<< (k &&& 31)) ∧ 0 ≤ (s ||| ((1 : Int32) <<< (k &&& 31))).toInt ∧ (s ||| ((1 : Int32) <<< (k &&& 31))).toInt ≤ 15) ∧ (¬ zBit s k = 0 → s ^^^ ((1 : Int32) <<< (k &&& 31)) = s &&& ((1 : Int32) <<< (k &&& 31) ^^^ (-1)) ∧ 0 ≤ (s &&& ((1 : Int32) <<< (k &&& 31) ^^^ (-1))).toInt ∧ (s &&& ((1 : Int32) <<< (k &&& 31) ^^^ (-1))).toInt ≤ 15) := by
  have e1 : s = nI s.toInt.toNat := z_nI (by omega) (by omega)
  have e2 : k = nI k.toInt.toNat := z_nI (by omega) (by omega)
  rw [e1, e2]
  exact zSx1 _ (by omega) _ (by omega)
theorem zS15_u {S : Nat → Int32} {k : Nat} {v : Int32} (h : zS15 S) (hv : 0 ≤ v.toInt ∧ v.toInt ≤ 15) : zS15 (upd S k v) := by
  intro j hj
  unfold upd
  split
  · exact hv
  · exact h j hj
set_option maxHeartbeats 4000000 in
set_option maxRecDepth 100000 in
/-- c_fm_goesFrom -/
theorem c_fm_goesFrom (l : Launch) (T : zTy) (mo : Nat) (m_all : Nat) (m_has : Nat) (i_size : Int32) (i_next : Int32) (i_where : Int32) (i_token : Int32) (i_number : Int32) (i_word : Int32) (i_wrong : Int32) (i_farCrossing : Int32) (m_read : Nat) (i_z0 : Int32) (i_crossings : Int32) (i_inns : Int32) (m_posts : Nat) (m_shut : Nat) (m_here : Nat) (i_steps : Int32) (i_done : Int32) (i_at : Int32) (i_gone : Int32) (m_was : Nat) (m_came : Nat) (m_seenAt : Nat) (m_rowWorth : Nat) (m_farBy : Nat) (m_used : Nat) (i_everywhere : Int32) (i_again0 : Int32) (i_d0 : Int32) (i_never : Int32) (i_firstCame : Int32) (i_longRun : Int32) (i_moved : Int32) (i_crowd : Int32) (i_l0 : Int32) (i_fitMany : Int32) (i_fitLeast : Int32) (i_fitMost : Int32) (m_fitPost : Nat) (m_fitEnd : Nat) (m_keptPosts : Nat) (i_x0 : Int32) (f_here : Nat → Int32) (c_ : Int32) (hc0 : 0 ≤ c_.toInt) (hc6 : c_.toInt ≤ 6) (ha0 : 0 ≤ i_at.toInt) (ha6 : i_at.toInt ≤ 6) : zMv l T yX12_goesFrom cX12_goesFrom 2 2 0 0 [.ref mo, .int c_] [[(mo, .inr (11, [.ref m_all, .ref m_has, .int i_size, .int i_next, .int i_where, .int i_token, .int i_number, .int i_word, .int i_wrong, .int i_farCrossing, .ref m_read, .int i_z0, .int i_crossings, .int i_inns, .ref m_posts, .ref m_shut, .ref m_here, .int i_steps, .int i_done, .int i_at, .int i_gone, .ref m_was, .ref m_came, .ref m_seenAt, .ref m_rowWorth, .ref m_farBy, .ref m_used, .int i_everywhere, .int i_again0, .int i_d0, .int i_never, .int i_firstCame, .int i_longRun, .int i_moved, .int i_crowd, .int i_l0, .int i_fitMany, .int i_fitLeast, .int i_fitMost, .ref m_fitPost, .ref m_fitEnd, .ref m_keptPosts, .int i_x0]))], [(m_here, .inl (T.2 0, 7, .inl f_here))]] (fun bs => ∃ (j_steps : Int32) (j_moved : Int32) (j_firstCame : Int32) (g_here : Nat → Int32), bs = [[(mo, .inr (11, [.ref m_all, .ref m_has, .int i_size, .int i_next, .int i_where, .int i_token, .int i_number, .int i_word, .int i_wrong, .int i_farCrossing, .ref m_read, .int i_z0, .int i_crossings, .int i_inns, .ref m_posts, .ref m_shut, .ref m_here, .int j_steps, .int i_done, .int i_at, .int i_gone, .ref m_was, .ref m_came, .ref m_seenAt, .ref m_rowWorth, .ref m_farBy, .ref m_used, .int i_everywhere, .int i_again0, .int i_d0, .int i_never, .int j_firstCame, .int i_longRun, .int j_moved, .int i_crowd, .int i_l0, .int i_fitMany, .int i_fitLeast, .int i_fitMost, .ref m_fitPost, .ref m_fitEnd, .ref m_keptPosts, .int i_x0]))], [(m_here, .inl (T.2 0, 7, .inl g_here))]] ∧ g_here = zMvH f_here c_ i_at ∧ j_steps = i_steps + i_gone) := by
  refine zMv_of (own := RX12) (by decide) rfl (Nat.le_of_ble_eq_true rfl) ?_
  intro p e s m args below meth c A ls C hr hlocks hnm hAe G hl
  have hx := C.1
  have hb := C.2.1
  have hl : lv_has ls 2 [(0, .ref mo), (1, .int c_)] := hl
  refine lv_aload_n hx hb dX12_goesFrom_0 rfl (lv_at hl 0 rfl) ?_
  refine z_get C G clX12 0 rfl 16 (by decide) m_fl_RX12_26 rfl dX12_goesFrom_1 ?_
  refine lv_iload_n hx hb dX12_goesFrom_4 rfl (lv_at hl 1 rfl) ?_
  refine lv_dup2_11 hx hb dX12_goesFrom_5 rfl rfl ?_
  refine z_ild C G 1 rfl (vp_in_iff.mpr ⟨by omega, by omega⟩) dX12_goesFrom_6 ?_
  refine lv_topi (fun v_1 ev_1 => ?_)
  subst ev_1
  refine lv_iconst (v := 1) hx hb dX12_goesFrom_7 (by decide) ?_
  refine lv_isub hx hb dX12_goesFrom_8 ?_
  refine z_ist C G 1 rfl (vp_in_iff.mpr ⟨by omega, by omega⟩) dX12_goesFrom_9 (fun H locs G => ?_)
  have G : zS T A s.heap s [[(mo, .inr (11, [.ref m_all, .ref m_has, .int i_size, .int i_next, .int i_where, .int i_token, .int i_number, .int i_word, .int i_wrong, .int i_farCrossing, .ref m_read, .int i_z0, .int i_crossings, .int i_inns, .ref m_posts, .ref m_shut, .ref m_here, .int i_steps, .int i_done, .int i_at, .int i_gone, .ref m_was, .ref m_came, .ref m_seenAt, .ref m_rowWorth, .ref m_farBy, .ref m_used, .int i_everywhere, .int i_again0, .int i_d0, .int i_never, .int i_firstCame, .int i_longRun, .int i_moved, .int i_crowd, .int i_l0, .int i_fitMany, .int i_fitLeast, .int i_fitMost, .ref m_fitPost, .ref m_fitEnd, .ref m_keptPosts, .int i_x0]))], [(m_here, .inl (T.2 0, 7, .inl (upd f_here c_.toNatClampNeg ((f_here c_.toNatClampNeg) - 1))))]] _ _ := G
  refine lv_aload_n hx hb dX12_goesFrom_10 rfl (lv_at hl 0 rfl) ?_
  refine z_get C G clX12 0 rfl 16 (by decide) m_fl_RX12_26 rfl dX12_goesFrom_11 ?_
  refine lv_aload_n hx hb dX12_goesFrom_14 rfl (lv_at hl 0 rfl) ?_
  refine z_get C G clX12 0 rfl 19 (by decide) m_fl_RX12_202 rfl dX12_goesFrom_15 ?_
  refine lv_dup2_11 hx hb dX12_goesFrom_18 rfl rfl ?_
  refine z_ild C G 1 rfl (vp_in_iff.mpr ⟨by omega, by omega⟩) dX12_goesFrom_19 ?_
  refine lv_topi (fun v_2 ev_2 => ?_)
  subst ev_2
  refine lv_iconst (v := 1) hx hb dX12_goesFrom_20 (by decide) ?_
  refine lv_iadd hx hb dX12_goesFrom_21 ?_
  refine z_ist C G 1 rfl (vp_in_iff.mpr ⟨by omega, by omega⟩) dX12_goesFrom_22 (fun H locs G => ?_)
  have G : zS T A s.heap s [[(mo, .inr (11, [.ref m_all, .ref m_has, .int i_size, .int i_next, .int i_where, .int i_token, .int i_number, .int i_word, .int i_wrong, .int i_farCrossing, .ref m_read, .int i_z0, .int i_crossings, .int i_inns, .ref m_posts, .ref m_shut, .ref m_here, .int i_steps, .int i_done, .int i_at, .int i_gone, .ref m_was, .ref m_came, .ref m_seenAt, .ref m_rowWorth, .ref m_farBy, .ref m_used, .int i_everywhere, .int i_again0, .int i_d0, .int i_never, .int i_firstCame, .int i_longRun, .int i_moved, .int i_crowd, .int i_l0, .int i_fitMany, .int i_fitLeast, .int i_fitMost, .ref m_fitPost, .ref m_fitEnd, .ref m_keptPosts, .int i_x0]))], [(m_here, .inl (T.2 0, 7, .inl (upd (upd f_here c_.toNatClampNeg ((f_here c_.toNatClampNeg) - 1)) i_at.toNatClampNeg (((upd f_here c_.toNatClampNeg ((f_here c_.toNatClampNeg) - 1)) i_at.toNatClampNeg) + 1))))]] _ _ := G
  refine lv_aload_n hx hb dX12_goesFrom_23 rfl (lv_at hl 0 rfl) ?_
  refine lv_dup hx hb dX12_goesFrom_24 rfl ?_
  refine z_get C G clX12 0 rfl 17 (by decide) m_fl_RX12_196 rfl dX12_goesFrom_25 ?_
  refine lv_aload_n hx hb dX12_goesFrom_28 rfl (lv_at hl 0 rfl) ?_
  refine z_get C G clX12 0 rfl 20 (by decide) m_fl_RX12_208 rfl dX12_goesFrom_29 ?_
  refine lv_iadd hx hb dX12_goesFrom_32 ?_
  refine z_put C G clX12 0 rfl 17 (by decide) m_fl_RX12_196 rfl rfl rfl (Nat.le_of_ble_eq_true rfl) dX12_goesFrom_33 (fun H locs G => ?_)
  have G : zS T A s.heap s [[(mo, .inr (11, [.ref m_all, .ref m_has, .int i_size, .int i_next, .int i_where, .int i_token, .int i_number, .int i_word, .int i_wrong, .int i_farCrossing, .ref m_read, .int i_z0, .int i_crossings, .int i_inns, .ref m_posts, .ref m_shut, .ref m_here, .int (i_steps + i_gone), .int i_done, .int i_at, .int i_gone, .ref m_was, .ref m_came, .ref m_seenAt, .ref m_rowWorth, .ref m_farBy, .ref m_used, .int i_everywhere, .int i_again0, .int i_d0, .int i_never, .int i_firstCame, .int i_longRun, .int i_moved, .int i_crowd, .int i_l0, .int i_fitMany, .int i_fitLeast, .int i_fitMost, .ref m_fitPost, .ref m_fitEnd, .ref m_keptPosts, .int i_x0]))], [(m_here, .inl (T.2 0, 7, .inl (upd (upd f_here c_.toNatClampNeg ((f_here c_.toNatClampNeg) - 1)) i_at.toNatClampNeg (((upd f_here c_.toNatClampNeg ((f_here c_.toNatClampNeg) - 1)) i_at.toNatClampNeg) + 1))))]] _ _ := G
  refine lv_aload_n hx hb dX12_goesFrom_36 rfl (lv_at hl 0 rfl) ?_
  refine lv_dup hx hb dX12_goesFrom_37 rfl ?_
  refine z_get C G clX12 0 rfl 33 (by decide) m_fl_RX12_311 rfl dX12_goesFrom_38 ?_
  refine lv_aload_n hx hb dX12_goesFrom_41 rfl (lv_at hl 0 rfl) ?_
  refine z_get C G clX12 0 rfl 19 (by decide) m_fl_RX12_202 rfl dX12_goesFrom_42 ?_
  refine lv_iload_n hx hb dX12_goesFrom_45 rfl (lv_at hl 1 rfl) ?_
  refine lv_icmp_ne (tgt := 53) hx hb dX12_goesFrom_46 (by decide) (fun c_3 => ?_) (fun c_3 => ?_)
  · have c_3n : ¬ i_at.toInt = c_.toInt := fun q => c_3 ((fa_eq _ _).mpr q)
    refine lv_iconst (v := 1) hx hb dX12_goesFrom_53 (by decide) ?_
    refine lv_iadd hx hb dX12_goesFrom_54 ?_
    refine z_put C G clX12 0 rfl 33 (by decide) m_fl_RX12_311 rfl rfl rfl (Nat.le_of_ble_eq_true rfl) dX12_goesFrom_55 (fun H locs G => ?_)
    have G : zS T A s.heap s [[(mo, .inr (11, [.ref m_all, .ref m_has, .int i_size, .int i_next, .int i_where, .int i_token, .int i_number, .int i_word, .int i_wrong, .int i_farCrossing, .ref m_read, .int i_z0, .int i_crossings, .int i_inns, .ref m_posts, .ref m_shut, .ref m_here, .int (i_steps + i_gone), .int i_done, .int i_at, .int i_gone, .ref m_was, .ref m_came, .ref m_seenAt, .ref m_rowWorth, .ref m_farBy, .ref m_used, .int i_everywhere, .int i_again0, .int i_d0, .int i_never, .int i_firstCame, .int i_longRun, .int (i_moved + 1), .int i_crowd, .int i_l0, .int i_fitMany, .int i_fitLeast, .int i_fitMost, .ref m_fitPost, .ref m_fitEnd, .ref m_keptPosts, .int i_x0]))], [(m_here, .inl (T.2 0, 7, .inl (upd (upd f_here c_.toNatClampNeg ((f_here c_.toNatClampNeg) - 1)) i_at.toNatClampNeg (((upd f_here c_.toNatClampNeg ((f_here c_.toNatClampNeg) - 1)) i_at.toNatClampNeg) + 1))))]] _ _ := G
    refine lv_aload_n hx hb dX12_goesFrom_58 rfl (lv_at hl 0 rfl) ?_
    refine z_get C G clX12 0 rfl 31 (by decide) m_fl_RX12_314 rfl dX12_goesFrom_59 ?_
    refine lv_iconst (v := (-1)) hx hb dX12_goesFrom_62 (by decide) ?_
    refine lv_icmp_ne (tgt := 92) hx hb dX12_goesFrom_63 (by decide) (fun c_4 => ?_) (fun c_4 => ?_)
    · have c_4n : ¬ i_firstCame.toInt = (-1 : Int) := fun q => c_4 ((fa_eq _ _).mpr q)
      exact z_vret C hr hlocks G (Nat.le_of_ble_eq_true rfl) (Nat.le_of_ble_eq_true rfl) dX12_goesFrom_92 ⟨(i_steps + i_gone), (i_moved + 1), i_firstCame, (upd (upd f_here c_.toNatClampNeg ((f_here c_.toNatClampNeg) - 1)) i_at.toNatClampNeg (((upd f_here c_.toNatClampNeg ((f_here c_.toNatClampNeg) - 1)) i_at.toNatClampNeg) + 1)), rfl, rfl, rfl⟩
    · have c_4n : i_firstCame.toInt = (-1 : Int) := (fa_eq _ _).mp c_4
      refine lv_aload_n hx hb dX12_goesFrom_66 rfl (lv_at hl 0 rfl) ?_
      refine z_get C G clX12 0 rfl 20 (by decide) m_fl_RX12_208 rfl dX12_goesFrom_67 ?_
      refine lv_if_le (tgt := 92) hx hb dX12_goesFrom_70 (by decide) (fun c_5 => ?_) (fun c_5 => ?_)
      · have c_5n : i_gone.toInt ≤ (0 : Int) := (fa_le _ _).mp c_5
        exact z_vret C hr hlocks G (Nat.le_of_ble_eq_true rfl) (Nat.le_of_ble_eq_true rfl) dX12_goesFrom_92 ⟨(i_steps + i_gone), (i_moved + 1), i_firstCame, (upd (upd f_here c_.toNatClampNeg ((f_here c_.toNatClampNeg) - 1)) i_at.toNatClampNeg (((upd f_here c_.toNatClampNeg ((f_here c_.toNatClampNeg) - 1)) i_at.toNatClampNeg) + 1)), rfl, rfl, rfl⟩
      · have c_5n : ¬ i_gone.toInt ≤ (0 : Int) := fun q => c_5 ((fa_le _ _).mpr q)
        refine lv_aload_n hx hb dX12_goesFrom_73 rfl (lv_at hl 0 rfl) ?_
        refine lv_aload_n hx hb dX12_goesFrom_74 rfl (lv_at hl 0 rfl) ?_
        refine z_get C G clX12 0 rfl 19 (by decide) m_fl_RX12_202 rfl dX12_goesFrom_75 ?_
        refine z_Vi (bc := [[(mo, .inr (11, [.ref m_all, .ref m_has, .int i_size, .int i_next, .int i_where, .int i_token, .int i_number, .int i_word, .int i_wrong, .int i_farCrossing, .ref m_read, .int i_z0, .int i_crossings, .int i_inns, .ref m_posts, .ref m_shut, .ref m_here, .int (i_steps + i_gone), .int i_done, .int i_at, .int i_gone, .ref m_was, .ref m_came, .ref m_seenAt, .ref m_rowWorth, .ref m_farBy, .ref m_used, .int i_everywhere, .int i_again0, .int i_d0, .int i_never, .int i_firstCame, .int i_longRun, .int (i_moved + 1), .int i_crowd, .int i_l0, .int i_fitMany, .int i_fitLeast, .int i_fitMost, .ref m_fitPost, .ref m_fitEnd, .ref m_keptPosts, .int i_x0]))]]) (br := [[(m_here, .inl (T.2 0, 7, .inl (upd (upd f_here c_.toNatClampNeg ((f_here c_.toNatClampNeg) - 1)) i_at.toNatClampNeg (((upd f_here c_.toNatClampNeg ((f_here c_.toNatClampNeg) - 1)) i_at.toNatClampNeg) + 1))))]]) (As := [.int i_at]) (rest := []) C G (c_m_isInn l T mo m_all m_has i_size i_next i_where i_token i_number i_word i_wrong i_farCrossing m_read i_z0 i_crossings i_inns m_posts m_shut m_here (i_steps + i_gone) i_done i_at i_gone m_was m_came m_seenAt m_rowWorth m_farBy m_used i_everywhere i_again0 i_d0 i_never i_firstCame i_longRun (i_moved + 1) i_crowd i_l0 i_fitMany i_fitLeast i_fitMost m_fitPost m_fitEnd m_keptPosts i_x0 i_at) (kV_RX12_178 C.2.2.2.2 (Nat.le_of_ble_eq_true rfl) (Nat.le_of_ble_eq_true rfl)) [0] [1] rfl rfl (ci := 11) (qc := (RX12, TX12, 43)) rfl rfl (List.mem_flatten.mpr ⟨_, List.mem_of_getElem? (i := 0) rfl, List.mem_cons_self⟩) rfl rfl hl.1 dX12_goesFrom_78 (Nat.le_of_ble_eq_true rfl) (Nat.le_of_ble_eq_true rfl) (fun r_7 b1 H locs hw G => ?_)
        obtain ⟨rfl, hc_6⟩ := hw
        have G : zS T A s.heap s [[(m_here, .inl (T.2 0, 7, .inl (upd (upd f_here c_.toNatClampNeg ((f_here c_.toNatClampNeg) - 1)) i_at.toNatClampNeg (((upd f_here c_.toNatClampNeg ((f_here c_.toNatClampNeg) - 1)) i_at.toNatClampNeg) + 1))))], [(mo, .inr (11, [.ref m_all, .ref m_has, .int i_size, .int i_next, .int i_where, .int i_token, .int i_number, .int i_word, .int i_wrong, .int i_farCrossing, .ref m_read, .int i_z0, .int i_crossings, .int i_inns, .ref m_posts, .ref m_shut, .ref m_here, .int (i_steps + i_gone), .int i_done, .int i_at, .int i_gone, .ref m_was, .ref m_came, .ref m_seenAt, .ref m_rowWorth, .ref m_farBy, .ref m_used, .int i_everywhere, .int i_again0, .int i_d0, .int i_never, .int i_firstCame, .int i_longRun, .int (i_moved + 1), .int i_crowd, .int i_l0, .int i_fitMany, .int i_fitLeast, .int i_fitMost, .ref m_fitPost, .ref m_fitEnd, .ref m_keptPosts, .int i_x0]))]] _ _ := G
        rcases hc_6 with ⟨rfl, h_8⟩ | ⟨rfl, h_9⟩
        · have h_8 : zInn i_inns i_at := h_8
          refine lv_if_eq (tgt := 92) hx hb dX12_goesFrom_81 (by decide) (fun q => absurd q (by decide)) (fun _ => ?_)
          refine lv_aload_n hx hb dX12_goesFrom_84 rfl (lv_at hl 0 rfl) ?_
          refine lv_aload_n hx hb dX12_goesFrom_85 rfl (lv_at hl 0 rfl) ?_
          refine z_get C G clX12 1 rfl 18 (by decide) m_fl_RX12_199 rfl dX12_goesFrom_86 ?_
          refine z_put C G clX12 1 rfl 31 (by decide) m_fl_RX12_314 rfl rfl rfl (Nat.le_of_ble_eq_true rfl) dX12_goesFrom_89 (fun H locs G => ?_)
          have G : zS T A s.heap s [[(m_here, .inl (T.2 0, 7, .inl (upd (upd f_here c_.toNatClampNeg ((f_here c_.toNatClampNeg) - 1)) i_at.toNatClampNeg (((upd f_here c_.toNatClampNeg ((f_here c_.toNatClampNeg) - 1)) i_at.toNatClampNeg) + 1))))], [(mo, .inr (11, [.ref m_all, .ref m_has, .int i_size, .int i_next, .int i_where, .int i_token, .int i_number, .int i_word, .int i_wrong, .int i_farCrossing, .ref m_read, .int i_z0, .int i_crossings, .int i_inns, .ref m_posts, .ref m_shut, .ref m_here, .int (i_steps + i_gone), .int i_done, .int i_at, .int i_gone, .ref m_was, .ref m_came, .ref m_seenAt, .ref m_rowWorth, .ref m_farBy, .ref m_used, .int i_everywhere, .int i_again0, .int i_d0, .int i_never, .int i_done, .int i_longRun, .int (i_moved + 1), .int i_crowd, .int i_l0, .int i_fitMany, .int i_fitLeast, .int i_fitMost, .ref m_fitPost, .ref m_fitEnd, .ref m_keptPosts, .int i_x0]))]] _ _ := G
          have G := G.sub (bs' := [[(mo, .inr (11, [.ref m_all, .ref m_has, .int i_size, .int i_next, .int i_where, .int i_token, .int i_number, .int i_word, .int i_wrong, .int i_farCrossing, .ref m_read, .int i_z0, .int i_crossings, .int i_inns, .ref m_posts, .ref m_shut, .ref m_here, .int (i_steps + i_gone), .int i_done, .int i_at, .int i_gone, .ref m_was, .ref m_came, .ref m_seenAt, .ref m_rowWorth, .ref m_farBy, .ref m_used, .int i_everywhere, .int i_again0, .int i_d0, .int i_never, .int i_done, .int i_longRun, .int (i_moved + 1), .int i_crowd, .int i_l0, .int i_fitMany, .int i_fitLeast, .int i_fitMost, .ref m_fitPost, .ref m_fitEnd, .ref m_keptPosts, .int i_x0]))], [(m_here, .inl (T.2 0, 7, .inl (upd (upd f_here c_.toNatClampNeg ((f_here c_.toNatClampNeg) - 1)) i_at.toNatClampNeg (((upd f_here c_.toNatClampNeg ((f_here c_.toNatClampNeg) - 1)) i_at.toNatClampNeg) + 1))))]]) [1, 0] rfl
          exact z_vret C hr hlocks G (Nat.le_of_ble_eq_true rfl) (Nat.le_of_ble_eq_true rfl) dX12_goesFrom_92 ⟨(i_steps + i_gone), (i_moved + 1), i_done, (upd (upd f_here c_.toNatClampNeg ((f_here c_.toNatClampNeg) - 1)) i_at.toNatClampNeg (((upd f_here c_.toNatClampNeg ((f_here c_.toNatClampNeg) - 1)) i_at.toNatClampNeg) + 1)), rfl, rfl, rfl⟩
        · have h_9 : ¬ zInn i_inns i_at := h_9
          refine lv_if_eq (tgt := 92) hx hb dX12_goesFrom_81 (by decide) (fun _ => ?_) (fun q => absurd (by decide) q)
          have G := G.sub (bs' := [[(mo, .inr (11, [.ref m_all, .ref m_has, .int i_size, .int i_next, .int i_where, .int i_token, .int i_number, .int i_word, .int i_wrong, .int i_farCrossing, .ref m_read, .int i_z0, .int i_crossings, .int i_inns, .ref m_posts, .ref m_shut, .ref m_here, .int (i_steps + i_gone), .int i_done, .int i_at, .int i_gone, .ref m_was, .ref m_came, .ref m_seenAt, .ref m_rowWorth, .ref m_farBy, .ref m_used, .int i_everywhere, .int i_again0, .int i_d0, .int i_never, .int i_firstCame, .int i_longRun, .int (i_moved + 1), .int i_crowd, .int i_l0, .int i_fitMany, .int i_fitLeast, .int i_fitMost, .ref m_fitPost, .ref m_fitEnd, .ref m_keptPosts, .int i_x0]))], [(m_here, .inl (T.2 0, 7, .inl (upd (upd f_here c_.toNatClampNeg ((f_here c_.toNatClampNeg) - 1)) i_at.toNatClampNeg (((upd f_here c_.toNatClampNeg ((f_here c_.toNatClampNeg) - 1)) i_at.toNatClampNeg) + 1))))]]) [1, 0] rfl
          exact z_vret C hr hlocks G (Nat.le_of_ble_eq_true rfl) (Nat.le_of_ble_eq_true rfl) dX12_goesFrom_92 ⟨(i_steps + i_gone), (i_moved + 1), i_firstCame, (upd (upd f_here c_.toNatClampNeg ((f_here c_.toNatClampNeg) - 1)) i_at.toNatClampNeg (((upd f_here c_.toNatClampNeg ((f_here c_.toNatClampNeg) - 1)) i_at.toNatClampNeg) + 1)), rfl, rfl, rfl⟩
  · have c_3n : i_at.toInt = c_.toInt := (fa_eq _ _).mp c_3
    refine lv_iconst (v := 0) hx hb dX12_goesFrom_49 (by decide) ?_
    refine lv_goto (tgt := 54) hx hb dX12_goesFrom_50 (by decide) ?_
    refine lv_iadd hx hb dX12_goesFrom_54 ?_
    refine z_put C G clX12 0 rfl 33 (by decide) m_fl_RX12_311 rfl rfl rfl (Nat.le_of_ble_eq_true rfl) dX12_goesFrom_55 (fun H locs G => ?_)
    have G : zS T A s.heap s [[(mo, .inr (11, [.ref m_all, .ref m_has, .int i_size, .int i_next, .int i_where, .int i_token, .int i_number, .int i_word, .int i_wrong, .int i_farCrossing, .ref m_read, .int i_z0, .int i_crossings, .int i_inns, .ref m_posts, .ref m_shut, .ref m_here, .int (i_steps + i_gone), .int i_done, .int i_at, .int i_gone, .ref m_was, .ref m_came, .ref m_seenAt, .ref m_rowWorth, .ref m_farBy, .ref m_used, .int i_everywhere, .int i_again0, .int i_d0, .int i_never, .int i_firstCame, .int i_longRun, .int (i_moved + 0), .int i_crowd, .int i_l0, .int i_fitMany, .int i_fitLeast, .int i_fitMost, .ref m_fitPost, .ref m_fitEnd, .ref m_keptPosts, .int i_x0]))], [(m_here, .inl (T.2 0, 7, .inl (upd (upd f_here c_.toNatClampNeg ((f_here c_.toNatClampNeg) - 1)) i_at.toNatClampNeg (((upd f_here c_.toNatClampNeg ((f_here c_.toNatClampNeg) - 1)) i_at.toNatClampNeg) + 1))))]] _ _ := G
    refine lv_aload_n hx hb dX12_goesFrom_58 rfl (lv_at hl 0 rfl) ?_
    refine z_get C G clX12 0 rfl 31 (by decide) m_fl_RX12_314 rfl dX12_goesFrom_59 ?_
    refine lv_iconst (v := (-1)) hx hb dX12_goesFrom_62 (by decide) ?_
    refine lv_icmp_ne (tgt := 92) hx hb dX12_goesFrom_63 (by decide) (fun c_10 => ?_) (fun c_10 => ?_)
    · have c_10n : ¬ i_firstCame.toInt = (-1 : Int) := fun q => c_10 ((fa_eq _ _).mpr q)
      exact z_vret C hr hlocks G (Nat.le_of_ble_eq_true rfl) (Nat.le_of_ble_eq_true rfl) dX12_goesFrom_92 ⟨(i_steps + i_gone), (i_moved + 0), i_firstCame, (upd (upd f_here c_.toNatClampNeg ((f_here c_.toNatClampNeg) - 1)) i_at.toNatClampNeg (((upd f_here c_.toNatClampNeg ((f_here c_.toNatClampNeg) - 1)) i_at.toNatClampNeg) + 1)), rfl, rfl, rfl⟩
    · have c_10n : i_firstCame.toInt = (-1 : Int) := (fa_eq _ _).mp c_10
      refine lv_aload_n hx hb dX12_goesFrom_66 rfl (lv_at hl 0 rfl) ?_
      refine z_get C G clX12 0 rfl 20 (by decide) m_fl_RX12_208 rfl dX12_goesFrom_67 ?_
      refine lv_if_le (tgt := 92) hx hb dX12_goesFrom_70 (by decide) (fun c_11 => ?_) (fun c_11 => ?_)
      · have c_11n : i_gone.toInt ≤ (0 : Int) := (fa_le _ _).mp c_11
        exact z_vret C hr hlocks G (Nat.le_of_ble_eq_true rfl) (Nat.le_of_ble_eq_true rfl) dX12_goesFrom_92 ⟨(i_steps + i_gone), (i_moved + 0), i_firstCame, (upd (upd f_here c_.toNatClampNeg ((f_here c_.toNatClampNeg) - 1)) i_at.toNatClampNeg (((upd f_here c_.toNatClampNeg ((f_here c_.toNatClampNeg) - 1)) i_at.toNatClampNeg) + 1)), rfl, rfl, rfl⟩
      · have c_11n : ¬ i_gone.toInt ≤ (0 : Int) := fun q => c_11 ((fa_le _ _).mpr q)
        refine lv_aload_n hx hb dX12_goesFrom_73 rfl (lv_at hl 0 rfl) ?_
        refine lv_aload_n hx hb dX12_goesFrom_74 rfl (lv_at hl 0 rfl) ?_
        refine z_get C G clX12 0 rfl 19 (by decide) m_fl_RX12_202 rfl dX12_goesFrom_75 ?_
        refine z_Vi (bc := [[(mo, .inr (11, [.ref m_all, .ref m_has, .int i_size, .int i_next, .int i_where, .int i_token, .int i_number, .int i_word, .int i_wrong, .int i_farCrossing, .ref m_read, .int i_z0, .int i_crossings, .int i_inns, .ref m_posts, .ref m_shut, .ref m_here, .int (i_steps + i_gone), .int i_done, .int i_at, .int i_gone, .ref m_was, .ref m_came, .ref m_seenAt, .ref m_rowWorth, .ref m_farBy, .ref m_used, .int i_everywhere, .int i_again0, .int i_d0, .int i_never, .int i_firstCame, .int i_longRun, .int (i_moved + 0), .int i_crowd, .int i_l0, .int i_fitMany, .int i_fitLeast, .int i_fitMost, .ref m_fitPost, .ref m_fitEnd, .ref m_keptPosts, .int i_x0]))]]) (br := [[(m_here, .inl (T.2 0, 7, .inl (upd (upd f_here c_.toNatClampNeg ((f_here c_.toNatClampNeg) - 1)) i_at.toNatClampNeg (((upd f_here c_.toNatClampNeg ((f_here c_.toNatClampNeg) - 1)) i_at.toNatClampNeg) + 1))))]]) (As := [.int i_at]) (rest := []) C G (c_m_isInn l T mo m_all m_has i_size i_next i_where i_token i_number i_word i_wrong i_farCrossing m_read i_z0 i_crossings i_inns m_posts m_shut m_here (i_steps + i_gone) i_done i_at i_gone m_was m_came m_seenAt m_rowWorth m_farBy m_used i_everywhere i_again0 i_d0 i_never i_firstCame i_longRun (i_moved + 0) i_crowd i_l0 i_fitMany i_fitLeast i_fitMost m_fitPost m_fitEnd m_keptPosts i_x0 i_at) (kV_RX12_178 C.2.2.2.2 (Nat.le_of_ble_eq_true rfl) (Nat.le_of_ble_eq_true rfl)) [0] [1] rfl rfl (ci := 11) (qc := (RX12, TX12, 43)) rfl rfl (List.mem_flatten.mpr ⟨_, List.mem_of_getElem? (i := 0) rfl, List.mem_cons_self⟩) rfl rfl hl.1 dX12_goesFrom_78 (Nat.le_of_ble_eq_true rfl) (Nat.le_of_ble_eq_true rfl) (fun r_13 b1 H locs hw G => ?_)
        obtain ⟨rfl, hc_12⟩ := hw
        have G : zS T A s.heap s [[(m_here, .inl (T.2 0, 7, .inl (upd (upd f_here c_.toNatClampNeg ((f_here c_.toNatClampNeg) - 1)) i_at.toNatClampNeg (((upd f_here c_.toNatClampNeg ((f_here c_.toNatClampNeg) - 1)) i_at.toNatClampNeg) + 1))))], [(mo, .inr (11, [.ref m_all, .ref m_has, .int i_size, .int i_next, .int i_where, .int i_token, .int i_number, .int i_word, .int i_wrong, .int i_farCrossing, .ref m_read, .int i_z0, .int i_crossings, .int i_inns, .ref m_posts, .ref m_shut, .ref m_here, .int (i_steps + i_gone), .int i_done, .int i_at, .int i_gone, .ref m_was, .ref m_came, .ref m_seenAt, .ref m_rowWorth, .ref m_farBy, .ref m_used, .int i_everywhere, .int i_again0, .int i_d0, .int i_never, .int i_firstCame, .int i_longRun, .int (i_moved + 0), .int i_crowd, .int i_l0, .int i_fitMany, .int i_fitLeast, .int i_fitMost, .ref m_fitPost, .ref m_fitEnd, .ref m_keptPosts, .int i_x0]))]] _ _ := G
        rcases hc_12 with ⟨rfl, h_14⟩ | ⟨rfl, h_15⟩
        · have h_14 : zInn i_inns i_at := h_14
          refine lv_if_eq (tgt := 92) hx hb dX12_goesFrom_81 (by decide) (fun q => absurd q (by decide)) (fun _ => ?_)
          refine lv_aload_n hx hb dX12_goesFrom_84 rfl (lv_at hl 0 rfl) ?_
          refine lv_aload_n hx hb dX12_goesFrom_85 rfl (lv_at hl 0 rfl) ?_
          refine z_get C G clX12 1 rfl 18 (by decide) m_fl_RX12_199 rfl dX12_goesFrom_86 ?_
          refine z_put C G clX12 1 rfl 31 (by decide) m_fl_RX12_314 rfl rfl rfl (Nat.le_of_ble_eq_true rfl) dX12_goesFrom_89 (fun H locs G => ?_)
          have G : zS T A s.heap s [[(m_here, .inl (T.2 0, 7, .inl (upd (upd f_here c_.toNatClampNeg ((f_here c_.toNatClampNeg) - 1)) i_at.toNatClampNeg (((upd f_here c_.toNatClampNeg ((f_here c_.toNatClampNeg) - 1)) i_at.toNatClampNeg) + 1))))], [(mo, .inr (11, [.ref m_all, .ref m_has, .int i_size, .int i_next, .int i_where, .int i_token, .int i_number, .int i_word, .int i_wrong, .int i_farCrossing, .ref m_read, .int i_z0, .int i_crossings, .int i_inns, .ref m_posts, .ref m_shut, .ref m_here, .int (i_steps + i_gone), .int i_done, .int i_at, .int i_gone, .ref m_was, .ref m_came, .ref m_seenAt, .ref m_rowWorth, .ref m_farBy, .ref m_used, .int i_everywhere, .int i_again0, .int i_d0, .int i_never, .int i_done, .int i_longRun, .int (i_moved + 0), .int i_crowd, .int i_l0, .int i_fitMany, .int i_fitLeast, .int i_fitMost, .ref m_fitPost, .ref m_fitEnd, .ref m_keptPosts, .int i_x0]))]] _ _ := G
          have G := G.sub (bs' := [[(mo, .inr (11, [.ref m_all, .ref m_has, .int i_size, .int i_next, .int i_where, .int i_token, .int i_number, .int i_word, .int i_wrong, .int i_farCrossing, .ref m_read, .int i_z0, .int i_crossings, .int i_inns, .ref m_posts, .ref m_shut, .ref m_here, .int (i_steps + i_gone), .int i_done, .int i_at, .int i_gone, .ref m_was, .ref m_came, .ref m_seenAt, .ref m_rowWorth, .ref m_farBy, .ref m_used, .int i_everywhere, .int i_again0, .int i_d0, .int i_never, .int i_done, .int i_longRun, .int (i_moved + 0), .int i_crowd, .int i_l0, .int i_fitMany, .int i_fitLeast, .int i_fitMost, .ref m_fitPost, .ref m_fitEnd, .ref m_keptPosts, .int i_x0]))], [(m_here, .inl (T.2 0, 7, .inl (upd (upd f_here c_.toNatClampNeg ((f_here c_.toNatClampNeg) - 1)) i_at.toNatClampNeg (((upd f_here c_.toNatClampNeg ((f_here c_.toNatClampNeg) - 1)) i_at.toNatClampNeg) + 1))))]]) [1, 0] rfl
          exact z_vret C hr hlocks G (Nat.le_of_ble_eq_true rfl) (Nat.le_of_ble_eq_true rfl) dX12_goesFrom_92 ⟨(i_steps + i_gone), (i_moved + 0), i_done, (upd (upd f_here c_.toNatClampNeg ((f_here c_.toNatClampNeg) - 1)) i_at.toNatClampNeg (((upd f_here c_.toNatClampNeg ((f_here c_.toNatClampNeg) - 1)) i_at.toNatClampNeg) + 1)), rfl, rfl, rfl⟩
        · have h_15 : ¬ zInn i_inns i_at := h_15
          refine lv_if_eq (tgt := 92) hx hb dX12_goesFrom_81 (by decide) (fun _ => ?_) (fun q => absurd (by decide) q)
          have G := G.sub (bs' := [[(mo, .inr (11, [.ref m_all, .ref m_has, .int i_size, .int i_next, .int i_where, .int i_token, .int i_number, .int i_word, .int i_wrong, .int i_farCrossing, .ref m_read, .int i_z0, .int i_crossings, .int i_inns, .ref m_posts, .ref m_shut, .ref m_here, .int (i_steps + i_gone), .int i_done, .int i_at, .int i_gone, .ref m_was, .ref m_came, .ref m_seenAt, .ref m_rowWorth, .ref m_farBy, .ref m_used, .int i_everywhere, .int i_again0, .int i_d0, .int i_never, .int i_firstCame, .int i_longRun, .int (i_moved + 0), .int i_crowd, .int i_l0, .int i_fitMany, .int i_fitLeast, .int i_fitMost, .ref m_fitPost, .ref m_fitEnd, .ref m_keptPosts, .int i_x0]))], [(m_here, .inl (T.2 0, 7, .inl (upd (upd f_here c_.toNatClampNeg ((f_here c_.toNatClampNeg) - 1)) i_at.toNatClampNeg (((upd f_here c_.toNatClampNeg ((f_here c_.toNatClampNeg) - 1)) i_at.toNatClampNeg) + 1))))]]) [1, 0] rfl
          exact z_vret C hr hlocks G (Nat.le_of_ble_eq_true rfl) (Nat.le_of_ble_eq_true rfl) dX12_goesFrom_92 ⟨(i_steps + i_gone), (i_moved + 0), i_firstCame, (upd (upd f_here c_.toNatClampNeg ((f_here c_.toNatClampNeg) - 1)) i_at.toNatClampNeg (((upd f_here c_.toNatClampNeg ((f_here c_.toNatClampNeg) - 1)) i_at.toNatClampNeg) + 1)), rfl, rfl, rfl⟩
theorem zGoF_i {cr x t : Int32} {W L P S H g1 gw : Nat → Int32} {st nv s2 : Int32} (h : zHas cr x ∧ 1 ≤ (H x.toNatClampNeg).toInt) (h2 : ¬ zStep P S W L x = -1) (e1 : g1 = zPost P S W x) (e3 : t = zStep P S W L x) (e4 : gw = zMvH H x t) (e5 : s2 = st + 1) : zGoF cr W L x (P, S, H, st, nv) = some (g1, S, gw, s2, nv) := by
  unfold zGoF
  rw [if_pos ⟨h, h2⟩, e1, e4, e5, e3]
theorem zRuF_m {cr inn x w s2 : Int32} {W L P S H g1 gw : Nat → Int32} {st nv n2 s3 : Int32} (h : zHas cr x ∧ 1 ≤ (H x.toNatClampNeg).toInt) (e1 : g1 = (zRunN S W L 499 P x 0).1) (e2 : s2 = nI (zRunN S W L 499 P x 0).2.2) (e3 : w = (zRunN S W L 499 P x 0).2.1) (e4 : gw = zMvH H x w) (e6 : s3 = st + s2) (e5 : (if zBit inn w = 1 then nv else nv + 1) = n2) : zRuF cr inn W L x (P, S, H, st, nv) = some (g1, S, gw, s3, n2) := by
  rw [e6]
  exact zRuF_i h e1 e2 e3 e4 e5
theorem zPost_no {f1 f2 f3 lf : Nat → Int32} {x : Int32} (h : zStep f1 f2 f3 lf x = -1) (hI : zP3 f1 f3) (hb : ∀ j r : Nat, j < 7 → r < 4 → (r : Int) < (f3 j).toInt → 0 ≤ (lf (4 * j + r)).toInt) : zPost f1 f2 f3 x = f1 := by
  unfold zPost
  rw [if_pos (zStep_t h hI hb)]
theorem zLo_m {f : Nat → Int32} {z cr n : Int32} (h : zML f z cr) : ∀ j r : Nat, j < 7 → r < 4 → (r : Int) < (zWo f z n j).toInt → 0 ≤ (zLo f z (4 * j + r)).toInt := fun j r hj hr _ => (h.2.2.2.2 (4 * j + r) (by omega)).1
theorem zStep_inn {P S f L : Nat → Int32} {z n x : Int32} (h : zBit n x = 1) (h0 : 0 ≤ x.toInt) (h6 : x.toInt ≤ 6) : zStep P S (zWo f z n) L x = -1 := by
  unfold zStep
  rw [if_pos (zTurn_inn h h0 h6)]
set_option maxHeartbeats 4000000 in
set_option maxRecDepth 100000 in
/-- c_fm_goes -/
theorem c_fm_goes (l : Launch) (T : zTy) (mo : Nat) (m_all : Nat) (m_has : Nat) (i_size : Int32) (i_next : Int32) (i_where : Int32) (i_token : Int32) (i_number : Int32) (i_word : Int32) (i_wrong : Int32) (i_farCrossing : Int32) (m_read : Nat) (i_z0 : Int32) (i_crossings : Int32) (i_inns : Int32) (m_posts : Nat) (m_shut : Nat) (m_here : Nat) (i_steps : Int32) (i_done : Int32) (i_at : Int32) (i_gone : Int32) (m_was : Nat) (m_came : Nat) (m_seenAt : Nat) (m_rowWorth : Nat) (m_farBy : Nat) (m_used : Nat) (i_everywhere : Int32) (i_again0 : Int32) (i_d0 : Int32) (i_never : Int32) (i_firstCame : Int32) (i_longRun : Int32) (i_moved : Int32) (i_crowd : Int32) (i_l0 : Int32) (i_fitMany : Int32) (i_fitLeast : Int32) (i_fitMost : Int32) (m_fitPost : Nat) (m_fitEnd : Nat) (m_keptPosts : Nat) (i_x0 : Int32) (f_all : Nat → Int32) (f_posts : Nat → Int32) (f_shut : Nat → Int32) (f_here : Nat → Int32) (f_was : Nat → Int32) (c_ : Int32) (hL : zML f_all i_z0 i_crossings) (hP : zMP f_posts) (hV : zMV (zRo f_all i_z0) f_posts) (hc0 : 0 ≤ c_.toInt) (hc6 : c_.toInt ≤ 6) (hcx : c_.toInt < i_crossings.toInt) (hH : zHB 100000 f_here) : zMi l T yX12_goes cX12_goes 2 (some .boolean) 4 0 0 [.ref mo, .int c_] [[(mo, .inr (11, [.ref m_all, .ref m_has, .int i_size, .int i_next, .int i_where, .int i_token, .int i_number, .int i_word, .int i_wrong, .int i_farCrossing, .ref m_read, .int i_z0, .int i_crossings, .int i_inns, .ref m_posts, .ref m_shut, .ref m_here, .int i_steps, .int i_done, .int i_at, .int i_gone, .ref m_was, .ref m_came, .ref m_seenAt, .ref m_rowWorth, .ref m_farBy, .ref m_used, .int i_everywhere, .int i_again0, .int i_d0, .int i_never, .int i_firstCame, .int i_longRun, .int i_moved, .int i_crowd, .int i_l0, .int i_fitMany, .int i_fitLeast, .int i_fitMost, .ref m_fitPost, .ref m_fitEnd, .ref m_keptPosts, .int i_x0]))], [(m_all, .inl (T.2 0, 3952, .inl f_all))], [(m_posts, .inl (T.2 0, 7, .inl f_posts))], [(m_shut, .inl (T.2 0, 7, .inl f_shut))], [(m_here, .inl (T.2 0, 7, .inl f_here))], [(m_was, .inl (T.2 0, 7, .inl f_was))]] (fun (r : Int32) bs => ∃ (j_at : Int32) (j_gone : Int32) (j_steps : Int32) (j_moved : Int32) (j_firstCame : Int32) (g_posts : Nat → Int32) (g_here : Nat → Int32) (g_was : Nat → Int32), bs = [[(mo, .inr (11, [.ref m_all, .ref m_has, .int i_size, .int i_next, .int i_where, .int i_token, .int i_number, .int i_word, .int i_wrong, .int i_farCrossing, .ref m_read, .int i_z0, .int i_crossings, .int i_inns, .ref m_posts, .ref m_shut, .ref m_here, .int j_steps, .int i_done, .int j_at, .int j_gone, .ref m_was, .ref m_came, .ref m_seenAt, .ref m_rowWorth, .ref m_farBy, .ref m_used, .int i_everywhere, .int i_again0, .int i_d0, .int i_never, .int j_firstCame, .int i_longRun, .int j_moved, .int i_crowd, .int i_l0, .int i_fitMany, .int i_fitLeast, .int i_fitMost, .ref m_fitPost, .ref m_fitEnd, .ref m_keptPosts, .int i_x0]))], [(m_all, .inl (T.2 0, 3952, .inl f_all))], [(m_posts, .inl (T.2 0, 7, .inl g_posts))], [(m_shut, .inl (T.2 0, 7, .inl f_shut))], [(m_here, .inl (T.2 0, 7, .inl g_here))], [(m_was, .inl (T.2 0, 7, .inl g_was))]] ∧ (r = 1 ∧ zGoF i_crossings (zWo f_all i_z0 i_inns) (zLo f_all i_z0) c_ (f_posts, f_shut, f_here, i_steps, i_never) = some (g_posts, f_shut, g_here, j_steps, i_never) ∨ r = 0 ∧ zGoF i_crossings (zWo f_all i_z0 i_inns) (zLo f_all i_z0) c_ (f_posts, f_shut, f_here, i_steps, i_never) = none ∧ g_posts = f_posts ∧ g_here = f_here ∧ j_steps = i_steps) ∧ zMV (zRo f_all i_z0) g_posts ∧ zMP g_posts ∧ (∀ m : Int, m ≤ 100000 → zHB m f_here → zHB (m + 1) g_here)) := by
  refine zMi_of (own := RX12) (by decide) rfl (Nat.le_of_ble_eq_true rfl) ?_
  intro p e s m args below meth c A ls C hr hlocks hnm hAe G hl
  have hx := C.1
  have hb := C.2.1
  have hl : lv_has ls 2 [(0, .ref mo), (1, .int c_)] := hl
  have hz := hL.1
  have hcr := hL.cr
  have hPl := zP3_m (n := i_inns) hL hP
  have hLb2 := zLo_m (n := i_inns) hL
  have hHc := hH c_.toNatClampNeg (by have q9 := z_clI (x := c_) (by omega); omega)
  have hS1 : zBit i_inns c_ = 1 → zStep f_posts f_shut (zWo f_all i_z0 i_inns) (zLo f_all i_z0) c_ = -1 := fun q8 => zStep_inn q8 hc0 (by omega)
  refine lv_aload_n hx hb dX12_goes_0 rfl (lv_at hl 0 rfl) ?_
  refine lv_iload_n hx hb dX12_goes_1 rfl (lv_at hl 1 rfl) ?_
  refine z_Vi (bc := [[(mo, .inr (11, [.ref m_all, .ref m_has, .int i_size, .int i_next, .int i_where, .int i_token, .int i_number, .int i_word, .int i_wrong, .int i_farCrossing, .ref m_read, .int i_z0, .int i_crossings, .int i_inns, .ref m_posts, .ref m_shut, .ref m_here, .int i_steps, .int i_done, .int i_at, .int i_gone, .ref m_was, .ref m_came, .ref m_seenAt, .ref m_rowWorth, .ref m_farBy, .ref m_used, .int i_everywhere, .int i_again0, .int i_d0, .int i_never, .int i_firstCame, .int i_longRun, .int i_moved, .int i_crowd, .int i_l0, .int i_fitMany, .int i_fitLeast, .int i_fitMost, .ref m_fitPost, .ref m_fitEnd, .ref m_keptPosts, .int i_x0]))]]) (br := [[(m_all, .inl (T.2 0, 3952, .inl f_all))], [(m_posts, .inl (T.2 0, 7, .inl f_posts))], [(m_shut, .inl (T.2 0, 7, .inl f_shut))], [(m_here, .inl (T.2 0, 7, .inl f_here))], [(m_was, .inl (T.2 0, 7, .inl f_was))]]) (As := [.int c_]) (rest := []) C G (c_m_isInn l T mo m_all m_has i_size i_next i_where i_token i_number i_word i_wrong i_farCrossing m_read i_z0 i_crossings i_inns m_posts m_shut m_here i_steps i_done i_at i_gone m_was m_came m_seenAt m_rowWorth m_farBy m_used i_everywhere i_again0 i_d0 i_never i_firstCame i_longRun i_moved i_crowd i_l0 i_fitMany i_fitLeast i_fitMost m_fitPost m_fitEnd m_keptPosts i_x0 c_) (kV_RX12_178 C.2.2.2.2 (Nat.le_of_ble_eq_true rfl) (Nat.le_of_ble_eq_true rfl)) [0] [1, 2, 3, 4, 5] rfl rfl (ci := 11) (qc := (RX12, TX12, 43)) rfl rfl (List.mem_flatten.mpr ⟨_, List.mem_of_getElem? (i := 0) rfl, List.mem_cons_self⟩) rfl rfl hl.1 dX12_goes_2 (Nat.le_of_ble_eq_true rfl) (Nat.le_of_ble_eq_true rfl) (fun r_2 b1 H locs hw G => ?_)
  obtain ⟨rfl, hc_1⟩ := hw
  have G : zS T A s.heap s [[(m_all, .inl (T.2 0, 3952, .inl f_all))], [(m_posts, .inl (T.2 0, 7, .inl f_posts))], [(m_shut, .inl (T.2 0, 7, .inl f_shut))], [(m_here, .inl (T.2 0, 7, .inl f_here))], [(m_was, .inl (T.2 0, 7, .inl f_was))], [(mo, .inr (11, [.ref m_all, .ref m_has, .int i_size, .int i_next, .int i_where, .int i_token, .int i_number, .int i_word, .int i_wrong, .int i_farCrossing, .ref m_read, .int i_z0, .int i_crossings, .int i_inns, .ref m_posts, .ref m_shut, .ref m_here, .int i_steps, .int i_done, .int i_at, .int i_gone, .ref m_was, .ref m_came, .ref m_seenAt, .ref m_rowWorth, .ref m_farBy, .ref m_used, .int i_everywhere, .int i_again0, .int i_d0, .int i_never, .int i_firstCame, .int i_longRun, .int i_moved, .int i_crowd, .int i_l0, .int i_fitMany, .int i_fitLeast, .int i_fitMost, .ref m_fitPost, .ref m_fitEnd, .ref m_keptPosts, .int i_x0]))]] _ _ := G
  rcases hc_1 with ⟨rfl, h_3⟩ | ⟨rfl, h_4⟩
  · have h_3 : zInn i_inns c_ := h_3
    refine lv_if_ne (tgt := 17) hx hb dX12_goes_5 (by decide) (fun _ => ?_) (fun q => absurd q (by decide))
    refine lv_iconst (v := 0) hx hb dX12_goes_17 (by decide) ?_
    have G := G.sub (bs' := [[(mo, .inr (11, [.ref m_all, .ref m_has, .int i_size, .int i_next, .int i_where, .int i_token, .int i_number, .int i_word, .int i_wrong, .int i_farCrossing, .ref m_read, .int i_z0, .int i_crossings, .int i_inns, .ref m_posts, .ref m_shut, .ref m_here, .int i_steps, .int i_done, .int i_at, .int i_gone, .ref m_was, .ref m_came, .ref m_seenAt, .ref m_rowWorth, .ref m_farBy, .ref m_used, .int i_everywhere, .int i_again0, .int i_d0, .int i_never, .int i_firstCame, .int i_longRun, .int i_moved, .int i_crowd, .int i_l0, .int i_fitMany, .int i_fitLeast, .int i_fitMost, .ref m_fitPost, .ref m_fitEnd, .ref m_keptPosts, .int i_x0]))], [(m_all, .inl (T.2 0, 3952, .inl f_all))], [(m_posts, .inl (T.2 0, 7, .inl f_posts))], [(m_shut, .inl (T.2 0, 7, .inl f_shut))], [(m_here, .inl (T.2 0, 7, .inl f_here))], [(m_was, .inl (T.2 0, 7, .inl f_was))]]) [5, 0, 1, 2, 3, 4] rfl
    exact z_zret C hr hlocks G (Nat.le_of_ble_eq_true rfl) (Nat.le_of_ble_eq_true rfl) dX12_goes_18 rfl ⟨i_at, i_gone, i_steps, i_moved, i_firstCame, f_posts, f_here, f_was, rfl, (Or.inr ⟨rfl, by unfold zGoF; rw [if_neg (fun q8 => by first | (have q7 := q8.1.2; have q7 : 1 ≤ (f_here c_.toNatClampNeg).toInt := q7; omega) | exact q8.2 (hS1 (by assumption)))], rfl, rfl, rfl⟩), hV, hP, (fun m hm hx => zHB_m hx (by omega))⟩
  · have h_4 : ¬ zInn i_inns c_ := h_4
    refine lv_if_ne (tgt := 17) hx hb dX12_goes_5 (by decide) (fun q => absurd (by decide) q) (fun _ => ?_)
    refine lv_aload_n hx hb dX12_goes_8 rfl (lv_at hl 0 rfl) ?_
    refine z_get C G clX12 5 rfl 16 (by decide) m_fl_RX12_26 rfl dX12_goes_9 ?_
    refine lv_iload_n hx hb dX12_goes_12 rfl (lv_at hl 1 rfl) ?_
    refine z_ild C G 3 rfl (vp_in_iff.mpr ⟨by omega, by omega⟩) dX12_goes_13 ?_
    refine lv_topi (fun v_5 ev_5 => ?_)
    subst ev_5
    refine lv_if_ne (tgt := 19) hx hb dX12_goes_14 (by decide) (fun c_6 => ?_) (fun c_6 => ?_)
    · have c_6n : ¬ (f_here c_.toNatClampNeg).toInt = (0 : Int) := fun q => c_6 ((fa_eq _ _).mpr q)
      refine lv_aload_n hx hb dX12_goes_19 rfl (lv_at hl 0 rfl) ?_
      refine lv_iload_n hx hb dX12_goes_20 rfl (lv_at hl 1 rfl) ?_
      refine z_Vv (bc := [[(mo, .inr (11, [.ref m_all, .ref m_has, .int i_size, .int i_next, .int i_where, .int i_token, .int i_number, .int i_word, .int i_wrong, .int i_farCrossing, .ref m_read, .int i_z0, .int i_crossings, .int i_inns, .ref m_posts, .ref m_shut, .ref m_here, .int i_steps, .int i_done, .int i_at, .int i_gone, .ref m_was, .ref m_came, .ref m_seenAt, .ref m_rowWorth, .ref m_farBy, .ref m_used, .int i_everywhere, .int i_again0, .int i_d0, .int i_never, .int i_firstCame, .int i_longRun, .int i_moved, .int i_crowd, .int i_l0, .int i_fitMany, .int i_fitLeast, .int i_fitMost, .ref m_fitPost, .ref m_fitEnd, .ref m_keptPosts, .int i_x0]))], [(m_was, .inl (T.2 0, 7, .inl f_was))]]) (br := [[(m_all, .inl (T.2 0, 3952, .inl f_all))], [(m_posts, .inl (T.2 0, 7, .inl f_posts))], [(m_shut, .inl (T.2 0, 7, .inl f_shut))], [(m_here, .inl (T.2 0, 7, .inl f_here))]]) (As := [.int c_]) (rest := []) C G (c_fm_puts l T mo m_all m_has i_size i_next i_where i_token i_number i_word i_wrong i_farCrossing m_read i_z0 i_crossings i_inns m_posts m_shut m_here i_steps i_done i_at i_gone m_was m_came m_seenAt m_rowWorth m_farBy m_used i_everywhere i_again0 i_d0 i_never i_firstCame i_longRun i_moved i_crowd i_l0 i_fitMany i_fitLeast i_fitMost m_fitPost m_fitEnd m_keptPosts i_x0 f_was c_) (kV_RX12_211 C.2.2.2.2 (Nat.le_of_ble_eq_true rfl) (Nat.le_of_ble_eq_true rfl)) [5, 4] [0, 1, 2, 3] rfl rfl (ci := 11) (qc := (RX12, TX12, 43)) rfl rfl (List.mem_flatten.mpr ⟨_, List.mem_of_getElem? (i := 0) rfl, List.mem_cons_self⟩) rfl rfl hl.1 dX12_goes_21 (Nat.le_of_ble_eq_true rfl) (Nat.le_of_ble_eq_true rfl) (fun b1 H locs hw G => ?_)
      obtain ⟨g_was_7, rfl, h_8⟩ := hw
      have G : zS T A s.heap s [[(m_all, .inl (T.2 0, 3952, .inl f_all))], [(m_posts, .inl (T.2 0, 7, .inl f_posts))], [(m_shut, .inl (T.2 0, 7, .inl f_shut))], [(m_here, .inl (T.2 0, 7, .inl f_here))], [(mo, .inr (11, [.ref m_all, .ref m_has, .int i_size, .int i_next, .int i_where, .int i_token, .int i_number, .int i_word, .int i_wrong, .int i_farCrossing, .ref m_read, .int i_z0, .int i_crossings, .int i_inns, .ref m_posts, .ref m_shut, .ref m_here, .int i_steps, .int i_done, .int c_, .int 0, .ref m_was, .ref m_came, .ref m_seenAt, .ref m_rowWorth, .ref m_farBy, .ref m_used, .int i_everywhere, .int i_again0, .int i_d0, .int i_never, .int i_firstCame, .int i_longRun, .int i_moved, .int i_crowd, .int i_l0, .int i_fitMany, .int i_fitLeast, .int i_fitMost, .ref m_fitPost, .ref m_fitEnd, .ref m_keptPosts, .int i_x0]))], [(m_was, .inl (T.2 0, 7, .inl g_was_7))]] _ _ := G
      refine lv_aload_n hx hb dX12_goes_24 rfl (lv_at hl 0 rfl) ?_
      refine z_Vi (bc := [[(mo, .inr (11, [.ref m_all, .ref m_has, .int i_size, .int i_next, .int i_where, .int i_token, .int i_number, .int i_word, .int i_wrong, .int i_farCrossing, .ref m_read, .int i_z0, .int i_crossings, .int i_inns, .ref m_posts, .ref m_shut, .ref m_here, .int i_steps, .int i_done, .int c_, .int 0, .ref m_was, .ref m_came, .ref m_seenAt, .ref m_rowWorth, .ref m_farBy, .ref m_used, .int i_everywhere, .int i_again0, .int i_d0, .int i_never, .int i_firstCame, .int i_longRun, .int i_moved, .int i_crowd, .int i_l0, .int i_fitMany, .int i_fitLeast, .int i_fitMost, .ref m_fitPost, .ref m_fitEnd, .ref m_keptPosts, .int i_x0]))], [(m_all, .inl (T.2 0, 3952, .inl f_all))], [(m_posts, .inl (T.2 0, 7, .inl f_posts))], [(m_shut, .inl (T.2 0, 7, .inl f_shut))], [(m_was, .inl (T.2 0, 7, .inl g_was_7))]]) (br := [[(m_here, .inl (T.2 0, 7, .inl f_here))]]) (As := []) (rest := []) C G (c_fm_stepsOn l T mo m_all m_has i_size i_next i_where i_token i_number i_word i_wrong i_farCrossing m_read i_z0 i_crossings i_inns m_posts m_shut m_here i_steps i_done c_ 0 m_was m_came m_seenAt m_rowWorth m_farBy m_used i_everywhere i_again0 i_d0 i_never i_firstCame i_longRun i_moved i_crowd i_l0 i_fitMany i_fitLeast i_fitMost m_fitPost m_fitEnd m_keptPosts i_x0 f_all f_posts f_shut g_was_7 (by first | with_reducible assumption | with_reducible rfl | omega | assumption | rfl) (by first | with_reducible assumption | with_reducible rfl | omega | assumption | rfl) (by first | with_reducible assumption | with_reducible rfl | omega | assumption | rfl) (by decide) (by decide) (by first | with_reducible assumption | with_reducible rfl | omega | assumption | rfl) (by first | with_reducible assumption | with_reducible rfl | omega | assumption | rfl)) (kV_RX12_214 C.2.2.2.2 (Nat.le_of_ble_eq_true rfl) (Nat.le_of_ble_eq_true rfl)) [4, 0, 1, 2, 5] [3] rfl rfl (ci := 11) (qc := (RX12, TX12, 43)) rfl rfl (List.mem_flatten.mpr ⟨_, List.mem_of_getElem? (i := 0) rfl, List.mem_cons_self⟩) rfl rfl hl.1 dX12_goes_25 (Nat.le_of_ble_eq_true rfl) (Nat.le_of_ble_eq_true rfl) (fun r_20 b1 H locs hw G => ?_)
      obtain ⟨j_at_10, j_gone_11, g_posts_12, g_was_13, rfl, h_14, h_15, h_16, h_17, h_18, hc_19⟩ := hw
      have G : zS T A s.heap s [[(m_here, .inl (T.2 0, 7, .inl f_here))], [(mo, .inr (11, [.ref m_all, .ref m_has, .int i_size, .int i_next, .int i_where, .int i_token, .int i_number, .int i_word, .int i_wrong, .int i_farCrossing, .ref m_read, .int i_z0, .int i_crossings, .int i_inns, .ref m_posts, .ref m_shut, .ref m_here, .int i_steps, .int i_done, .int j_at_10, .int j_gone_11, .ref m_was, .ref m_came, .ref m_seenAt, .ref m_rowWorth, .ref m_farBy, .ref m_used, .int i_everywhere, .int i_again0, .int i_d0, .int i_never, .int i_firstCame, .int i_longRun, .int i_moved, .int i_crowd, .int i_l0, .int i_fitMany, .int i_fitLeast, .int i_fitMost, .ref m_fitPost, .ref m_fitEnd, .ref m_keptPosts, .int i_x0]))], [(m_all, .inl (T.2 0, 3952, .inl f_all))], [(m_posts, .inl (T.2 0, 7, .inl g_posts_12))], [(m_shut, .inl (T.2 0, 7, .inl f_shut))], [(m_was, .inl (T.2 0, 7, .inl g_was_13))]] _ _ := G
      rcases hc_19 with ⟨rfl, h_21, h_22, h_23, h_24⟩ | ⟨rfl, h_25, h_26, h_27, h_28⟩
      · have h_21 : ¬ zStep f_posts f_shut (zWo f_all i_z0 i_inns) (zLo f_all i_z0) c_ = -1 := h_21
        have h_22 : j_at_10 = zStep f_posts f_shut (zWo f_all i_z0 i_inns) (zLo f_all i_z0) c_ := h_22
        have h_23 : j_gone_11.toInt = (0 : Int) + 1 := h_23
        have h_24 : g_was_13 = upd g_was_7 j_at_10.toNatClampNeg (g_was_7 j_at_10.toNatClampNeg + 1) := h_24
        refine lv_if_ne (tgt := 33) hx hb dX12_goes_28 (by decide) (fun _ => ?_) (fun q => absurd q (by decide))
        refine lv_aload_n hx hb dX12_goes_33 rfl (lv_at hl 0 rfl) ?_
        refine lv_iload_n hx hb dX12_goes_34 rfl (lv_at hl 1 rfl) ?_
        refine z_Vv (bc := [[(mo, .inr (11, [.ref m_all, .ref m_has, .int i_size, .int i_next, .int i_where, .int i_token, .int i_number, .int i_word, .int i_wrong, .int i_farCrossing, .ref m_read, .int i_z0, .int i_crossings, .int i_inns, .ref m_posts, .ref m_shut, .ref m_here, .int i_steps, .int i_done, .int j_at_10, .int j_gone_11, .ref m_was, .ref m_came, .ref m_seenAt, .ref m_rowWorth, .ref m_farBy, .ref m_used, .int i_everywhere, .int i_again0, .int i_d0, .int i_never, .int i_firstCame, .int i_longRun, .int i_moved, .int i_crowd, .int i_l0, .int i_fitMany, .int i_fitLeast, .int i_fitMost, .ref m_fitPost, .ref m_fitEnd, .ref m_keptPosts, .int i_x0]))], [(m_here, .inl (T.2 0, 7, .inl f_here))]]) (br := [[(m_all, .inl (T.2 0, 3952, .inl f_all))], [(m_posts, .inl (T.2 0, 7, .inl g_posts_12))], [(m_shut, .inl (T.2 0, 7, .inl f_shut))], [(m_was, .inl (T.2 0, 7, .inl g_was_13))]]) (As := [.int c_]) (rest := []) C G (c_fm_goesFrom l T mo m_all m_has i_size i_next i_where i_token i_number i_word i_wrong i_farCrossing m_read i_z0 i_crossings i_inns m_posts m_shut m_here i_steps i_done j_at_10 j_gone_11 m_was m_came m_seenAt m_rowWorth m_farBy m_used i_everywhere i_again0 i_d0 i_never i_firstCame i_longRun i_moved i_crowd i_l0 i_fitMany i_fitLeast i_fitMost m_fitPost m_fitEnd m_keptPosts i_x0 f_here c_ (by first | with_reducible assumption | with_reducible rfl | omega | assumption | rfl) (by first | with_reducible assumption | with_reducible rfl | omega | assumption | rfl) (by first | with_reducible assumption | with_reducible rfl | omega | assumption | rfl) (by first | with_reducible assumption | with_reducible rfl | omega | assumption | rfl)) (kV_RX12_317 C.2.2.2.2 (Nat.le_of_ble_eq_true rfl) (Nat.le_of_ble_eq_true rfl)) [1, 0] [2, 3, 4, 5] rfl rfl (ci := 11) (qc := (RX12, TX12, 43)) rfl rfl (List.mem_flatten.mpr ⟨_, List.mem_of_getElem? (i := 0) rfl, List.mem_cons_self⟩) rfl rfl hl.1 dX12_goes_35 (Nat.le_of_ble_eq_true rfl) (Nat.le_of_ble_eq_true rfl) (fun b1 H locs hw G => ?_)
        obtain ⟨j_steps_29, j_moved_30, j_firstCame_31, g_here_32, rfl, h_33, h_34⟩ := hw
        have G : zS T A s.heap s [[(m_all, .inl (T.2 0, 3952, .inl f_all))], [(m_posts, .inl (T.2 0, 7, .inl g_posts_12))], [(m_shut, .inl (T.2 0, 7, .inl f_shut))], [(m_was, .inl (T.2 0, 7, .inl g_was_13))], [(mo, .inr (11, [.ref m_all, .ref m_has, .int i_size, .int i_next, .int i_where, .int i_token, .int i_number, .int i_word, .int i_wrong, .int i_farCrossing, .ref m_read, .int i_z0, .int i_crossings, .int i_inns, .ref m_posts, .ref m_shut, .ref m_here, .int j_steps_29, .int i_done, .int j_at_10, .int j_gone_11, .ref m_was, .ref m_came, .ref m_seenAt, .ref m_rowWorth, .ref m_farBy, .ref m_used, .int i_everywhere, .int i_again0, .int i_d0, .int i_never, .int j_firstCame_31, .int i_longRun, .int j_moved_30, .int i_crowd, .int i_l0, .int i_fitMany, .int i_fitLeast, .int i_fitMost, .ref m_fitPost, .ref m_fitEnd, .ref m_keptPosts, .int i_x0]))], [(m_here, .inl (T.2 0, 7, .inl g_here_32))]] _ _ := G
        refine lv_iconst (v := 1) hx hb dX12_goes_38 (by decide) ?_
        have G := G.sub (bs' := [[(mo, .inr (11, [.ref m_all, .ref m_has, .int i_size, .int i_next, .int i_where, .int i_token, .int i_number, .int i_word, .int i_wrong, .int i_farCrossing, .ref m_read, .int i_z0, .int i_crossings, .int i_inns, .ref m_posts, .ref m_shut, .ref m_here, .int j_steps_29, .int i_done, .int j_at_10, .int j_gone_11, .ref m_was, .ref m_came, .ref m_seenAt, .ref m_rowWorth, .ref m_farBy, .ref m_used, .int i_everywhere, .int i_again0, .int i_d0, .int i_never, .int j_firstCame_31, .int i_longRun, .int j_moved_30, .int i_crowd, .int i_l0, .int i_fitMany, .int i_fitLeast, .int i_fitMost, .ref m_fitPost, .ref m_fitEnd, .ref m_keptPosts, .int i_x0]))], [(m_all, .inl (T.2 0, 3952, .inl f_all))], [(m_posts, .inl (T.2 0, 7, .inl g_posts_12))], [(m_shut, .inl (T.2 0, 7, .inl f_shut))], [(m_here, .inl (T.2 0, 7, .inl g_here_32))], [(m_was, .inl (T.2 0, 7, .inl g_was_13))]]) [4, 0, 1, 2, 5, 3] rfl
        exact z_zret C hr hlocks G (Nat.le_of_ble_eq_true rfl) (Nat.le_of_ble_eq_true rfl) dX12_goes_39 rfl ⟨j_at_10, j_gone_11, j_steps_29, j_moved_30, j_firstCame_31, g_posts_12, g_here_32, g_was_13, rfl, (Or.inl ⟨rfl, zGoF_i ⟨⟨by omega, by omega, by omega⟩, by omega⟩ h_21 h_18 h_22 h_33 (by rw [h_34, (show j_gone_11 = 1 from Int32.toInt_inj.mp (by have q9 : (0 : Int32).toInt = 0 := rfl; have q8 := h_23; show _ = (1 : Int); omega))])⟩), h_17, h_14, (fun m hm hx => by rw [h_33]; exact zMvH_b hm hx ⟨by omega, by omega⟩ ⟨by omega, by omega⟩ (by omega))⟩
      · have h_25 : zStep f_posts f_shut (zWo f_all i_z0 i_inns) (zLo f_all i_z0) c_ = -1 := h_25
        have h_26 : j_at_10 = c_ := h_26
        have h_27 : j_gone_11 = 0 := h_27
        have h_28 : g_was_13 = g_was_7 := h_28
        refine lv_if_ne (tgt := 33) hx hb dX12_goes_28 (by decide) (fun q => absurd (by decide) q) (fun _ => ?_)
        refine lv_iconst (v := 0) hx hb dX12_goes_31 (by decide) ?_
        have G := G.sub (bs' := [[(mo, .inr (11, [.ref m_all, .ref m_has, .int i_size, .int i_next, .int i_where, .int i_token, .int i_number, .int i_word, .int i_wrong, .int i_farCrossing, .ref m_read, .int i_z0, .int i_crossings, .int i_inns, .ref m_posts, .ref m_shut, .ref m_here, .int i_steps, .int i_done, .int j_at_10, .int j_gone_11, .ref m_was, .ref m_came, .ref m_seenAt, .ref m_rowWorth, .ref m_farBy, .ref m_used, .int i_everywhere, .int i_again0, .int i_d0, .int i_never, .int i_firstCame, .int i_longRun, .int i_moved, .int i_crowd, .int i_l0, .int i_fitMany, .int i_fitLeast, .int i_fitMost, .ref m_fitPost, .ref m_fitEnd, .ref m_keptPosts, .int i_x0]))], [(m_all, .inl (T.2 0, 3952, .inl f_all))], [(m_posts, .inl (T.2 0, 7, .inl g_posts_12))], [(m_shut, .inl (T.2 0, 7, .inl f_shut))], [(m_here, .inl (T.2 0, 7, .inl f_here))], [(m_was, .inl (T.2 0, 7, .inl g_was_13))]]) [1, 2, 3, 4, 0, 5] rfl
        exact z_zret C hr hlocks G (Nat.le_of_ble_eq_true rfl) (Nat.le_of_ble_eq_true rfl) dX12_goes_32 rfl ⟨j_at_10, j_gone_11, i_steps, i_moved, i_firstCame, g_posts_12, f_here, g_was_13, rfl, (Or.inr ⟨rfl, by unfold zGoF; rw [if_neg (fun q8 => q8.2 h_25)], by rw [h_18]; exact zPost_no h_25 hPl hLb2, rfl, rfl⟩), h_17, h_14, (fun m hm hx => zHB_m hx (by omega))⟩
    · have c_6n : (f_here c_.toNatClampNeg).toInt = (0 : Int) := (fa_eq _ _).mp c_6
      refine lv_iconst (v := 0) hx hb dX12_goes_17 (by decide) ?_
      have G := G.sub (bs' := [[(mo, .inr (11, [.ref m_all, .ref m_has, .int i_size, .int i_next, .int i_where, .int i_token, .int i_number, .int i_word, .int i_wrong, .int i_farCrossing, .ref m_read, .int i_z0, .int i_crossings, .int i_inns, .ref m_posts, .ref m_shut, .ref m_here, .int i_steps, .int i_done, .int i_at, .int i_gone, .ref m_was, .ref m_came, .ref m_seenAt, .ref m_rowWorth, .ref m_farBy, .ref m_used, .int i_everywhere, .int i_again0, .int i_d0, .int i_never, .int i_firstCame, .int i_longRun, .int i_moved, .int i_crowd, .int i_l0, .int i_fitMany, .int i_fitLeast, .int i_fitMost, .ref m_fitPost, .ref m_fitEnd, .ref m_keptPosts, .int i_x0]))], [(m_all, .inl (T.2 0, 3952, .inl f_all))], [(m_posts, .inl (T.2 0, 7, .inl f_posts))], [(m_shut, .inl (T.2 0, 7, .inl f_shut))], [(m_here, .inl (T.2 0, 7, .inl f_here))], [(m_was, .inl (T.2 0, 7, .inl f_was))]]) [5, 0, 1, 2, 3, 4] rfl
      exact z_zret C hr hlocks G (Nat.le_of_ble_eq_true rfl) (Nat.le_of_ble_eq_true rfl) dX12_goes_18 rfl ⟨i_at, i_gone, i_steps, i_moved, i_firstCame, f_posts, f_here, f_was, rfl, (Or.inr ⟨rfl, by unfold zGoF; rw [if_neg (fun q8 => by first | (have q7 := q8.1.2; have q7 : 1 ≤ (f_here c_.toNatClampNeg).toInt := q7; omega) | exact q8.2 (hS1 (by assumption)))], rfl, rfl, rfl⟩), hV, hP, (fun m hm hx => zHB_m hx (by omega))⟩
set_option maxHeartbeats 4000000 in
set_option maxRecDepth 100000 in
/-- c_fm_runs0 -/
theorem c_fm_runs0 (l : Launch) (T : zTy) (mo : Nat) (m_all : Nat) (m_has : Nat) (i_size : Int32) (i_next : Int32) (i_where : Int32) (i_token : Int32) (i_number : Int32) (i_word : Int32) (i_wrong : Int32) (i_farCrossing : Int32) (m_read : Nat) (i_z0 : Int32) (i_crossings : Int32) (i_inns : Int32) (m_posts : Nat) (m_shut : Nat) (m_here : Nat) (i_steps : Int32) (i_done : Int32) (i_at : Int32) (i_gone : Int32) (m_was : Nat) (m_came : Nat) (m_seenAt : Nat) (m_rowWorth : Nat) (m_farBy : Nat) (m_used : Nat) (i_everywhere : Int32) (i_again0 : Int32) (i_d0 : Int32) (i_never : Int32) (i_firstCame : Int32) (i_longRun : Int32) (i_moved : Int32) (i_crowd : Int32) (i_l0 : Int32) (i_fitMany : Int32) (i_fitLeast : Int32) (i_fitMost : Int32) (m_fitPost : Nat) (m_fitEnd : Nat) (m_keptPosts : Nat) (i_x0 : Int32) (f_all : Nat → Int32) (f_posts : Nat → Int32) (f_shut : Nat → Int32) (f_here : Nat → Int32) (f_was : Nat → Int32) (c_ : Int32) (hL : zML f_all i_z0 i_crossings) (hP : zMP f_posts) (hV : zMV (zRo f_all i_z0) f_posts) (hc0 : 0 ≤ c_.toInt) (hc6 : c_.toInt ≤ 6) (hcx : c_.toInt < i_crossings.toInt) (hH : zHB 100000 f_here) : zMi l T yX12_runs0 cX12_runs0 2 (some .boolean) 5 0 0 [.ref mo, .int c_] [[(mo, .inr (11, [.ref m_all, .ref m_has, .int i_size, .int i_next, .int i_where, .int i_token, .int i_number, .int i_word, .int i_wrong, .int i_farCrossing, .ref m_read, .int i_z0, .int i_crossings, .int i_inns, .ref m_posts, .ref m_shut, .ref m_here, .int i_steps, .int i_done, .int i_at, .int i_gone, .ref m_was, .ref m_came, .ref m_seenAt, .ref m_rowWorth, .ref m_farBy, .ref m_used, .int i_everywhere, .int i_again0, .int i_d0, .int i_never, .int i_firstCame, .int i_longRun, .int i_moved, .int i_crowd, .int i_l0, .int i_fitMany, .int i_fitLeast, .int i_fitMost, .ref m_fitPost, .ref m_fitEnd, .ref m_keptPosts, .int i_x0]))], [(m_all, .inl (T.2 0, 3952, .inl f_all))], [(m_posts, .inl (T.2 0, 7, .inl f_posts))], [(m_shut, .inl (T.2 0, 7, .inl f_shut))], [(m_here, .inl (T.2 0, 7, .inl f_here))], [(m_was, .inl (T.2 0, 7, .inl f_was))]] (fun (r : Int32) bs => ∃ (j_at : Int32) (j_gone : Int32) (j_steps : Int32) (j_moved : Int32) (j_firstCame : Int32) (j_never : Int32) (j_longRun : Int32) (g_posts : Nat → Int32) (g_here : Nat → Int32) (g_was : Nat → Int32), bs = [[(mo, .inr (11, [.ref m_all, .ref m_has, .int i_size, .int i_next, .int i_where, .int i_token, .int i_number, .int i_word, .int i_wrong, .int i_farCrossing, .ref m_read, .int i_z0, .int i_crossings, .int i_inns, .ref m_posts, .ref m_shut, .ref m_here, .int j_steps, .int i_done, .int j_at, .int j_gone, .ref m_was, .ref m_came, .ref m_seenAt, .ref m_rowWorth, .ref m_farBy, .ref m_used, .int i_everywhere, .int i_again0, .int i_d0, .int j_never, .int j_firstCame, .int j_longRun, .int j_moved, .int i_crowd, .int i_l0, .int i_fitMany, .int i_fitLeast, .int i_fitMost, .ref m_fitPost, .ref m_fitEnd, .ref m_keptPosts, .int i_x0]))], [(m_all, .inl (T.2 0, 3952, .inl f_all))], [(m_posts, .inl (T.2 0, 7, .inl g_posts))], [(m_shut, .inl (T.2 0, 7, .inl f_shut))], [(m_here, .inl (T.2 0, 7, .inl g_here))], [(m_was, .inl (T.2 0, 7, .inl g_was))]] ∧ (r = 1 ∧ zRuF i_crossings i_inns (zWo f_all i_z0 i_inns) (zLo f_all i_z0) c_ (f_posts, f_shut, f_here, i_steps, i_never) = some (g_posts, f_shut, g_here, j_steps, j_never) ∨ r = 0 ∧ zRuF i_crossings i_inns (zWo f_all i_z0 i_inns) (zLo f_all i_z0) c_ (f_posts, f_shut, f_here, i_steps, i_never) = none ∧ g_posts = f_posts ∧ g_here = f_here ∧ j_steps = i_steps ∧ j_never = i_never) ∧ zMV (zRo f_all i_z0) g_posts ∧ zMP g_posts ∧ (∀ m : Int, m ≤ 100000 → zHB m f_here → zHB (m + 1) g_here)) := by
  refine zMi_of (own := RX12) (by decide) rfl (Nat.le_of_ble_eq_true rfl) ?_
  intro p e s m args below meth c A ls C hr hlocks hnm hAe G hl
  have hx := C.1
  have hb := C.2.1
  have hl : lv_has ls 2 [(0, .ref mo), (1, .int c_)] := hl
  have hz := hL.1
  have hcr := hL.cr
  have hPl := zP3_m (n := i_inns) hL hP
  have hLb2 := zLo_m (n := i_inns) hL
  have hHc := hH c_.toNatClampNeg (by have q9 := z_clI (x := c_) (by omega); omega)
  have hS1 : zBit i_inns c_ = 1 → zStep f_posts f_shut (zWo f_all i_z0 i_inns) (zLo f_all i_z0) c_ = -1 := fun q8 => zStep_inn q8 hc0 (by omega)
  refine lv_aload_n hx hb dX12_runs0_0 rfl (lv_at hl 0 rfl) ?_
  refine z_get C G clX12 0 rfl 16 (by decide) m_fl_RX12_26 rfl dX12_runs0_1 ?_
  refine lv_iload_n hx hb dX12_runs0_4 rfl (lv_at hl 1 rfl) ?_
  refine z_ild C G 4 rfl (vp_in_iff.mpr ⟨by omega, by omega⟩) dX12_runs0_5 ?_
  refine lv_topi (fun v_1 ev_1 => ?_)
  subst ev_1
  refine lv_if_ne (tgt := 11) hx hb dX12_runs0_6 (by decide) (fun c_2 => ?_) (fun c_2 => ?_)
  · have c_2n : ¬ (f_here c_.toNatClampNeg).toInt = (0 : Int) := fun q => c_2 ((fa_eq _ _).mpr q)
    refine lv_aload_n hx hb dX12_runs0_11 rfl (lv_at hl 0 rfl) ?_
    refine lv_dup hx hb dX12_runs0_12 rfl ?_
    refine z_get C G clX12 0 rfl 30 (by decide) m_fl_RX12_320 rfl dX12_runs0_13 ?_
    refine lv_aload_n hx hb dX12_runs0_16 rfl (lv_at hl 0 rfl) ?_
    refine lv_iload_n hx hb dX12_runs0_17 rfl (lv_at hl 1 rfl) ?_
    refine z_Vi (bc := [[(mo, .inr (11, [.ref m_all, .ref m_has, .int i_size, .int i_next, .int i_where, .int i_token, .int i_number, .int i_word, .int i_wrong, .int i_farCrossing, .ref m_read, .int i_z0, .int i_crossings, .int i_inns, .ref m_posts, .ref m_shut, .ref m_here, .int i_steps, .int i_done, .int i_at, .int i_gone, .ref m_was, .ref m_came, .ref m_seenAt, .ref m_rowWorth, .ref m_farBy, .ref m_used, .int i_everywhere, .int i_again0, .int i_d0, .int i_never, .int i_firstCame, .int i_longRun, .int i_moved, .int i_crowd, .int i_l0, .int i_fitMany, .int i_fitLeast, .int i_fitMost, .ref m_fitPost, .ref m_fitEnd, .ref m_keptPosts, .int i_x0]))], [(m_all, .inl (T.2 0, 3952, .inl f_all))], [(m_posts, .inl (T.2 0, 7, .inl f_posts))], [(m_shut, .inl (T.2 0, 7, .inl f_shut))], [(m_was, .inl (T.2 0, 7, .inl f_was))]]) (br := [[(m_here, .inl (T.2 0, 7, .inl f_here))]]) (As := [.int c_]) (rest := [.int i_never, .ref mo]) C G (c_fm_walks l T mo m_all m_has i_size i_next i_where i_token i_number i_word i_wrong i_farCrossing m_read i_z0 i_crossings i_inns m_posts m_shut m_here i_steps i_done i_at i_gone m_was m_came m_seenAt m_rowWorth m_farBy m_used i_everywhere i_again0 i_d0 i_never i_firstCame i_longRun i_moved i_crowd i_l0 i_fitMany i_fitLeast i_fitMost m_fitPost m_fitEnd m_keptPosts i_x0 f_all f_posts f_shut f_was c_ (by first | with_reducible assumption | with_reducible rfl | omega | assumption | rfl) (by first | with_reducible assumption | with_reducible rfl | omega | assumption | rfl) (by first | with_reducible assumption | with_reducible rfl | omega | assumption | rfl) (by first | with_reducible assumption | with_reducible rfl | omega | assumption | rfl) (by first | with_reducible assumption | with_reducible rfl | omega | assumption | rfl)) (kV_RX12_217 C.2.2.2.2 (Nat.le_of_ble_eq_true rfl) (Nat.le_of_ble_eq_true rfl)) [0, 1, 2, 3, 5] [4] rfl rfl (ci := 11) (qc := (RX12, TX12, 43)) rfl rfl (List.mem_flatten.mpr ⟨_, List.mem_of_getElem? (i := 0) rfl, List.mem_cons_self⟩) rfl rfl hl.1 dX12_runs0_18 (Nat.le_of_ble_eq_true rfl) (Nat.le_of_ble_eq_true rfl) (fun r_17 b1 H locs hw G => ?_)
    obtain ⟨j_at_3, j_gone_4, g_posts_5, g_was_6, rfl, h_7, h_8, h_9, h_10, h_11, h_12, h_13, h_14, h_15, h_16⟩ := hw
    have G : zS T A s.heap s [[(m_here, .inl (T.2 0, 7, .inl f_here))], [(mo, .inr (11, [.ref m_all, .ref m_has, .int i_size, .int i_next, .int i_where, .int i_token, .int i_number, .int i_word, .int i_wrong, .int i_farCrossing, .ref m_read, .int i_z0, .int i_crossings, .int i_inns, .ref m_posts, .ref m_shut, .ref m_here, .int i_steps, .int i_done, .int j_at_3, .int j_gone_4, .ref m_was, .ref m_came, .ref m_seenAt, .ref m_rowWorth, .ref m_farBy, .ref m_used, .int i_everywhere, .int i_again0, .int i_d0, .int i_never, .int i_firstCame, .int i_longRun, .int i_moved, .int i_crowd, .int i_l0, .int i_fitMany, .int i_fitLeast, .int i_fitMost, .ref m_fitPost, .ref m_fitEnd, .ref m_keptPosts, .int i_x0]))], [(m_all, .inl (T.2 0, 3952, .inl f_all))], [(m_posts, .inl (T.2 0, 7, .inl g_posts_5))], [(m_shut, .inl (T.2 0, 7, .inl f_shut))], [(m_was, .inl (T.2 0, 7, .inl g_was_6))]] _ _ := G
    have hr1 : r_17.toInt = 1 ∧ zBit i_inns j_at_3 = 1 ∨ r_17.toInt = 0 ∧ ¬ zBit i_inns j_at_3 = 1 := by rcases h_12 with ⟨e9, b9⟩ | ⟨e9, b9⟩ <;> first | exact Or.inl ⟨by rw [e9]; rfl, b9⟩ | exact Or.inr ⟨by rw [e9]; rfl, b9⟩
    refine lv_if_eq (tgt := 28) hx hb dX12_runs0_21 (by decide) (fun c_18 => ?_) (fun c_18 => ?_)
    · have c_18n : r_17.toInt = (0 : Int) := (fa_eq _ _).mp c_18
      refine lv_iconst (v := 1) hx hb dX12_runs0_28 (by decide) ?_
      refine lv_iadd hx hb dX12_runs0_29 ?_
      refine z_put C G clX12 1 rfl 30 (by decide) m_fl_RX12_320 rfl rfl rfl (Nat.le_of_ble_eq_true rfl) dX12_runs0_30 (fun H locs G => ?_)
      have G : zS T A s.heap s [[(m_here, .inl (T.2 0, 7, .inl f_here))], [(mo, .inr (11, [.ref m_all, .ref m_has, .int i_size, .int i_next, .int i_where, .int i_token, .int i_number, .int i_word, .int i_wrong, .int i_farCrossing, .ref m_read, .int i_z0, .int i_crossings, .int i_inns, .ref m_posts, .ref m_shut, .ref m_here, .int i_steps, .int i_done, .int j_at_3, .int j_gone_4, .ref m_was, .ref m_came, .ref m_seenAt, .ref m_rowWorth, .ref m_farBy, .ref m_used, .int i_everywhere, .int i_again0, .int i_d0, .int (i_never + 1), .int i_firstCame, .int i_longRun, .int i_moved, .int i_crowd, .int i_l0, .int i_fitMany, .int i_fitLeast, .int i_fitMost, .ref m_fitPost, .ref m_fitEnd, .ref m_keptPosts, .int i_x0]))], [(m_all, .inl (T.2 0, 3952, .inl f_all))], [(m_posts, .inl (T.2 0, 7, .inl g_posts_5))], [(m_shut, .inl (T.2 0, 7, .inl f_shut))], [(m_was, .inl (T.2 0, 7, .inl g_was_6))]] _ _ := G
      refine lv_aload_n hx hb dX12_runs0_33 rfl (lv_at hl 0 rfl) ?_
      refine lv_aload_n hx hb dX12_runs0_34 rfl (lv_at hl 0 rfl) ?_
      refine z_get C G clX12 1 rfl 20 (by decide) m_fl_RX12_208 rfl dX12_runs0_35 ?_
      refine lv_aload_n hx hb dX12_runs0_38 rfl (lv_at hl 0 rfl) ?_
      refine z_get C G clX12 1 rfl 32 (by decide) m_fl_RX12_323 rfl dX12_runs0_39 ?_
      refine lv_icmp_le (tgt := 52) hx hb dX12_runs0_42 (by decide) (fun c_19 => ?_) (fun c_19 => ?_)
      · have c_19n : j_gone_4.toInt ≤ i_longRun.toInt := (fa_le _ _).mp c_19
        refine lv_aload_n hx hb dX12_runs0_52 rfl (lv_at hl 0 rfl) ?_
        refine z_get C G clX12 1 rfl 32 (by decide) m_fl_RX12_323 rfl dX12_runs0_53 ?_
        refine z_put C G clX12 1 rfl 32 (by decide) m_fl_RX12_323 rfl rfl rfl (Nat.le_of_ble_eq_true rfl) dX12_runs0_56 (fun H locs G => ?_)
        have G : zS T A s.heap s [[(m_here, .inl (T.2 0, 7, .inl f_here))], [(mo, .inr (11, [.ref m_all, .ref m_has, .int i_size, .int i_next, .int i_where, .int i_token, .int i_number, .int i_word, .int i_wrong, .int i_farCrossing, .ref m_read, .int i_z0, .int i_crossings, .int i_inns, .ref m_posts, .ref m_shut, .ref m_here, .int i_steps, .int i_done, .int j_at_3, .int j_gone_4, .ref m_was, .ref m_came, .ref m_seenAt, .ref m_rowWorth, .ref m_farBy, .ref m_used, .int i_everywhere, .int i_again0, .int i_d0, .int (i_never + 1), .int i_firstCame, .int i_longRun, .int i_moved, .int i_crowd, .int i_l0, .int i_fitMany, .int i_fitLeast, .int i_fitMost, .ref m_fitPost, .ref m_fitEnd, .ref m_keptPosts, .int i_x0]))], [(m_all, .inl (T.2 0, 3952, .inl f_all))], [(m_posts, .inl (T.2 0, 7, .inl g_posts_5))], [(m_shut, .inl (T.2 0, 7, .inl f_shut))], [(m_was, .inl (T.2 0, 7, .inl g_was_6))]] _ _ := G
        refine lv_aload_n hx hb dX12_runs0_59 rfl (lv_at hl 0 rfl) ?_
        refine lv_iload_n hx hb dX12_runs0_60 rfl (lv_at hl 1 rfl) ?_
        refine z_Vv (bc := [[(mo, .inr (11, [.ref m_all, .ref m_has, .int i_size, .int i_next, .int i_where, .int i_token, .int i_number, .int i_word, .int i_wrong, .int i_farCrossing, .ref m_read, .int i_z0, .int i_crossings, .int i_inns, .ref m_posts, .ref m_shut, .ref m_here, .int i_steps, .int i_done, .int j_at_3, .int j_gone_4, .ref m_was, .ref m_came, .ref m_seenAt, .ref m_rowWorth, .ref m_farBy, .ref m_used, .int i_everywhere, .int i_again0, .int i_d0, .int (i_never + 1), .int i_firstCame, .int i_longRun, .int i_moved, .int i_crowd, .int i_l0, .int i_fitMany, .int i_fitLeast, .int i_fitMost, .ref m_fitPost, .ref m_fitEnd, .ref m_keptPosts, .int i_x0]))], [(m_here, .inl (T.2 0, 7, .inl f_here))]]) (br := [[(m_all, .inl (T.2 0, 3952, .inl f_all))], [(m_posts, .inl (T.2 0, 7, .inl g_posts_5))], [(m_shut, .inl (T.2 0, 7, .inl f_shut))], [(m_was, .inl (T.2 0, 7, .inl g_was_6))]]) (As := [.int c_]) (rest := []) C G (c_fm_goesFrom l T mo m_all m_has i_size i_next i_where i_token i_number i_word i_wrong i_farCrossing m_read i_z0 i_crossings i_inns m_posts m_shut m_here i_steps i_done j_at_3 j_gone_4 m_was m_came m_seenAt m_rowWorth m_farBy m_used i_everywhere i_again0 i_d0 (i_never + 1) i_firstCame i_longRun i_moved i_crowd i_l0 i_fitMany i_fitLeast i_fitMost m_fitPost m_fitEnd m_keptPosts i_x0 f_here c_ (by first | with_reducible assumption | with_reducible rfl | omega | assumption | rfl) (by first | with_reducible assumption | with_reducible rfl | omega | assumption | rfl) (by first | with_reducible assumption | with_reducible rfl | omega | assumption | rfl) (by first | with_reducible assumption | with_reducible rfl | omega | assumption | rfl)) (kV_RX12_317 C.2.2.2.2 (Nat.le_of_ble_eq_true rfl) (Nat.le_of_ble_eq_true rfl)) [1, 0] [2, 3, 4, 5] rfl rfl (ci := 11) (qc := (RX12, TX12, 43)) rfl rfl (List.mem_flatten.mpr ⟨_, List.mem_of_getElem? (i := 0) rfl, List.mem_cons_self⟩) rfl rfl hl.1 dX12_runs0_61 (Nat.le_of_ble_eq_true rfl) (Nat.le_of_ble_eq_true rfl) (fun b1 H locs hw G => ?_)
        obtain ⟨j_steps_20, j_moved_21, j_firstCame_22, g_here_23, rfl, h_24, h_25⟩ := hw
        have G : zS T A s.heap s [[(m_all, .inl (T.2 0, 3952, .inl f_all))], [(m_posts, .inl (T.2 0, 7, .inl g_posts_5))], [(m_shut, .inl (T.2 0, 7, .inl f_shut))], [(m_was, .inl (T.2 0, 7, .inl g_was_6))], [(mo, .inr (11, [.ref m_all, .ref m_has, .int i_size, .int i_next, .int i_where, .int i_token, .int i_number, .int i_word, .int i_wrong, .int i_farCrossing, .ref m_read, .int i_z0, .int i_crossings, .int i_inns, .ref m_posts, .ref m_shut, .ref m_here, .int j_steps_20, .int i_done, .int j_at_3, .int j_gone_4, .ref m_was, .ref m_came, .ref m_seenAt, .ref m_rowWorth, .ref m_farBy, .ref m_used, .int i_everywhere, .int i_again0, .int i_d0, .int (i_never + 1), .int j_firstCame_22, .int i_longRun, .int j_moved_21, .int i_crowd, .int i_l0, .int i_fitMany, .int i_fitLeast, .int i_fitMost, .ref m_fitPost, .ref m_fitEnd, .ref m_keptPosts, .int i_x0]))], [(m_here, .inl (T.2 0, 7, .inl g_here_23))]] _ _ := G
        refine lv_iconst (v := 1) hx hb dX12_runs0_64 (by decide) ?_
        have G := G.sub (bs' := [[(mo, .inr (11, [.ref m_all, .ref m_has, .int i_size, .int i_next, .int i_where, .int i_token, .int i_number, .int i_word, .int i_wrong, .int i_farCrossing, .ref m_read, .int i_z0, .int i_crossings, .int i_inns, .ref m_posts, .ref m_shut, .ref m_here, .int j_steps_20, .int i_done, .int j_at_3, .int j_gone_4, .ref m_was, .ref m_came, .ref m_seenAt, .ref m_rowWorth, .ref m_farBy, .ref m_used, .int i_everywhere, .int i_again0, .int i_d0, .int (i_never + 1), .int j_firstCame_22, .int i_longRun, .int j_moved_21, .int i_crowd, .int i_l0, .int i_fitMany, .int i_fitLeast, .int i_fitMost, .ref m_fitPost, .ref m_fitEnd, .ref m_keptPosts, .int i_x0]))], [(m_all, .inl (T.2 0, 3952, .inl f_all))], [(m_posts, .inl (T.2 0, 7, .inl g_posts_5))], [(m_shut, .inl (T.2 0, 7, .inl f_shut))], [(m_here, .inl (T.2 0, 7, .inl g_here_23))], [(m_was, .inl (T.2 0, 7, .inl g_was_6))]]) [4, 0, 1, 2, 5, 3] rfl
        exact z_zret C hr hlocks G (Nat.le_of_ble_eq_true rfl) (Nat.le_of_ble_eq_true rfl) dX12_runs0_65 rfl ⟨j_at_3, j_gone_4, j_steps_20, j_moved_21, j_firstCame_22, (i_never + 1), i_longRun, g_posts_5, g_here_23, g_was_6, rfl, (Or.inl ⟨rfl, zRuF_m ⟨⟨by omega, by omega, by omega⟩, by omega⟩ h_13 h_15 h_14 h_24 h_25 (if_neg (fun q8 => by rcases hr1 with ⟨e9, b9⟩ | ⟨e9, b9⟩ <;> first | (exfalso; omega) | exact b9 q8))⟩), h_8, h_7, (fun m hm hx => by rw [h_24]; exact zMvH_b hm hx ⟨by omega, by omega⟩ ⟨by omega, by omega⟩ (by omega))⟩
      · have c_19n : ¬ j_gone_4.toInt ≤ i_longRun.toInt := fun q => c_19 ((fa_le _ _).mpr q)
        refine lv_aload_n hx hb dX12_runs0_45 rfl (lv_at hl 0 rfl) ?_
        refine z_get C G clX12 1 rfl 20 (by decide) m_fl_RX12_208 rfl dX12_runs0_46 ?_
        refine lv_goto (tgt := 56) hx hb dX12_runs0_49 (by decide) ?_
        refine z_put C G clX12 1 rfl 32 (by decide) m_fl_RX12_323 rfl rfl rfl (Nat.le_of_ble_eq_true rfl) dX12_runs0_56 (fun H locs G => ?_)
        have G : zS T A s.heap s [[(m_here, .inl (T.2 0, 7, .inl f_here))], [(mo, .inr (11, [.ref m_all, .ref m_has, .int i_size, .int i_next, .int i_where, .int i_token, .int i_number, .int i_word, .int i_wrong, .int i_farCrossing, .ref m_read, .int i_z0, .int i_crossings, .int i_inns, .ref m_posts, .ref m_shut, .ref m_here, .int i_steps, .int i_done, .int j_at_3, .int j_gone_4, .ref m_was, .ref m_came, .ref m_seenAt, .ref m_rowWorth, .ref m_farBy, .ref m_used, .int i_everywhere, .int i_again0, .int i_d0, .int (i_never + 1), .int i_firstCame, .int j_gone_4, .int i_moved, .int i_crowd, .int i_l0, .int i_fitMany, .int i_fitLeast, .int i_fitMost, .ref m_fitPost, .ref m_fitEnd, .ref m_keptPosts, .int i_x0]))], [(m_all, .inl (T.2 0, 3952, .inl f_all))], [(m_posts, .inl (T.2 0, 7, .inl g_posts_5))], [(m_shut, .inl (T.2 0, 7, .inl f_shut))], [(m_was, .inl (T.2 0, 7, .inl g_was_6))]] _ _ := G
        refine lv_aload_n hx hb dX12_runs0_59 rfl (lv_at hl 0 rfl) ?_
        refine lv_iload_n hx hb dX12_runs0_60 rfl (lv_at hl 1 rfl) ?_
        refine z_Vv (bc := [[(mo, .inr (11, [.ref m_all, .ref m_has, .int i_size, .int i_next, .int i_where, .int i_token, .int i_number, .int i_word, .int i_wrong, .int i_farCrossing, .ref m_read, .int i_z0, .int i_crossings, .int i_inns, .ref m_posts, .ref m_shut, .ref m_here, .int i_steps, .int i_done, .int j_at_3, .int j_gone_4, .ref m_was, .ref m_came, .ref m_seenAt, .ref m_rowWorth, .ref m_farBy, .ref m_used, .int i_everywhere, .int i_again0, .int i_d0, .int (i_never + 1), .int i_firstCame, .int j_gone_4, .int i_moved, .int i_crowd, .int i_l0, .int i_fitMany, .int i_fitLeast, .int i_fitMost, .ref m_fitPost, .ref m_fitEnd, .ref m_keptPosts, .int i_x0]))], [(m_here, .inl (T.2 0, 7, .inl f_here))]]) (br := [[(m_all, .inl (T.2 0, 3952, .inl f_all))], [(m_posts, .inl (T.2 0, 7, .inl g_posts_5))], [(m_shut, .inl (T.2 0, 7, .inl f_shut))], [(m_was, .inl (T.2 0, 7, .inl g_was_6))]]) (As := [.int c_]) (rest := []) C G (c_fm_goesFrom l T mo m_all m_has i_size i_next i_where i_token i_number i_word i_wrong i_farCrossing m_read i_z0 i_crossings i_inns m_posts m_shut m_here i_steps i_done j_at_3 j_gone_4 m_was m_came m_seenAt m_rowWorth m_farBy m_used i_everywhere i_again0 i_d0 (i_never + 1) i_firstCame j_gone_4 i_moved i_crowd i_l0 i_fitMany i_fitLeast i_fitMost m_fitPost m_fitEnd m_keptPosts i_x0 f_here c_ (by first | with_reducible assumption | with_reducible rfl | omega | assumption | rfl) (by first | with_reducible assumption | with_reducible rfl | omega | assumption | rfl) (by first | with_reducible assumption | with_reducible rfl | omega | assumption | rfl) (by first | with_reducible assumption | with_reducible rfl | omega | assumption | rfl)) (kV_RX12_317 C.2.2.2.2 (Nat.le_of_ble_eq_true rfl) (Nat.le_of_ble_eq_true rfl)) [1, 0] [2, 3, 4, 5] rfl rfl (ci := 11) (qc := (RX12, TX12, 43)) rfl rfl (List.mem_flatten.mpr ⟨_, List.mem_of_getElem? (i := 0) rfl, List.mem_cons_self⟩) rfl rfl hl.1 dX12_runs0_61 (Nat.le_of_ble_eq_true rfl) (Nat.le_of_ble_eq_true rfl) (fun b1 H locs hw G => ?_)
        obtain ⟨j_steps_27, j_moved_28, j_firstCame_29, g_here_30, rfl, h_31, h_32⟩ := hw
        have G : zS T A s.heap s [[(m_all, .inl (T.2 0, 3952, .inl f_all))], [(m_posts, .inl (T.2 0, 7, .inl g_posts_5))], [(m_shut, .inl (T.2 0, 7, .inl f_shut))], [(m_was, .inl (T.2 0, 7, .inl g_was_6))], [(mo, .inr (11, [.ref m_all, .ref m_has, .int i_size, .int i_next, .int i_where, .int i_token, .int i_number, .int i_word, .int i_wrong, .int i_farCrossing, .ref m_read, .int i_z0, .int i_crossings, .int i_inns, .ref m_posts, .ref m_shut, .ref m_here, .int j_steps_27, .int i_done, .int j_at_3, .int j_gone_4, .ref m_was, .ref m_came, .ref m_seenAt, .ref m_rowWorth, .ref m_farBy, .ref m_used, .int i_everywhere, .int i_again0, .int i_d0, .int (i_never + 1), .int j_firstCame_29, .int j_gone_4, .int j_moved_28, .int i_crowd, .int i_l0, .int i_fitMany, .int i_fitLeast, .int i_fitMost, .ref m_fitPost, .ref m_fitEnd, .ref m_keptPosts, .int i_x0]))], [(m_here, .inl (T.2 0, 7, .inl g_here_30))]] _ _ := G
        refine lv_iconst (v := 1) hx hb dX12_runs0_64 (by decide) ?_
        have G := G.sub (bs' := [[(mo, .inr (11, [.ref m_all, .ref m_has, .int i_size, .int i_next, .int i_where, .int i_token, .int i_number, .int i_word, .int i_wrong, .int i_farCrossing, .ref m_read, .int i_z0, .int i_crossings, .int i_inns, .ref m_posts, .ref m_shut, .ref m_here, .int j_steps_27, .int i_done, .int j_at_3, .int j_gone_4, .ref m_was, .ref m_came, .ref m_seenAt, .ref m_rowWorth, .ref m_farBy, .ref m_used, .int i_everywhere, .int i_again0, .int i_d0, .int (i_never + 1), .int j_firstCame_29, .int j_gone_4, .int j_moved_28, .int i_crowd, .int i_l0, .int i_fitMany, .int i_fitLeast, .int i_fitMost, .ref m_fitPost, .ref m_fitEnd, .ref m_keptPosts, .int i_x0]))], [(m_all, .inl (T.2 0, 3952, .inl f_all))], [(m_posts, .inl (T.2 0, 7, .inl g_posts_5))], [(m_shut, .inl (T.2 0, 7, .inl f_shut))], [(m_here, .inl (T.2 0, 7, .inl g_here_30))], [(m_was, .inl (T.2 0, 7, .inl g_was_6))]]) [4, 0, 1, 2, 5, 3] rfl
        exact z_zret C hr hlocks G (Nat.le_of_ble_eq_true rfl) (Nat.le_of_ble_eq_true rfl) dX12_runs0_65 rfl ⟨j_at_3, j_gone_4, j_steps_27, j_moved_28, j_firstCame_29, (i_never + 1), j_gone_4, g_posts_5, g_here_30, g_was_6, rfl, (Or.inl ⟨rfl, zRuF_m ⟨⟨by omega, by omega, by omega⟩, by omega⟩ h_13 h_15 h_14 h_31 h_32 (if_neg (fun q8 => by rcases hr1 with ⟨e9, b9⟩ | ⟨e9, b9⟩ <;> first | (exfalso; omega) | exact b9 q8))⟩), h_8, h_7, (fun m hm hx => by rw [h_31]; exact zMvH_b hm hx ⟨by omega, by omega⟩ ⟨by omega, by omega⟩ (by omega))⟩
    · have c_18n : ¬ r_17.toInt = (0 : Int) := fun q => c_18 ((fa_eq _ _).mpr q)
      refine lv_iconst (v := 0) hx hb dX12_runs0_24 (by decide) ?_
      refine lv_goto (tgt := 29) hx hb dX12_runs0_25 (by decide) ?_
      refine lv_iadd hx hb dX12_runs0_29 ?_
      refine z_put C G clX12 1 rfl 30 (by decide) m_fl_RX12_320 rfl rfl rfl (Nat.le_of_ble_eq_true rfl) dX12_runs0_30 (fun H locs G => ?_)
      have G : zS T A s.heap s [[(m_here, .inl (T.2 0, 7, .inl f_here))], [(mo, .inr (11, [.ref m_all, .ref m_has, .int i_size, .int i_next, .int i_where, .int i_token, .int i_number, .int i_word, .int i_wrong, .int i_farCrossing, .ref m_read, .int i_z0, .int i_crossings, .int i_inns, .ref m_posts, .ref m_shut, .ref m_here, .int i_steps, .int i_done, .int j_at_3, .int j_gone_4, .ref m_was, .ref m_came, .ref m_seenAt, .ref m_rowWorth, .ref m_farBy, .ref m_used, .int i_everywhere, .int i_again0, .int i_d0, .int (i_never + 0), .int i_firstCame, .int i_longRun, .int i_moved, .int i_crowd, .int i_l0, .int i_fitMany, .int i_fitLeast, .int i_fitMost, .ref m_fitPost, .ref m_fitEnd, .ref m_keptPosts, .int i_x0]))], [(m_all, .inl (T.2 0, 3952, .inl f_all))], [(m_posts, .inl (T.2 0, 7, .inl g_posts_5))], [(m_shut, .inl (T.2 0, 7, .inl f_shut))], [(m_was, .inl (T.2 0, 7, .inl g_was_6))]] _ _ := G
      refine lv_aload_n hx hb dX12_runs0_33 rfl (lv_at hl 0 rfl) ?_
      refine lv_aload_n hx hb dX12_runs0_34 rfl (lv_at hl 0 rfl) ?_
      refine z_get C G clX12 1 rfl 20 (by decide) m_fl_RX12_208 rfl dX12_runs0_35 ?_
      refine lv_aload_n hx hb dX12_runs0_38 rfl (lv_at hl 0 rfl) ?_
      refine z_get C G clX12 1 rfl 32 (by decide) m_fl_RX12_323 rfl dX12_runs0_39 ?_
      refine lv_icmp_le (tgt := 52) hx hb dX12_runs0_42 (by decide) (fun c_34 => ?_) (fun c_34 => ?_)
      · have c_34n : j_gone_4.toInt ≤ i_longRun.toInt := (fa_le _ _).mp c_34
        refine lv_aload_n hx hb dX12_runs0_52 rfl (lv_at hl 0 rfl) ?_
        refine z_get C G clX12 1 rfl 32 (by decide) m_fl_RX12_323 rfl dX12_runs0_53 ?_
        refine z_put C G clX12 1 rfl 32 (by decide) m_fl_RX12_323 rfl rfl rfl (Nat.le_of_ble_eq_true rfl) dX12_runs0_56 (fun H locs G => ?_)
        have G : zS T A s.heap s [[(m_here, .inl (T.2 0, 7, .inl f_here))], [(mo, .inr (11, [.ref m_all, .ref m_has, .int i_size, .int i_next, .int i_where, .int i_token, .int i_number, .int i_word, .int i_wrong, .int i_farCrossing, .ref m_read, .int i_z0, .int i_crossings, .int i_inns, .ref m_posts, .ref m_shut, .ref m_here, .int i_steps, .int i_done, .int j_at_3, .int j_gone_4, .ref m_was, .ref m_came, .ref m_seenAt, .ref m_rowWorth, .ref m_farBy, .ref m_used, .int i_everywhere, .int i_again0, .int i_d0, .int (i_never + 0), .int i_firstCame, .int i_longRun, .int i_moved, .int i_crowd, .int i_l0, .int i_fitMany, .int i_fitLeast, .int i_fitMost, .ref m_fitPost, .ref m_fitEnd, .ref m_keptPosts, .int i_x0]))], [(m_all, .inl (T.2 0, 3952, .inl f_all))], [(m_posts, .inl (T.2 0, 7, .inl g_posts_5))], [(m_shut, .inl (T.2 0, 7, .inl f_shut))], [(m_was, .inl (T.2 0, 7, .inl g_was_6))]] _ _ := G
        refine lv_aload_n hx hb dX12_runs0_59 rfl (lv_at hl 0 rfl) ?_
        refine lv_iload_n hx hb dX12_runs0_60 rfl (lv_at hl 1 rfl) ?_
        refine z_Vv (bc := [[(mo, .inr (11, [.ref m_all, .ref m_has, .int i_size, .int i_next, .int i_where, .int i_token, .int i_number, .int i_word, .int i_wrong, .int i_farCrossing, .ref m_read, .int i_z0, .int i_crossings, .int i_inns, .ref m_posts, .ref m_shut, .ref m_here, .int i_steps, .int i_done, .int j_at_3, .int j_gone_4, .ref m_was, .ref m_came, .ref m_seenAt, .ref m_rowWorth, .ref m_farBy, .ref m_used, .int i_everywhere, .int i_again0, .int i_d0, .int (i_never + 0), .int i_firstCame, .int i_longRun, .int i_moved, .int i_crowd, .int i_l0, .int i_fitMany, .int i_fitLeast, .int i_fitMost, .ref m_fitPost, .ref m_fitEnd, .ref m_keptPosts, .int i_x0]))], [(m_here, .inl (T.2 0, 7, .inl f_here))]]) (br := [[(m_all, .inl (T.2 0, 3952, .inl f_all))], [(m_posts, .inl (T.2 0, 7, .inl g_posts_5))], [(m_shut, .inl (T.2 0, 7, .inl f_shut))], [(m_was, .inl (T.2 0, 7, .inl g_was_6))]]) (As := [.int c_]) (rest := []) C G (c_fm_goesFrom l T mo m_all m_has i_size i_next i_where i_token i_number i_word i_wrong i_farCrossing m_read i_z0 i_crossings i_inns m_posts m_shut m_here i_steps i_done j_at_3 j_gone_4 m_was m_came m_seenAt m_rowWorth m_farBy m_used i_everywhere i_again0 i_d0 (i_never + 0) i_firstCame i_longRun i_moved i_crowd i_l0 i_fitMany i_fitLeast i_fitMost m_fitPost m_fitEnd m_keptPosts i_x0 f_here c_ (by first | with_reducible assumption | with_reducible rfl | omega | assumption | rfl) (by first | with_reducible assumption | with_reducible rfl | omega | assumption | rfl) (by first | with_reducible assumption | with_reducible rfl | omega | assumption | rfl) (by first | with_reducible assumption | with_reducible rfl | omega | assumption | rfl)) (kV_RX12_317 C.2.2.2.2 (Nat.le_of_ble_eq_true rfl) (Nat.le_of_ble_eq_true rfl)) [1, 0] [2, 3, 4, 5] rfl rfl (ci := 11) (qc := (RX12, TX12, 43)) rfl rfl (List.mem_flatten.mpr ⟨_, List.mem_of_getElem? (i := 0) rfl, List.mem_cons_self⟩) rfl rfl hl.1 dX12_runs0_61 (Nat.le_of_ble_eq_true rfl) (Nat.le_of_ble_eq_true rfl) (fun b1 H locs hw G => ?_)
        obtain ⟨j_steps_35, j_moved_36, j_firstCame_37, g_here_38, rfl, h_39, h_40⟩ := hw
        have G : zS T A s.heap s [[(m_all, .inl (T.2 0, 3952, .inl f_all))], [(m_posts, .inl (T.2 0, 7, .inl g_posts_5))], [(m_shut, .inl (T.2 0, 7, .inl f_shut))], [(m_was, .inl (T.2 0, 7, .inl g_was_6))], [(mo, .inr (11, [.ref m_all, .ref m_has, .int i_size, .int i_next, .int i_where, .int i_token, .int i_number, .int i_word, .int i_wrong, .int i_farCrossing, .ref m_read, .int i_z0, .int i_crossings, .int i_inns, .ref m_posts, .ref m_shut, .ref m_here, .int j_steps_35, .int i_done, .int j_at_3, .int j_gone_4, .ref m_was, .ref m_came, .ref m_seenAt, .ref m_rowWorth, .ref m_farBy, .ref m_used, .int i_everywhere, .int i_again0, .int i_d0, .int (i_never + 0), .int j_firstCame_37, .int i_longRun, .int j_moved_36, .int i_crowd, .int i_l0, .int i_fitMany, .int i_fitLeast, .int i_fitMost, .ref m_fitPost, .ref m_fitEnd, .ref m_keptPosts, .int i_x0]))], [(m_here, .inl (T.2 0, 7, .inl g_here_38))]] _ _ := G
        refine lv_iconst (v := 1) hx hb dX12_runs0_64 (by decide) ?_
        have G := G.sub (bs' := [[(mo, .inr (11, [.ref m_all, .ref m_has, .int i_size, .int i_next, .int i_where, .int i_token, .int i_number, .int i_word, .int i_wrong, .int i_farCrossing, .ref m_read, .int i_z0, .int i_crossings, .int i_inns, .ref m_posts, .ref m_shut, .ref m_here, .int j_steps_35, .int i_done, .int j_at_3, .int j_gone_4, .ref m_was, .ref m_came, .ref m_seenAt, .ref m_rowWorth, .ref m_farBy, .ref m_used, .int i_everywhere, .int i_again0, .int i_d0, .int (i_never + 0), .int j_firstCame_37, .int i_longRun, .int j_moved_36, .int i_crowd, .int i_l0, .int i_fitMany, .int i_fitLeast, .int i_fitMost, .ref m_fitPost, .ref m_fitEnd, .ref m_keptPosts, .int i_x0]))], [(m_all, .inl (T.2 0, 3952, .inl f_all))], [(m_posts, .inl (T.2 0, 7, .inl g_posts_5))], [(m_shut, .inl (T.2 0, 7, .inl f_shut))], [(m_here, .inl (T.2 0, 7, .inl g_here_38))], [(m_was, .inl (T.2 0, 7, .inl g_was_6))]]) [4, 0, 1, 2, 5, 3] rfl
        exact z_zret C hr hlocks G (Nat.le_of_ble_eq_true rfl) (Nat.le_of_ble_eq_true rfl) dX12_runs0_65 rfl ⟨j_at_3, j_gone_4, j_steps_35, j_moved_36, j_firstCame_37, (i_never + 0), i_longRun, g_posts_5, g_here_38, g_was_6, rfl, (Or.inl ⟨rfl, zRuF_m ⟨⟨by omega, by omega, by omega⟩, by omega⟩ h_13 h_15 h_14 h_39 h_40 ((if_pos (by rcases hr1 with ⟨e9, b9⟩ | ⟨e9, b9⟩ <;> first | (exfalso; omega) | exact b9)).trans (Int32.add_zero i_never).symm)⟩), h_8, h_7, (fun m hm hx => by rw [h_39]; exact zMvH_b hm hx ⟨by omega, by omega⟩ ⟨by omega, by omega⟩ (by omega))⟩
      · have c_34n : ¬ j_gone_4.toInt ≤ i_longRun.toInt := fun q => c_34 ((fa_le _ _).mpr q)
        refine lv_aload_n hx hb dX12_runs0_45 rfl (lv_at hl 0 rfl) ?_
        refine z_get C G clX12 1 rfl 20 (by decide) m_fl_RX12_208 rfl dX12_runs0_46 ?_
        refine lv_goto (tgt := 56) hx hb dX12_runs0_49 (by decide) ?_
        refine z_put C G clX12 1 rfl 32 (by decide) m_fl_RX12_323 rfl rfl rfl (Nat.le_of_ble_eq_true rfl) dX12_runs0_56 (fun H locs G => ?_)
        have G : zS T A s.heap s [[(m_here, .inl (T.2 0, 7, .inl f_here))], [(mo, .inr (11, [.ref m_all, .ref m_has, .int i_size, .int i_next, .int i_where, .int i_token, .int i_number, .int i_word, .int i_wrong, .int i_farCrossing, .ref m_read, .int i_z0, .int i_crossings, .int i_inns, .ref m_posts, .ref m_shut, .ref m_here, .int i_steps, .int i_done, .int j_at_3, .int j_gone_4, .ref m_was, .ref m_came, .ref m_seenAt, .ref m_rowWorth, .ref m_farBy, .ref m_used, .int i_everywhere, .int i_again0, .int i_d0, .int (i_never + 0), .int i_firstCame, .int j_gone_4, .int i_moved, .int i_crowd, .int i_l0, .int i_fitMany, .int i_fitLeast, .int i_fitMost, .ref m_fitPost, .ref m_fitEnd, .ref m_keptPosts, .int i_x0]))], [(m_all, .inl (T.2 0, 3952, .inl f_all))], [(m_posts, .inl (T.2 0, 7, .inl g_posts_5))], [(m_shut, .inl (T.2 0, 7, .inl f_shut))], [(m_was, .inl (T.2 0, 7, .inl g_was_6))]] _ _ := G
        refine lv_aload_n hx hb dX12_runs0_59 rfl (lv_at hl 0 rfl) ?_
        refine lv_iload_n hx hb dX12_runs0_60 rfl (lv_at hl 1 rfl) ?_
        refine z_Vv (bc := [[(mo, .inr (11, [.ref m_all, .ref m_has, .int i_size, .int i_next, .int i_where, .int i_token, .int i_number, .int i_word, .int i_wrong, .int i_farCrossing, .ref m_read, .int i_z0, .int i_crossings, .int i_inns, .ref m_posts, .ref m_shut, .ref m_here, .int i_steps, .int i_done, .int j_at_3, .int j_gone_4, .ref m_was, .ref m_came, .ref m_seenAt, .ref m_rowWorth, .ref m_farBy, .ref m_used, .int i_everywhere, .int i_again0, .int i_d0, .int (i_never + 0), .int i_firstCame, .int j_gone_4, .int i_moved, .int i_crowd, .int i_l0, .int i_fitMany, .int i_fitLeast, .int i_fitMost, .ref m_fitPost, .ref m_fitEnd, .ref m_keptPosts, .int i_x0]))], [(m_here, .inl (T.2 0, 7, .inl f_here))]]) (br := [[(m_all, .inl (T.2 0, 3952, .inl f_all))], [(m_posts, .inl (T.2 0, 7, .inl g_posts_5))], [(m_shut, .inl (T.2 0, 7, .inl f_shut))], [(m_was, .inl (T.2 0, 7, .inl g_was_6))]]) (As := [.int c_]) (rest := []) C G (c_fm_goesFrom l T mo m_all m_has i_size i_next i_where i_token i_number i_word i_wrong i_farCrossing m_read i_z0 i_crossings i_inns m_posts m_shut m_here i_steps i_done j_at_3 j_gone_4 m_was m_came m_seenAt m_rowWorth m_farBy m_used i_everywhere i_again0 i_d0 (i_never + 0) i_firstCame j_gone_4 i_moved i_crowd i_l0 i_fitMany i_fitLeast i_fitMost m_fitPost m_fitEnd m_keptPosts i_x0 f_here c_ (by first | with_reducible assumption | with_reducible rfl | omega | assumption | rfl) (by first | with_reducible assumption | with_reducible rfl | omega | assumption | rfl) (by first | with_reducible assumption | with_reducible rfl | omega | assumption | rfl) (by first | with_reducible assumption | with_reducible rfl | omega | assumption | rfl)) (kV_RX12_317 C.2.2.2.2 (Nat.le_of_ble_eq_true rfl) (Nat.le_of_ble_eq_true rfl)) [1, 0] [2, 3, 4, 5] rfl rfl (ci := 11) (qc := (RX12, TX12, 43)) rfl rfl (List.mem_flatten.mpr ⟨_, List.mem_of_getElem? (i := 0) rfl, List.mem_cons_self⟩) rfl rfl hl.1 dX12_runs0_61 (Nat.le_of_ble_eq_true rfl) (Nat.le_of_ble_eq_true rfl) (fun b1 H locs hw G => ?_)
        obtain ⟨j_steps_42, j_moved_43, j_firstCame_44, g_here_45, rfl, h_46, h_47⟩ := hw
        have G : zS T A s.heap s [[(m_all, .inl (T.2 0, 3952, .inl f_all))], [(m_posts, .inl (T.2 0, 7, .inl g_posts_5))], [(m_shut, .inl (T.2 0, 7, .inl f_shut))], [(m_was, .inl (T.2 0, 7, .inl g_was_6))], [(mo, .inr (11, [.ref m_all, .ref m_has, .int i_size, .int i_next, .int i_where, .int i_token, .int i_number, .int i_word, .int i_wrong, .int i_farCrossing, .ref m_read, .int i_z0, .int i_crossings, .int i_inns, .ref m_posts, .ref m_shut, .ref m_here, .int j_steps_42, .int i_done, .int j_at_3, .int j_gone_4, .ref m_was, .ref m_came, .ref m_seenAt, .ref m_rowWorth, .ref m_farBy, .ref m_used, .int i_everywhere, .int i_again0, .int i_d0, .int (i_never + 0), .int j_firstCame_44, .int j_gone_4, .int j_moved_43, .int i_crowd, .int i_l0, .int i_fitMany, .int i_fitLeast, .int i_fitMost, .ref m_fitPost, .ref m_fitEnd, .ref m_keptPosts, .int i_x0]))], [(m_here, .inl (T.2 0, 7, .inl g_here_45))]] _ _ := G
        refine lv_iconst (v := 1) hx hb dX12_runs0_64 (by decide) ?_
        have G := G.sub (bs' := [[(mo, .inr (11, [.ref m_all, .ref m_has, .int i_size, .int i_next, .int i_where, .int i_token, .int i_number, .int i_word, .int i_wrong, .int i_farCrossing, .ref m_read, .int i_z0, .int i_crossings, .int i_inns, .ref m_posts, .ref m_shut, .ref m_here, .int j_steps_42, .int i_done, .int j_at_3, .int j_gone_4, .ref m_was, .ref m_came, .ref m_seenAt, .ref m_rowWorth, .ref m_farBy, .ref m_used, .int i_everywhere, .int i_again0, .int i_d0, .int (i_never + 0), .int j_firstCame_44, .int j_gone_4, .int j_moved_43, .int i_crowd, .int i_l0, .int i_fitMany, .int i_fitLeast, .int i_fitMost, .ref m_fitPost, .ref m_fitEnd, .ref m_keptPosts, .int i_x0]))], [(m_all, .inl (T.2 0, 3952, .inl f_all))], [(m_posts, .inl (T.2 0, 7, .inl g_posts_5))], [(m_shut, .inl (T.2 0, 7, .inl f_shut))], [(m_here, .inl (T.2 0, 7, .inl g_here_45))], [(m_was, .inl (T.2 0, 7, .inl g_was_6))]]) [4, 0, 1, 2, 5, 3] rfl
        exact z_zret C hr hlocks G (Nat.le_of_ble_eq_true rfl) (Nat.le_of_ble_eq_true rfl) dX12_runs0_65 rfl ⟨j_at_3, j_gone_4, j_steps_42, j_moved_43, j_firstCame_44, (i_never + 0), j_gone_4, g_posts_5, g_here_45, g_was_6, rfl, (Or.inl ⟨rfl, zRuF_m ⟨⟨by omega, by omega, by omega⟩, by omega⟩ h_13 h_15 h_14 h_46 h_47 ((if_pos (by rcases hr1 with ⟨e9, b9⟩ | ⟨e9, b9⟩ <;> first | (exfalso; omega) | exact b9)).trans (Int32.add_zero i_never).symm)⟩), h_8, h_7, (fun m hm hx => by rw [h_46]; exact zMvH_b hm hx ⟨by omega, by omega⟩ ⟨by omega, by omega⟩ (by omega))⟩
  · have c_2n : (f_here c_.toNatClampNeg).toInt = (0 : Int) := (fa_eq _ _).mp c_2
    refine lv_iconst (v := 0) hx hb dX12_runs0_9 (by decide) ?_
    exact z_zret C hr hlocks G (Nat.le_of_ble_eq_true rfl) (Nat.le_of_ble_eq_true rfl) dX12_runs0_10 rfl ⟨i_at, i_gone, i_steps, i_moved, i_firstCame, i_never, i_longRun, f_posts, f_here, f_was, rfl, (Or.inr ⟨rfl, by unfold zRuF; rw [if_neg (fun q8 => by have q7 := q8.2; have q7 : 1 ≤ (f_here c_.toNatClampNeg).toInt := q7; omega)], rfl, rfl, rfl, rfl⟩), hV, hP, (fun m hm hx => zHB_m hx (by omega))⟩
set_option maxHeartbeats 4000000 in
set_option maxRecDepth 100000 in
/-- c_fm_adds -/
theorem c_fm_adds (l : Launch) (T : zTy) (mo : Nat) (m_all : Nat) (m_has : Nat) (i_size : Int32) (i_next : Int32) (i_where : Int32) (i_token : Int32) (i_number : Int32) (i_word : Int32) (i_wrong : Int32) (i_farCrossing : Int32) (m_read : Nat) (i_z0 : Int32) (i_crossings : Int32) (i_inns : Int32) (m_posts : Nat) (m_shut : Nat) (m_here : Nat) (i_steps : Int32) (i_done : Int32) (i_at : Int32) (i_gone : Int32) (m_was : Nat) (m_came : Nat) (m_seenAt : Nat) (m_rowWorth : Nat) (m_farBy : Nat) (m_used : Nat) (i_everywhere : Int32) (i_again0 : Int32) (i_d0 : Int32) (i_never : Int32) (i_firstCame : Int32) (i_longRun : Int32) (i_moved : Int32) (i_crowd : Int32) (i_l0 : Int32) (i_fitMany : Int32) (i_fitLeast : Int32) (i_fitMost : Int32) (m_fitPost : Nat) (m_fitEnd : Nat) (m_keptPosts : Nat) (i_x0 : Int32) (f_here : Nat → Int32) (c_ : Int32) (hc0 : 0 ≤ c_.toInt) (hc6 : c_.toInt ≤ 6) (hcx : c_.toInt < i_crossings.toInt) (hH : zHB 100000 f_here) : zMi l T yX12_adds cX12_adds 2 (some .boolean) 1 0 0 [.ref mo, .int c_] [[(mo, .inr (11, [.ref m_all, .ref m_has, .int i_size, .int i_next, .int i_where, .int i_token, .int i_number, .int i_word, .int i_wrong, .int i_farCrossing, .ref m_read, .int i_z0, .int i_crossings, .int i_inns, .ref m_posts, .ref m_shut, .ref m_here, .int i_steps, .int i_done, .int i_at, .int i_gone, .ref m_was, .ref m_came, .ref m_seenAt, .ref m_rowWorth, .ref m_farBy, .ref m_used, .int i_everywhere, .int i_again0, .int i_d0, .int i_never, .int i_firstCame, .int i_longRun, .int i_moved, .int i_crowd, .int i_l0, .int i_fitMany, .int i_fitLeast, .int i_fitMost, .ref m_fitPost, .ref m_fitEnd, .ref m_keptPosts, .int i_x0]))], [(m_here, .inl (T.2 0, 7, .inl f_here))]] (fun (r : Int32) bs => ∃ (g_here : Nat → Int32), bs = [[(mo, .inr (11, [.ref m_all, .ref m_has, .int i_size, .int i_next, .int i_where, .int i_token, .int i_number, .int i_word, .int i_wrong, .int i_farCrossing, .ref m_read, .int i_z0, .int i_crossings, .int i_inns, .ref m_posts, .ref m_shut, .ref m_here, .int i_steps, .int i_done, .int i_at, .int i_gone, .ref m_was, .ref m_came, .ref m_seenAt, .ref m_rowWorth, .ref m_farBy, .ref m_used, .int i_everywhere, .int i_again0, .int i_d0, .int i_never, .int i_firstCame, .int i_longRun, .int i_moved, .int i_crowd, .int i_l0, .int i_fitMany, .int i_fitLeast, .int i_fitMost, .ref m_fitPost, .ref m_fitEnd, .ref m_keptPosts, .int i_x0]))], [(m_here, .inl (T.2 0, 7, .inl g_here))]] ∧ (∀ (P S : Nat → Int32) (st nv : Int32), r = 1 ∧ zAdF i_crossings c_ (P, S, f_here, st, nv) = some (P, S, g_here, st, nv) ∨ r = 0 ∧ zAdF i_crossings c_ (P, S, f_here, st, nv) = none ∧ g_here = f_here) ∧ (∀ m : Int, m ≤ 100000 → zHB m f_here → zHB (m + 1) g_here)) := by
  refine zMi_of (own := RX12) (by decide) rfl (Nat.le_of_ble_eq_true rfl) ?_
  intro p e s m args below meth c A ls C hr hlocks hnm hAe G hl
  have hx := C.1
  have hb := C.2.1
  have hl : lv_has ls 2 [(0, .ref mo), (1, .int c_)] := hl
  refine lv_aload_n hx hb dX12_adds_0 rfl (lv_at hl 0 rfl) ?_
  refine z_get C G clX12 0 rfl 16 (by decide) m_fl_RX12_26 rfl dX12_adds_1 ?_
  refine lv_iload_n hx hb dX12_adds_4 rfl (lv_at hl 1 rfl) ?_
  refine z_ild C G 1 rfl (vp_in_iff.mpr ⟨by omega, by omega⟩) dX12_adds_5 ?_
  refine lv_topi (fun v_1 ev_1 => ?_)
  subst ev_1
  refine lv_bipush (v := 99) hx hb dX12_adds_6 (by decide) ?_
  refine lv_icmp_lt (tgt := 13) hx hb dX12_adds_8 (by decide) (fun c_2 => ?_) (fun c_2 => ?_)
  · have c_2n : (f_here c_.toNatClampNeg).toInt < (99 : Int) := (fa_lt _ _).mp c_2
    refine lv_aload_n hx hb dX12_adds_13 rfl (lv_at hl 0 rfl) ?_
    refine z_get C G clX12 0 rfl 16 (by decide) m_fl_RX12_26 rfl dX12_adds_14 ?_
    refine lv_iload_n hx hb dX12_adds_17 rfl (lv_at hl 1 rfl) ?_
    refine lv_dup2_11 hx hb dX12_adds_18 rfl rfl ?_
    refine z_ild C G 1 rfl (vp_in_iff.mpr ⟨by omega, by omega⟩) dX12_adds_19 ?_
    refine lv_topi (fun v_3 ev_3 => ?_)
    subst ev_3
    refine lv_iconst (v := 1) hx hb dX12_adds_20 (by decide) ?_
    refine lv_iadd hx hb dX12_adds_21 ?_
    refine z_ist C G 1 rfl (vp_in_iff.mpr ⟨by omega, by omega⟩) dX12_adds_22 (fun H locs G => ?_)
    have G : zS T A s.heap s [[(mo, .inr (11, [.ref m_all, .ref m_has, .int i_size, .int i_next, .int i_where, .int i_token, .int i_number, .int i_word, .int i_wrong, .int i_farCrossing, .ref m_read, .int i_z0, .int i_crossings, .int i_inns, .ref m_posts, .ref m_shut, .ref m_here, .int i_steps, .int i_done, .int i_at, .int i_gone, .ref m_was, .ref m_came, .ref m_seenAt, .ref m_rowWorth, .ref m_farBy, .ref m_used, .int i_everywhere, .int i_again0, .int i_d0, .int i_never, .int i_firstCame, .int i_longRun, .int i_moved, .int i_crowd, .int i_l0, .int i_fitMany, .int i_fitLeast, .int i_fitMost, .ref m_fitPost, .ref m_fitEnd, .ref m_keptPosts, .int i_x0]))], [(m_here, .inl (T.2 0, 7, .inl (upd f_here c_.toNatClampNeg ((f_here c_.toNatClampNeg) + 1))))]] _ _ := G
    refine lv_iconst (v := 1) hx hb dX12_adds_23 (by decide) ?_
    exact z_zret C hr hlocks G (Nat.le_of_ble_eq_true rfl) (Nat.le_of_ble_eq_true rfl) dX12_adds_24 rfl ⟨(upd f_here c_.toNatClampNeg ((f_here c_.toNatClampNeg) + 1)), rfl, (fun P S st nv => Or.inl ⟨rfl, by unfold zAdF; rw [if_pos ⟨⟨by omega, by omega, by omega⟩, by assumption⟩]⟩), (fun m hm hx => zAdd_b hm hx (by have q9 := z_clI (x := c_) (by omega); omega))⟩
  · have c_2n : ¬ (f_here c_.toNatClampNeg).toInt < (99 : Int) := fun q => c_2 ((fa_lt _ _).mpr q)
    refine lv_iconst (v := 0) hx hb dX12_adds_11 (by decide) ?_
    exact z_zret C hr hlocks G (Nat.le_of_ble_eq_true rfl) (Nat.le_of_ble_eq_true rfl) dX12_adds_12 rfl ⟨f_here, rfl, (fun P S st nv => Or.inr ⟨rfl, by unfold zAdF; rw [if_neg (fun q8 => by have q7 := q8.2; have q7 : (f_here c_.toNatClampNeg).toInt < 99 := q7; omega)], rfl⟩), (fun m hm hx => zHB_m hx (by omega))⟩
set_option maxHeartbeats 4000000 in
set_option maxRecDepth 100000 in
/-- c_fm_shuts1 -/
theorem c_fm_shuts1 (l : Launch) (T : zTy) (mo : Nat) (m_all : Nat) (m_has : Nat) (i_size : Int32) (i_next : Int32) (i_where : Int32) (i_token : Int32) (i_number : Int32) (i_word : Int32) (i_wrong : Int32) (i_farCrossing : Int32) (m_read : Nat) (i_z0 : Int32) (i_crossings : Int32) (i_inns : Int32) (m_posts : Nat) (m_shut : Nat) (m_here : Nat) (i_steps : Int32) (i_done : Int32) (i_at : Int32) (i_gone : Int32) (m_was : Nat) (m_came : Nat) (m_seenAt : Nat) (m_rowWorth : Nat) (m_farBy : Nat) (m_used : Nat) (i_everywhere : Int32) (i_again0 : Int32) (i_d0 : Int32) (i_never : Int32) (i_firstCame : Int32) (i_longRun : Int32) (i_moved : Int32) (i_crowd : Int32) (i_l0 : Int32) (i_fitMany : Int32) (i_fitLeast : Int32) (i_fitMost : Int32) (m_fitPost : Nat) (m_fitEnd : Nat) (m_keptPosts : Nat) (i_x0 : Int32) (f_all : Nat → Int32) (f_shut : Nat → Int32) (c_ : Int32) (k_ : Int32) (hL : zML f_all i_z0 i_crossings) (hc0 : 0 ≤ c_.toInt) (hc6 : c_.toInt ≤ 6) (hcx : c_.toInt < i_crossings.toInt) (hk0 : 0 ≤ k_.toInt) (hk3 : k_.toInt ≤ 3) (hS5 : zS15 f_shut) : zMi l T yX12_shuts cX12_shuts 4 (some .boolean) 2 0 0 [.ref mo, .int c_, .int k_, .int 1] [[(mo, .inr (11, [.ref m_all, .ref m_has, .int i_size, .int i_next, .int i_where, .int i_token, .int i_number, .int i_word, .int i_wrong, .int i_farCrossing, .ref m_read, .int i_z0, .int i_crossings, .int i_inns, .ref m_posts, .ref m_shut, .ref m_here, .int i_steps, .int i_done, .int i_at, .int i_gone, .ref m_was, .ref m_came, .ref m_seenAt, .ref m_rowWorth, .ref m_farBy, .ref m_used, .int i_everywhere, .int i_again0, .int i_d0, .int i_never, .int i_firstCame, .int i_longRun, .int i_moved, .int i_crowd, .int i_l0, .int i_fitMany, .int i_fitLeast, .int i_fitMost, .ref m_fitPost, .ref m_fitEnd, .ref m_keptPosts, .int i_x0]))], [(m_all, .inl (T.2 0, 3952, .inl f_all))], [(m_shut, .inl (T.2 0, 7, .inl f_shut))]] (fun (r : Int32) bs => ∃ (g_shut : Nat → Int32), bs = [[(mo, .inr (11, [.ref m_all, .ref m_has, .int i_size, .int i_next, .int i_where, .int i_token, .int i_number, .int i_word, .int i_wrong, .int i_farCrossing, .ref m_read, .int i_z0, .int i_crossings, .int i_inns, .ref m_posts, .ref m_shut, .ref m_here, .int i_steps, .int i_done, .int i_at, .int i_gone, .ref m_was, .ref m_came, .ref m_seenAt, .ref m_rowWorth, .ref m_farBy, .ref m_used, .int i_everywhere, .int i_again0, .int i_d0, .int i_never, .int i_firstCame, .int i_longRun, .int i_moved, .int i_crowd, .int i_l0, .int i_fitMany, .int i_fitLeast, .int i_fitMost, .ref m_fitPost, .ref m_fitEnd, .ref m_keptPosts, .int i_x0]))], [(m_all, .inl (T.2 0, 3952, .inl f_all))], [(m_shut, .inl (T.2 0, 7, .inl g_shut))]] ∧ (∀ (P H : Nat → Int32) (st nv : Int32), r = 1 ∧ zShF i_crossings (zRo f_all i_z0) c_ k_ (P, f_shut, H, st, nv) = some (P, g_shut, H, st, nv) ∨ r = 0 ∧ zShF i_crossings (zRo f_all i_z0) c_ k_ (P, f_shut, H, st, nv) = none ∧ g_shut = f_shut) ∧ zS15 g_shut) := by
  refine zMi_of (own := RX12) (by decide) rfl (Nat.le_of_ble_eq_true rfl) ?_
  intro p e s m args below meth c A ls C hr hlocks hnm hAe G hl
  have hx := C.1
  have hb := C.2.1
  have hl : lv_has ls 4 [(0, .ref mo), (1, .int c_), (2, .int k_), (3, .int 1)] := hl
  have hz := hL.1
  have hcr := hL.cr
  refine lv_iload_n hx hb dX12_shuts_0 rfl (lv_at hl 2 rfl) ?_
  refine lv_aload_n hx hb dX12_shuts_1 rfl (lv_at hl 0 rfl) ?_
  refine lv_iload_n hx hb dX12_shuts_2 rfl (lv_at hl 1 rfl) ?_
  refine z_Vi (bc := [[(mo, .inr (11, [.ref m_all, .ref m_has, .int i_size, .int i_next, .int i_where, .int i_token, .int i_number, .int i_word, .int i_wrong, .int i_farCrossing, .ref m_read, .int i_z0, .int i_crossings, .int i_inns, .ref m_posts, .ref m_shut, .ref m_here, .int i_steps, .int i_done, .int i_at, .int i_gone, .ref m_was, .ref m_came, .ref m_seenAt, .ref m_rowWorth, .ref m_farBy, .ref m_used, .int i_everywhere, .int i_again0, .int i_d0, .int i_never, .int i_firstCame, .int i_longRun, .int i_moved, .int i_crowd, .int i_l0, .int i_fitMany, .int i_fitLeast, .int i_fitMost, .ref m_fitPost, .ref m_fitEnd, .ref m_keptPosts, .int i_x0]))], [(m_all, .inl (T.2 0, 3952, .inl f_all))]]) (br := [[(m_shut, .inl (T.2 0, 7, .inl f_shut))]]) (As := [.int c_]) (rest := [.int k_]) C G (c_m_roadsOf l T mo m_all m_has i_size i_next i_where i_token i_number i_word i_wrong i_farCrossing m_read i_z0 i_crossings i_inns m_posts m_shut m_here i_steps i_done i_at i_gone m_was m_came m_seenAt m_rowWorth m_farBy m_used i_everywhere i_again0 i_d0 i_never i_firstCame i_longRun i_moved i_crowd i_l0 i_fitMany i_fitLeast i_fitMost m_fitPost m_fitEnd m_keptPosts i_x0 f_all c_ (by first | with_reducible assumption | with_reducible rfl | omega | assumption | rfl) (by first | with_reducible assumption | with_reducible rfl | omega | assumption | rfl) (by first | with_reducible assumption | with_reducible rfl | omega | assumption | rfl)) (kV_RX12_181 C.2.2.2.2 (Nat.le_of_ble_eq_true rfl) (Nat.le_of_ble_eq_true rfl)) [0, 1] [2] rfl rfl (ci := 11) (qc := (RX12, TX12, 43)) rfl rfl (List.mem_flatten.mpr ⟨_, List.mem_of_getElem? (i := 0) rfl, List.mem_cons_self⟩) rfl rfl hl.1 dX12_shuts_3 (Nat.le_of_ble_eq_true rfl) (Nat.le_of_ble_eq_true rfl) (fun r_4 b1 H locs hw G => ?_)
  obtain ⟨rfl, h_1, h_2, h_3⟩ := hw
  have G : zS T A s.heap s [[(m_shut, .inl (T.2 0, 7, .inl f_shut))], [(mo, .inr (11, [.ref m_all, .ref m_has, .int i_size, .int i_next, .int i_where, .int i_token, .int i_number, .int i_word, .int i_wrong, .int i_farCrossing, .ref m_read, .int i_z0, .int i_crossings, .int i_inns, .ref m_posts, .ref m_shut, .ref m_here, .int i_steps, .int i_done, .int i_at, .int i_gone, .ref m_was, .ref m_came, .ref m_seenAt, .ref m_rowWorth, .ref m_farBy, .ref m_used, .int i_everywhere, .int i_again0, .int i_d0, .int i_never, .int i_firstCame, .int i_longRun, .int i_moved, .int i_crowd, .int i_l0, .int i_fitMany, .int i_fitLeast, .int i_fitMost, .ref m_fitPost, .ref m_fitEnd, .ref m_keptPosts, .int i_x0]))], [(m_all, .inl (T.2 0, 3952, .inl f_all))]] _ _ := G
  subst h_1
  refine lv_icmp_ge (tgt := 32) hx hb dX12_shuts_6 (by decide) (fun c_5 => ?_) (fun c_5 => ?_)
  · have c_5n : (zRd f_all i_z0 c_).toInt ≤ k_.toInt := (fa_le _ _).mp c_5
    refine lv_iconst (v := 0) hx hb dX12_shuts_32 (by decide) ?_
    have G := G.sub (bs' := [[(mo, .inr (11, [.ref m_all, .ref m_has, .int i_size, .int i_next, .int i_where, .int i_token, .int i_number, .int i_word, .int i_wrong, .int i_farCrossing, .ref m_read, .int i_z0, .int i_crossings, .int i_inns, .ref m_posts, .ref m_shut, .ref m_here, .int i_steps, .int i_done, .int i_at, .int i_gone, .ref m_was, .ref m_came, .ref m_seenAt, .ref m_rowWorth, .ref m_farBy, .ref m_used, .int i_everywhere, .int i_again0, .int i_d0, .int i_never, .int i_firstCame, .int i_longRun, .int i_moved, .int i_crowd, .int i_l0, .int i_fitMany, .int i_fitLeast, .int i_fitMost, .ref m_fitPost, .ref m_fitEnd, .ref m_keptPosts, .int i_x0]))], [(m_all, .inl (T.2 0, 3952, .inl f_all))], [(m_shut, .inl (T.2 0, 7, .inl f_shut))]]) [1, 2, 0] rfl
    exact z_zret C hr hlocks G (Nat.le_of_ble_eq_true rfl) (Nat.le_of_ble_eq_true rfl) dX12_shuts_33 rfl ⟨f_shut, rfl, (fun P H st nv => Or.inr ⟨rfl, by unfold zShF; rw [if_neg (fun q8 => by obtain ⟨⟨a1, a2, a3⟩, ⟨b1, b2, b3⟩, b4⟩ := q8; first | (have b2 : k_.toInt < (zRd f_all i_z0 c_).toInt := b2; omega) | exact absurd b4 (zBit_o (by assumption)))], rfl⟩), hS5⟩
  · have c_5n : ¬ (zRd f_all i_z0 c_).toInt ≤ k_.toInt := fun q => c_5 ((fa_le _ _).mpr q)
    refine lv_aload_n hx hb dX12_shuts_9 rfl (lv_at hl 0 rfl) ?_
    refine z_get C G clX12 1 rfl 15 (by decide) m_fl_RX12_23 rfl dX12_shuts_10 ?_
    refine lv_iload_n hx hb dX12_shuts_13 rfl (lv_at hl 1 rfl) ?_
    refine z_ild C G 0 rfl (vp_in_iff.mpr ⟨by omega, by omega⟩) dX12_shuts_14 ?_
    refine lv_topi (fun v_6 ev_6 => ?_)
    subst ev_6
    refine lv_iload_n hx hb dX12_shuts_15 rfl (lv_at hl 2 rfl) ?_
    refine lv_ishr hx hb dX12_shuts_16 ?_
    refine lv_iconst (v := 1) hx hb dX12_shuts_17 (by decide) ?_
    refine lv_iand hx hb dX12_shuts_18 ?_
    refine lv_iconst (v := 1) hx hb dX12_shuts_19 (by decide) ?_
    refine lv_icmp_ne (tgt := 27) hx hb dX12_shuts_20 (by decide) (fun c_7 => ?_) (fun c_7 => ?_)
    · have c_7n : ¬ (((f_shut c_.toNatClampNeg) >>> (k_ &&& 31)) &&& 1).toInt = (1 : Int) := fun q => c_7 ((fa_eq _ _).mpr q)
      refine lv_iconst (v := 0) hx hb dX12_shuts_27 (by decide) ?_
      refine lv_iload_n hx hb dX12_shuts_28 rfl (lv_at hl 3 rfl) ?_
      refine lv_icmp_ne (tgt := 34) hx hb dX12_shuts_29 (by decide) (fun _ => ?_) (fun q => absurd q (by decide))
      refine lv_aload_n hx hb dX12_shuts_34 rfl (lv_at hl 0 rfl) ?_
      refine z_get C G clX12 1 rfl 15 (by decide) m_fl_RX12_23 rfl dX12_shuts_35 ?_
      refine lv_iload_n hx hb dX12_shuts_38 rfl (lv_at hl 1 rfl) ?_
      refine lv_dup2_11 hx hb dX12_shuts_39 rfl rfl ?_
      refine z_ild C G 0 rfl (vp_in_iff.mpr ⟨by omega, by omega⟩) dX12_shuts_40 ?_
      refine lv_topi (fun v_8 ev_8 => ?_)
      subst ev_8
      refine lv_iconst (v := 1) hx hb dX12_shuts_41 (by decide) ?_
      refine lv_iload_n hx hb dX12_shuts_42 rfl (lv_at hl 2 rfl) ?_
      refine lv_ishl hx hb dX12_shuts_43 ?_
      refine lv_ixor hx hb dX12_shuts_44 ?_
      refine z_ist C G 0 rfl (vp_in_iff.mpr ⟨by omega, by omega⟩) dX12_shuts_45 (fun H locs G => ?_)
      have G : zS T A s.heap s [[(m_shut, .inl (T.2 0, 7, .inl (upd f_shut c_.toNatClampNeg ((f_shut c_.toNatClampNeg) ^^^ (1 <<< (k_ &&& 31))))))], [(mo, .inr (11, [.ref m_all, .ref m_has, .int i_size, .int i_next, .int i_where, .int i_token, .int i_number, .int i_word, .int i_wrong, .int i_farCrossing, .ref m_read, .int i_z0, .int i_crossings, .int i_inns, .ref m_posts, .ref m_shut, .ref m_here, .int i_steps, .int i_done, .int i_at, .int i_gone, .ref m_was, .ref m_came, .ref m_seenAt, .ref m_rowWorth, .ref m_farBy, .ref m_used, .int i_everywhere, .int i_again0, .int i_d0, .int i_never, .int i_firstCame, .int i_longRun, .int i_moved, .int i_crowd, .int i_l0, .int i_fitMany, .int i_fitLeast, .int i_fitMost, .ref m_fitPost, .ref m_fitEnd, .ref m_keptPosts, .int i_x0]))], [(m_all, .inl (T.2 0, 3952, .inl f_all))]] _ _ := G
      refine lv_iconst (v := 1) hx hb dX12_shuts_46 (by decide) ?_
      have G := G.sub (bs' := [[(mo, .inr (11, [.ref m_all, .ref m_has, .int i_size, .int i_next, .int i_where, .int i_token, .int i_number, .int i_word, .int i_wrong, .int i_farCrossing, .ref m_read, .int i_z0, .int i_crossings, .int i_inns, .ref m_posts, .ref m_shut, .ref m_here, .int i_steps, .int i_done, .int i_at, .int i_gone, .ref m_was, .ref m_came, .ref m_seenAt, .ref m_rowWorth, .ref m_farBy, .ref m_used, .int i_everywhere, .int i_again0, .int i_d0, .int i_never, .int i_firstCame, .int i_longRun, .int i_moved, .int i_crowd, .int i_l0, .int i_fitMany, .int i_fitLeast, .int i_fitMost, .ref m_fitPost, .ref m_fitEnd, .ref m_keptPosts, .int i_x0]))], [(m_all, .inl (T.2 0, 3952, .inl f_all))], [(m_shut, .inl (T.2 0, 7, .inl (upd f_shut c_.toNatClampNeg ((f_shut c_.toNatClampNeg) ^^^ (1 <<< (k_ &&& 31))))))]]) [1, 2, 0] rfl
      exact z_zret C hr hlocks G (Nat.le_of_ble_eq_true rfl) (Nat.le_of_ble_eq_true rfl) dX12_shuts_47 rfl ⟨(upd f_shut c_.toNatClampNeg ((f_shut c_.toNatClampNeg) ^^^ (1 <<< (k_ &&& 31)))), rfl, (fun P H st nv => Or.inl ⟨rfl, by unfold zShF; rw [if_pos ⟨⟨by omega, by omega, by omega⟩, ⟨by omega, by show k_.toInt < (zRd f_all i_z0 c_).toInt; omega, by omega⟩, zBit_n (by assumption)⟩, ((zSx (hS5 c_.toNatClampNeg (by have q9 := z_clI (x := c_) (by omega); omega)) ⟨hk0, hk3⟩).1 (zBit_n (by assumption))).1]⟩), (zS15_u hS5 (by rw [((zSx (hS5 c_.toNatClampNeg (by have q9 := z_clI (x := c_) (by omega); omega)) ⟨hk0, hk3⟩).1 (zBit_n (by assumption))).1]; exact ((zSx (hS5 c_.toNatClampNeg (by have q9 := z_clI (x := c_) (by omega); omega)) ⟨hk0, hk3⟩).1 (zBit_n (by assumption))).2))⟩
    · have c_7n : (((f_shut c_.toNatClampNeg) >>> (k_ &&& 31)) &&& 1).toInt = (1 : Int) := (fa_eq _ _).mp c_7
      refine lv_iconst (v := 1) hx hb dX12_shuts_23 (by decide) ?_
      refine lv_goto (tgt := 28) hx hb dX12_shuts_24 (by decide) ?_
      refine lv_iload_n hx hb dX12_shuts_28 rfl (lv_at hl 3 rfl) ?_
      refine lv_icmp_ne (tgt := 34) hx hb dX12_shuts_29 (by decide) (fun q => absurd (by decide) q) (fun _ => ?_)
      refine lv_iconst (v := 0) hx hb dX12_shuts_32 (by decide) ?_
      have G := G.sub (bs' := [[(mo, .inr (11, [.ref m_all, .ref m_has, .int i_size, .int i_next, .int i_where, .int i_token, .int i_number, .int i_word, .int i_wrong, .int i_farCrossing, .ref m_read, .int i_z0, .int i_crossings, .int i_inns, .ref m_posts, .ref m_shut, .ref m_here, .int i_steps, .int i_done, .int i_at, .int i_gone, .ref m_was, .ref m_came, .ref m_seenAt, .ref m_rowWorth, .ref m_farBy, .ref m_used, .int i_everywhere, .int i_again0, .int i_d0, .int i_never, .int i_firstCame, .int i_longRun, .int i_moved, .int i_crowd, .int i_l0, .int i_fitMany, .int i_fitLeast, .int i_fitMost, .ref m_fitPost, .ref m_fitEnd, .ref m_keptPosts, .int i_x0]))], [(m_all, .inl (T.2 0, 3952, .inl f_all))], [(m_shut, .inl (T.2 0, 7, .inl f_shut))]]) [1, 2, 0] rfl
      exact z_zret C hr hlocks G (Nat.le_of_ble_eq_true rfl) (Nat.le_of_ble_eq_true rfl) dX12_shuts_33 rfl ⟨f_shut, rfl, (fun P H st nv => Or.inr ⟨rfl, by unfold zShF; rw [if_neg (fun q8 => by obtain ⟨⟨a1, a2, a3⟩, ⟨b1, b2, b3⟩, b4⟩ := q8; first | (have b2 : k_.toInt < (zRd f_all i_z0 c_).toInt := b2; omega) | exact absurd b4 (zBit_o (by assumption)))], rfl⟩), hS5⟩
set_option maxHeartbeats 4000000 in
set_option maxRecDepth 100000 in
/-- c_fm_shuts0 -/
theorem c_fm_shuts0 (l : Launch) (T : zTy) (mo : Nat) (m_all : Nat) (m_has : Nat) (i_size : Int32) (i_next : Int32) (i_where : Int32) (i_token : Int32) (i_number : Int32) (i_word : Int32) (i_wrong : Int32) (i_farCrossing : Int32) (m_read : Nat) (i_z0 : Int32) (i_crossings : Int32) (i_inns : Int32) (m_posts : Nat) (m_shut : Nat) (m_here : Nat) (i_steps : Int32) (i_done : Int32) (i_at : Int32) (i_gone : Int32) (m_was : Nat) (m_came : Nat) (m_seenAt : Nat) (m_rowWorth : Nat) (m_farBy : Nat) (m_used : Nat) (i_everywhere : Int32) (i_again0 : Int32) (i_d0 : Int32) (i_never : Int32) (i_firstCame : Int32) (i_longRun : Int32) (i_moved : Int32) (i_crowd : Int32) (i_l0 : Int32) (i_fitMany : Int32) (i_fitLeast : Int32) (i_fitMost : Int32) (m_fitPost : Nat) (m_fitEnd : Nat) (m_keptPosts : Nat) (i_x0 : Int32) (f_all : Nat → Int32) (f_shut : Nat → Int32) (c_ : Int32) (k_ : Int32) (hL : zML f_all i_z0 i_crossings) (hc0 : 0 ≤ c_.toInt) (hc6 : c_.toInt ≤ 6) (hcx : c_.toInt < i_crossings.toInt) (hk0 : 0 ≤ k_.toInt) (hk3 : k_.toInt ≤ 3) (hS5 : zS15 f_shut) : zMi l T yX12_shuts cX12_shuts 4 (some .boolean) 2 0 0 [.ref mo, .int c_, .int k_, .int 0] [[(mo, .inr (11, [.ref m_all, .ref m_has, .int i_size, .int i_next, .int i_where, .int i_token, .int i_number, .int i_word, .int i_wrong, .int i_farCrossing, .ref m_read, .int i_z0, .int i_crossings, .int i_inns, .ref m_posts, .ref m_shut, .ref m_here, .int i_steps, .int i_done, .int i_at, .int i_gone, .ref m_was, .ref m_came, .ref m_seenAt, .ref m_rowWorth, .ref m_farBy, .ref m_used, .int i_everywhere, .int i_again0, .int i_d0, .int i_never, .int i_firstCame, .int i_longRun, .int i_moved, .int i_crowd, .int i_l0, .int i_fitMany, .int i_fitLeast, .int i_fitMost, .ref m_fitPost, .ref m_fitEnd, .ref m_keptPosts, .int i_x0]))], [(m_all, .inl (T.2 0, 3952, .inl f_all))], [(m_shut, .inl (T.2 0, 7, .inl f_shut))]] (fun (r : Int32) bs => ∃ (g_shut : Nat → Int32), bs = [[(mo, .inr (11, [.ref m_all, .ref m_has, .int i_size, .int i_next, .int i_where, .int i_token, .int i_number, .int i_word, .int i_wrong, .int i_farCrossing, .ref m_read, .int i_z0, .int i_crossings, .int i_inns, .ref m_posts, .ref m_shut, .ref m_here, .int i_steps, .int i_done, .int i_at, .int i_gone, .ref m_was, .ref m_came, .ref m_seenAt, .ref m_rowWorth, .ref m_farBy, .ref m_used, .int i_everywhere, .int i_again0, .int i_d0, .int i_never, .int i_firstCame, .int i_longRun, .int i_moved, .int i_crowd, .int i_l0, .int i_fitMany, .int i_fitLeast, .int i_fitMost, .ref m_fitPost, .ref m_fitEnd, .ref m_keptPosts, .int i_x0]))], [(m_all, .inl (T.2 0, 3952, .inl f_all))], [(m_shut, .inl (T.2 0, 7, .inl g_shut))]] ∧ (∀ (P H : Nat → Int32) (st nv : Int32), r = 1 ∧ zOpF i_crossings (zRo f_all i_z0) c_ k_ (P, f_shut, H, st, nv) = some (P, g_shut, H, st, nv) ∨ r = 0 ∧ zOpF i_crossings (zRo f_all i_z0) c_ k_ (P, f_shut, H, st, nv) = none ∧ g_shut = f_shut) ∧ zS15 g_shut) := by
  refine zMi_of (own := RX12) (by decide) rfl (Nat.le_of_ble_eq_true rfl) ?_
  intro p e s m args below meth c A ls C hr hlocks hnm hAe G hl
  have hx := C.1
  have hb := C.2.1
  have hl : lv_has ls 4 [(0, .ref mo), (1, .int c_), (2, .int k_), (3, .int 0)] := hl
  have hz := hL.1
  have hcr := hL.cr
  refine lv_iload_n hx hb dX12_shuts_0 rfl (lv_at hl 2 rfl) ?_
  refine lv_aload_n hx hb dX12_shuts_1 rfl (lv_at hl 0 rfl) ?_
  refine lv_iload_n hx hb dX12_shuts_2 rfl (lv_at hl 1 rfl) ?_
  refine z_Vi (bc := [[(mo, .inr (11, [.ref m_all, .ref m_has, .int i_size, .int i_next, .int i_where, .int i_token, .int i_number, .int i_word, .int i_wrong, .int i_farCrossing, .ref m_read, .int i_z0, .int i_crossings, .int i_inns, .ref m_posts, .ref m_shut, .ref m_here, .int i_steps, .int i_done, .int i_at, .int i_gone, .ref m_was, .ref m_came, .ref m_seenAt, .ref m_rowWorth, .ref m_farBy, .ref m_used, .int i_everywhere, .int i_again0, .int i_d0, .int i_never, .int i_firstCame, .int i_longRun, .int i_moved, .int i_crowd, .int i_l0, .int i_fitMany, .int i_fitLeast, .int i_fitMost, .ref m_fitPost, .ref m_fitEnd, .ref m_keptPosts, .int i_x0]))], [(m_all, .inl (T.2 0, 3952, .inl f_all))]]) (br := [[(m_shut, .inl (T.2 0, 7, .inl f_shut))]]) (As := [.int c_]) (rest := [.int k_]) C G (c_m_roadsOf l T mo m_all m_has i_size i_next i_where i_token i_number i_word i_wrong i_farCrossing m_read i_z0 i_crossings i_inns m_posts m_shut m_here i_steps i_done i_at i_gone m_was m_came m_seenAt m_rowWorth m_farBy m_used i_everywhere i_again0 i_d0 i_never i_firstCame i_longRun i_moved i_crowd i_l0 i_fitMany i_fitLeast i_fitMost m_fitPost m_fitEnd m_keptPosts i_x0 f_all c_ (by first | with_reducible assumption | with_reducible rfl | omega | assumption | rfl) (by first | with_reducible assumption | with_reducible rfl | omega | assumption | rfl) (by first | with_reducible assumption | with_reducible rfl | omega | assumption | rfl)) (kV_RX12_181 C.2.2.2.2 (Nat.le_of_ble_eq_true rfl) (Nat.le_of_ble_eq_true rfl)) [0, 1] [2] rfl rfl (ci := 11) (qc := (RX12, TX12, 43)) rfl rfl (List.mem_flatten.mpr ⟨_, List.mem_of_getElem? (i := 0) rfl, List.mem_cons_self⟩) rfl rfl hl.1 dX12_shuts_3 (Nat.le_of_ble_eq_true rfl) (Nat.le_of_ble_eq_true rfl) (fun r_4 b1 H locs hw G => ?_)
  obtain ⟨rfl, h_1, h_2, h_3⟩ := hw
  have G : zS T A s.heap s [[(m_shut, .inl (T.2 0, 7, .inl f_shut))], [(mo, .inr (11, [.ref m_all, .ref m_has, .int i_size, .int i_next, .int i_where, .int i_token, .int i_number, .int i_word, .int i_wrong, .int i_farCrossing, .ref m_read, .int i_z0, .int i_crossings, .int i_inns, .ref m_posts, .ref m_shut, .ref m_here, .int i_steps, .int i_done, .int i_at, .int i_gone, .ref m_was, .ref m_came, .ref m_seenAt, .ref m_rowWorth, .ref m_farBy, .ref m_used, .int i_everywhere, .int i_again0, .int i_d0, .int i_never, .int i_firstCame, .int i_longRun, .int i_moved, .int i_crowd, .int i_l0, .int i_fitMany, .int i_fitLeast, .int i_fitMost, .ref m_fitPost, .ref m_fitEnd, .ref m_keptPosts, .int i_x0]))], [(m_all, .inl (T.2 0, 3952, .inl f_all))]] _ _ := G
  subst h_1
  refine lv_icmp_ge (tgt := 32) hx hb dX12_shuts_6 (by decide) (fun c_5 => ?_) (fun c_5 => ?_)
  · have c_5n : (zRd f_all i_z0 c_).toInt ≤ k_.toInt := (fa_le _ _).mp c_5
    refine lv_iconst (v := 0) hx hb dX12_shuts_32 (by decide) ?_
    have G := G.sub (bs' := [[(mo, .inr (11, [.ref m_all, .ref m_has, .int i_size, .int i_next, .int i_where, .int i_token, .int i_number, .int i_word, .int i_wrong, .int i_farCrossing, .ref m_read, .int i_z0, .int i_crossings, .int i_inns, .ref m_posts, .ref m_shut, .ref m_here, .int i_steps, .int i_done, .int i_at, .int i_gone, .ref m_was, .ref m_came, .ref m_seenAt, .ref m_rowWorth, .ref m_farBy, .ref m_used, .int i_everywhere, .int i_again0, .int i_d0, .int i_never, .int i_firstCame, .int i_longRun, .int i_moved, .int i_crowd, .int i_l0, .int i_fitMany, .int i_fitLeast, .int i_fitMost, .ref m_fitPost, .ref m_fitEnd, .ref m_keptPosts, .int i_x0]))], [(m_all, .inl (T.2 0, 3952, .inl f_all))], [(m_shut, .inl (T.2 0, 7, .inl f_shut))]]) [1, 2, 0] rfl
    exact z_zret C hr hlocks G (Nat.le_of_ble_eq_true rfl) (Nat.le_of_ble_eq_true rfl) dX12_shuts_33 rfl ⟨f_shut, rfl, (fun P H st nv => Or.inr ⟨rfl, by unfold zOpF; rw [if_neg (fun q8 => by obtain ⟨⟨a1, a2, a3⟩, ⟨b1, b2, b3⟩, b4⟩ := q8; first | (have b2 : k_.toInt < (zRd f_all i_z0 c_).toInt := b2; omega) | exact absurd b4 (fun q7 => q7 (zBit_n (by assumption))))], rfl⟩), hS5⟩
  · have c_5n : ¬ (zRd f_all i_z0 c_).toInt ≤ k_.toInt := fun q => c_5 ((fa_le _ _).mpr q)
    refine lv_aload_n hx hb dX12_shuts_9 rfl (lv_at hl 0 rfl) ?_
    refine z_get C G clX12 1 rfl 15 (by decide) m_fl_RX12_23 rfl dX12_shuts_10 ?_
    refine lv_iload_n hx hb dX12_shuts_13 rfl (lv_at hl 1 rfl) ?_
    refine z_ild C G 0 rfl (vp_in_iff.mpr ⟨by omega, by omega⟩) dX12_shuts_14 ?_
    refine lv_topi (fun v_6 ev_6 => ?_)
    subst ev_6
    refine lv_iload_n hx hb dX12_shuts_15 rfl (lv_at hl 2 rfl) ?_
    refine lv_ishr hx hb dX12_shuts_16 ?_
    refine lv_iconst (v := 1) hx hb dX12_shuts_17 (by decide) ?_
    refine lv_iand hx hb dX12_shuts_18 ?_
    refine lv_iconst (v := 1) hx hb dX12_shuts_19 (by decide) ?_
    refine lv_icmp_ne (tgt := 27) hx hb dX12_shuts_20 (by decide) (fun c_7 => ?_) (fun c_7 => ?_)
    · have c_7n : ¬ (((f_shut c_.toNatClampNeg) >>> (k_ &&& 31)) &&& 1).toInt = (1 : Int) := fun q => c_7 ((fa_eq _ _).mpr q)
      refine lv_iconst (v := 0) hx hb dX12_shuts_27 (by decide) ?_
      refine lv_iload_n hx hb dX12_shuts_28 rfl (lv_at hl 3 rfl) ?_
      refine lv_icmp_ne (tgt := 34) hx hb dX12_shuts_29 (by decide) (fun q => absurd (by decide) q) (fun _ => ?_)
      refine lv_iconst (v := 0) hx hb dX12_shuts_32 (by decide) ?_
      have G := G.sub (bs' := [[(mo, .inr (11, [.ref m_all, .ref m_has, .int i_size, .int i_next, .int i_where, .int i_token, .int i_number, .int i_word, .int i_wrong, .int i_farCrossing, .ref m_read, .int i_z0, .int i_crossings, .int i_inns, .ref m_posts, .ref m_shut, .ref m_here, .int i_steps, .int i_done, .int i_at, .int i_gone, .ref m_was, .ref m_came, .ref m_seenAt, .ref m_rowWorth, .ref m_farBy, .ref m_used, .int i_everywhere, .int i_again0, .int i_d0, .int i_never, .int i_firstCame, .int i_longRun, .int i_moved, .int i_crowd, .int i_l0, .int i_fitMany, .int i_fitLeast, .int i_fitMost, .ref m_fitPost, .ref m_fitEnd, .ref m_keptPosts, .int i_x0]))], [(m_all, .inl (T.2 0, 3952, .inl f_all))], [(m_shut, .inl (T.2 0, 7, .inl f_shut))]]) [1, 2, 0] rfl
      exact z_zret C hr hlocks G (Nat.le_of_ble_eq_true rfl) (Nat.le_of_ble_eq_true rfl) dX12_shuts_33 rfl ⟨f_shut, rfl, (fun P H st nv => Or.inr ⟨rfl, by unfold zOpF; rw [if_neg (fun q8 => by obtain ⟨⟨a1, a2, a3⟩, ⟨b1, b2, b3⟩, b4⟩ := q8; first | (have b2 : k_.toInt < (zRd f_all i_z0 c_).toInt := b2; omega) | exact absurd b4 (fun q7 => q7 (zBit_n (by assumption))))], rfl⟩), hS5⟩
    · have c_7n : (((f_shut c_.toNatClampNeg) >>> (k_ &&& 31)) &&& 1).toInt = (1 : Int) := (fa_eq _ _).mp c_7
      refine lv_iconst (v := 1) hx hb dX12_shuts_23 (by decide) ?_
      refine lv_goto (tgt := 28) hx hb dX12_shuts_24 (by decide) ?_
      refine lv_iload_n hx hb dX12_shuts_28 rfl (lv_at hl 3 rfl) ?_
      refine lv_icmp_ne (tgt := 34) hx hb dX12_shuts_29 (by decide) (fun _ => ?_) (fun q => absurd q (by decide))
      refine lv_aload_n hx hb dX12_shuts_34 rfl (lv_at hl 0 rfl) ?_
      refine z_get C G clX12 1 rfl 15 (by decide) m_fl_RX12_23 rfl dX12_shuts_35 ?_
      refine lv_iload_n hx hb dX12_shuts_38 rfl (lv_at hl 1 rfl) ?_
      refine lv_dup2_11 hx hb dX12_shuts_39 rfl rfl ?_
      refine z_ild C G 0 rfl (vp_in_iff.mpr ⟨by omega, by omega⟩) dX12_shuts_40 ?_
      refine lv_topi (fun v_8 ev_8 => ?_)
      subst ev_8
      refine lv_iconst (v := 1) hx hb dX12_shuts_41 (by decide) ?_
      refine lv_iload_n hx hb dX12_shuts_42 rfl (lv_at hl 2 rfl) ?_
      refine lv_ishl hx hb dX12_shuts_43 ?_
      refine lv_ixor hx hb dX12_shuts_44 ?_
      refine z_ist C G 0 rfl (vp_in_iff.mpr ⟨by omega, by omega⟩) dX12_shuts_45 (fun H locs G => ?_)
      have G : zS T A s.heap s [[(m_shut, .inl (T.2 0, 7, .inl (upd f_shut c_.toNatClampNeg ((f_shut c_.toNatClampNeg) ^^^ (1 <<< (k_ &&& 31))))))], [(mo, .inr (11, [.ref m_all, .ref m_has, .int i_size, .int i_next, .int i_where, .int i_token, .int i_number, .int i_word, .int i_wrong, .int i_farCrossing, .ref m_read, .int i_z0, .int i_crossings, .int i_inns, .ref m_posts, .ref m_shut, .ref m_here, .int i_steps, .int i_done, .int i_at, .int i_gone, .ref m_was, .ref m_came, .ref m_seenAt, .ref m_rowWorth, .ref m_farBy, .ref m_used, .int i_everywhere, .int i_again0, .int i_d0, .int i_never, .int i_firstCame, .int i_longRun, .int i_moved, .int i_crowd, .int i_l0, .int i_fitMany, .int i_fitLeast, .int i_fitMost, .ref m_fitPost, .ref m_fitEnd, .ref m_keptPosts, .int i_x0]))], [(m_all, .inl (T.2 0, 3952, .inl f_all))]] _ _ := G
      refine lv_iconst (v := 1) hx hb dX12_shuts_46 (by decide) ?_
      have G := G.sub (bs' := [[(mo, .inr (11, [.ref m_all, .ref m_has, .int i_size, .int i_next, .int i_where, .int i_token, .int i_number, .int i_word, .int i_wrong, .int i_farCrossing, .ref m_read, .int i_z0, .int i_crossings, .int i_inns, .ref m_posts, .ref m_shut, .ref m_here, .int i_steps, .int i_done, .int i_at, .int i_gone, .ref m_was, .ref m_came, .ref m_seenAt, .ref m_rowWorth, .ref m_farBy, .ref m_used, .int i_everywhere, .int i_again0, .int i_d0, .int i_never, .int i_firstCame, .int i_longRun, .int i_moved, .int i_crowd, .int i_l0, .int i_fitMany, .int i_fitLeast, .int i_fitMost, .ref m_fitPost, .ref m_fitEnd, .ref m_keptPosts, .int i_x0]))], [(m_all, .inl (T.2 0, 3952, .inl f_all))], [(m_shut, .inl (T.2 0, 7, .inl (upd f_shut c_.toNatClampNeg ((f_shut c_.toNatClampNeg) ^^^ (1 <<< (k_ &&& 31))))))]]) [1, 2, 0] rfl
      exact z_zret C hr hlocks G (Nat.le_of_ble_eq_true rfl) (Nat.le_of_ble_eq_true rfl) dX12_shuts_47 rfl ⟨(upd f_shut c_.toNatClampNeg ((f_shut c_.toNatClampNeg) ^^^ (1 <<< (k_ &&& 31)))), rfl, (fun P H st nv => Or.inl ⟨rfl, by unfold zOpF; rw [if_pos ⟨⟨by omega, by omega, by omega⟩, ⟨by omega, by show k_.toInt < (zRd f_all i_z0 c_).toInt; omega, by omega⟩, zBit_o (by assumption)⟩, ((zSx (hS5 c_.toNatClampNeg (by have q9 := z_clI (x := c_) (by omega); omega)) ⟨hk0, hk3⟩).2 (zBit_o (by assumption))).1]⟩), (zS15_u hS5 (by rw [((zSx (hS5 c_.toNatClampNeg (by have q9 := z_clI (x := c_) (by omega); omega)) ⟨hk0, hk3⟩).2 (zBit_o (by assumption))).1]; exact ((zSx (hS5 c_.toNatClampNeg (by have q9 := z_clI (x := c_) (by omega); omega)) ⟨hk0, hk3⟩).2 (zBit_o (by assumption))).2))⟩

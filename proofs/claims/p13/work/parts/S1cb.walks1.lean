theorem zB01 (x : Int32) : x &&& 1 = 0 ∨ x &&& 1 = 1 := by
  obtain ⟨j, hj, e⟩ := pk_andE x (m := 1) 1 (by decide)
  rw [e]
  rcases (show j = 0 ∨ j = 1 by omega) with q | q
  · rw [q]; exact Or.inl rfl
  · rw [q]; exact Or.inr rfl
theorem zBit_n {x y : Int32} (h : ¬ zBit x y = 1) : zBit x y = 0 := (zB01 (x >>> (y &&& 31))).resolve_right h
theorem zBit_o {x y : Int32} (h : zBit x y = 1) : ¬ zBit x y = 0 := fun q => absurd (q.symm.trans h) (by decide)
theorem zRm2 {x n : Int32} (h0 : 0 ≤ x.toInt) (h1 : 0 < n.toInt) (h4 : n.toInt ≤ 4) (h2 : x.toInt < 2 * n.toInt) : x.toInt < n.toInt ∧ (x - x / n * n).toInt = x.toInt ∨ n.toInt ≤ x.toInt ∧ (x - x / n * n).toInt = x.toInt - n.toInt := by
  rw [rem_toInt, Int.tmod_eq_emod_of_nonneg h0]
  rcases (show n.toInt = 1 ∨ n.toInt = 2 ∨ n.toInt = 3 ∨ n.toInt = 4 by omega) with q | q | q | q <;> rw [q] <;> omega
def zRo (f : Nat → Int32) (z : Int32) (j : Nat) : Int32 := f (z.toInt.toNat + (2 + j))
def zLo (f : Nat → Int32) (z : Int32) (i : Nat) : Int32 := f (z.toInt.toNat + (23 + i))
def zPo (f : Nat → Int32) (z : Int32) (j : Nat) : Int32 := f (z.toInt.toNat + (9 + j))
/-- ways out: none of an inn -/
def zWo (f : Nat → Int32) (z inns : Int32) (j : Nat) : Int32 := if zBit inns (nI j) = 1 then 0 else zRo f z j
/-- each post points to a road that is there, or to the first one -/
def zMV (R P : Nat → Int32) : Prop := ∀ c, c < 7 → (R c).toInt ≤ 0 ∨ (P c).toInt = 0 ∨ (P c).toInt < (R c).toInt
theorem zMV_upd {R P : Nat → Int32} {k : Nat} {v : Int32} (h : zMV R P) (hv : v.toInt < (R k).toInt) : zMV R (upd P k v) := by
  intro c hc
  unfold upd
  split
  · rename_i e
    rw [e]
    exact Or.inr (Or.inr hv)
  · exact h c hc
theorem zNext_m {R q k : Int32} {p i : Int} (hr : R.toInt ≤ 4) (hp : 0 ≤ p) (hpr : p < R.toInt) (hi : 1 ≤ i ∧ i ≤ R.toInt) (hq : q.toInt = p + i - 1 ∧ q.toInt < R.toInt ∨ q.toInt = p + i - 1 - R.toInt ∧ 0 ≤ q.toInt) (hk : p + i < R.toInt ∧ k.toInt = p + i ∨ R.toInt ≤ p + i ∧ k.toInt = p + i - R.toInt) : zNext R q = k := by
  have e : (q + 1).toInt = q.toInt + 1 := z_iaddI (by show -2147483648 ≤ q.toInt + 1; omega) (by show q.toInt + 1 < 2147483648; omega)
  unfold zNext
  by_cases hc : q + 1 < R
  · rw [if_pos hc]
    have hc2 := (fa_lt _ _).mp hc
    exact Int32.toInt_inj.mp (by omega)
  · rw [if_neg hc]
    have hc2 : ¬ (q + 1).toInt < R.toInt := fun z => hc ((fa_lt _ _).mpr z)
    exact Int32.toInt_inj.mp (by show (0 : Int) = k.toInt; omega)
theorem zTurnR_lt {roads closed : Int32} (h4 : roads.toInt ≤ 4) : ∀ (n : Nat) (r : Int32), (n : Int) ≤ roads.toInt → 0 ≤ r.toInt → r.toInt ≤ 1000 → zTurnR roads closed n r = -1 ∨ 0 ≤ (zTurnR roads closed n r).toInt ∧ (zTurnR roads closed n r).toInt < roads.toInt
  | 0, r, _, _, _ => Or.inl rfl
  | n + 1, r, hn, h1, h2 => by
    have e : (r + 1).toInt = r.toInt + 1 := z_iaddI (by show -2147483648 ≤ r.toInt + 1; omega) (by show r.toInt + 1 < 2147483648; omega)
    have hq : 0 ≤ (zNext roads r).toInt ∧ (zNext roads r).toInt < roads.toInt := by
      unfold zNext
      by_cases hc : r + 1 < roads
      · rw [if_pos hc]
        have hc2 := (fa_lt _ _).mp hc
        omega
      · rw [if_neg hc]
        exact ⟨by decide, by show (0 : Int) < roads.toInt; omega⟩
    rw [zTurnR]
    by_cases hb : zBit closed (zNext roads r) = 0
    · rw [if_pos hb]
      exact Or.inr hq
    · rw [if_neg hb]
      exact zTurnR_lt h4 n _ (by omega) hq.1 (by omega)
theorem zTurn_lt {f1 f2 f3 : Nat → Int32} (hI : zP3 f1 f3) (x : Int32) : zTurn f1 f2 f3 x = -1 ∨ 0 ≤ x.toInt ∧ x.toInt < 7 ∧ 0 ≤ (zTurn f1 f2 f3 x).toInt ∧ (zTurn f1 f2 f3 x).toInt < (f3 x.toNatClampNeg).toInt := by
  unfold zTurn
  split
  · rename_i q
    have e := z_clI q.1
    have h := hI x.toNatClampNeg (by omega)
    have e2 := z_clI h.1.1
    rcases zTurnR_lt (closed := f2 x.toNatClampNeg) h.1.2 (f3 x.toNatClampNeg).toNatClampNeg (f1 x.toNatClampNeg) (by omega) h.2.1 h.2.2 with g | g
    · exact Or.inl g
    · exact Or.inr ⟨q.1, q.2, g.1, g.2⟩
  · exact Or.inl rfl
theorem zTurn_cg {f1 f2 f3 g1 g2 g3 : Nat → Int32} (h1 : ∀ j, j < 7 → f1 j = g1 j) (h2 : ∀ j, j < 7 → f2 j = g2 j) (h3 : ∀ j, j < 7 → f3 j = g3 j) (x : Int32) : zTurn f1 f2 f3 x = zTurn g1 g2 g3 x := by
  unfold zTurn
  by_cases q : 0 ≤ x.toInt ∧ x.toInt < 7
  · have e := z_clI q.1
    rw [if_pos q, if_pos q, h1 _ (by omega), h2 _ (by omega), h3 _ (by omega)]
  · rw [if_neg q, if_neg q]
theorem zPost_cg {f1 f2 f3 g1 g2 g3 : Nat → Int32} (h1 : ∀ j, j < 7 → f1 j = g1 j) (h2 : ∀ j, j < 7 → f2 j = g2 j) (h3 : ∀ j, j < 7 → f3 j = g3 j) (x : Int32) : ∀ j, j < 7 → zPost f1 f2 f3 x j = zPost g1 g2 g3 x j := by
  intro j hj
  unfold zPost
  rw [zTurn_cg h1 h2 h3 x]
  by_cases q : zTurn g1 g2 g3 x = -1
  · rw [if_pos q, if_pos q]
    exact h1 j hj
  · rw [if_neg q, if_neg q]
    unfold upd
    split
    · rfl
    · exact h1 j hj
/-- the roads of two rows lead to the same -/
def zLs (f3 lf lg : Nat → Int32) : Prop := ∀ j r : Nat, j < 7 → r < 4 → (r : Int) < (f3 j).toInt → lf (4 * j + r) = lg (4 * j + r)
theorem zStep_cg {f1 f2 f3 g1 g2 g3 lf lg : Nat → Int32} (hI : zP3 f1 f3) (h1 : ∀ j, j < 7 → f1 j = g1 j) (h2 : ∀ j, j < 7 → f2 j = g2 j) (h3 : ∀ j, j < 7 → f3 j = g3 j) (hl : zLs f3 lf lg) (x : Int32) : zStep f1 f2 f3 lf x = zStep g1 g2 g3 lg x := by
  unfold zStep
  rw [← zTurn_cg h1 h2 h3 x]
  by_cases q : zTurn f1 f2 f3 x = -1
  · rw [if_pos q, if_pos q]
  · rw [if_neg q, if_neg q]
    have g := (zTurn_lt (f2 := f2) hI x).resolve_left q
    have e := z_clI g.1
    have e2 := z_clI g.2.2.1
    have e3 := (hI x.toNatClampNeg (by omega)).1.2
    exact hl _ _ (by omega) (by omega) (by omega)
theorem zRunN_cg {f2 f3 g2 g3 lf lg : Nat → Int32} (h2 : ∀ j, j < 7 → f2 j = g2 j) (h3 : ∀ j, j < 7 → f3 j = g3 j) (hl : zLs f3 lf lg) : ∀ (n : Nat) (f1 g1 : Nat → Int32) (x : Int32) (k : Nat), zP3 f1 f3 → (∀ j, j < 7 → f1 j = g1 j) → (∀ j, j < 7 → (zRunN f2 f3 lf n f1 x k).1 j = (zRunN g2 g3 lg n g1 x k).1 j) ∧ (zRunN f2 f3 lf n f1 x k).2 = (zRunN g2 g3 lg n g1 x k).2
  | 0, f1, g1, x, k, _, h1 => ⟨h1, rfl⟩
  | n + 1, f1, g1, x, k, hI, h1 => by
    have e := zStep_cg hI h1 h2 h3 hl x
    have p := zPost_cg h1 h2 h3 x
    unfold zRunN
    rw [← e]
    by_cases q : zStep f1 f2 f3 lf x = -1
    · rw [if_pos q, if_pos q]
      exact ⟨p, rfl⟩
    · rw [if_neg q, if_neg q]
      exact zRunN_cg h2 h3 hl n _ _ _ _ (zPost_I hI x) p
/-- how often he was at each -/
def zVi (w : Nat → Int32) (t : Int32) : Nat → Int32 := if 0 ≤ t.toInt ∧ t.toInt < 7 then upd w t.toNatClampNeg (w t.toNatClampNeg + 1) else w
def zWasN (f2 f3 lf : Nat → Int32) : Nat → (Nat → Int32) → Int32 → (Nat → Int32) → Nat → Int32
  | 0, _, _, w => w
  | n + 1, f, x, w => if zStep f f2 f3 lf x = -1 then w else zWasN f2 f3 lf n (zPost f f2 f3 x) (zStep f f2 f3 lf x) (zVi w (zStep f f2 f3 lf x))
theorem zTurn_wo {P S f : Nat → Int32} {z n x : Int32} (h : ¬ zBit n x = 1) (h0 : 0 ≤ x.toInt) (h6 : x.toInt ≤ 6) : zTurn P S (zWo f z n) x = zTurn P S (zRo f z) x := by
  have e := z_clI h0
  have e2 : x = nI x.toNatClampNeg := z_nI (by omega) (by omega)
  have e3 : zWo f z n x.toNatClampNeg = zRo f z x.toNatClampNeg := if_neg (by rw [← e2]; exact h)
  unfold zTurn
  rw [e3]
theorem zTurn_inn {P S f : Nat → Int32} {z n x : Int32} (h : zBit n x = 1) (h0 : 0 ≤ x.toInt) (h6 : x.toInt ≤ 6) : zTurn P S (zWo f z n) x = -1 := by
  have e := z_clI h0
  have e2 : x = nI x.toNatClampNeg := z_nI (by omega) (by omega)
  have e3 : zWo f z n x.toNatClampNeg = 0 := if_pos (by rw [← e2]; exact h)
  unfold zTurn
  rw [e3]
  split
  · rfl
  · rfl
theorem zPost_wo {P S f : Nat → Int32} {z n x : Int32} (h : ¬ zBit n x = 1) (h0 : 0 ≤ x.toInt) (h6 : x.toInt ≤ 6) : zPost P S (zWo f z n) x = zPost P S (zRo f z) x := by
  unfold zPost
  rw [zTurn_wo h h0 h6]
set_option maxHeartbeats 4000000 in
set_option maxRecDepth 100000 in
/-- c_fm_turns -/
theorem c_fm_turns (l : Launch) (T : zTy) (mo : Nat) (m_all : Nat) (m_has : Nat) (i_size : Int32) (i_next : Int32) (i_where : Int32) (i_token : Int32) (i_number : Int32) (i_word : Int32) (i_wrong : Int32) (i_farCrossing : Int32) (m_read : Nat) (i_z0 : Int32) (i_crossings : Int32) (i_inns : Int32) (m_posts : Nat) (m_shut : Nat) (m_here : Nat) (i_steps : Int32) (i_done : Int32) (i_at : Int32) (i_gone : Int32) (m_was : Nat) (m_came : Nat) (m_seenAt : Nat) (m_rowWorth : Nat) (m_farBy : Nat) (m_used : Nat) (i_everywhere : Int32) (i_again0 : Int32) (i_d0 : Int32) (i_never : Int32) (i_firstCame : Int32) (i_longRun : Int32) (i_moved : Int32) (i_crowd : Int32) (i_l0 : Int32) (i_fitMany : Int32) (i_fitLeast : Int32) (i_fitMost : Int32) (m_fitPost : Nat) (m_fitEnd : Nat) (m_keptPosts : Nat) (i_x0 : Int32) (f_all : Nat → Int32) (f_posts : Nat → Int32) (f_shut : Nat → Int32) (c_ : Int32) (hL : zML f_all i_z0 i_crossings) (hc0 : 0 ≤ c_.toInt) (hc6 : c_.toInt ≤ 6) (hV : zMV (zRo f_all i_z0) f_posts) (hP : zMP f_posts) : zMi l T yX12_turns cX12_turns 5 (some .boolean) 2 0 0 [.ref mo, .int c_] [[(mo, .inr (11, [.ref m_all, .ref m_has, .int i_size, .int i_next, .int i_where, .int i_token, .int i_number, .int i_word, .int i_wrong, .int i_farCrossing, .ref m_read, .int i_z0, .int i_crossings, .int i_inns, .ref m_posts, .ref m_shut, .ref m_here, .int i_steps, .int i_done, .int i_at, .int i_gone, .ref m_was, .ref m_came, .ref m_seenAt, .ref m_rowWorth, .ref m_farBy, .ref m_used, .int i_everywhere, .int i_again0, .int i_d0, .int i_never, .int i_firstCame, .int i_longRun, .int i_moved, .int i_crowd, .int i_l0, .int i_fitMany, .int i_fitLeast, .int i_fitMost, .ref m_fitPost, .ref m_fitEnd, .ref m_keptPosts, .int i_x0]))], [(m_all, .inl (T.2 0, 3952, .inl f_all))], [(m_posts, .inl (T.2 0, 7, .inl f_posts))], [(m_shut, .inl (T.2 0, 7, .inl f_shut))]] (fun (r : Int32) bs => ∃ (g_posts : Nat → Int32), bs = [[(mo, .inr (11, [.ref m_all, .ref m_has, .int i_size, .int i_next, .int i_where, .int i_token, .int i_number, .int i_word, .int i_wrong, .int i_farCrossing, .ref m_read, .int i_z0, .int i_crossings, .int i_inns, .ref m_posts, .ref m_shut, .ref m_here, .int i_steps, .int i_done, .int i_at, .int i_gone, .ref m_was, .ref m_came, .ref m_seenAt, .ref m_rowWorth, .ref m_farBy, .ref m_used, .int i_everywhere, .int i_again0, .int i_d0, .int i_never, .int i_firstCame, .int i_longRun, .int i_moved, .int i_crowd, .int i_l0, .int i_fitMany, .int i_fitLeast, .int i_fitMost, .ref m_fitPost, .ref m_fitEnd, .ref m_keptPosts, .int i_x0]))], [(m_all, .inl (T.2 0, 3952, .inl f_all))], [(m_posts, .inl (T.2 0, 7, .inl g_posts))], [(m_shut, .inl (T.2 0, 7, .inl f_shut))]] ∧ zMP g_posts ∧ zMV (zRo f_all i_z0) g_posts ∧ g_posts = zPost f_posts f_shut (zRo f_all i_z0) c_ ∧ ((r = 1 ∧ ¬ zTurn f_posts f_shut (zRo f_all i_z0) c_ = -1 ∧ 0 < (zRd f_all i_z0 c_).toInt) ∨ (r = 0 ∧ zTurn f_posts f_shut (zRo f_all i_z0) c_ = -1))) := by
  refine zMi_of (own := RX12) (by decide) rfl (Nat.le_of_ble_eq_true rfl) ?_
  intro p e s m args below meth c A ls C hr hlocks hnm hAe G hl
  have hx := C.1
  have hb := C.2.1
  have hl : lv_has ls 5 [(0, .ref mo), (1, .int c_)] := hl
  have hz := hL.1
  have hcr := hL.cr
  have hcl := z_clI (x := c_) (by omega)
  have hpc := hP c_.toNatClampNeg (by omega)
  refine lv_aload_n hx hb dX12_turns_0 rfl (lv_at hl 0 rfl) ?_
  refine lv_iload_n hx hb dX12_turns_1 rfl (lv_at hl 1 rfl) ?_
  refine z_Vi (bc := [[(mo, .inr (11, [.ref m_all, .ref m_has, .int i_size, .int i_next, .int i_where, .int i_token, .int i_number, .int i_word, .int i_wrong, .int i_farCrossing, .ref m_read, .int i_z0, .int i_crossings, .int i_inns, .ref m_posts, .ref m_shut, .ref m_here, .int i_steps, .int i_done, .int i_at, .int i_gone, .ref m_was, .ref m_came, .ref m_seenAt, .ref m_rowWorth, .ref m_farBy, .ref m_used, .int i_everywhere, .int i_again0, .int i_d0, .int i_never, .int i_firstCame, .int i_longRun, .int i_moved, .int i_crowd, .int i_l0, .int i_fitMany, .int i_fitLeast, .int i_fitMost, .ref m_fitPost, .ref m_fitEnd, .ref m_keptPosts, .int i_x0]))], [(m_all, .inl (T.2 0, 3952, .inl f_all))]]) (br := [[(m_posts, .inl (T.2 0, 7, .inl f_posts))], [(m_shut, .inl (T.2 0, 7, .inl f_shut))]]) (As := [.int c_]) (rest := []) C G (c_m_roadsOf l T mo m_all m_has i_size i_next i_where i_token i_number i_word i_wrong i_farCrossing m_read i_z0 i_crossings i_inns m_posts m_shut m_here i_steps i_done i_at i_gone m_was m_came m_seenAt m_rowWorth m_farBy m_used i_everywhere i_again0 i_d0 i_never i_firstCame i_longRun i_moved i_crowd i_l0 i_fitMany i_fitLeast i_fitMost m_fitPost m_fitEnd m_keptPosts i_x0 f_all c_ (by first | with_reducible assumption | with_reducible rfl | omega | assumption | rfl) (by first | with_reducible assumption | with_reducible rfl | omega | assumption | rfl) (by first | with_reducible assumption | with_reducible rfl | omega | assumption | rfl)) (kV_RX12_181 C.2.2.2.2 (Nat.le_of_ble_eq_true rfl) (Nat.le_of_ble_eq_true rfl)) [0, 1] [2, 3] rfl rfl (ci := 11) (qc := (RX12, TX12, 43)) rfl rfl (List.mem_flatten.mpr ⟨_, List.mem_of_getElem? (i := 0) rfl, List.mem_cons_self⟩) rfl rfl hl.1 dX12_turns_2 (Nat.le_of_ble_eq_true rfl) (Nat.le_of_ble_eq_true rfl) (fun r_4 b1 H locs hw G => ?_)
  obtain ⟨rfl, h_1, h_2, h_3⟩ := hw
  have G : zS T A s.heap s [[(m_posts, .inl (T.2 0, 7, .inl f_posts))], [(m_shut, .inl (T.2 0, 7, .inl f_shut))], [(mo, .inr (11, [.ref m_all, .ref m_has, .int i_size, .int i_next, .int i_where, .int i_token, .int i_number, .int i_word, .int i_wrong, .int i_farCrossing, .ref m_read, .int i_z0, .int i_crossings, .int i_inns, .ref m_posts, .ref m_shut, .ref m_here, .int i_steps, .int i_done, .int i_at, .int i_gone, .ref m_was, .ref m_came, .ref m_seenAt, .ref m_rowWorth, .ref m_farBy, .ref m_used, .int i_everywhere, .int i_again0, .int i_d0, .int i_never, .int i_firstCame, .int i_longRun, .int i_moved, .int i_crowd, .int i_l0, .int i_fitMany, .int i_fitLeast, .int i_fitMost, .ref m_fitPost, .ref m_fitEnd, .ref m_keptPosts, .int i_x0]))], [(m_all, .inl (T.2 0, 3952, .inl f_all))]] _ _ := G
  subst h_1
  refine lv_istore_n (lv' := [(2, .int (zRd f_all i_z0 c_)), (0, .ref mo), (1, .int c_)]) hx hb dX12_turns_5 rfl hl (by decide) rfl (fun ls hl => ?_)
  obtain ⟨n0, hn0⟩ : ∃ n0, n0 = (zRd f_all i_z0 c_).toNatClampNeg := ⟨_, rfl⟩
  have hcn := z_clI (x := zRd f_all i_z0 c_) (by omega)
  have hn4 : (n0 : Int) = (zRd f_all i_z0 c_).toInt := by rw [hn0]; exact hcn
  have hT : zTurn f_posts f_shut (zRo f_all i_z0) c_ = zTurnR (zRd f_all i_z0 c_) (f_shut c_.toNatClampNeg) (n0 + 1 - 1) (f_posts c_.toNatClampNeg) := by unfold zTurn; rw [if_pos ⟨by omega, by omega⟩, hn0]; rfl
  have hVc : (zRd f_all i_z0 c_).toInt ≤ 0 ∨ (f_posts c_.toNatClampNeg).toInt = 0 ∨ (f_posts c_.toNatClampNeg).toInt < (zRd f_all i_z0 c_).toInt := hV c_.toNatClampNeg (by omega)
  refine lv_iconst (v := 1) hx hb dX12_turns_6 (by decide) ?_
  refine lv_istore_n (lv' := [(3, .int 1), (2, .int (zRd f_all i_z0 c_)), (0, .ref mo), (1, .int c_)]) hx hb dX12_turns_7 rfl hl (by decide) rfl (fun ls hl => ?_)
  refine z_loop (T := T) (α := Nat × Int32) 8 (fun (i, q9) => [[(m_posts, .inl (T.2 0, 7, .inl f_posts))], [(m_shut, .inl (T.2 0, 7, .inl f_shut))], [(mo, .inr (11, [.ref m_all, .ref m_has, .int i_size, .int i_next, .int i_where, .int i_token, .int i_number, .int i_word, .int i_wrong, .int i_farCrossing, .ref m_read, .int i_z0, .int i_crossings, .int i_inns, .ref m_posts, .ref m_shut, .ref m_here, .int i_steps, .int i_done, .int i_at, .int i_gone, .ref m_was, .ref m_came, .ref m_seenAt, .ref m_rowWorth, .ref m_farBy, .ref m_used, .int i_everywhere, .int i_again0, .int i_d0, .int i_never, .int i_firstCame, .int i_longRun, .int i_moved, .int i_crowd, .int i_l0, .int i_fitMany, .int i_fitLeast, .int i_fitMost, .ref m_fitPost, .ref m_fitEnd, .ref m_keptPosts, .int i_x0]))], [(m_all, .inl (T.2 0, 3952, .inl f_all))]]) (fun (i, q9) => [(3, .int (nI i)), (2, .int (zRd f_all i_z0 c_)), (0, .ref mo), (1, .int c_)]) (fun (i, q9) => 1 ≤ i ∧ (i : Int) ≤ (zRd f_all i_z0 c_).toInt + 1 ∧ zTurn f_posts f_shut (zRo f_all i_z0) c_ = zTurnR (zRd f_all i_z0 c_) (f_shut c_.toNatClampNeg) (n0 + 1 - i) q9 ∧ ((zRd f_all i_z0 c_).toInt ≤ 0 ∨ q9.toInt = (f_posts c_.toNatClampNeg).toInt + (i : Int) - 1 ∧ q9.toInt < (zRd f_all i_z0 c_).toInt ∨ q9.toInt = (f_posts c_.toNatClampNeg).toInt + (i : Int) - 1 - (zRd f_all i_z0 c_).toInt ∧ 0 ≤ q9.toInt)) (fun (i, q9) => 6 - i) ?_ (1, (f_posts c_.toNatClampNeg)) (show 1 ≤ 1 ∧ (1 : Int) ≤ (zRd f_all i_z0 c_).toInt + 1 ∧ zTurn f_posts f_shut (zRo f_all i_z0) c_ = zTurnR (zRd f_all i_z0 c_) (f_shut c_.toNatClampNeg) (n0 + 1 - 1) (f_posts c_.toNatClampNeg) ∧ ((zRd f_all i_z0 c_).toInt ≤ 0 ∨ (f_posts c_.toNatClampNeg).toInt = (f_posts c_.toNatClampNeg).toInt + (1 : Int) - 1 ∧ (f_posts c_.toNatClampNeg).toInt < (zRd f_all i_z0 c_).toInt ∨ (f_posts c_.toNatClampNeg).toInt = (f_posts c_.toNatClampNeg).toInt + (1 : Int) - 1 - (zRd f_all i_z0 c_).toInt ∧ 0 ≤ (f_posts c_.toNatClampNeg).toInt) from ⟨by omega, by omega, hT, by omega⟩) G (lv_sub hl [0, 1, 2, 3] rfl)
  rintro ⟨i, q9⟩ ⟨hi, hi5, hq, hq3⟩ ih_8 H locs ls G hl
  replace hi : 1 ≤ i := hi
  replace hi5 : (i : Int) ≤ (zRd f_all i_z0 c_).toInt + 1 := hi5
  replace hq : zTurn f_posts f_shut (zRo f_all i_z0) c_ = zTurnR (zRd f_all i_z0 c_) (f_shut c_.toNatClampNeg) (n0 + 1 - i) q9 := hq
  replace hq3 : ((zRd f_all i_z0 c_).toInt ≤ 0 ∨ q9.toInt = (f_posts c_.toNatClampNeg).toInt + (i : Int) - 1 ∧ q9.toInt < (zRd f_all i_z0 c_).toInt ∨ q9.toInt = (f_posts c_.toNatClampNeg).toInt + (i : Int) - 1 - (zRd f_all i_z0 c_).toInt ∧ 0 ≤ q9.toInt) := hq3
  replace G : zS T A s.heap s [[(m_posts, .inl (T.2 0, 7, .inl f_posts))], [(m_shut, .inl (T.2 0, 7, .inl f_shut))], [(mo, .inr (11, [.ref m_all, .ref m_has, .int i_size, .int i_next, .int i_where, .int i_token, .int i_number, .int i_word, .int i_wrong, .int i_farCrossing, .ref m_read, .int i_z0, .int i_crossings, .int i_inns, .ref m_posts, .ref m_shut, .ref m_here, .int i_steps, .int i_done, .int i_at, .int i_gone, .ref m_was, .ref m_came, .ref m_seenAt, .ref m_rowWorth, .ref m_farBy, .ref m_used, .int i_everywhere, .int i_again0, .int i_d0, .int i_never, .int i_firstCame, .int i_longRun, .int i_moved, .int i_crowd, .int i_l0, .int i_fitMany, .int i_fitLeast, .int i_fitMost, .ref m_fitPost, .ref m_fitEnd, .ref m_keptPosts, .int i_x0]))], [(m_all, .inl (T.2 0, 3952, .inl f_all))]] _ _ := G
  replace hl : lv_has ls 5 [(3, .int (nI i)), (2, .int (zRd f_all i_z0 c_)), (0, .ref mo), (1, .int c_)] := hl
  refine lv_iload_n hx hb dX12_turns_8 rfl (lv_at hl 0 rfl) ?_
  refine lv_iload_n hx hb dX12_turns_9 rfl (lv_at hl 1 rfl) ?_
  refine lv_icmp_gt (tgt := 59) hx hb dX12_turns_10 (by decide) (fun c_5 => ?_) (fun c_5 => ?_)
  · have c_5n : (zRd f_all i_z0 c_).toInt < (i : Int) := by have q := (fa_lt _ _).mp c_5; rw [nI_toInt (n := i) (by omega)] at q; exact q
    have hz : zTurn f_posts f_shut (zRo f_all i_z0) c_ = -1 := by rw [hq, show n0 + 1 - i = 0 by omega]; rfl
    refine lv_iconst (v := 0) hx hb dX12_turns_59 (by decide) ?_
    have G := G.sub (bs' := [[(mo, .inr (11, [.ref m_all, .ref m_has, .int i_size, .int i_next, .int i_where, .int i_token, .int i_number, .int i_word, .int i_wrong, .int i_farCrossing, .ref m_read, .int i_z0, .int i_crossings, .int i_inns, .ref m_posts, .ref m_shut, .ref m_here, .int i_steps, .int i_done, .int i_at, .int i_gone, .ref m_was, .ref m_came, .ref m_seenAt, .ref m_rowWorth, .ref m_farBy, .ref m_used, .int i_everywhere, .int i_again0, .int i_d0, .int i_never, .int i_firstCame, .int i_longRun, .int i_moved, .int i_crowd, .int i_l0, .int i_fitMany, .int i_fitLeast, .int i_fitMost, .ref m_fitPost, .ref m_fitEnd, .ref m_keptPosts, .int i_x0]))], [(m_all, .inl (T.2 0, 3952, .inl f_all))], [(m_posts, .inl (T.2 0, 7, .inl f_posts))], [(m_shut, .inl (T.2 0, 7, .inl f_shut))]]) [2, 3, 0, 1] rfl
    exact z_zret C hr hlocks G (Nat.le_of_ble_eq_true rfl) (Nat.le_of_ble_eq_true rfl) dX12_turns_60 rfl ⟨f_posts, rfl, (by first | with_reducible assumption | omega | trivial | assumption), (by first | with_reducible assumption | omega | trivial | assumption), (by unfold zPost; rw [if_pos hz]), (Or.inr (⟨rfl, hz⟩))⟩
  · have c_5n : ¬ (zRd f_all i_z0 c_).toInt < (i : Int) := fun q => c_5 ((fa_lt _ _).mpr (by rw [nI_toInt (n := i) (by omega)]; exact q))
    refine lv_aload_n hx hb dX12_turns_13 rfl (lv_at hl 2 rfl) ?_
    refine z_get C G clX12 2 rfl 14 (by decide) m_fl_RX12_20 rfl dX12_turns_14 ?_
    refine lv_iload_n hx hb dX12_turns_17 rfl (lv_at hl 3 rfl) ?_
    refine z_ild C G 0 rfl (vp_in_iff.mpr ⟨by omega, by omega⟩) dX12_turns_18 ?_
    refine lv_topi (fun v_6 ev_6 => ?_)
    subst ev_6
    refine lv_iload_n hx hb dX12_turns_19 rfl (lv_at hl 0 rfl) ?_
    refine lv_iadd hx hb dX12_turns_20 ?_
    refine lv_topi (fun y_7 ey_7 => ?_)
    have ey_7i : y_7.toInt = (f_posts c_.toNatClampNeg).toInt + (i : Int) := by rw [ey_7]; exact (z_iaddI (x := (f_posts c_.toNatClampNeg)) (y := (nI i)) (by rw [nI_toInt (n := i) (by omega)]; show -2147483648 ≤ (f_posts c_.toNatClampNeg).toInt + (i : Int); omega) (by rw [nI_toInt (n := i) (by omega)]; show (f_posts c_.toNatClampNeg).toInt + (i : Int) < 2147483648; omega)).trans (by rw [nI_toInt (n := i) (by omega)] <;> rfl)
    refine lv_iload_n hx hb dX12_turns_21 rfl (lv_at hl 1 rfl) ?_
    refine lv_irem hx hb dX12_turns_22 (fun q => absurd (congrArg Int32.toInt q) (by show ¬ _ = (0 : Int); omega)) ?_
    refine lv_topi (fun kk_7 ekk_7 => ?_)
    have hrm := zRm2 (x := y_7) (n := zRd f_all i_z0 c_) (by omega) (by omega) (by omega) (by omega)
    rw [← ekk_7] at hrm
    have hnx : zNext (zRd f_all i_z0 c_) q9 = kk_7 := zNext_m (p := (f_posts c_.toNatClampNeg).toInt) (i := (i : Int)) (by omega) (by omega) (by omega) (by omega) (by omega) (by omega)
    refine lv_istore (lv' := [(4, .int kk_7), (3, .int (nI i)), (2, .int (zRd f_all i_z0 c_)), (0, .ref mo), (1, .int c_)]) hx hb dX12_turns_23 hl (by decide) rfl (fun ls hl => ?_)
    refine lv_aload_n hx hb dX12_turns_25 rfl (lv_at hl 3 rfl) ?_
    refine z_get C G clX12 2 rfl 15 (by decide) m_fl_RX12_23 rfl dX12_turns_26 ?_
    refine lv_iload_n hx hb dX12_turns_29 rfl (lv_at hl 4 rfl) ?_
    refine z_ild C G 1 rfl (vp_in_iff.mpr ⟨by omega, by omega⟩) dX12_turns_30 ?_
    refine lv_topi (fun v_9 ev_9 => ?_)
    subst ev_9
    refine lv_iload hx hb dX12_turns_31 (lv_at hl 0 rfl) ?_
    refine lv_ishr hx hb dX12_turns_33 ?_
    refine lv_iconst (v := 1) hx hb dX12_turns_34 (by decide) ?_
    refine lv_iand hx hb dX12_turns_35 ?_
    refine lv_iconst (v := 1) hx hb dX12_turns_36 (by decide) ?_
    refine lv_icmp_ne (tgt := 43) hx hb dX12_turns_37 (by decide) (fun c_10 => ?_) (fun c_10 => ?_)
    · have c_10n : ¬ (((f_shut c_.toNatClampNeg) >>> (kk_7 &&& 31)) &&& 1).toInt = (1 : Int) := fun q => c_10 ((fa_eq _ _).mpr q)
      have hz0 : zBit (f_shut c_.toNatClampNeg) kk_7 = 0 := zBit_n (by assumption)
      have hz : zTurn f_posts f_shut (zRo f_all i_z0) c_ = kk_7 := by rw [hq, show n0 + 1 - i = (n0 - i) + 1 by omega, zTurnR, hnx, if_pos hz0]
      have hz1 : ¬ zTurn f_posts f_shut (zRo f_all i_z0) c_ = -1 := by rw [hz]; exact fun q8 => absurd (show kk_7.toInt = -1 from by rw [q8]; rfl) (by omega)
      refine lv_aload_n hx hb dX12_turns_43 rfl (lv_at hl 3 rfl) ?_
      refine z_get C G clX12 2 rfl 14 (by decide) m_fl_RX12_20 rfl dX12_turns_44 ?_
      refine lv_iload_n hx hb dX12_turns_47 rfl (lv_at hl 4 rfl) ?_
      refine lv_iload hx hb dX12_turns_48 (lv_at hl 0 rfl) ?_
      refine z_ist C G 0 rfl (vp_in_iff.mpr ⟨by omega, by omega⟩) dX12_turns_50 (fun H locs G => ?_)
      have G : zS T A s.heap s [[(m_posts, .inl (T.2 0, 7, .inl (upd f_posts c_.toNatClampNeg kk_7)))], [(m_shut, .inl (T.2 0, 7, .inl f_shut))], [(mo, .inr (11, [.ref m_all, .ref m_has, .int i_size, .int i_next, .int i_where, .int i_token, .int i_number, .int i_word, .int i_wrong, .int i_farCrossing, .ref m_read, .int i_z0, .int i_crossings, .int i_inns, .ref m_posts, .ref m_shut, .ref m_here, .int i_steps, .int i_done, .int i_at, .int i_gone, .ref m_was, .ref m_came, .ref m_seenAt, .ref m_rowWorth, .ref m_farBy, .ref m_used, .int i_everywhere, .int i_again0, .int i_d0, .int i_never, .int i_firstCame, .int i_longRun, .int i_moved, .int i_crowd, .int i_l0, .int i_fitMany, .int i_fitLeast, .int i_fitMost, .ref m_fitPost, .ref m_fitEnd, .ref m_keptPosts, .int i_x0]))], [(m_all, .inl (T.2 0, 3952, .inl f_all))]] _ _ := G
      refine lv_iconst (v := 1) hx hb dX12_turns_51 (by decide) ?_
      have G := G.sub (bs' := [[(mo, .inr (11, [.ref m_all, .ref m_has, .int i_size, .int i_next, .int i_where, .int i_token, .int i_number, .int i_word, .int i_wrong, .int i_farCrossing, .ref m_read, .int i_z0, .int i_crossings, .int i_inns, .ref m_posts, .ref m_shut, .ref m_here, .int i_steps, .int i_done, .int i_at, .int i_gone, .ref m_was, .ref m_came, .ref m_seenAt, .ref m_rowWorth, .ref m_farBy, .ref m_used, .int i_everywhere, .int i_again0, .int i_d0, .int i_never, .int i_firstCame, .int i_longRun, .int i_moved, .int i_crowd, .int i_l0, .int i_fitMany, .int i_fitLeast, .int i_fitMost, .ref m_fitPost, .ref m_fitEnd, .ref m_keptPosts, .int i_x0]))], [(m_all, .inl (T.2 0, 3952, .inl f_all))], [(m_posts, .inl (T.2 0, 7, .inl (upd f_posts c_.toNatClampNeg kk_7)))], [(m_shut, .inl (T.2 0, 7, .inl f_shut))]]) [2, 3, 0, 1] rfl
      exact z_zret C hr hlocks G (Nat.le_of_ble_eq_true rfl) (Nat.le_of_ble_eq_true rfl) dX12_turns_52 rfl ⟨(upd f_posts c_.toNatClampNeg kk_7), rfl, (zMP_upd hP (by omega)), (zMV_upd hV (show kk_7.toInt < (zRd f_all i_z0 c_).toInt by omega)), (by unfold zPost; rw [if_neg hz1, hz]), (Or.inl (⟨rfl, hz1, (by omega)⟩))⟩
    · have c_10n : (((f_shut c_.toNatClampNeg) >>> (kk_7 &&& 31)) &&& 1).toInt = (1 : Int) := (fa_eq _ _).mp c_10
      have hz0 : ¬ zBit (f_shut c_.toNatClampNeg) kk_7 = 0 := zBit_o (by assumption)
      have hz : zTurn f_posts f_shut (zRo f_all i_z0) c_ = zTurnR (zRd f_all i_z0 c_) (f_shut c_.toNatClampNeg) (n0 + 1 - (i + 1)) kk_7 := by rw [hq, show n0 + 1 - i = (n0 + 1 - (i + 1)) + 1 by omega, zTurnR, hnx, if_neg hz0]
      refine lv_goto (tgt := 53) hx hb dX12_turns_40 (by decide) ?_
      refine lv_iinc (v := nI (i + 1)) (lv' := [(3, .int (nI (i + 1))), (4, .int kk_7), (2, .int (zRd f_all i_z0 c_)), (0, .ref mo), (1, .int c_)]) hx hb dX12_turns_53 hl (k := 1) rfl (z_inc i 1) (by decide) rfl (fun ls hl => ?_)
      refine lv_goto (tgt := 8) hx hb dX12_turns_56 (by decide) ?_
      exact ih_8 ((i + 1), kk_7) (show 1 ≤ (i + 1) ∧ ((i + 1) : Int) ≤ (zRd f_all i_z0 c_).toInt + 1 ∧ zTurn f_posts f_shut (zRo f_all i_z0) c_ = zTurnR (zRd f_all i_z0 c_) (f_shut c_.toNatClampNeg) (n0 + 1 - (i + 1)) kk_7 ∧ ((zRd f_all i_z0 c_).toInt ≤ 0 ∨ kk_7.toInt = (f_posts c_.toNatClampNeg).toInt + ((i + 1) : Int) - 1 ∧ kk_7.toInt < (zRd f_all i_z0 c_).toInt ∨ kk_7.toInt = (f_posts c_.toNatClampNeg).toInt + ((i + 1) : Int) - 1 - (zRd f_all i_z0 c_).toInt ∧ 0 ≤ kk_7.toInt) from ⟨by omega, by omega, hz, by omega⟩) (show 6 - (i + 1) < 6 - i from by omega) _ _ ls G (lv_sub hl [0, 2, 3, 4] rfl)
set_option maxHeartbeats 4000000 in
set_option maxRecDepth 100000 in
/-- c_fm_stepsOn -/
theorem c_fm_stepsOn (l : Launch) (T : zTy) (mo : Nat) (m_all : Nat) (m_has : Nat) (i_size : Int32) (i_next : Int32) (i_where : Int32) (i_token : Int32) (i_number : Int32) (i_word : Int32) (i_wrong : Int32) (i_farCrossing : Int32) (m_read : Nat) (i_z0 : Int32) (i_crossings : Int32) (i_inns : Int32) (m_posts : Nat) (m_shut : Nat) (m_here : Nat) (i_steps : Int32) (i_done : Int32) (i_at : Int32) (i_gone : Int32) (m_was : Nat) (m_came : Nat) (m_seenAt : Nat) (m_rowWorth : Nat) (m_farBy : Nat) (m_used : Nat) (i_everywhere : Int32) (i_again0 : Int32) (i_d0 : Int32) (i_never : Int32) (i_firstCame : Int32) (i_longRun : Int32) (i_moved : Int32) (i_crowd : Int32) (i_l0 : Int32) (i_fitMany : Int32) (i_fitLeast : Int32) (i_fitMost : Int32) (m_fitPost : Nat) (m_fitEnd : Nat) (m_keptPosts : Nat) (i_x0 : Int32) (f_all : Nat → Int32) (f_posts : Nat → Int32) (f_shut : Nat → Int32) (f_was : Nat → Int32) (hL : zML f_all i_z0 i_crossings) (ha0 : 0 ≤ i_at.toInt) (ha6 : i_at.toInt ≤ 6) (hg0 : 0 ≤ i_gone.toInt) (hg9 : i_gone.toInt ≤ 100000) (hV : zMV (zRo f_all i_z0) f_posts) (hP : zMP f_posts) : zMi l T yX12_stepsOn cX12_stepsOn 1 (some .boolean) 3 0 0 [.ref mo] [[(mo, .inr (11, [.ref m_all, .ref m_has, .int i_size, .int i_next, .int i_where, .int i_token, .int i_number, .int i_word, .int i_wrong, .int i_farCrossing, .ref m_read, .int i_z0, .int i_crossings, .int i_inns, .ref m_posts, .ref m_shut, .ref m_here, .int i_steps, .int i_done, .int i_at, .int i_gone, .ref m_was, .ref m_came, .ref m_seenAt, .ref m_rowWorth, .ref m_farBy, .ref m_used, .int i_everywhere, .int i_again0, .int i_d0, .int i_never, .int i_firstCame, .int i_longRun, .int i_moved, .int i_crowd, .int i_l0, .int i_fitMany, .int i_fitLeast, .int i_fitMost, .ref m_fitPost, .ref m_fitEnd, .ref m_keptPosts, .int i_x0]))], [(m_all, .inl (T.2 0, 3952, .inl f_all))], [(m_posts, .inl (T.2 0, 7, .inl f_posts))], [(m_shut, .inl (T.2 0, 7, .inl f_shut))], [(m_was, .inl (T.2 0, 7, .inl f_was))]] (fun (r : Int32) bs => ∃ (j_at : Int32) (j_gone : Int32) (g_posts : Nat → Int32) (g_was : Nat → Int32), bs = [[(mo, .inr (11, [.ref m_all, .ref m_has, .int i_size, .int i_next, .int i_where, .int i_token, .int i_number, .int i_word, .int i_wrong, .int i_farCrossing, .ref m_read, .int i_z0, .int i_crossings, .int i_inns, .ref m_posts, .ref m_shut, .ref m_here, .int i_steps, .int i_done, .int j_at, .int j_gone, .ref m_was, .ref m_came, .ref m_seenAt, .ref m_rowWorth, .ref m_farBy, .ref m_used, .int i_everywhere, .int i_again0, .int i_d0, .int i_never, .int i_firstCame, .int i_longRun, .int i_moved, .int i_crowd, .int i_l0, .int i_fitMany, .int i_fitLeast, .int i_fitMost, .ref m_fitPost, .ref m_fitEnd, .ref m_keptPosts, .int i_x0]))], [(m_all, .inl (T.2 0, 3952, .inl f_all))], [(m_posts, .inl (T.2 0, 7, .inl g_posts))], [(m_shut, .inl (T.2 0, 7, .inl f_shut))], [(m_was, .inl (T.2 0, 7, .inl g_was))]] ∧ zMP g_posts ∧ 0 ≤ j_at.toInt ∧ j_at.toInt ≤ 6 ∧ zMV (zRo f_all i_z0) g_posts ∧ g_posts = zPost f_posts f_shut (zWo f_all i_z0 i_inns) i_at ∧ ((r = 1 ∧ ¬ zStep f_posts f_shut (zWo f_all i_z0 i_inns) (zLo f_all i_z0) i_at = -1 ∧ j_at = zStep f_posts f_shut (zWo f_all i_z0 i_inns) (zLo f_all i_z0) i_at ∧ j_gone.toInt = i_gone.toInt + 1 ∧ g_was = upd f_was j_at.toNatClampNeg (f_was j_at.toNatClampNeg + 1)) ∨ (r = 0 ∧ zStep f_posts f_shut (zWo f_all i_z0 i_inns) (zLo f_all i_z0) i_at = -1 ∧ j_at = i_at ∧ j_gone = i_gone ∧ g_was = f_was))) := by
  refine zMi_of (own := RX12) (by decide) rfl (Nat.le_of_ble_eq_true rfl) ?_
  intro p e s m args below meth c A ls C hr hlocks hnm hAe G hl
  have hx := C.1
  have hb := C.2.1
  have hl : lv_has ls 1 [(0, .ref mo)] := hl
  have hz := hL.1
  have hcr := hL.cr
  refine lv_aload_n hx hb dX12_stepsOn_0 rfl (lv_at hl 0 rfl) ?_
  refine lv_aload_n hx hb dX12_stepsOn_1 rfl (lv_at hl 0 rfl) ?_
  refine z_get C G clX12 0 rfl 19 (by decide) m_fl_RX12_202 rfl dX12_stepsOn_2 ?_
  refine z_Vi (bc := [[(mo, .inr (11, [.ref m_all, .ref m_has, .int i_size, .int i_next, .int i_where, .int i_token, .int i_number, .int i_word, .int i_wrong, .int i_farCrossing, .ref m_read, .int i_z0, .int i_crossings, .int i_inns, .ref m_posts, .ref m_shut, .ref m_here, .int i_steps, .int i_done, .int i_at, .int i_gone, .ref m_was, .ref m_came, .ref m_seenAt, .ref m_rowWorth, .ref m_farBy, .ref m_used, .int i_everywhere, .int i_again0, .int i_d0, .int i_never, .int i_firstCame, .int i_longRun, .int i_moved, .int i_crowd, .int i_l0, .int i_fitMany, .int i_fitLeast, .int i_fitMost, .ref m_fitPost, .ref m_fitEnd, .ref m_keptPosts, .int i_x0]))]]) (br := [[(m_all, .inl (T.2 0, 3952, .inl f_all))], [(m_posts, .inl (T.2 0, 7, .inl f_posts))], [(m_shut, .inl (T.2 0, 7, .inl f_shut))], [(m_was, .inl (T.2 0, 7, .inl f_was))]]) (As := [.int i_at]) (rest := []) C G (c_m_isInn l T mo m_all m_has i_size i_next i_where i_token i_number i_word i_wrong i_farCrossing m_read i_z0 i_crossings i_inns m_posts m_shut m_here i_steps i_done i_at i_gone m_was m_came m_seenAt m_rowWorth m_farBy m_used i_everywhere i_again0 i_d0 i_never i_firstCame i_longRun i_moved i_crowd i_l0 i_fitMany i_fitLeast i_fitMost m_fitPost m_fitEnd m_keptPosts i_x0 i_at) (kV_RX12_178 C.2.2.2.2 (Nat.le_of_ble_eq_true rfl) (Nat.le_of_ble_eq_true rfl)) [0] [1, 2, 3, 4] rfl rfl (ci := 11) (qc := (RX12, TX12, 43)) rfl rfl (List.mem_flatten.mpr ⟨_, List.mem_of_getElem? (i := 0) rfl, List.mem_cons_self⟩) rfl rfl hl.1 dX12_stepsOn_5 (Nat.le_of_ble_eq_true rfl) (Nat.le_of_ble_eq_true rfl) (fun r_2 b1 H locs hw G => ?_)
  obtain ⟨rfl, hc_1⟩ := hw
  have G : zS T A s.heap s [[(m_all, .inl (T.2 0, 3952, .inl f_all))], [(m_posts, .inl (T.2 0, 7, .inl f_posts))], [(m_shut, .inl (T.2 0, 7, .inl f_shut))], [(m_was, .inl (T.2 0, 7, .inl f_was))], [(mo, .inr (11, [.ref m_all, .ref m_has, .int i_size, .int i_next, .int i_where, .int i_token, .int i_number, .int i_word, .int i_wrong, .int i_farCrossing, .ref m_read, .int i_z0, .int i_crossings, .int i_inns, .ref m_posts, .ref m_shut, .ref m_here, .int i_steps, .int i_done, .int i_at, .int i_gone, .ref m_was, .ref m_came, .ref m_seenAt, .ref m_rowWorth, .ref m_farBy, .ref m_used, .int i_everywhere, .int i_again0, .int i_d0, .int i_never, .int i_firstCame, .int i_longRun, .int i_moved, .int i_crowd, .int i_l0, .int i_fitMany, .int i_fitLeast, .int i_fitMost, .ref m_fitPost, .ref m_fitEnd, .ref m_keptPosts, .int i_x0]))]] _ _ := G
  rcases hc_1 with ⟨rfl, h_3⟩ | ⟨rfl, h_4⟩
  · have h_3 : zInn i_inns i_at := h_3
    refine lv_if_ne (tgt := 22) hx hb dX12_stepsOn_8 (by decide) (fun _ => ?_) (fun q => absurd q (by decide))
    have hT1 : zTurn f_posts f_shut (zWo f_all i_z0 i_inns) i_at = -1 := zTurn_inn (by assumption) ha0 ha6
    have hp1 : f_posts = zPost f_posts f_shut (zWo f_all i_z0 i_inns) i_at := by unfold zPost; rw [if_pos hT1]
    have hS1 : zStep f_posts f_shut (zWo f_all i_z0 i_inns) (zLo f_all i_z0) i_at = -1 := by unfold zStep; rw [if_pos hT1]
    refine lv_iconst (v := 0) hx hb dX12_stepsOn_22 (by decide) ?_
    have G := G.sub (bs' := [[(mo, .inr (11, [.ref m_all, .ref m_has, .int i_size, .int i_next, .int i_where, .int i_token, .int i_number, .int i_word, .int i_wrong, .int i_farCrossing, .ref m_read, .int i_z0, .int i_crossings, .int i_inns, .ref m_posts, .ref m_shut, .ref m_here, .int i_steps, .int i_done, .int i_at, .int i_gone, .ref m_was, .ref m_came, .ref m_seenAt, .ref m_rowWorth, .ref m_farBy, .ref m_used, .int i_everywhere, .int i_again0, .int i_d0, .int i_never, .int i_firstCame, .int i_longRun, .int i_moved, .int i_crowd, .int i_l0, .int i_fitMany, .int i_fitLeast, .int i_fitMost, .ref m_fitPost, .ref m_fitEnd, .ref m_keptPosts, .int i_x0]))], [(m_all, .inl (T.2 0, 3952, .inl f_all))], [(m_posts, .inl (T.2 0, 7, .inl f_posts))], [(m_shut, .inl (T.2 0, 7, .inl f_shut))], [(m_was, .inl (T.2 0, 7, .inl f_was))]]) [4, 0, 1, 2, 3] rfl
    exact z_zret C hr hlocks G (Nat.le_of_ble_eq_true rfl) (Nat.le_of_ble_eq_true rfl) dX12_stepsOn_23 rfl ⟨i_at, i_gone, f_posts, f_was, rfl, (by first | with_reducible assumption | omega | trivial | assumption), (by first | with_reducible assumption | omega | trivial | assumption), (by first | with_reducible assumption | omega | trivial | assumption), (by first | with_reducible assumption | omega | trivial | assumption), hp1, (Or.inr (⟨rfl, hS1, rfl, rfl, rfl⟩))⟩
  · have h_4 : ¬ zInn i_inns i_at := h_4
    refine lv_if_ne (tgt := 22) hx hb dX12_stepsOn_8 (by decide) (fun q => absurd (by decide) q) (fun _ => ?_)
    refine lv_aload_n hx hb dX12_stepsOn_11 rfl (lv_at hl 0 rfl) ?_
    refine lv_aload_n hx hb dX12_stepsOn_12 rfl (lv_at hl 0 rfl) ?_
    refine z_get C G clX12 4 rfl 19 (by decide) m_fl_RX12_202 rfl dX12_stepsOn_13 ?_
    refine z_Vi (bc := [[(mo, .inr (11, [.ref m_all, .ref m_has, .int i_size, .int i_next, .int i_where, .int i_token, .int i_number, .int i_word, .int i_wrong, .int i_farCrossing, .ref m_read, .int i_z0, .int i_crossings, .int i_inns, .ref m_posts, .ref m_shut, .ref m_here, .int i_steps, .int i_done, .int i_at, .int i_gone, .ref m_was, .ref m_came, .ref m_seenAt, .ref m_rowWorth, .ref m_farBy, .ref m_used, .int i_everywhere, .int i_again0, .int i_d0, .int i_never, .int i_firstCame, .int i_longRun, .int i_moved, .int i_crowd, .int i_l0, .int i_fitMany, .int i_fitLeast, .int i_fitMost, .ref m_fitPost, .ref m_fitEnd, .ref m_keptPosts, .int i_x0]))], [(m_all, .inl (T.2 0, 3952, .inl f_all))], [(m_posts, .inl (T.2 0, 7, .inl f_posts))], [(m_shut, .inl (T.2 0, 7, .inl f_shut))]]) (br := [[(m_was, .inl (T.2 0, 7, .inl f_was))]]) (As := [.int i_at]) (rest := []) C G (c_fm_turns l T mo m_all m_has i_size i_next i_where i_token i_number i_word i_wrong i_farCrossing m_read i_z0 i_crossings i_inns m_posts m_shut m_here i_steps i_done i_at i_gone m_was m_came m_seenAt m_rowWorth m_farBy m_used i_everywhere i_again0 i_d0 i_never i_firstCame i_longRun i_moved i_crowd i_l0 i_fitMany i_fitLeast i_fitMost m_fitPost m_fitEnd m_keptPosts i_x0 f_all f_posts f_shut i_at (by first | with_reducible assumption | with_reducible rfl | omega | assumption | rfl) (by first | with_reducible assumption | with_reducible rfl | omega | assumption | rfl) (by first | with_reducible assumption | with_reducible rfl | omega | assumption | rfl) (by first | with_reducible assumption | with_reducible rfl | omega | assumption | rfl) (by first | with_reducible assumption | with_reducible rfl | omega | assumption | rfl)) (kV_RX12_205 C.2.2.2.2 (Nat.le_of_ble_eq_true rfl) (Nat.le_of_ble_eq_true rfl)) [4, 0, 1, 2] [3] rfl rfl (ci := 11) (qc := (RX12, TX12, 43)) rfl rfl (List.mem_flatten.mpr ⟨_, List.mem_of_getElem? (i := 0) rfl, List.mem_cons_self⟩) rfl rfl hl.1 dX12_stepsOn_16 (Nat.le_of_ble_eq_true rfl) (Nat.le_of_ble_eq_true rfl) (fun r_10 b1 H locs hw G => ?_)
    obtain ⟨g_posts_5, rfl, h_6, h_7, h_8, hc_9⟩ := hw
    have G : zS T A s.heap s [[(m_was, .inl (T.2 0, 7, .inl f_was))], [(mo, .inr (11, [.ref m_all, .ref m_has, .int i_size, .int i_next, .int i_where, .int i_token, .int i_number, .int i_word, .int i_wrong, .int i_farCrossing, .ref m_read, .int i_z0, .int i_crossings, .int i_inns, .ref m_posts, .ref m_shut, .ref m_here, .int i_steps, .int i_done, .int i_at, .int i_gone, .ref m_was, .ref m_came, .ref m_seenAt, .ref m_rowWorth, .ref m_farBy, .ref m_used, .int i_everywhere, .int i_again0, .int i_d0, .int i_never, .int i_firstCame, .int i_longRun, .int i_moved, .int i_crowd, .int i_l0, .int i_fitMany, .int i_fitLeast, .int i_fitMost, .ref m_fitPost, .ref m_fitEnd, .ref m_keptPosts, .int i_x0]))], [(m_all, .inl (T.2 0, 3952, .inl f_all))], [(m_posts, .inl (T.2 0, 7, .inl g_posts_5))], [(m_shut, .inl (T.2 0, 7, .inl f_shut))]] _ _ := G
    rcases hc_9 with ⟨rfl, h_11, h_12⟩ | ⟨rfl, h_13⟩
    · have h_11 : ¬ zTurn f_posts f_shut (zRo f_all i_z0) i_at = -1 := h_11
      have h_12 : 0 < (zRd f_all i_z0 i_at).toInt := h_12
      refine lv_if_ne (tgt := 24) hx hb dX12_stepsOn_19 (by decide) (fun _ => ?_) (fun q => absurd q (by decide))
      have hcl := z_clI (x := i_at) (by omega)
      have hpa : 0 ≤ (g_posts_5 i_at.toNatClampNeg).toInt ∧ (g_posts_5 i_at.toNatClampNeg).toInt ≤ 3 := (show zMP g_posts_5 by assumption) i_at.toNatClampNeg (by omega)
      have hb1 : ¬ zBit i_inns i_at = 1 := by assumption
      have hne : ¬ zTurn f_posts f_shut (zRo f_all i_z0) i_at = -1 := h_11
      have hgp : g_posts_5 i_at.toNatClampNeg = zTurn f_posts f_shut (zRo f_all i_z0) i_at := by rw [h_8]; unfold zPost; rw [if_neg hne]; exact z_eq rfl
      have hST : zStep f_posts f_shut (zWo f_all i_z0 i_inns) (zLo f_all i_z0) i_at = zLe f_all i_z0 i_at (g_posts_5 i_at.toNatClampNeg) := by unfold zStep; rw [zTurn_wo hb1 ha0 ha6, if_neg hne, hgp]; rfl
      refine lv_aload_n hx hb dX12_stepsOn_24 rfl (lv_at hl 0 rfl) ?_
      refine lv_aload_n hx hb dX12_stepsOn_25 rfl (lv_at hl 0 rfl) ?_
      refine lv_aload_n hx hb dX12_stepsOn_26 rfl (lv_at hl 0 rfl) ?_
      refine z_get C G clX12 1 rfl 19 (by decide) m_fl_RX12_202 rfl dX12_stepsOn_27 ?_
      refine lv_aload_n hx hb dX12_stepsOn_30 rfl (lv_at hl 0 rfl) ?_
      refine z_get C G clX12 1 rfl 14 (by decide) m_fl_RX12_20 rfl dX12_stepsOn_31 ?_
      refine lv_aload_n hx hb dX12_stepsOn_34 rfl (lv_at hl 0 rfl) ?_
      refine z_get C G clX12 1 rfl 19 (by decide) m_fl_RX12_202 rfl dX12_stepsOn_35 ?_
      refine z_ild C G 3 rfl (vp_in_iff.mpr ⟨by omega, by omega⟩) dX12_stepsOn_38 ?_
      refine lv_topi (fun v_14 ev_14 => ?_)
      subst ev_14
      refine z_Vi (bc := [[(mo, .inr (11, [.ref m_all, .ref m_has, .int i_size, .int i_next, .int i_where, .int i_token, .int i_number, .int i_word, .int i_wrong, .int i_farCrossing, .ref m_read, .int i_z0, .int i_crossings, .int i_inns, .ref m_posts, .ref m_shut, .ref m_here, .int i_steps, .int i_done, .int i_at, .int i_gone, .ref m_was, .ref m_came, .ref m_seenAt, .ref m_rowWorth, .ref m_farBy, .ref m_used, .int i_everywhere, .int i_again0, .int i_d0, .int i_never, .int i_firstCame, .int i_longRun, .int i_moved, .int i_crowd, .int i_l0, .int i_fitMany, .int i_fitLeast, .int i_fitMost, .ref m_fitPost, .ref m_fitEnd, .ref m_keptPosts, .int i_x0]))], [(m_all, .inl (T.2 0, 3952, .inl f_all))]]) (br := [[(m_was, .inl (T.2 0, 7, .inl f_was))], [(m_posts, .inl (T.2 0, 7, .inl g_posts_5))], [(m_shut, .inl (T.2 0, 7, .inl f_shut))]]) (As := [.int i_at, .int (g_posts_5 i_at.toNatClampNeg)]) (rest := [.ref mo]) C G (c_m_leadsTo l T mo m_all m_has i_size i_next i_where i_token i_number i_word i_wrong i_farCrossing m_read i_z0 i_crossings i_inns m_posts m_shut m_here i_steps i_done i_at i_gone m_was m_came m_seenAt m_rowWorth m_farBy m_used i_everywhere i_again0 i_d0 i_never i_firstCame i_longRun i_moved i_crowd i_l0 i_fitMany i_fitLeast i_fitMost m_fitPost m_fitEnd m_keptPosts i_x0 f_all i_at (g_posts_5 i_at.toNatClampNeg) (by first | with_reducible assumption | with_reducible rfl | omega | assumption | rfl) (by first | with_reducible assumption | with_reducible rfl | omega | assumption | rfl) (by first | with_reducible assumption | with_reducible rfl | omega | assumption | rfl) (by first | with_reducible assumption | with_reducible rfl | omega | assumption | rfl) (by first | with_reducible assumption | with_reducible rfl | omega | assumption | rfl)) (kV_RX12_190 C.2.2.2.2 (Nat.le_of_ble_eq_true rfl) (Nat.le_of_ble_eq_true rfl)) [1, 2] [0, 3, 4] rfl rfl (ci := 11) (qc := (RX12, TX12, 43)) rfl rfl (List.mem_flatten.mpr ⟨_, List.mem_of_getElem? (i := 0) rfl, List.mem_cons_self⟩) rfl rfl hl.1 dX12_stepsOn_39 (Nat.le_of_ble_eq_true rfl) (Nat.le_of_ble_eq_true rfl) (fun r_18 b1 H locs hw G => ?_)
      obtain ⟨rfl, h_15, h_16, h_17⟩ := hw
      have G : zS T A s.heap s [[(m_was, .inl (T.2 0, 7, .inl f_was))], [(m_posts, .inl (T.2 0, 7, .inl g_posts_5))], [(m_shut, .inl (T.2 0, 7, .inl f_shut))], [(mo, .inr (11, [.ref m_all, .ref m_has, .int i_size, .int i_next, .int i_where, .int i_token, .int i_number, .int i_word, .int i_wrong, .int i_farCrossing, .ref m_read, .int i_z0, .int i_crossings, .int i_inns, .ref m_posts, .ref m_shut, .ref m_here, .int i_steps, .int i_done, .int i_at, .int i_gone, .ref m_was, .ref m_came, .ref m_seenAt, .ref m_rowWorth, .ref m_farBy, .ref m_used, .int i_everywhere, .int i_again0, .int i_d0, .int i_never, .int i_firstCame, .int i_longRun, .int i_moved, .int i_crowd, .int i_l0, .int i_fitMany, .int i_fitLeast, .int i_fitMost, .ref m_fitPost, .ref m_fitEnd, .ref m_keptPosts, .int i_x0]))], [(m_all, .inl (T.2 0, 3952, .inl f_all))]] _ _ := G
      subst h_15
      refine z_put C G clX12 3 rfl 19 (by decide) m_fl_RX12_202 rfl rfl rfl (Nat.le_of_ble_eq_true rfl) dX12_stepsOn_42 (fun H locs G => ?_)
      have G : zS T A s.heap s [[(m_was, .inl (T.2 0, 7, .inl f_was))], [(m_posts, .inl (T.2 0, 7, .inl g_posts_5))], [(m_shut, .inl (T.2 0, 7, .inl f_shut))], [(mo, .inr (11, [.ref m_all, .ref m_has, .int i_size, .int i_next, .int i_where, .int i_token, .int i_number, .int i_word, .int i_wrong, .int i_farCrossing, .ref m_read, .int i_z0, .int i_crossings, .int i_inns, .ref m_posts, .ref m_shut, .ref m_here, .int i_steps, .int i_done, .int (zLe f_all i_z0 i_at (g_posts_5 i_at.toNatClampNeg)), .int i_gone, .ref m_was, .ref m_came, .ref m_seenAt, .ref m_rowWorth, .ref m_farBy, .ref m_used, .int i_everywhere, .int i_again0, .int i_d0, .int i_never, .int i_firstCame, .int i_longRun, .int i_moved, .int i_crowd, .int i_l0, .int i_fitMany, .int i_fitLeast, .int i_fitMost, .ref m_fitPost, .ref m_fitEnd, .ref m_keptPosts, .int i_x0]))], [(m_all, .inl (T.2 0, 3952, .inl f_all))]] _ _ := G
      refine lv_aload_n hx hb dX12_stepsOn_45 rfl (lv_at hl 0 rfl) ?_
      refine lv_dup hx hb dX12_stepsOn_46 rfl ?_
      refine z_get C G clX12 3 rfl 20 (by decide) m_fl_RX12_208 rfl dX12_stepsOn_47 ?_
      refine lv_iconst (v := 1) hx hb dX12_stepsOn_50 (by decide) ?_
      refine lv_iadd hx hb dX12_stepsOn_51 ?_
      refine lv_topi (fun y_19 ey_19 => ?_)
      have ey_19i : y_19.toInt = i_gone.toInt + (1 : Int) := by rw [ey_19]; exact z_iaddI (x := i_gone) (y := (1 : Int32)) (by show -2147483648 ≤ i_gone.toInt + (1 : Int); omega) (by show i_gone.toInt + (1 : Int) < 2147483648; omega)
      refine z_put C G clX12 3 rfl 20 (by decide) m_fl_RX12_208 rfl rfl rfl (Nat.le_of_ble_eq_true rfl) dX12_stepsOn_52 (fun H locs G => ?_)
      have G : zS T A s.heap s [[(m_was, .inl (T.2 0, 7, .inl f_was))], [(m_posts, .inl (T.2 0, 7, .inl g_posts_5))], [(m_shut, .inl (T.2 0, 7, .inl f_shut))], [(mo, .inr (11, [.ref m_all, .ref m_has, .int i_size, .int i_next, .int i_where, .int i_token, .int i_number, .int i_word, .int i_wrong, .int i_farCrossing, .ref m_read, .int i_z0, .int i_crossings, .int i_inns, .ref m_posts, .ref m_shut, .ref m_here, .int i_steps, .int i_done, .int (zLe f_all i_z0 i_at (g_posts_5 i_at.toNatClampNeg)), .int y_19, .ref m_was, .ref m_came, .ref m_seenAt, .ref m_rowWorth, .ref m_farBy, .ref m_used, .int i_everywhere, .int i_again0, .int i_d0, .int i_never, .int i_firstCame, .int i_longRun, .int i_moved, .int i_crowd, .int i_l0, .int i_fitMany, .int i_fitLeast, .int i_fitMost, .ref m_fitPost, .ref m_fitEnd, .ref m_keptPosts, .int i_x0]))], [(m_all, .inl (T.2 0, 3952, .inl f_all))]] _ _ := G
      refine lv_aload_n hx hb dX12_stepsOn_55 rfl (lv_at hl 0 rfl) ?_
      refine z_get C G clX12 3 rfl 21 (by decide) m_fl_RX12_29 rfl dX12_stepsOn_56 ?_
      refine lv_aload_n hx hb dX12_stepsOn_59 rfl (lv_at hl 0 rfl) ?_
      refine z_get C G clX12 3 rfl 19 (by decide) m_fl_RX12_202 rfl dX12_stepsOn_60 ?_
      refine lv_dup2_11 hx hb dX12_stepsOn_63 rfl rfl ?_
      refine z_ild C G 0 rfl (vp_in_iff.mpr ⟨by omega, by omega⟩) dX12_stepsOn_64 ?_
      refine lv_topi (fun v_20 ev_20 => ?_)
      subst ev_20
      refine lv_iconst (v := 1) hx hb dX12_stepsOn_65 (by decide) ?_
      refine lv_iadd hx hb dX12_stepsOn_66 ?_
      refine z_ist C G 0 rfl (vp_in_iff.mpr ⟨by omega, by omega⟩) dX12_stepsOn_67 (fun H locs G => ?_)
      have G : zS T A s.heap s [[(m_was, .inl (T.2 0, 7, .inl (upd f_was (zLe f_all i_z0 i_at (g_posts_5 i_at.toNatClampNeg)).toNatClampNeg ((f_was (zLe f_all i_z0 i_at (g_posts_5 i_at.toNatClampNeg)).toNatClampNeg) + 1))))], [(m_posts, .inl (T.2 0, 7, .inl g_posts_5))], [(m_shut, .inl (T.2 0, 7, .inl f_shut))], [(mo, .inr (11, [.ref m_all, .ref m_has, .int i_size, .int i_next, .int i_where, .int i_token, .int i_number, .int i_word, .int i_wrong, .int i_farCrossing, .ref m_read, .int i_z0, .int i_crossings, .int i_inns, .ref m_posts, .ref m_shut, .ref m_here, .int i_steps, .int i_done, .int (zLe f_all i_z0 i_at (g_posts_5 i_at.toNatClampNeg)), .int y_19, .ref m_was, .ref m_came, .ref m_seenAt, .ref m_rowWorth, .ref m_farBy, .ref m_used, .int i_everywhere, .int i_again0, .int i_d0, .int i_never, .int i_firstCame, .int i_longRun, .int i_moved, .int i_crowd, .int i_l0, .int i_fitMany, .int i_fitLeast, .int i_fitMost, .ref m_fitPost, .ref m_fitEnd, .ref m_keptPosts, .int i_x0]))], [(m_all, .inl (T.2 0, 3952, .inl f_all))]] _ _ := G
      refine lv_iconst (v := 1) hx hb dX12_stepsOn_68 (by decide) ?_
      have G := G.sub (bs' := [[(mo, .inr (11, [.ref m_all, .ref m_has, .int i_size, .int i_next, .int i_where, .int i_token, .int i_number, .int i_word, .int i_wrong, .int i_farCrossing, .ref m_read, .int i_z0, .int i_crossings, .int i_inns, .ref m_posts, .ref m_shut, .ref m_here, .int i_steps, .int i_done, .int (zLe f_all i_z0 i_at (g_posts_5 i_at.toNatClampNeg)), .int y_19, .ref m_was, .ref m_came, .ref m_seenAt, .ref m_rowWorth, .ref m_farBy, .ref m_used, .int i_everywhere, .int i_again0, .int i_d0, .int i_never, .int i_firstCame, .int i_longRun, .int i_moved, .int i_crowd, .int i_l0, .int i_fitMany, .int i_fitLeast, .int i_fitMost, .ref m_fitPost, .ref m_fitEnd, .ref m_keptPosts, .int i_x0]))], [(m_all, .inl (T.2 0, 3952, .inl f_all))], [(m_posts, .inl (T.2 0, 7, .inl g_posts_5))], [(m_shut, .inl (T.2 0, 7, .inl f_shut))], [(m_was, .inl (T.2 0, 7, .inl (upd f_was (zLe f_all i_z0 i_at (g_posts_5 i_at.toNatClampNeg)).toNatClampNeg ((f_was (zLe f_all i_z0 i_at (g_posts_5 i_at.toNatClampNeg)).toNatClampNeg) + 1))))]]) [3, 4, 1, 2, 0] rfl
      exact z_zret C hr hlocks G (Nat.le_of_ble_eq_true rfl) (Nat.le_of_ble_eq_true rfl) dX12_stepsOn_69 rfl ⟨(zLe f_all i_z0 i_at (g_posts_5 i_at.toNatClampNeg)), y_19, g_posts_5, (upd f_was (zLe f_all i_z0 i_at (g_posts_5 i_at.toNatClampNeg)).toNatClampNeg ((f_was (zLe f_all i_z0 i_at (g_posts_5 i_at.toNatClampNeg)).toNatClampNeg) + 1)), rfl, (by first | with_reducible assumption | omega | trivial | assumption), (by first | with_reducible assumption | omega | trivial | assumption), (by first | with_reducible assumption | omega | trivial | assumption), (by first | with_reducible assumption | omega | trivial | assumption), (h_8.trans (zPost_wo hb1 ha0 ha6).symm), (Or.inl (⟨rfl, (fun q8 => absurd (show (zLe f_all i_z0 i_at (g_posts_5 i_at.toNatClampNeg)).toInt = -1 from by rw [← hST, q8]; rfl) (by omega)), hST.symm, (by omega), rfl⟩))⟩
    · have h_13 : zTurn f_posts f_shut (zRo f_all i_z0) i_at = -1 := h_13
      refine lv_if_ne (tgt := 24) hx hb dX12_stepsOn_19 (by decide) (fun q => absurd (by decide) q) (fun _ => ?_)
      have hb1 : ¬ zBit i_inns i_at = 1 := by assumption
      have hT1 : zTurn f_posts f_shut (zWo f_all i_z0 i_inns) i_at = -1 := (zTurn_wo hb1 ha0 ha6).trans h_13
      have hp1 : g_posts_5 = zPost f_posts f_shut (zWo f_all i_z0 i_inns) i_at := h_8.trans (zPost_wo hb1 ha0 ha6).symm
      have hS1 : zStep f_posts f_shut (zWo f_all i_z0 i_inns) (zLo f_all i_z0) i_at = -1 := by unfold zStep; rw [if_pos hT1]
      refine lv_iconst (v := 0) hx hb dX12_stepsOn_22 (by decide) ?_
      have G := G.sub (bs' := [[(mo, .inr (11, [.ref m_all, .ref m_has, .int i_size, .int i_next, .int i_where, .int i_token, .int i_number, .int i_word, .int i_wrong, .int i_farCrossing, .ref m_read, .int i_z0, .int i_crossings, .int i_inns, .ref m_posts, .ref m_shut, .ref m_here, .int i_steps, .int i_done, .int i_at, .int i_gone, .ref m_was, .ref m_came, .ref m_seenAt, .ref m_rowWorth, .ref m_farBy, .ref m_used, .int i_everywhere, .int i_again0, .int i_d0, .int i_never, .int i_firstCame, .int i_longRun, .int i_moved, .int i_crowd, .int i_l0, .int i_fitMany, .int i_fitLeast, .int i_fitMost, .ref m_fitPost, .ref m_fitEnd, .ref m_keptPosts, .int i_x0]))], [(m_all, .inl (T.2 0, 3952, .inl f_all))], [(m_posts, .inl (T.2 0, 7, .inl g_posts_5))], [(m_shut, .inl (T.2 0, 7, .inl f_shut))], [(m_was, .inl (T.2 0, 7, .inl f_was))]]) [1, 2, 3, 4, 0] rfl
      exact z_zret C hr hlocks G (Nat.le_of_ble_eq_true rfl) (Nat.le_of_ble_eq_true rfl) dX12_stepsOn_23 rfl ⟨i_at, i_gone, g_posts_5, f_was, rfl, (by first | with_reducible assumption | omega | trivial | assumption), (by first | with_reducible assumption | omega | trivial | assumption), (by first | with_reducible assumption | omega | trivial | assumption), (by first | with_reducible assumption | omega | trivial | assumption), hp1, (Or.inr (⟨rfl, hS1, rfl, rfl, rfl⟩))⟩
def zOne (c : Int32) (j : Nat) : Int32 := if (j : Int) = c.toInt then 1 else 0
set_option maxHeartbeats 4000000 in
set_option maxRecDepth 100000 in
/-- puts -/
theorem c_fm_puts (l : Launch) (T : zTy) (mo : Nat) (m_all : Nat) (m_has : Nat) (i_size : Int32) (i_next : Int32) (i_where : Int32) (i_token : Int32) (i_number : Int32) (i_word : Int32) (i_wrong : Int32) (i_farCrossing : Int32) (m_read : Nat) (i_z0 : Int32) (i_crossings : Int32) (i_inns : Int32) (m_posts : Nat) (m_shut : Nat) (m_here : Nat) (i_steps : Int32) (i_done : Int32) (i_at : Int32) (i_gone : Int32) (m_was : Nat) (m_came : Nat) (m_seenAt : Nat) (m_rowWorth : Nat) (m_farBy : Nat) (m_used : Nat) (i_everywhere : Int32) (i_again0 : Int32) (i_d0 : Int32) (i_never : Int32) (i_firstCame : Int32) (i_longRun : Int32) (i_moved : Int32) (i_crowd : Int32) (i_l0 : Int32) (i_fitMany : Int32) (i_fitLeast : Int32) (i_fitMost : Int32) (m_fitPost : Nat) (m_fitEnd : Nat) (m_keptPosts : Nat) (i_x0 : Int32) (f_was : Nat → Int32) (c_ : Int32) : zMv l T yX12_puts cX12_puts 3 1 0 0 [.ref mo, .int c_] [[(mo, .inr (11, [.ref m_all, .ref m_has, .int i_size, .int i_next, .int i_where, .int i_token, .int i_number, .int i_word, .int i_wrong, .int i_farCrossing, .ref m_read, .int i_z0, .int i_crossings, .int i_inns, .ref m_posts, .ref m_shut, .ref m_here, .int i_steps, .int i_done, .int i_at, .int i_gone, .ref m_was, .ref m_came, .ref m_seenAt, .ref m_rowWorth, .ref m_farBy, .ref m_used, .int i_everywhere, .int i_again0, .int i_d0, .int i_never, .int i_firstCame, .int i_longRun, .int i_moved, .int i_crowd, .int i_l0, .int i_fitMany, .int i_fitLeast, .int i_fitMost, .ref m_fitPost, .ref m_fitEnd, .ref m_keptPosts, .int i_x0]))], [(m_was, .inl (T.2 0, 7, .inl f_was))]] (fun bs => ∃ (g_was : Nat → Int32), bs = [[(mo, .inr (11, [.ref m_all, .ref m_has, .int i_size, .int i_next, .int i_where, .int i_token, .int i_number, .int i_word, .int i_wrong, .int i_farCrossing, .ref m_read, .int i_z0, .int i_crossings, .int i_inns, .ref m_posts, .ref m_shut, .ref m_here, .int i_steps, .int i_done, .int c_, .int 0, .ref m_was, .ref m_came, .ref m_seenAt, .ref m_rowWorth, .ref m_farBy, .ref m_used, .int i_everywhere, .int i_again0, .int i_d0, .int i_never, .int i_firstCame, .int i_longRun, .int i_moved, .int i_crowd, .int i_l0, .int i_fitMany, .int i_fitLeast, .int i_fitMost, .ref m_fitPost, .ref m_fitEnd, .ref m_keptPosts, .int i_x0]))], [(m_was, .inl (T.2 0, 7, .inl g_was))]] ∧ (∀ j, j < 7 → g_was j = zOne c_ j)) := by
  refine zMv_of (own := RX12) (by decide) rfl (Nat.le_of_ble_eq_true rfl) ?_
  intro p e s m args below meth c A ls C hr hlocks hnm hAe G hl
  have hx := C.1
  have hb := C.2.1
  have hl : lv_has ls 3 [(0, .ref mo), (1, .int c_)] := hl
  refine lv_aload_n hx hb dX12_puts_0 rfl (lv_at hl 0 rfl) ?_
  refine lv_iload_n hx hb dX12_puts_1 rfl (lv_at hl 1 rfl) ?_
  refine z_put C G clX12 0 rfl 19 (by decide) m_fl_RX12_202 rfl rfl rfl (Nat.le_of_ble_eq_true rfl) dX12_puts_2 (fun H locs G => ?_)
  have G : zS T A s.heap s [[(mo, .inr (11, [.ref m_all, .ref m_has, .int i_size, .int i_next, .int i_where, .int i_token, .int i_number, .int i_word, .int i_wrong, .int i_farCrossing, .ref m_read, .int i_z0, .int i_crossings, .int i_inns, .ref m_posts, .ref m_shut, .ref m_here, .int i_steps, .int i_done, .int c_, .int i_gone, .ref m_was, .ref m_came, .ref m_seenAt, .ref m_rowWorth, .ref m_farBy, .ref m_used, .int i_everywhere, .int i_again0, .int i_d0, .int i_never, .int i_firstCame, .int i_longRun, .int i_moved, .int i_crowd, .int i_l0, .int i_fitMany, .int i_fitLeast, .int i_fitMost, .ref m_fitPost, .ref m_fitEnd, .ref m_keptPosts, .int i_x0]))], [(m_was, .inl (T.2 0, 7, .inl f_was))]] _ _ := G
  refine lv_aload_n hx hb dX12_puts_5 rfl (lv_at hl 0 rfl) ?_
  refine lv_iconst (v := 0) hx hb dX12_puts_6 (by decide) ?_
  refine z_put C G clX12 0 rfl 20 (by decide) m_fl_RX12_208 rfl rfl rfl (Nat.le_of_ble_eq_true rfl) dX12_puts_7 (fun H locs G => ?_)
  have G : zS T A s.heap s [[(mo, .inr (11, [.ref m_all, .ref m_has, .int i_size, .int i_next, .int i_where, .int i_token, .int i_number, .int i_word, .int i_wrong, .int i_farCrossing, .ref m_read, .int i_z0, .int i_crossings, .int i_inns, .ref m_posts, .ref m_shut, .ref m_here, .int i_steps, .int i_done, .int c_, .int 0, .ref m_was, .ref m_came, .ref m_seenAt, .ref m_rowWorth, .ref m_farBy, .ref m_used, .int i_everywhere, .int i_again0, .int i_d0, .int i_never, .int i_firstCame, .int i_longRun, .int i_moved, .int i_crowd, .int i_l0, .int i_fitMany, .int i_fitLeast, .int i_fitMost, .ref m_fitPost, .ref m_fitEnd, .ref m_keptPosts, .int i_x0]))], [(m_was, .inl (T.2 0, 7, .inl f_was))]] _ _ := G
  refine lv_iconst (v := 0) hx hb dX12_puts_10 (by decide) ?_
  refine lv_istore_n (lv' := [(2, .int 0), (0, .ref mo), (1, .int c_)]) hx hb dX12_puts_11 rfl hl (by decide) rfl (fun ls hl => ?_)
  refine z_loop (T := T) (α := Nat × (Nat → Int32)) 12 (fun (i, x) => [[(mo, .inr (11, [.ref m_all, .ref m_has, .int i_size, .int i_next, .int i_where, .int i_token, .int i_number, .int i_word, .int i_wrong, .int i_farCrossing, .ref m_read, .int i_z0, .int i_crossings, .int i_inns, .ref m_posts, .ref m_shut, .ref m_here, .int i_steps, .int i_done, .int c_, .int 0, .ref m_was, .ref m_came, .ref m_seenAt, .ref m_rowWorth, .ref m_farBy, .ref m_used, .int i_everywhere, .int i_again0, .int i_d0, .int i_never, .int i_firstCame, .int i_longRun, .int i_moved, .int i_crowd, .int i_l0, .int i_fitMany, .int i_fitLeast, .int i_fitMost, .ref m_fitPost, .ref m_fitEnd, .ref m_keptPosts, .int i_x0]))], [(m_was, .inl (T.2 0, 7, .inl x))]]) (fun (i, x) => [(2, .int (nI i)), (0, .ref mo), (1, .int c_)]) (fun (i, x) => i ≤ 7 ∧ (∀ j, j < i → x j = zOne c_ j)) (fun (i, x) => 7 - i) ?_ (0, f_was) (show 0 ≤ 7 ∧ (∀ j, j < 0 → f_was j = zOne c_ j) from ⟨by omega, fun j hj => absurd hj (by omega)⟩) G (lv_sub hl [0, 1, 2] rfl)
  rintro ⟨i, x⟩ ⟨hi, hW⟩ ih_12 H locs ls G hl
  replace hi : i ≤ 7 := hi
  replace hW : (∀ j, j < i → x j = zOne c_ j) := hW
  replace G : zS T A s.heap s [[(mo, .inr (11, [.ref m_all, .ref m_has, .int i_size, .int i_next, .int i_where, .int i_token, .int i_number, .int i_word, .int i_wrong, .int i_farCrossing, .ref m_read, .int i_z0, .int i_crossings, .int i_inns, .ref m_posts, .ref m_shut, .ref m_here, .int i_steps, .int i_done, .int c_, .int 0, .ref m_was, .ref m_came, .ref m_seenAt, .ref m_rowWorth, .ref m_farBy, .ref m_used, .int i_everywhere, .int i_again0, .int i_d0, .int i_never, .int i_firstCame, .int i_longRun, .int i_moved, .int i_crowd, .int i_l0, .int i_fitMany, .int i_fitLeast, .int i_fitMost, .ref m_fitPost, .ref m_fitEnd, .ref m_keptPosts, .int i_x0]))], [(m_was, .inl (T.2 0, 7, .inl x))]] _ _ := G
  replace hl : lv_has ls 3 [(2, .int (nI i)), (0, .ref mo), (1, .int c_)] := hl
  refine lv_iload_n hx hb dX12_puts_12 rfl (lv_at hl 0 rfl) ?_
  refine lv_bipush (v := 7) hx hb dX12_puts_13 (by decide) ?_
  refine lv_icmp_ge (tgt := 40) hx hb dX12_puts_15 (by decide) (fun c_1 => ?_) (fun c_1 => ?_)
  · have c_1n : 7 ≤ i := (nI_leI (a := 7) (b := i) (by omega) (by omega)).mp c_1
    exact z_vret C hr hlocks G (Nat.le_of_ble_eq_true rfl) (Nat.le_of_ble_eq_true rfl) dX12_puts_40 ⟨x, rfl, (fun j hj => hW j (by omega))⟩
  · have c_1n : ¬ 7 ≤ i := fun q => c_1 ((nI_leI (a := 7) (b := i) (by omega) (by omega)).mpr q)
    refine lv_aload_n hx hb dX12_puts_18 rfl (lv_at hl 1 rfl) ?_
    refine z_get C G clX12 0 rfl 21 (by decide) m_fl_RX12_29 rfl dX12_puts_19 ?_
    refine lv_iload_n hx hb dX12_puts_22 rfl (lv_at hl 0 rfl) ?_
    refine lv_iload_n hx hb dX12_puts_23 rfl (lv_at hl 0 rfl) ?_
    refine lv_iload_n hx hb dX12_puts_24 rfl (lv_at hl 2 rfl) ?_
    refine lv_icmp_ne (tgt := 32) hx hb dX12_puts_25 (by decide) (fun c_2 => ?_) (fun c_2 => ?_)
    · have c_2n : ¬ (i : Int) = c_.toInt := fun q => c_2 ((fa_eq _ _).mpr (by rw [nI_toInt (n := i) (by omega)]; exact q))
      refine lv_iconst (v := 0) hx hb dX12_puts_32 (by decide) ?_
      refine z_ist C G 1 rfl (vp_in_nI (by omega) (by omega)) dX12_puts_33 (fun H locs G => ?_)
      rw [nI_clamp (by omega)] at G
      have G : zS T A s.heap s [[(mo, .inr (11, [.ref m_all, .ref m_has, .int i_size, .int i_next, .int i_where, .int i_token, .int i_number, .int i_word, .int i_wrong, .int i_farCrossing, .ref m_read, .int i_z0, .int i_crossings, .int i_inns, .ref m_posts, .ref m_shut, .ref m_here, .int i_steps, .int i_done, .int c_, .int 0, .ref m_was, .ref m_came, .ref m_seenAt, .ref m_rowWorth, .ref m_farBy, .ref m_used, .int i_everywhere, .int i_again0, .int i_d0, .int i_never, .int i_firstCame, .int i_longRun, .int i_moved, .int i_crowd, .int i_l0, .int i_fitMany, .int i_fitLeast, .int i_fitMost, .ref m_fitPost, .ref m_fitEnd, .ref m_keptPosts, .int i_x0]))], [(m_was, .inl (T.2 0, 7, .inl (upd x i 0)))]] _ _ := G
      refine lv_iinc (v := nI (i + 1)) (lv' := [(2, .int (nI (i + 1))), (0, .ref mo), (1, .int c_)]) hx hb dX12_puts_34 hl (k := 0) rfl (z_inc i 1) (by decide) rfl (fun ls hl => ?_)
      refine lv_goto (tgt := 12) hx hb dX12_puts_37 (by decide) ?_
      exact ih_12 ((i + 1), (upd x i 0)) (show (i + 1) ≤ 7 ∧ (∀ j, j < (i + 1) → (upd x i 0) j = zOne c_ j) from ⟨by omega, (z_upS0 (f := zOne c_) hW (show (0 : Int32) = zOne c_ i from (if_neg (by omega)).symm))⟩) (show 7 - (i + 1) < 7 - i from by omega) _ _ ls G (lv_sub hl [0, 1, 2] rfl)
    · have c_2n : (i : Int) = c_.toInt := by have q := (fa_eq _ _).mp c_2; rw [nI_toInt (n := i) (by omega)] at q; exact q
      refine lv_iconst (v := 1) hx hb dX12_puts_28 (by decide) ?_
      refine lv_goto (tgt := 33) hx hb dX12_puts_29 (by decide) ?_
      refine z_ist C G 1 rfl (vp_in_nI (by omega) (by omega)) dX12_puts_33 (fun H locs G => ?_)
      rw [nI_clamp (by omega)] at G
      have G : zS T A s.heap s [[(mo, .inr (11, [.ref m_all, .ref m_has, .int i_size, .int i_next, .int i_where, .int i_token, .int i_number, .int i_word, .int i_wrong, .int i_farCrossing, .ref m_read, .int i_z0, .int i_crossings, .int i_inns, .ref m_posts, .ref m_shut, .ref m_here, .int i_steps, .int i_done, .int c_, .int 0, .ref m_was, .ref m_came, .ref m_seenAt, .ref m_rowWorth, .ref m_farBy, .ref m_used, .int i_everywhere, .int i_again0, .int i_d0, .int i_never, .int i_firstCame, .int i_longRun, .int i_moved, .int i_crowd, .int i_l0, .int i_fitMany, .int i_fitLeast, .int i_fitMost, .ref m_fitPost, .ref m_fitEnd, .ref m_keptPosts, .int i_x0]))], [(m_was, .inl (T.2 0, 7, .inl (upd x i 1)))]] _ _ := G
      refine lv_iinc (v := nI (i + 1)) (lv' := [(2, .int (nI (i + 1))), (0, .ref mo), (1, .int c_)]) hx hb dX12_puts_34 hl (k := 0) rfl (z_inc i 1) (by decide) rfl (fun ls hl => ?_)
      refine lv_goto (tgt := 12) hx hb dX12_puts_37 (by decide) ?_
      exact ih_12 ((i + 1), (upd x i 1)) (show (i + 1) ≤ 7 ∧ (∀ j, j < (i + 1) → (upd x i 1) j = zOne c_ j) from ⟨by omega, (z_upS0 (f := zOne c_) hW (show (1 : Int32) = zOne c_ i from (if_pos (by omega)).symm))⟩) (show 7 - (i + 1) < 7 - i from by omega) _ _ ls G (lv_sub hl [0, 1, 2] rfl)
set_option maxHeartbeats 4000000 in
set_option maxRecDepth 100000 in
/-- c_fm_walks -/
theorem c_fm_walks (l : Launch) (T : zTy) (mo : Nat) (m_all : Nat) (m_has : Nat) (i_size : Int32) (i_next : Int32) (i_where : Int32) (i_token : Int32) (i_number : Int32) (i_word : Int32) (i_wrong : Int32) (i_farCrossing : Int32) (m_read : Nat) (i_z0 : Int32) (i_crossings : Int32) (i_inns : Int32) (m_posts : Nat) (m_shut : Nat) (m_here : Nat) (i_steps : Int32) (i_done : Int32) (i_at : Int32) (i_gone : Int32) (m_was : Nat) (m_came : Nat) (m_seenAt : Nat) (m_rowWorth : Nat) (m_farBy : Nat) (m_used : Nat) (i_everywhere : Int32) (i_again0 : Int32) (i_d0 : Int32) (i_never : Int32) (i_firstCame : Int32) (i_longRun : Int32) (i_moved : Int32) (i_crowd : Int32) (i_l0 : Int32) (i_fitMany : Int32) (i_fitLeast : Int32) (i_fitMost : Int32) (m_fitPost : Nat) (m_fitEnd : Nat) (m_keptPosts : Nat) (i_x0 : Int32) (f_all : Nat → Int32) (f_posts : Nat → Int32) (f_shut : Nat → Int32) (f_was : Nat → Int32) (c_ : Int32) (hL : zML f_all i_z0 i_crossings) (hc0 : 0 ≤ c_.toInt) (hc6 : c_.toInt ≤ 6) (hV : zMV (zRo f_all i_z0) f_posts) (hP : zMP f_posts) : zMi l T yX12_walks cX12_walks 3 (some .boolean) 4 0 0 [.ref mo, .int c_] [[(mo, .inr (11, [.ref m_all, .ref m_has, .int i_size, .int i_next, .int i_where, .int i_token, .int i_number, .int i_word, .int i_wrong, .int i_farCrossing, .ref m_read, .int i_z0, .int i_crossings, .int i_inns, .ref m_posts, .ref m_shut, .ref m_here, .int i_steps, .int i_done, .int i_at, .int i_gone, .ref m_was, .ref m_came, .ref m_seenAt, .ref m_rowWorth, .ref m_farBy, .ref m_used, .int i_everywhere, .int i_again0, .int i_d0, .int i_never, .int i_firstCame, .int i_longRun, .int i_moved, .int i_crowd, .int i_l0, .int i_fitMany, .int i_fitLeast, .int i_fitMost, .ref m_fitPost, .ref m_fitEnd, .ref m_keptPosts, .int i_x0]))], [(m_all, .inl (T.2 0, 3952, .inl f_all))], [(m_posts, .inl (T.2 0, 7, .inl f_posts))], [(m_shut, .inl (T.2 0, 7, .inl f_shut))], [(m_was, .inl (T.2 0, 7, .inl f_was))]] (fun (r : Int32) bs => ∃ (j_at : Int32) (j_gone : Int32) (g_posts : Nat → Int32) (g_was : Nat → Int32), bs = [[(mo, .inr (11, [.ref m_all, .ref m_has, .int i_size, .int i_next, .int i_where, .int i_token, .int i_number, .int i_word, .int i_wrong, .int i_farCrossing, .ref m_read, .int i_z0, .int i_crossings, .int i_inns, .ref m_posts, .ref m_shut, .ref m_here, .int i_steps, .int i_done, .int j_at, .int j_gone, .ref m_was, .ref m_came, .ref m_seenAt, .ref m_rowWorth, .ref m_farBy, .ref m_used, .int i_everywhere, .int i_again0, .int i_d0, .int i_never, .int i_firstCame, .int i_longRun, .int i_moved, .int i_crowd, .int i_l0, .int i_fitMany, .int i_fitLeast, .int i_fitMost, .ref m_fitPost, .ref m_fitEnd, .ref m_keptPosts, .int i_x0]))], [(m_all, .inl (T.2 0, 3952, .inl f_all))], [(m_posts, .inl (T.2 0, 7, .inl g_posts))], [(m_shut, .inl (T.2 0, 7, .inl f_shut))], [(m_was, .inl (T.2 0, 7, .inl g_was))]] ∧ zMP g_posts ∧ zMV (zRo f_all i_z0) g_posts ∧ (0 ≤ j_at.toInt ∧ j_at.toInt ≤ 6) ∧ 0 ≤ j_gone.toInt ∧ j_gone.toInt ≤ 499 ∧ (r = 1 ∧ zBit i_inns j_at = 1 ∨ r = 0 ∧ ¬ zBit i_inns j_at = 1) ∧ g_posts = (zRunN f_shut (zWo f_all i_z0 i_inns) (zLo f_all i_z0) 499 f_posts c_ 0).1 ∧ j_at = (zRunN f_shut (zWo f_all i_z0 i_inns) (zLo f_all i_z0) 499 f_posts c_ 0).2.1 ∧ j_gone = nI (zRunN f_shut (zWo f_all i_z0 i_inns) (zLo f_all i_z0) 499 f_posts c_ 0).2.2 ∧ (∃ W0 : Nat → Int32, (∀ j, j < 7 → W0 j = zOne c_ j) ∧ g_was = zWasN f_shut (zWo f_all i_z0 i_inns) (zLo f_all i_z0) 499 f_posts c_ W0)) := by
  refine zMi_of (own := RX12) (by decide) rfl (Nat.le_of_ble_eq_true rfl) ?_
  intro p e s m args below meth c A ls C hr hlocks hnm hAe G hl
  have hx := C.1
  have hb := C.2.1
  have hl : lv_has ls 3 [(0, .ref mo), (1, .int c_)] := hl
  have hz := hL.1
  have hcr := hL.cr
  refine lv_aload_n hx hb dX12_walks_0 rfl (lv_at hl 0 rfl) ?_
  refine lv_iload_n hx hb dX12_walks_1 rfl (lv_at hl 1 rfl) ?_
  refine z_Vv (bc := [[(mo, .inr (11, [.ref m_all, .ref m_has, .int i_size, .int i_next, .int i_where, .int i_token, .int i_number, .int i_word, .int i_wrong, .int i_farCrossing, .ref m_read, .int i_z0, .int i_crossings, .int i_inns, .ref m_posts, .ref m_shut, .ref m_here, .int i_steps, .int i_done, .int i_at, .int i_gone, .ref m_was, .ref m_came, .ref m_seenAt, .ref m_rowWorth, .ref m_farBy, .ref m_used, .int i_everywhere, .int i_again0, .int i_d0, .int i_never, .int i_firstCame, .int i_longRun, .int i_moved, .int i_crowd, .int i_l0, .int i_fitMany, .int i_fitLeast, .int i_fitMost, .ref m_fitPost, .ref m_fitEnd, .ref m_keptPosts, .int i_x0]))], [(m_was, .inl (T.2 0, 7, .inl f_was))]]) (br := [[(m_all, .inl (T.2 0, 3952, .inl f_all))], [(m_posts, .inl (T.2 0, 7, .inl f_posts))], [(m_shut, .inl (T.2 0, 7, .inl f_shut))]]) (As := [.int c_]) (rest := []) C G (c_fm_puts l T mo m_all m_has i_size i_next i_where i_token i_number i_word i_wrong i_farCrossing m_read i_z0 i_crossings i_inns m_posts m_shut m_here i_steps i_done i_at i_gone m_was m_came m_seenAt m_rowWorth m_farBy m_used i_everywhere i_again0 i_d0 i_never i_firstCame i_longRun i_moved i_crowd i_l0 i_fitMany i_fitLeast i_fitMost m_fitPost m_fitEnd m_keptPosts i_x0 f_was c_) (kV_RX12_211 C.2.2.2.2 (Nat.le_of_ble_eq_true rfl) (Nat.le_of_ble_eq_true rfl)) [0, 4] [1, 2, 3] rfl rfl (ci := 11) (qc := (RX12, TX12, 43)) rfl rfl (List.mem_flatten.mpr ⟨_, List.mem_of_getElem? (i := 0) rfl, List.mem_cons_self⟩) rfl rfl hl.1 dX12_walks_2 (Nat.le_of_ble_eq_true rfl) (Nat.le_of_ble_eq_true rfl) (fun b1 H locs hw G => ?_)
  obtain ⟨g_was_1, rfl, h_2⟩ := hw
  have G : zS T A s.heap s [[(m_all, .inl (T.2 0, 3952, .inl f_all))], [(m_posts, .inl (T.2 0, 7, .inl f_posts))], [(m_shut, .inl (T.2 0, 7, .inl f_shut))], [(mo, .inr (11, [.ref m_all, .ref m_has, .int i_size, .int i_next, .int i_where, .int i_token, .int i_number, .int i_word, .int i_wrong, .int i_farCrossing, .ref m_read, .int i_z0, .int i_crossings, .int i_inns, .ref m_posts, .ref m_shut, .ref m_here, .int i_steps, .int i_done, .int c_, .int 0, .ref m_was, .ref m_came, .ref m_seenAt, .ref m_rowWorth, .ref m_farBy, .ref m_used, .int i_everywhere, .int i_again0, .int i_d0, .int i_never, .int i_firstCame, .int i_longRun, .int i_moved, .int i_crowd, .int i_l0, .int i_fitMany, .int i_fitLeast, .int i_fitMost, .ref m_fitPost, .ref m_fitEnd, .ref m_keptPosts, .int i_x0]))], [(m_was, .inl (T.2 0, 7, .inl g_was_1))]] _ _ := G
  refine lv_iconst (v := 1) hx hb dX12_walks_5 (by decide) ?_
  refine lv_istore_n (lv' := [(2, .int 1), (0, .ref mo), (1, .int c_)]) hx hb dX12_walks_6 rfl hl (by decide) rfl (fun ls hl => ?_)
  refine z_loop (T := T) (α := Int32 × Int32 × Int32 × (Nat → Int32) × (Nat → Int32)) 7 (fun (x, y, b, xp, xw) => [[(m_all, .inl (T.2 0, 3952, .inl f_all))], [(m_posts, .inl (T.2 0, 7, .inl xp))], [(m_shut, .inl (T.2 0, 7, .inl f_shut))], [(mo, .inr (11, [.ref m_all, .ref m_has, .int i_size, .int i_next, .int i_where, .int i_token, .int i_number, .int i_word, .int i_wrong, .int i_farCrossing, .ref m_read, .int i_z0, .int i_crossings, .int i_inns, .ref m_posts, .ref m_shut, .ref m_here, .int i_steps, .int i_done, .int x, .int y, .ref m_was, .ref m_came, .ref m_seenAt, .ref m_rowWorth, .ref m_farBy, .ref m_used, .int i_everywhere, .int i_again0, .int i_d0, .int i_never, .int i_firstCame, .int i_longRun, .int i_moved, .int i_crowd, .int i_l0, .int i_fitMany, .int i_fitLeast, .int i_fitMost, .ref m_fitPost, .ref m_fitEnd, .ref m_keptPosts, .int i_x0]))], [(m_was, .inl (T.2 0, 7, .inl xw))]]) (fun (x, y, b, xp, xw) => [(2, .int b), (0, .ref mo), (1, .int c_)]) (fun (x, y, b, xp, xw) => 0 ≤ x.toInt ∧ x.toInt ≤ 6 ∧ 0 ≤ y.toInt ∧ y.toInt ≤ 499 ∧ zMP xp ∧ zMV (zRo f_all i_z0) xp ∧ (0 ≤ b.toInt ∧ b.toInt ≤ 1) ∧ (b.toInt = 1 ∧ zRunN f_shut (zWo f_all i_z0 i_inns) (zLo f_all i_z0) 499 f_posts c_ 0 = zRunN f_shut (zWo f_all i_z0 i_inns) (zLo f_all i_z0) (499 - y.toInt.toNat) xp x y.toInt.toNat ∨ b.toInt = 0 ∧ zRunN f_shut (zWo f_all i_z0 i_inns) (zLo f_all i_z0) 499 f_posts c_ 0 = (xp, x, y.toInt.toNat)) ∧ (b.toInt = 1 ∧ zWasN f_shut (zWo f_all i_z0 i_inns) (zLo f_all i_z0) 499 f_posts c_ g_was_1 = zWasN f_shut (zWo f_all i_z0 i_inns) (zLo f_all i_z0) (499 - y.toInt.toNat) xp x xw ∨ b.toInt = 0 ∧ zWasN f_shut (zWo f_all i_z0 i_inns) (zLo f_all i_z0) 499 f_posts c_ g_was_1 = xw)) (fun (x, y, b, xp, xw) => (499 - y.toInt).toNat + b.toInt.toNat) ?_ (c_, 0, 1, f_posts, g_was_1) (show 0 ≤ c_.toInt ∧ c_.toInt ≤ 6 ∧ 0 ≤ (0 : Int32).toInt ∧ (0 : Int32).toInt ≤ 499 ∧ zMP f_posts ∧ zMV (zRo f_all i_z0) f_posts ∧ (0 ≤ (1 : Int32).toInt ∧ (1 : Int32).toInt ≤ 1) ∧ ((1 : Int32).toInt = 1 ∧ zRunN f_shut (zWo f_all i_z0 i_inns) (zLo f_all i_z0) 499 f_posts c_ 0 = zRunN f_shut (zWo f_all i_z0 i_inns) (zLo f_all i_z0) (499 - (0 : Int32).toInt.toNat) f_posts c_ (0 : Int32).toInt.toNat ∨ (1 : Int32).toInt = 0 ∧ zRunN f_shut (zWo f_all i_z0 i_inns) (zLo f_all i_z0) 499 f_posts c_ 0 = (f_posts, c_, (0 : Int32).toInt.toNat)) ∧ ((1 : Int32).toInt = 1 ∧ zWasN f_shut (zWo f_all i_z0 i_inns) (zLo f_all i_z0) 499 f_posts c_ g_was_1 = zWasN f_shut (zWo f_all i_z0 i_inns) (zLo f_all i_z0) (499 - (0 : Int32).toInt.toNat) f_posts c_ g_was_1 ∨ (1 : Int32).toInt = 0 ∧ zWasN f_shut (zWo f_all i_z0 i_inns) (zLo f_all i_z0) 499 f_posts c_ g_was_1 = g_was_1) from ⟨by omega, by omega, by decide, by decide, hP, hV, by decide, (Or.inl ⟨by decide, rfl⟩), (Or.inl ⟨by decide, rfl⟩)⟩) G (lv_sub hl [0, 1, 2] rfl)
  rintro ⟨x, y, b, xp, xw⟩ ⟨hx0, hx6, hy0, hy9, hQ, hVx, hb0, hR, hW9⟩ ih_7 H locs ls G hl
  replace hx0 : 0 ≤ x.toInt := hx0
  replace hx6 : x.toInt ≤ 6 := hx6
  replace hy0 : 0 ≤ y.toInt := hy0
  replace hy9 : y.toInt ≤ 499 := hy9
  replace hQ : zMP xp := hQ
  replace hVx : zMV (zRo f_all i_z0) xp := hVx
  replace hb0 : (0 ≤ b.toInt ∧ b.toInt ≤ 1) := hb0
  replace hR : (b.toInt = 1 ∧ zRunN f_shut (zWo f_all i_z0 i_inns) (zLo f_all i_z0) 499 f_posts c_ 0 = zRunN f_shut (zWo f_all i_z0 i_inns) (zLo f_all i_z0) (499 - y.toInt.toNat) xp x y.toInt.toNat ∨ b.toInt = 0 ∧ zRunN f_shut (zWo f_all i_z0 i_inns) (zLo f_all i_z0) 499 f_posts c_ 0 = (xp, x, y.toInt.toNat)) := hR
  replace hW9 : (b.toInt = 1 ∧ zWasN f_shut (zWo f_all i_z0 i_inns) (zLo f_all i_z0) 499 f_posts c_ g_was_1 = zWasN f_shut (zWo f_all i_z0 i_inns) (zLo f_all i_z0) (499 - y.toInt.toNat) xp x xw ∨ b.toInt = 0 ∧ zWasN f_shut (zWo f_all i_z0 i_inns) (zLo f_all i_z0) 499 f_posts c_ g_was_1 = xw) := hW9
  replace G : zS T A s.heap s [[(m_all, .inl (T.2 0, 3952, .inl f_all))], [(m_posts, .inl (T.2 0, 7, .inl xp))], [(m_shut, .inl (T.2 0, 7, .inl f_shut))], [(mo, .inr (11, [.ref m_all, .ref m_has, .int i_size, .int i_next, .int i_where, .int i_token, .int i_number, .int i_word, .int i_wrong, .int i_farCrossing, .ref m_read, .int i_z0, .int i_crossings, .int i_inns, .ref m_posts, .ref m_shut, .ref m_here, .int i_steps, .int i_done, .int x, .int y, .ref m_was, .ref m_came, .ref m_seenAt, .ref m_rowWorth, .ref m_farBy, .ref m_used, .int i_everywhere, .int i_again0, .int i_d0, .int i_never, .int i_firstCame, .int i_longRun, .int i_moved, .int i_crowd, .int i_l0, .int i_fitMany, .int i_fitLeast, .int i_fitMost, .ref m_fitPost, .ref m_fitEnd, .ref m_keptPosts, .int i_x0]))], [(m_was, .inl (T.2 0, 7, .inl xw))]] _ _ := G
  replace hl : lv_has ls 3 [(2, .int b), (0, .ref mo), (1, .int c_)] := hl
  refine lv_aload_n hx hb dX12_walks_7 rfl (lv_at hl 1 rfl) ?_
  refine z_get C G clX12 3 rfl 20 (by decide) m_fl_RX12_208 rfl dX12_walks_8 ?_
  refine lv_sipush (v := 499) hx hb dX12_walks_11 (by decide) ?_
  refine lv_icmp_ge (tgt := 29) hx hb dX12_walks_14 (by decide) (fun c_4 => ?_) (fun c_4 => ?_)
  · have c_4n : (499 : Int) ≤ y.toInt := (fa_le _ _).mp c_4
    have hE : zRunN f_shut (zWo f_all i_z0 i_inns) (zLo f_all i_z0) 499 f_posts c_ 0 = (xp, x, y.toInt.toNat) := by rcases hR with ⟨q8, e8⟩ | ⟨q8, e8⟩ <;> first | exact e8 | (exfalso; omega) | (rw [e8, show 499 - y.toInt.toNat = 0 by omega]; rfl)
    have hF : zWasN f_shut (zWo f_all i_z0 i_inns) (zLo f_all i_z0) 499 f_posts c_ g_was_1 = xw := by rcases hW9 with ⟨q8, e8⟩ | ⟨q8, e8⟩ <;> first | exact e8 | (exfalso; omega) | (rw [e8, show 499 - y.toInt.toNat = 0 by omega]; rfl)
    refine lv_aload_n hx hb dX12_walks_29 rfl (lv_at hl 1 rfl) ?_
    refine lv_aload_n hx hb dX12_walks_30 rfl (lv_at hl 1 rfl) ?_
    refine z_get C G clX12 3 rfl 19 (by decide) m_fl_RX12_202 rfl dX12_walks_31 ?_
    refine z_Vi (bc := [[(mo, .inr (11, [.ref m_all, .ref m_has, .int i_size, .int i_next, .int i_where, .int i_token, .int i_number, .int i_word, .int i_wrong, .int i_farCrossing, .ref m_read, .int i_z0, .int i_crossings, .int i_inns, .ref m_posts, .ref m_shut, .ref m_here, .int i_steps, .int i_done, .int x, .int y, .ref m_was, .ref m_came, .ref m_seenAt, .ref m_rowWorth, .ref m_farBy, .ref m_used, .int i_everywhere, .int i_again0, .int i_d0, .int i_never, .int i_firstCame, .int i_longRun, .int i_moved, .int i_crowd, .int i_l0, .int i_fitMany, .int i_fitLeast, .int i_fitMost, .ref m_fitPost, .ref m_fitEnd, .ref m_keptPosts, .int i_x0]))]]) (br := [[(m_all, .inl (T.2 0, 3952, .inl f_all))], [(m_posts, .inl (T.2 0, 7, .inl xp))], [(m_shut, .inl (T.2 0, 7, .inl f_shut))], [(m_was, .inl (T.2 0, 7, .inl xw))]]) (As := [.int x]) (rest := []) C G (c_m_isInn l T mo m_all m_has i_size i_next i_where i_token i_number i_word i_wrong i_farCrossing m_read i_z0 i_crossings i_inns m_posts m_shut m_here i_steps i_done x y m_was m_came m_seenAt m_rowWorth m_farBy m_used i_everywhere i_again0 i_d0 i_never i_firstCame i_longRun i_moved i_crowd i_l0 i_fitMany i_fitLeast i_fitMost m_fitPost m_fitEnd m_keptPosts i_x0 x) (kV_RX12_178 C.2.2.2.2 (Nat.le_of_ble_eq_true rfl) (Nat.le_of_ble_eq_true rfl)) [3] [0, 1, 2, 4] rfl rfl (ci := 11) (qc := (RX12, TX12, 43)) rfl rfl (List.mem_flatten.mpr ⟨_, List.mem_of_getElem? (i := 0) rfl, List.mem_cons_self⟩) rfl rfl hl.1 dX12_walks_34 (Nat.le_of_ble_eq_true rfl) (Nat.le_of_ble_eq_true rfl) (fun r_6 b1 H locs hw G => ?_)
    obtain ⟨rfl, hc_5⟩ := hw
    have G : zS T A s.heap s [[(m_all, .inl (T.2 0, 3952, .inl f_all))], [(m_posts, .inl (T.2 0, 7, .inl xp))], [(m_shut, .inl (T.2 0, 7, .inl f_shut))], [(m_was, .inl (T.2 0, 7, .inl xw))], [(mo, .inr (11, [.ref m_all, .ref m_has, .int i_size, .int i_next, .int i_where, .int i_token, .int i_number, .int i_word, .int i_wrong, .int i_farCrossing, .ref m_read, .int i_z0, .int i_crossings, .int i_inns, .ref m_posts, .ref m_shut, .ref m_here, .int i_steps, .int i_done, .int x, .int y, .ref m_was, .ref m_came, .ref m_seenAt, .ref m_rowWorth, .ref m_farBy, .ref m_used, .int i_everywhere, .int i_again0, .int i_d0, .int i_never, .int i_firstCame, .int i_longRun, .int i_moved, .int i_crowd, .int i_l0, .int i_fitMany, .int i_fitLeast, .int i_fitMost, .ref m_fitPost, .ref m_fitEnd, .ref m_keptPosts, .int i_x0]))]] _ _ := G
    rcases hc_5 with ⟨rfl, h_7⟩ | ⟨rfl, h_8⟩
    · have h_7 : zInn i_inns x := h_7
      have G := G.sub (bs' := [[(mo, .inr (11, [.ref m_all, .ref m_has, .int i_size, .int i_next, .int i_where, .int i_token, .int i_number, .int i_word, .int i_wrong, .int i_farCrossing, .ref m_read, .int i_z0, .int i_crossings, .int i_inns, .ref m_posts, .ref m_shut, .ref m_here, .int i_steps, .int i_done, .int x, .int y, .ref m_was, .ref m_came, .ref m_seenAt, .ref m_rowWorth, .ref m_farBy, .ref m_used, .int i_everywhere, .int i_again0, .int i_d0, .int i_never, .int i_firstCame, .int i_longRun, .int i_moved, .int i_crowd, .int i_l0, .int i_fitMany, .int i_fitLeast, .int i_fitMost, .ref m_fitPost, .ref m_fitEnd, .ref m_keptPosts, .int i_x0]))], [(m_all, .inl (T.2 0, 3952, .inl f_all))], [(m_posts, .inl (T.2 0, 7, .inl xp))], [(m_shut, .inl (T.2 0, 7, .inl f_shut))], [(m_was, .inl (T.2 0, 7, .inl xw))]]) [4, 0, 1, 2, 3] rfl
      exact z_zret C hr hlocks G (Nat.le_of_ble_eq_true rfl) (Nat.le_of_ble_eq_true rfl) dX12_walks_37 rfl ⟨x, y, xp, xw, rfl, (by assumption), (by assumption), (by first | with_reducible assumption | omega | trivial | assumption), (by first | with_reducible assumption | omega | trivial | assumption), (by first | with_reducible assumption | omega | trivial | assumption), (Or.inl ⟨rfl, by assumption⟩), (by rw [hE]), (by rw [hE]), (by rw [hE]; exact z_nI (x := y) (m := y.toInt.toNat) (by omega) (by omega)), ⟨g_was_1, h_2, hF.symm⟩⟩
    · have h_8 : ¬ zInn i_inns x := h_8
      have G := G.sub (bs' := [[(mo, .inr (11, [.ref m_all, .ref m_has, .int i_size, .int i_next, .int i_where, .int i_token, .int i_number, .int i_word, .int i_wrong, .int i_farCrossing, .ref m_read, .int i_z0, .int i_crossings, .int i_inns, .ref m_posts, .ref m_shut, .ref m_here, .int i_steps, .int i_done, .int x, .int y, .ref m_was, .ref m_came, .ref m_seenAt, .ref m_rowWorth, .ref m_farBy, .ref m_used, .int i_everywhere, .int i_again0, .int i_d0, .int i_never, .int i_firstCame, .int i_longRun, .int i_moved, .int i_crowd, .int i_l0, .int i_fitMany, .int i_fitLeast, .int i_fitMost, .ref m_fitPost, .ref m_fitEnd, .ref m_keptPosts, .int i_x0]))], [(m_all, .inl (T.2 0, 3952, .inl f_all))], [(m_posts, .inl (T.2 0, 7, .inl xp))], [(m_shut, .inl (T.2 0, 7, .inl f_shut))], [(m_was, .inl (T.2 0, 7, .inl xw))]]) [4, 0, 1, 2, 3] rfl
      exact z_zret C hr hlocks G (Nat.le_of_ble_eq_true rfl) (Nat.le_of_ble_eq_true rfl) dX12_walks_37 rfl ⟨x, y, xp, xw, rfl, (by assumption), (by assumption), (by first | with_reducible assumption | omega | trivial | assumption), (by first | with_reducible assumption | omega | trivial | assumption), (by first | with_reducible assumption | omega | trivial | assumption), (Or.inr ⟨rfl, by assumption⟩), (by rw [hE]), (by rw [hE]), (by rw [hE]; exact z_nI (x := y) (m := y.toInt.toNat) (by omega) (by omega)), ⟨g_was_1, h_2, hF.symm⟩⟩
  · have c_4n : ¬ (499 : Int) ≤ y.toInt := fun q => c_4 ((fa_le _ _).mpr q)
    refine lv_iload_n hx hb dX12_walks_17 rfl (lv_at hl 0 rfl) ?_
    refine lv_if_eq (tgt := 29) hx hb dX12_walks_18 (by decide) (fun c_9 => ?_) (fun c_9 => ?_)
    · have c_9n : b.toInt = (0 : Int) := (fa_eq _ _).mp c_9
      have hE : zRunN f_shut (zWo f_all i_z0 i_inns) (zLo f_all i_z0) 499 f_posts c_ 0 = (xp, x, y.toInt.toNat) := by rcases hR with ⟨q8, e8⟩ | ⟨q8, e8⟩ <;> first | exact e8 | (exfalso; omega) | (rw [e8, show 499 - y.toInt.toNat = 0 by omega]; rfl)
      have hF : zWasN f_shut (zWo f_all i_z0 i_inns) (zLo f_all i_z0) 499 f_posts c_ g_was_1 = xw := by rcases hW9 with ⟨q8, e8⟩ | ⟨q8, e8⟩ <;> first | exact e8 | (exfalso; omega) | (rw [e8, show 499 - y.toInt.toNat = 0 by omega]; rfl)
      refine lv_aload_n hx hb dX12_walks_29 rfl (lv_at hl 1 rfl) ?_
      refine lv_aload_n hx hb dX12_walks_30 rfl (lv_at hl 1 rfl) ?_
      refine z_get C G clX12 3 rfl 19 (by decide) m_fl_RX12_202 rfl dX12_walks_31 ?_
      refine z_Vi (bc := [[(mo, .inr (11, [.ref m_all, .ref m_has, .int i_size, .int i_next, .int i_where, .int i_token, .int i_number, .int i_word, .int i_wrong, .int i_farCrossing, .ref m_read, .int i_z0, .int i_crossings, .int i_inns, .ref m_posts, .ref m_shut, .ref m_here, .int i_steps, .int i_done, .int x, .int y, .ref m_was, .ref m_came, .ref m_seenAt, .ref m_rowWorth, .ref m_farBy, .ref m_used, .int i_everywhere, .int i_again0, .int i_d0, .int i_never, .int i_firstCame, .int i_longRun, .int i_moved, .int i_crowd, .int i_l0, .int i_fitMany, .int i_fitLeast, .int i_fitMost, .ref m_fitPost, .ref m_fitEnd, .ref m_keptPosts, .int i_x0]))]]) (br := [[(m_all, .inl (T.2 0, 3952, .inl f_all))], [(m_posts, .inl (T.2 0, 7, .inl xp))], [(m_shut, .inl (T.2 0, 7, .inl f_shut))], [(m_was, .inl (T.2 0, 7, .inl xw))]]) (As := [.int x]) (rest := []) C G (c_m_isInn l T mo m_all m_has i_size i_next i_where i_token i_number i_word i_wrong i_farCrossing m_read i_z0 i_crossings i_inns m_posts m_shut m_here i_steps i_done x y m_was m_came m_seenAt m_rowWorth m_farBy m_used i_everywhere i_again0 i_d0 i_never i_firstCame i_longRun i_moved i_crowd i_l0 i_fitMany i_fitLeast i_fitMost m_fitPost m_fitEnd m_keptPosts i_x0 x) (kV_RX12_178 C.2.2.2.2 (Nat.le_of_ble_eq_true rfl) (Nat.le_of_ble_eq_true rfl)) [3] [0, 1, 2, 4] rfl rfl (ci := 11) (qc := (RX12, TX12, 43)) rfl rfl (List.mem_flatten.mpr ⟨_, List.mem_of_getElem? (i := 0) rfl, List.mem_cons_self⟩) rfl rfl hl.1 dX12_walks_34 (Nat.le_of_ble_eq_true rfl) (Nat.le_of_ble_eq_true rfl) (fun r_11 b1 H locs hw G => ?_)
      obtain ⟨rfl, hc_10⟩ := hw
      have G : zS T A s.heap s [[(m_all, .inl (T.2 0, 3952, .inl f_all))], [(m_posts, .inl (T.2 0, 7, .inl xp))], [(m_shut, .inl (T.2 0, 7, .inl f_shut))], [(m_was, .inl (T.2 0, 7, .inl xw))], [(mo, .inr (11, [.ref m_all, .ref m_has, .int i_size, .int i_next, .int i_where, .int i_token, .int i_number, .int i_word, .int i_wrong, .int i_farCrossing, .ref m_read, .int i_z0, .int i_crossings, .int i_inns, .ref m_posts, .ref m_shut, .ref m_here, .int i_steps, .int i_done, .int x, .int y, .ref m_was, .ref m_came, .ref m_seenAt, .ref m_rowWorth, .ref m_farBy, .ref m_used, .int i_everywhere, .int i_again0, .int i_d0, .int i_never, .int i_firstCame, .int i_longRun, .int i_moved, .int i_crowd, .int i_l0, .int i_fitMany, .int i_fitLeast, .int i_fitMost, .ref m_fitPost, .ref m_fitEnd, .ref m_keptPosts, .int i_x0]))]] _ _ := G
      rcases hc_10 with ⟨rfl, h_12⟩ | ⟨rfl, h_13⟩
      · have h_12 : zInn i_inns x := h_12
        have G := G.sub (bs' := [[(mo, .inr (11, [.ref m_all, .ref m_has, .int i_size, .int i_next, .int i_where, .int i_token, .int i_number, .int i_word, .int i_wrong, .int i_farCrossing, .ref m_read, .int i_z0, .int i_crossings, .int i_inns, .ref m_posts, .ref m_shut, .ref m_here, .int i_steps, .int i_done, .int x, .int y, .ref m_was, .ref m_came, .ref m_seenAt, .ref m_rowWorth, .ref m_farBy, .ref m_used, .int i_everywhere, .int i_again0, .int i_d0, .int i_never, .int i_firstCame, .int i_longRun, .int i_moved, .int i_crowd, .int i_l0, .int i_fitMany, .int i_fitLeast, .int i_fitMost, .ref m_fitPost, .ref m_fitEnd, .ref m_keptPosts, .int i_x0]))], [(m_all, .inl (T.2 0, 3952, .inl f_all))], [(m_posts, .inl (T.2 0, 7, .inl xp))], [(m_shut, .inl (T.2 0, 7, .inl f_shut))], [(m_was, .inl (T.2 0, 7, .inl xw))]]) [4, 0, 1, 2, 3] rfl
        exact z_zret C hr hlocks G (Nat.le_of_ble_eq_true rfl) (Nat.le_of_ble_eq_true rfl) dX12_walks_37 rfl ⟨x, y, xp, xw, rfl, (by assumption), (by assumption), (by first | with_reducible assumption | omega | trivial | assumption), (by first | with_reducible assumption | omega | trivial | assumption), (by first | with_reducible assumption | omega | trivial | assumption), (Or.inl ⟨rfl, by assumption⟩), (by rw [hE]), (by rw [hE]), (by rw [hE]; exact z_nI (x := y) (m := y.toInt.toNat) (by omega) (by omega)), ⟨g_was_1, h_2, hF.symm⟩⟩
      · have h_13 : ¬ zInn i_inns x := h_13
        have G := G.sub (bs' := [[(mo, .inr (11, [.ref m_all, .ref m_has, .int i_size, .int i_next, .int i_where, .int i_token, .int i_number, .int i_word, .int i_wrong, .int i_farCrossing, .ref m_read, .int i_z0, .int i_crossings, .int i_inns, .ref m_posts, .ref m_shut, .ref m_here, .int i_steps, .int i_done, .int x, .int y, .ref m_was, .ref m_came, .ref m_seenAt, .ref m_rowWorth, .ref m_farBy, .ref m_used, .int i_everywhere, .int i_again0, .int i_d0, .int i_never, .int i_firstCame, .int i_longRun, .int i_moved, .int i_crowd, .int i_l0, .int i_fitMany, .int i_fitLeast, .int i_fitMost, .ref m_fitPost, .ref m_fitEnd, .ref m_keptPosts, .int i_x0]))], [(m_all, .inl (T.2 0, 3952, .inl f_all))], [(m_posts, .inl (T.2 0, 7, .inl xp))], [(m_shut, .inl (T.2 0, 7, .inl f_shut))], [(m_was, .inl (T.2 0, 7, .inl xw))]]) [4, 0, 1, 2, 3] rfl
        exact z_zret C hr hlocks G (Nat.le_of_ble_eq_true rfl) (Nat.le_of_ble_eq_true rfl) dX12_walks_37 rfl ⟨x, y, xp, xw, rfl, (by assumption), (by assumption), (by first | with_reducible assumption | omega | trivial | assumption), (by first | with_reducible assumption | omega | trivial | assumption), (by first | with_reducible assumption | omega | trivial | assumption), (Or.inr ⟨rfl, by assumption⟩), (by rw [hE]), (by rw [hE]), (by rw [hE]; exact z_nI (x := y) (m := y.toInt.toNat) (by omega) (by omega)), ⟨g_was_1, h_2, hF.symm⟩⟩
    · have c_9n : ¬ b.toInt = (0 : Int) := fun q => c_9 ((fa_eq _ _).mpr q)
      refine lv_aload_n hx hb dX12_walks_21 rfl (lv_at hl 1 rfl) ?_
      refine z_Vi (bc := [[(mo, .inr (11, [.ref m_all, .ref m_has, .int i_size, .int i_next, .int i_where, .int i_token, .int i_number, .int i_word, .int i_wrong, .int i_farCrossing, .ref m_read, .int i_z0, .int i_crossings, .int i_inns, .ref m_posts, .ref m_shut, .ref m_here, .int i_steps, .int i_done, .int x, .int y, .ref m_was, .ref m_came, .ref m_seenAt, .ref m_rowWorth, .ref m_farBy, .ref m_used, .int i_everywhere, .int i_again0, .int i_d0, .int i_never, .int i_firstCame, .int i_longRun, .int i_moved, .int i_crowd, .int i_l0, .int i_fitMany, .int i_fitLeast, .int i_fitMost, .ref m_fitPost, .ref m_fitEnd, .ref m_keptPosts, .int i_x0]))], [(m_all, .inl (T.2 0, 3952, .inl f_all))], [(m_posts, .inl (T.2 0, 7, .inl xp))], [(m_shut, .inl (T.2 0, 7, .inl f_shut))], [(m_was, .inl (T.2 0, 7, .inl xw))]]) (br := []) (As := []) (rest := []) C G (c_fm_stepsOn l T mo m_all m_has i_size i_next i_where i_token i_number i_word i_wrong i_farCrossing m_read i_z0 i_crossings i_inns m_posts m_shut m_here i_steps i_done x y m_was m_came m_seenAt m_rowWorth m_farBy m_used i_everywhere i_again0 i_d0 i_never i_firstCame i_longRun i_moved i_crowd i_l0 i_fitMany i_fitLeast i_fitMost m_fitPost m_fitEnd m_keptPosts i_x0 f_all xp f_shut xw (by first | with_reducible assumption | with_reducible rfl | omega | assumption | rfl) (by first | with_reducible assumption | with_reducible rfl | omega | assumption | rfl) (by first | with_reducible assumption | with_reducible rfl | omega | assumption | rfl) (by first | with_reducible assumption | with_reducible rfl | omega | assumption | rfl) (by first | with_reducible assumption | with_reducible rfl | omega | assumption | rfl) (by first | with_reducible assumption | with_reducible rfl | omega | assumption | rfl) (by first | with_reducible assumption | with_reducible rfl | omega | assumption | rfl)) (kV_RX12_214 C.2.2.2.2 (Nat.le_of_ble_eq_true rfl) (Nat.le_of_ble_eq_true rfl)) [3, 0, 1, 2, 4] [] rfl rfl (ci := 11) (qc := (RX12, TX12, 43)) rfl rfl (List.mem_flatten.mpr ⟨_, List.mem_of_getElem? (i := 0) rfl, List.mem_cons_self⟩) rfl rfl hl.1 dX12_walks_22 (Nat.le_of_ble_eq_true rfl) (Nat.le_of_ble_eq_true rfl) (fun r_24 b1 H locs hw G => ?_)
      obtain ⟨j_at_14, j_gone_15, g_posts_16, g_was_17, rfl, h_18, h_19, h_20, h_21, h_22, hc_23⟩ := hw
      have G : zS T A s.heap s [[(mo, .inr (11, [.ref m_all, .ref m_has, .int i_size, .int i_next, .int i_where, .int i_token, .int i_number, .int i_word, .int i_wrong, .int i_farCrossing, .ref m_read, .int i_z0, .int i_crossings, .int i_inns, .ref m_posts, .ref m_shut, .ref m_here, .int i_steps, .int i_done, .int j_at_14, .int j_gone_15, .ref m_was, .ref m_came, .ref m_seenAt, .ref m_rowWorth, .ref m_farBy, .ref m_used, .int i_everywhere, .int i_again0, .int i_d0, .int i_never, .int i_firstCame, .int i_longRun, .int i_moved, .int i_crowd, .int i_l0, .int i_fitMany, .int i_fitLeast, .int i_fitMost, .ref m_fitPost, .ref m_fitEnd, .ref m_keptPosts, .int i_x0]))], [(m_all, .inl (T.2 0, 3952, .inl f_all))], [(m_posts, .inl (T.2 0, 7, .inl g_posts_16))], [(m_shut, .inl (T.2 0, 7, .inl f_shut))], [(m_was, .inl (T.2 0, 7, .inl g_was_17))]] _ _ := G
      rcases hc_23 with ⟨rfl, h_25, h_26, h_27, h_28⟩ | ⟨rfl, h_29, h_30, h_31, h_32⟩
      · have h_25 : ¬ zStep xp f_shut (zWo f_all i_z0 i_inns) (zLo f_all i_z0) x = -1 := h_25
        have h_26 : j_at_14 = zStep xp f_shut (zWo f_all i_z0 i_inns) (zLo f_all i_z0) x := h_26
        have h_27 : j_gone_15.toInt = y.toInt + 1 := h_27
        have h_28 : g_was_17 = upd xw j_at_14.toNatClampNeg (xw j_at_14.toNatClampNeg + 1) := h_28
        refine lv_istore_n (lv' := [(2, .int 1), (0, .ref mo), (1, .int c_)]) hx hb dX12_walks_25 rfl hl (by decide) rfl (fun ls hl => ?_)
        refine lv_goto (tgt := 7) hx hb dX12_walks_26 (by decide) ?_
        have G := G.sub (bs' := [[(m_all, .inl (T.2 0, 3952, .inl f_all))], [(m_posts, .inl (T.2 0, 7, .inl g_posts_16))], [(m_shut, .inl (T.2 0, 7, .inl f_shut))], [(mo, .inr (11, [.ref m_all, .ref m_has, .int i_size, .int i_next, .int i_where, .int i_token, .int i_number, .int i_word, .int i_wrong, .int i_farCrossing, .ref m_read, .int i_z0, .int i_crossings, .int i_inns, .ref m_posts, .ref m_shut, .ref m_here, .int i_steps, .int i_done, .int j_at_14, .int j_gone_15, .ref m_was, .ref m_came, .ref m_seenAt, .ref m_rowWorth, .ref m_farBy, .ref m_used, .int i_everywhere, .int i_again0, .int i_d0, .int i_never, .int i_firstCame, .int i_longRun, .int i_moved, .int i_crowd, .int i_l0, .int i_fitMany, .int i_fitLeast, .int i_fitMost, .ref m_fitPost, .ref m_fitEnd, .ref m_keptPosts, .int i_x0]))], [(m_was, .inl (T.2 0, 7, .inl g_was_17))]]) [1, 2, 3, 0, 4] rfl
        exact ih_7 (j_at_14, j_gone_15, 1, g_posts_16, g_was_17) (show 0 ≤ j_at_14.toInt ∧ j_at_14.toInt ≤ 6 ∧ 0 ≤ j_gone_15.toInt ∧ j_gone_15.toInt ≤ 499 ∧ zMP g_posts_16 ∧ zMV (zRo f_all i_z0) g_posts_16 ∧ (0 ≤ (1 : Int32).toInt ∧ (1 : Int32).toInt ≤ 1) ∧ ((1 : Int32).toInt = 1 ∧ zRunN f_shut (zWo f_all i_z0 i_inns) (zLo f_all i_z0) 499 f_posts c_ 0 = zRunN f_shut (zWo f_all i_z0 i_inns) (zLo f_all i_z0) (499 - j_gone_15.toInt.toNat) g_posts_16 j_at_14 j_gone_15.toInt.toNat ∨ (1 : Int32).toInt = 0 ∧ zRunN f_shut (zWo f_all i_z0 i_inns) (zLo f_all i_z0) 499 f_posts c_ 0 = (g_posts_16, j_at_14, j_gone_15.toInt.toNat)) ∧ ((1 : Int32).toInt = 1 ∧ zWasN f_shut (zWo f_all i_z0 i_inns) (zLo f_all i_z0) 499 f_posts c_ g_was_1 = zWasN f_shut (zWo f_all i_z0 i_inns) (zLo f_all i_z0) (499 - j_gone_15.toInt.toNat) g_posts_16 j_at_14 g_was_17 ∨ (1 : Int32).toInt = 0 ∧ zWasN f_shut (zWo f_all i_z0 i_inns) (zLo f_all i_z0) 499 f_posts c_ g_was_1 = g_was_17) from ⟨by omega, by omega, by omega, by omega, (by assumption), (by assumption), by decide, (Or.inl ⟨by decide, by rcases hR with ⟨q8, e8⟩ | ⟨q8, e8⟩ <;> first | (exfalso; omega) | (rw [e8, show 499 - y.toInt.toNat = (499 - j_gone_15.toInt.toNat) + 1 by omega, zRunN, if_neg h_25, ← h_26, ← h_22, show y.toInt.toNat + 1 = j_gone_15.toInt.toNat by omega])⟩), (Or.inl ⟨by decide, by rcases hW9 with ⟨q8, e8⟩ | ⟨q8, e8⟩ <;> first | (exfalso; omega) | (rw [e8, show 499 - y.toInt.toNat = (499 - j_gone_15.toInt.toNat) + 1 by omega, zWasN, if_neg h_25, ← h_26, ← h_22, show zVi xw j_at_14 = g_was_17 from (if_pos ⟨by omega, by omega⟩).trans h_28.symm])⟩)⟩) (show (499 - j_gone_15.toInt).toNat + (1 : Int32).toInt.toNat < (499 - y.toInt).toNat + b.toInt.toNat from by have e1 : (1 : Int32).toInt = 1 := rfl; have e0 : (0 : Int32).toInt = 0 := rfl; omega) _ _ ls G (lv_sub hl [0, 1, 2] rfl)
      · have h_29 : zStep xp f_shut (zWo f_all i_z0 i_inns) (zLo f_all i_z0) x = -1 := h_29
        have h_30 : j_at_14 = x := h_30
        have h_31 : j_gone_15 = y := h_31
        have h_32 : g_was_17 = xw := h_32
        have hg9 := congrArg Int32.toInt h_31
        refine lv_istore_n (lv' := [(2, .int 0), (0, .ref mo), (1, .int c_)]) hx hb dX12_walks_25 rfl hl (by decide) rfl (fun ls hl => ?_)
        refine lv_goto (tgt := 7) hx hb dX12_walks_26 (by decide) ?_
        have G := G.sub (bs' := [[(m_all, .inl (T.2 0, 3952, .inl f_all))], [(m_posts, .inl (T.2 0, 7, .inl g_posts_16))], [(m_shut, .inl (T.2 0, 7, .inl f_shut))], [(mo, .inr (11, [.ref m_all, .ref m_has, .int i_size, .int i_next, .int i_where, .int i_token, .int i_number, .int i_word, .int i_wrong, .int i_farCrossing, .ref m_read, .int i_z0, .int i_crossings, .int i_inns, .ref m_posts, .ref m_shut, .ref m_here, .int i_steps, .int i_done, .int j_at_14, .int j_gone_15, .ref m_was, .ref m_came, .ref m_seenAt, .ref m_rowWorth, .ref m_farBy, .ref m_used, .int i_everywhere, .int i_again0, .int i_d0, .int i_never, .int i_firstCame, .int i_longRun, .int i_moved, .int i_crowd, .int i_l0, .int i_fitMany, .int i_fitLeast, .int i_fitMost, .ref m_fitPost, .ref m_fitEnd, .ref m_keptPosts, .int i_x0]))], [(m_was, .inl (T.2 0, 7, .inl g_was_17))]]) [1, 2, 3, 0, 4] rfl
        exact ih_7 (j_at_14, j_gone_15, 0, g_posts_16, g_was_17) (show 0 ≤ j_at_14.toInt ∧ j_at_14.toInt ≤ 6 ∧ 0 ≤ j_gone_15.toInt ∧ j_gone_15.toInt ≤ 499 ∧ zMP g_posts_16 ∧ zMV (zRo f_all i_z0) g_posts_16 ∧ (0 ≤ (0 : Int32).toInt ∧ (0 : Int32).toInt ≤ 1) ∧ ((0 : Int32).toInt = 1 ∧ zRunN f_shut (zWo f_all i_z0 i_inns) (zLo f_all i_z0) 499 f_posts c_ 0 = zRunN f_shut (zWo f_all i_z0 i_inns) (zLo f_all i_z0) (499 - j_gone_15.toInt.toNat) g_posts_16 j_at_14 j_gone_15.toInt.toNat ∨ (0 : Int32).toInt = 0 ∧ zRunN f_shut (zWo f_all i_z0 i_inns) (zLo f_all i_z0) 499 f_posts c_ 0 = (g_posts_16, j_at_14, j_gone_15.toInt.toNat)) ∧ ((0 : Int32).toInt = 1 ∧ zWasN f_shut (zWo f_all i_z0 i_inns) (zLo f_all i_z0) 499 f_posts c_ g_was_1 = zWasN f_shut (zWo f_all i_z0 i_inns) (zLo f_all i_z0) (499 - j_gone_15.toInt.toNat) g_posts_16 j_at_14 g_was_17 ∨ (0 : Int32).toInt = 0 ∧ zWasN f_shut (zWo f_all i_z0 i_inns) (zLo f_all i_z0) 499 f_posts c_ g_was_1 = g_was_17) from ⟨by omega, by omega, by omega, by omega, (by assumption), (by assumption), by decide, (Or.inr ⟨by decide, by rcases hR with ⟨q8, e8⟩ | ⟨q8, e8⟩ <;> first | (exfalso; omega) | (rw [e8, show 499 - y.toInt.toNat = (498 - y.toInt.toNat) + 1 by omega, zRunN, if_pos h_29, ← h_22, h_30, h_31])⟩), (Or.inr ⟨by decide, by rcases hW9 with ⟨q8, e8⟩ | ⟨q8, e8⟩ <;> first | (exfalso; omega) | (rw [e8, show 499 - y.toInt.toNat = (498 - y.toInt.toNat) + 1 by omega, zWasN, if_pos h_29, h_32])⟩)⟩) (show (499 - j_gone_15.toInt).toNat + (0 : Int32).toInt.toNat < (499 - y.toInt).toNat + b.toInt.toNat from by have e1 : (1 : Int32).toInt = 1 := rfl; have e0 : (0 : Int32).toInt = 0 := rfl; omega) _ _ ls G (lv_sub hl [0, 1, 2] rfl)
/-- posts behind so many walks from there; where the next one comes; how many of the first ones come to that inn -/
def zPk (S W L : Nat → Int32) (c : Int32) (P : Nat → Int32) : Nat → (Nat → Int32)
  | 0 => P
  | k + 1 => (zRunN S W L 499 (zPk S W L c P k) c 0).1
def zAk (S W L : Nat → Int32) (c : Int32) (P : Nat → Int32) (k : Nat) : Int32 := (zRunN S W L 499 (zPk S W L c P k) c 0).2.1
def zSh (S W L : Nat → Int32) (c : Int32) (P : Nat → Int32) (n : Int32) : Nat → Int32
  | 0 => 0
  | k + 1 => if zAk S W L c P k = n then zSh S W L c P n k + 1 else zSh S W L c P n k
section ZPK
variable {S W L S' W' L' P P' : Nat → Int32} {c : Int32}
theorem zPk_I (hI : zP3 P W) : ∀ k, zP3 (zPk S W L c P k) W
  | 0 => hI
  | k + 1 => zRunN_I _ _ _ _ (zPk_I hI k)
theorem zPk_cg (h2 : ∀ j, j < 7 → S j = S' j) (h3 : ∀ j, j < 7 → W j = W' j) (hl : zLs W L L') (hI : zP3 P W) (h1 : ∀ j, j < 7 → P j = P' j) : ∀ k j, j < 7 → zPk S W L c P k j = zPk S' W' L' c P' k j
  | 0 => h1
  | k + 1 => (zRunN_cg h2 h3 hl 499 _ _ c 0 (zPk_I hI k) (zPk_cg h2 h3 hl hI h1 k)).1
theorem zAk_cg (h2 : ∀ j, j < 7 → S j = S' j) (h3 : ∀ j, j < 7 → W j = W' j) (hl : zLs W L L') (hI : zP3 P W) (h1 : ∀ j, j < 7 → P j = P' j) (k : Nat) : zAk S W L c P k = zAk S' W' L' c P' k := congrArg (fun q => q.1) (zRunN_cg h2 h3 hl 499 _ _ c 0 (zPk_I hI k) (zPk_cg h2 h3 hl hI h1 k)).2
theorem zSh_cg {n : Int32} (h2 : ∀ j, j < 7 → S j = S' j) (h3 : ∀ j, j < 7 → W j = W' j) (hl : zLs W L L') (hI : zP3 P W) (h1 : ∀ j, j < 7 → P j = P' j) : ∀ k, zSh S W L c P n k = zSh S' W' L' c P' n k
  | 0 => rfl
  | k + 1 => by
    unfold zSh
    rw [zAk_cg h2 h3 hl hI h1 k, zSh_cg h2 h3 hl hI h1 k]
end ZPK
def kW (cr inn : Int32) (k1 : Nat → Int32) (j : Nat) : Int32 := zWays cr inn k1 (nI j)
def pW (f : Nat → Int32) (z : Int32) : Nat → Int32 := zWo f z (f (z.toInt.toNat + 1))
/-- the class's rows of a land walk as the record's -/
theorem zLnd_w {cr inn z : Int32} {k1 k2 k3 k4 f : Nat → Int32} {B : Nat} (h : zLnd cr inn k1 k2 k3 k4 (fun j => f (B + j))) (hF : zLF (fun j => f (B + j))) (hz : z.toInt.toNat = B) : (∀ j, j < 7 → kW cr inn k1 j = pW f z j) ∧ zLs (kW cr inn k1) k2 (zLo f z) ∧ (∀ j, j < 7 → k3 j = zPo f z j) ∧ zP3 k3 (kW cr inn k1) ∧ cr = f z.toInt.toNat ∧ inn = f (z.toInt.toNat + 1) := by
  obtain ⟨ha, hab, hi, hd, hx, hr⟩ := h
  obtain ⟨hf0, hf1, hf2⟩ := hF
  have ha : cr = f B := ha
  have hab : 0 ≤ (f B).toInt ∧ (f B).toInt ≤ 7 := hab
  have hi : inn = f (B + 1) := hi
  have hd : ∀ j : Nat, j < 7 → k1 j = f (B + (2 + j)) ∧ k3 j = f (B + (9 + j)) ∧ k4 j = f (B + (16 + j)) := hd
  have hx : ∀ j : Nat, j < 7 → (f B).toInt ≤ (j : Int) → k1 j = 0 := hx
  have hr : ∀ j r : Nat, j < 7 → r < 4 → (r : Int) < (k1 j).toInt → k2 (4 * j + r) = f (B + (23 + 4 * j + r)) := hr
  have hf1 : ∀ c : Nat, c < 7 → (0 ≤ (f (B + (2 + c))).toInt ∧ (f (B + (2 + c))).toInt ≤ 4) ∧ (0 ≤ (f (B + (9 + c))).toInt ∧ (f (B + (9 + c))).toInt ≤ 3) ∧ 0 ≤ (f (B + (16 + c))).toInt ∧ (f (B + (16 + c))).toInt ≤ 9 := hf1
  have hw : ∀ j : Nat, j < 7 → kW cr inn k1 j = if zBit inn (nI j) = 1 then 0 else k1 j := fun j hj => by
    have t := nI_toInt (n := j) (by omega)
    have t2 := nI_clamp (n := j) (by omega)
    have hcr : cr.toInt = (f B).toInt := by rw [ha]
    unfold kW zWays
    by_cases b : zBit inn (nI j) = 1
    · rw [if_pos b, if_neg (fun q => zBit_o b q.2.2.2)]
    · rw [if_neg b]
      by_cases q : (j : Int) < (f B).toInt
      · rw [if_pos ⟨by omega, by omega, by omega, zBit_n b⟩, t2]
      · rw [if_neg (fun q2 => by omega), hx j hj (by omega)]
  have hp : ∀ j, j < 7 → kW cr inn k1 j = pW f z j := fun j hj => by
    rw [hw j hj]
    unfold pW zWo zRo
    rw [hz, ← hi, (hd j hj).1]
  have hk0 : (0 : Int32).toInt = 0 := rfl
  have hk : ∀ j, j < 7 → 0 ≤ (kW cr inn k1 j).toInt ∧ (kW cr inn k1 j).toInt ≤ (k1 j).toInt ∧ (k1 j).toInt ≤ 4 := fun j hj => by
    have q := (hf1 j hj).1
    rw [hw j hj, (hd j hj).1]
    split
    · rw [hk0]; exact ⟨by omega, q.1, q.2⟩
    · exact ⟨q.1, by omega, q.2⟩
  refine ⟨hp, fun j r hj hr4 hq => ?_, fun j hj => ?_, fun j hj => ⟨⟨(hk j hj).1, by have := hk j hj; omega⟩, ?_⟩, by rw [hz]; exact ha, by rw [hz]; exact hi⟩
  · rw [hr j r hj hr4 (by have := hk j hj; omega)]
    unfold zLo
    rw [hz]
    exact congrArg f (by omega)
  · unfold zPo
    rw [hz]
    exact (hd j hj).2.1
  · rw [(hd j hj).2.1]
    have q := (hf1 j hj).2.1
    exact ⟨q.1, by omega⟩
/-- a land's row as it can be kept: posts point to roads, inns are crossings that are there, roads lead to such -/
def zVR (R : Nat → Int32) : Prop := ∀ c, c < 7 → ((R (9 + c)).toInt = 0 ∨ (R (9 + c)).toInt < (R (2 + c)).toInt) ∧ ((R 0).toInt ≤ (c : Int) → zBit (R 1) (nI c) = 0) ∧ ∀ r : Nat, r < 4 → (r : Int) < (R (2 + c)).toInt → (R (23 + 4 * c + r)).toInt < (R 0).toInt
theorem zVR_cg {R R' : Nat → Int32} (e : ∀ j, j < 51 → R' j = R j) (h : zVR R) : zVR R' := by
  intro c hc
  obtain ⟨a, b, d⟩ := h c hc
  refine ⟨?_, ?_, fun r hr hq => ?_⟩
  · rw [e _ (by omega), e _ (by omega)]; exact a
  · rw [e _ (by omega), e _ (by omega)]; exact b
  · rw [e _ (by omega)] at hq
    rw [e _ (by omega), e _ (by omega)]
    exact d r hr hq
/-- so of each land that is kept, told or in an image -/
def zVA (f : Nat → Int32) : Prop := ∀ i k, i < 4 → k < 2 → zVR (fun j => f (988 * i + (610 + 51 * k + j)))
theorem zVA_0 {f : Nat → Int32} {z : Int32} (h : zVA f) (hz : z.toInt = 610 ∨ z.toInt = 661) : zVR (fun j => f (z.toInt.toNat + j)) := by
  rcases hz with q | q
  · exact zVR_cg (fun j _ => congrArg f (by omega)) (h 0 0 (by decide) (by decide))
  · exact zVR_cg (fun j _ => congrArg f (by omega)) (h 0 1 (by decide) (by decide))
theorem zVA_z {f P : Nat → Int32} {z : Int32} (h : zVA f) (hz : z.toInt = 610 ∨ z.toInt = 661) (hP : ∀ j, j < 7 → P j = zPt f z (nI j)) : zMV (zRo f z) P := by
  intro c hc
  rw [hP c hc]
  have e := nI_toInt (n := c) (by omega)
  have e1 : zPt f z (nI c) = f (z.toInt.toNat + (9 + c)) := congrArg f (by omega)
  rw [e1]
  exact Or.inr (zVA_0 h hz c hc).1
theorem zPt_o {f P : Nat → Int32} {z : Int32} (hP : ∀ j, j < 7 → P j = zPt f z (nI j)) : ∀ j, j < 7 → P j = zPo f z j := fun j hj => (hP j hj).trans (by
  have e := nI_toInt (n := j) (by omega)
  exact congrArg f (by omega))
/-- the reference's rows are a walk's rows -/
theorem zP3_m {f P : Nat → Int32} {z cr n : Int32} (h : zML f z cr) (hP : zMP P) : zP3 P (zWo f z n) := by
  intro j hj
  have e := nI_toInt (n := j) (by omega)
  have r : 0 ≤ (zRo f z j).toInt ∧ (zRo f z j).toInt ≤ 4 := (h.2.2.2.1 j hj).1
  have p := hP j hj
  refine ⟨?_, p.1, by omega⟩
  unfold zWo
  split
  · exact ⟨by decide, by decide⟩
  · exact r
def pBk (a : pS) : Prop := ¬ a.2.1.toInt = 0 → ¬ a.2.2.1.toInt = 0
section PBK
variable {k : pT} {a : pS}
theorem pBk_ends (h : pBk a) : pBk (pEnds k a) := by
  unfold pEnds
  split
  · exact fun _ => by show ¬ (1 : Int32).toInt = 0; decide
  · exact h
theorem pBk_also {kd w : Int32} (h : pBk a) : pBk (pAlso kd w a) := by
  unfold pAlso
  split
  · exact h
  · rename_i q
    exact fun q2 => absurd (Or.inl q2) q
theorem pBk_num {lo hi : Int32} (h : pBk a) : pBk (pNum k lo hi a).2 := by
  unfold pNum
  split
  · exact pBk_ends h
  · split
    · exact h
    · exact pBk_also (kd := 2) (w := nI (pWh k a.1)) h
theorem pBk_word {lo hi : Nat} (h : pBk a) : pBk (pWord k lo hi a).2 := by
  unfold pWord
  split
  · exact pBk_ends h
  · exact h
theorem pBk_endL (h : pBk a) : pBk (pEndL k a) := by
  unfold pEndL
  split
  · exact h
  · exact pBk_ends h
theorem pBk_cr (h : pBk a) : pBk (pCr k a).2 := pBk_num (k := k) (lo := 0) (hi := 6) h
theorem pBk_roads : ∀ (i m : Nat) (a : pS) (f : Nat → Int32), pBk a → pBk (pRoads k i m a f).2.1
  | 0, m, a, f, h => h
  | i + 1, m, a, f, h => by
    unfold pRoads
    split
    · refine pBk_roads i _ _ _ (pBk_cr ?_)
      split
      · exact pBk_also h
      · exact h
    · exact h
theorem pBk_db {m : Int} {w : Int32} {f : Nat → Int32} (h : pBk a) : pBk (pDB m w f a) := by
  unfold pDB
  split
  · exact pBk_also h
  · exact h
theorem pBk_other {d : Nat} {w : Int32} {f : Nat → Int32} (h : pBk a) : pBk (pOther k d w a f).1 := by
  unfold pOther
  split
  · exact h
  · split
    · exact pBk_roads 601 0 _ _ (pBk_db h)
    · split
      · exact pBk_cr h
      · exact pBk_num (pBk_cr h)
theorem pBk_land {f : Nat → Int32} (h : pBk a) : pBk (pLand k a f).1 := pBk_endL (pBk_other (pBk_word h))
theorem pBk_lines : ∀ (i : Nat) (a : pS) (f : Nat → Int32), pBk a → pBk (pLines k 0 i a f).1
  | 0, a, f, h => h
  | i + 1, a, f, h => by
    unfold pLines
    split
    · refine pBk_lines i _ _ ?_
      rw [show pLine k 0 a f = pLand k a f from if_pos rfl]
      exact pBk_land h
    · exact h
end PBK
/-- inns told: of crossings that were told -/
def zIq (inn fa : Int32) : Prop := ∃ t : Nat, t < 128 ∧ inn = nI t ∧ (-1 ≤ fa.toInt ∧ fa.toInt ≤ 6) ∧ ∀ d : Nat, d ≤ 7 → fa.toInt < (d : Int) → t / 2 ^ d = 0
theorem zIq_m {inn fa fb : Int32} (h : zIq inn fa) (h1 : fa.toInt ≤ fb.toInt) (h2 : fb.toInt ≤ 6) : zIq inn fb := by
  obtain ⟨t, ht, e, hf, hd⟩ := h
  exact ⟨t, ht, e, ⟨by omega, h2⟩, fun d hd8 hq => hd d hd8 (by omega)⟩
theorem zIq_t {inn fa c : Int32} (h : zIq inn fa) (hc : 0 ≤ c.toInt ∧ c.toInt ≤ 6) : zIq (inn ||| ((1 : Int32) <<< (c &&& 31))) (if fa.toInt < c.toInt then c else fa) := by
  obtain ⟨t, ht, rfl, hf, hd⟩ := h
  have ec : c = nI c.toInt.toNat := z_nI (by omega) (by omega)
  have k1 := zTof_k1 t ht c.toInt.toNat (by omega)
  rw [← ec] at k1
  refine ⟨t ||| 2 ^ c.toInt.toNat, k1.2, k1.1, ?_, fun d hd8 hq => (zTof_k2 t ht c.toInt.toNat (by omega) d (by omega)).mpr ?_⟩
  · split <;> omega
  · split at hq
    · exact ⟨hd d hd8 (by omega), by omega⟩
    · exact ⟨hd d hd8 hq, by omega⟩
theorem zIq_b : ∀ t, t < 128 → ∀ j, j < 7 → t / 2 ^ j = 0 → zBit (nI t) (nI j) = 0 := by decide +kernel
theorem zIq_0 : zIq 0 (-1) := ⟨0, by decide, rfl, by decide, fun d _ _ => Nat.zero_div _⟩
/-- roads told lead to crossings that were told -/
def zJq (f : Nat → Int32) (fa : Int32) : Prop := ∀ c r : Nat, c < 7 → r < 4 → (r : Int) < (f (2 + c)).toInt → (f (23 + 4 * c + r)).toInt ≤ fa.toInt
theorem zJq_m {f : Nat → Int32} {fa fb : Int32} (h : zJq f fa) (q : fa.toInt ≤ fb.toInt) : zJq f fb := fun c r hc hr hq => Int.le_trans (h c r hc hr hq) q
theorem zJq_l {f : Nat → Int32} {fa fb v : Int32} {k : Nat} (h : zJq f fa) (q : fa.toInt ≤ fb.toInt) (hv : v.toInt ≤ fb.toInt) (hk : 23 ≤ k) : zJq (upd f k v) fb := by
  intro c r hc hr hq
  rw [z_ne (by omega)] at hq
  by_cases e : 23 + 4 * c + r = k
  · rw [z_eq e]; exact hv
  · rw [z_ne e]; exact Int.le_trans (h c r hc hr hq) q
theorem zJq_o {f : Nat → Int32} {fa v : Int32} {k : Nat} (h : zJq f fa) (hk : k < 23) (hk2 : ¬ (2 ≤ k ∧ k < 9)) : zJq (upd f k v) fa := by
  intro c r hc hr hq
  rw [z_ne (by omega)] at hq
  rw [z_ne (by omega)]
  exact h c r hc hr hq
section PFA
variable {k : pT} {a : pS}
theorem pEnds_a : (pEnds k a).2.2.2.2 = a.2.2.2.2 := by
  unfold pEnds
  split <;> rfl
theorem pAlso_a {kd w : Int32} : (pAlso kd w a).2.2.2.2 = a.2.2.2.2 := by
  unfold pAlso
  split <;> rfl
theorem pNum_a {lo hi : Int32} : (pNum k lo hi a).2.2.2.2.2 = a.2.2.2.2 := by
  unfold pNum
  split
  · exact pEnds_a
  · split
    · rfl
    · exact pAlso_a
theorem pWord_a {lo hi : Nat} : (pWord k lo hi a).2.2.2.2.2 = a.2.2.2.2 := by
  unfold pWord
  split
  · exact pEnds_a
  · rfl
theorem pEndL_aa : (pEndL k a).2.2.2.2 = a.2.2.2.2 := by
  unfold pEndL
  split
  · rfl
  · exact pEnds_a
theorem pNum_b : 0 ≤ (pNum k 0 6 a).1.toInt ∧ (pNum k 0 6 a).1.toInt ≤ 6 := by
  unfold pNum
  split
  · exact ⟨by show (0 : Int) ≤ (0 : Int32).toInt; decide, by show (0 : Int32).toInt ≤ 6; decide⟩
  · split
    · rename_i q
      exact q
    · exact ⟨by show (0 : Int) ≤ (0 : Int32).toInt; decide, by show (0 : Int32).toInt ≤ 6; decide⟩
theorem pCr_a : (pCr k a).2.2.2.2.2 = if a.2.2.2.2.toInt < (pNum k 0 6 a).1.toInt then (pNum k 0 6 a).1 else a.2.2.2.2 := by
  have e : (pCr k a).2.2.2.2.2 = if (pNum k 0 6 a).2.2.2.2.2.toInt < (pNum k 0 6 a).1.toInt then (pNum k 0 6 a).1 else (pNum k 0 6 a).2.2.2.2.2 := rfl
  rw [e, pNum_a]
theorem zIq_cr {inn : Int32} (h : zIq inn a.2.2.2.2) : zIq inn (pCr k a).2.2.2.2.2 := by
  have b := pNum_b (k := k) (a := a)
  have hf : -1 ≤ a.2.2.2.2.toInt ∧ a.2.2.2.2.toInt ≤ 6 := by
    obtain ⟨t, -, -, hf, -⟩ := h
    exact hf
  rw [pCr_a]
  refine zIq_m h ?_ ?_
  · split <;> omega
  · split <;> omega
theorem pCr_m : a.2.2.2.2.toInt ≤ (pCr k a).2.2.2.2.2.toInt ∧ (pCr k a).1.toInt ≤ (pCr k a).2.2.2.2.2.toInt := by
  rw [pCr_a]
  show a.2.2.2.2.toInt ≤ (if a.2.2.2.2.toInt < (pNum k 0 6 a).1.toInt then (pNum k 0 6 a).1 else a.2.2.2.2).toInt ∧ (pNum k 0 6 a).1.toInt ≤ (if a.2.2.2.2.toInt < (pNum k 0 6 a).1.toInt then (pNum k 0 6 a).1 else a.2.2.2.2).toInt
  split <;> omega
/-- the roads of a crossing, while they are told -/
def zJm (f : Nat → Int32) (fa : Int32) (m : Nat) : Prop := zJq f fa ∧ ∀ r : Nat, r < m → r < 4 → (f 0).toInt < 7 → (f (23 + 4 * (f 0).toInt.toNat + r)).toInt ≤ fa.toInt
theorem zIq_roads {inn cr : Int32} : ∀ (i m : Nat) (a : pS) (f : Nat → Int32), m ≤ 4 → f 1 = inn → f 0 = cr → zIq inn a.2.2.2.2 → zJm f a.2.2.2.2 m → ((pRoads k i m a f).2.2 1 = inn ∧ (pRoads k i m a f).2.2 0 = cr ∧ (pRoads k i m a f).1 ≤ 4) ∧ zIq inn (pRoads k i m a f).2.1.2.2.2.2 ∧ zJm (pRoads k i m a f).2.2 (pRoads k i m a f).2.1.2.2.2.2 (pRoads k i m a f).1
  | 0, m, a, f, hm, e, e0, h, hJ => ⟨⟨e, e0, hm⟩, h, hJ⟩
  | i + 1, m, a, f, hm, e, e0, h, hJ => by
    have hx : ∀ b : pS, b.2.2.2.2 = a.2.2.2.2 → zIq inn (pCr k b).2.2.2.2.2 ∧ zJm (if (f 0).toInt < 7 ∧ m < 4 then upd f (23 + 4 * (f 0).toInt.toNat + m) (pCr k b).1 else f) (pCr k b).2.2.2.2.2 (if m < 4 then m + 1 else 4) := by
      intro b hb
      have hm2 := pCr_m (k := k) (a := b)
      rw [hb] at hm2
      refine ⟨zIq_cr (by rw [hb]; exact h), ?_⟩
      by_cases q : (f 0).toInt < 7 ∧ m < 4
      · rw [if_pos q, if_pos q.2]
        refine ⟨zJq_l hJ.1 hm2.1 hm2.2 (by omega), fun r hr hr4 h7 => ?_⟩
        rw [show upd f (23 + 4 * (f 0).toInt.toNat + m) (pCr k b).1 0 = f 0 from z_ne (by omega)]
        by_cases t : r = m
        · rw [z_eq (by omega)]
          exact hm2.2
        · rw [z_ne (by omega)]
          exact Int.le_trans (hJ.2 r (by omega) hr4 q.1) hm2.1
      · rw [if_neg q]
        refine ⟨zJq_m hJ.1 hm2.1, fun r hr hr4 h7 => Int.le_trans (hJ.2 r ?_ hr4 h7) hm2.1⟩
        by_cases t : m < 4
        · exact absurd ⟨h7, t⟩ q
        · omega
    unfold pRoads
    split
    · have hb : (if m = 4 then pAlso 3 (nI (pWh k a.1)) a else a).2.2.2.2 = a.2.2.2.2 := by
        split
        · exact pAlso_a
        · rfl
      have hy := hx _ hb
      refine zIq_roads i _ _ _ (by split <;> omega) ?_ ?_ hy.1 hy.2
      · split
        · rw [z_ne (by omega)]; exact e
        · exact e
      · split
        · rw [z_ne (by omega)]; exact e0
        · exact e0
    · exact ⟨⟨e, e0, hm⟩, h, hJ⟩
/-- what holds of a land's row while it is read -/
def zKv (f : Nat → Int32) (fa : Int32) : Prop := zIq (f 1) fa ∧ zJq f fa ∧ 0 ≤ (f 0).toInt ∧ (f 0).toInt ≤ 7
theorem zKv_other {d : Nat} {w : Int32} {f : Nat → Int32} (h : zKv f a.2.2.2.2) : zKv (pOther k d w a f).2 (pOther k d w a f).1.2.2.2.2 := by
  obtain ⟨hI, hJ, h0⟩ := h
  unfold pOther
  split
  · exact ⟨hI, hJ, h0⟩
  · split
    · have hb : (pDB 7 w f a).2.2.2.2 = a.2.2.2.2 := by
        unfold pDB
        split
        · exact pAlso_a
        · rfl
      obtain ⟨⟨r1, r2, r3⟩, r4, r5, r6⟩ := zIq_roads (k := k) 601 0 (pDB 7 w f a) f (by decide) rfl rfl (by rw [hb]; exact hI) ⟨by rw [hb]; exact hJ, fun r hr _ _ => absurd hr (Nat.not_lt_zero r)⟩
      show zKv (if 7 ≤ (f 0).toInt then (pRoads k 601 0 (pDB 7 w f a) f).2.2 else upd (upd (pRoads k 601 0 (pDB 7 w f a) f).2.2 (2 + ((pRoads k 601 0 (pDB 7 w f a) f).2.2 0).toInt.toNat) (nI (pRoads k 601 0 (pDB 7 w f a) f).1)) 0 ((pRoads k 601 0 (pDB 7 w f a) f).2.2 0 + 1)) (pRoads k 601 0 (pDB 7 w f a) f).2.1.2.2.2.2
      revert r1 r2 r3 r4 r5 r6
      generalize (pRoads k 601 0 (pDB 7 w f a) f).2.2 = g
      generalize (pRoads k 601 0 (pDB 7 w f a) f).2.1.2.2.2.2 = fb
      generalize (pRoads k 601 0 (pDB 7 w f a) f).1 = m
      intro r1 r2 r3 r4 r5 r6
      split
      · exact ⟨by rw [r1]; exact r4, r5, by rw [r2]; exact h0⟩
      · have e1 : (g 0 + 1).toInt = (g 0).toInt + 1 := z_iaddI (by rw [r2]; show -2147483648 ≤ (f 0).toInt + 1; omega) (by rw [r2]; show (f 0).toInt + 1 < 2147483648; omega)
        rw [r2] at e1 ⊢
        refine ⟨?_, zJq_o ?_ (by decide) (by decide), ?_⟩
        · rw [z_ne (by omega), z_ne (by omega), r1]; exact r4
        · intro c r hc hr hq
          by_cases t : c = (f 0).toInt.toNat
          · rw [z_ne (by omega)]
            rw [z_eq (by omega)] at hq
            have em := nI_toInt (n := m) (by omega)
            have x := r6 r (by omega) hr (by rw [r2]; omega)
            rw [r2, ← t] at x
            exact x
          · rw [z_ne (by omega)] at hq
            rw [z_ne (by omega)]
            exact r5 c r hc hr hq
        · rw [z_eq rfl, e1]
          omega
    · split
      · have b := pNum_b (k := k) (a := a)
        have t := zIq_t hI b
        rw [← pCr_a] at t
        have hm2 := pCr_m (k := k) (a := a)
        show zKv (upd f 1 (f 1 ||| ((1 : Int32) <<< ((pCr k a).1 &&& 31)))) (pCr k a).2.2.2.2.2
        exact ⟨by rw [z_eq rfl]; exact t, zJq_o (zJq_m hJ hm2.1) (by decide) (by decide), by rw [z_ne (by decide)]; exact h0⟩
      · have t := zIq_cr (k := k) hI
        have hm2 := pCr_m (k := k) (a := a)
        have b : 0 ≤ (pCr k a).1.toInt ∧ (pCr k a).1.toInt ≤ 6 := pNum_b (k := k) (a := a)
        show zKv (upd f ((if d = 2 then 9 else 16) + (pCr k a).1.toInt.toNat) (pNum k 0 (if d = 2 then 3 else 9) (pCr k a).2).1) (pNum k 0 (if d = 2 then 3 else 9) (pCr k a).2).2.2.2.2.2
        rw [pNum_a]
        have e : (if d = 2 then 9 else 16) = 9 ∨ (if d = 2 then 9 else 16) = 16 := by
          split
          · exact Or.inl rfl
          · exact Or.inr rfl
        exact ⟨by rw [z_ne (by omega)]; exact t, zJq_o (zJq_m hJ hm2.1) (by omega) (by omega), by rw [z_ne (by omega)]; exact h0⟩
theorem zKv_land {f : Nat → Int32} (h : zKv f a.2.2.2.2) : zKv (pLand k a f).2 (pLand k a f).1.2.2.2.2 := by
  show zKv _ (pEndL k _).2.2.2.2
  rw [pEndL_aa]
  exact zKv_other (by rw [pWord_a]; exact h)
theorem zKv_lines : ∀ (i : Nat) (a : pS) (f : Nat → Int32), zKv f a.2.2.2.2 → zKv (pLines k 0 i a f).2 (pLines k 0 i a f).1.2.2.2.2
  | 0, a, f, h => h
  | i + 1, a, f, h => by
    unfold pLines
    split
    · refine zKv_lines i _ _ ?_
      rw [show pLine k 0 a f = pLand k a f from if_pos rfl]
      exact zKv_land h
    · exact h
theorem zKv_0 : zKv (fun _ => 0) (-1) := ⟨zIq_0, fun c r _ _ hq => absurd hq (by show ¬ (r : Int) < (0 : Int32).toInt; have : (0 : Int32).toInt = 0 := rfl; omega), by decide⟩
end PFA
theorem pRead_V {k : pT} {n : Nat} (h : (pRead k n 0).1.2.2.1.toInt = 0) : zVR (pRead k n 0).2 := by
  have hb : pBk (pLines k 0 601 (0, 0, 0, -1, -1) (fun _ => 0)).1 := pBk_lines 601 _ _ (fun q => absurd rfl q)
  have hi : zKv (pLines k 0 601 (0, 0, 0, -1, -1) (fun _ => 0)).2 (pLines k 0 601 (0, 0, 0, -1, -1) (fun _ => 0)).1.2.2.2.2 := zKv_lines 601 _ _ zKv_0
  have h : (pF5 n 0 (pF4 n 0 (pLines k 0 601 (0, 0, 0, -1, -1) (fun _ => 0)).1 (pLines k 0 601 (0, 0, 0, -1, -1) (fun _ => 0)).2) (pLines k 0 601 (0, 0, 0, -1, -1) (fun _ => 0)).2).2.2.1.toInt = 0 := h
  show zVR (pLines k 0 601 (0, 0, 0, -1, -1) (fun _ => 0)).2
  revert hb hi h
  generalize (pLines k 0 601 (0, 0, 0, -1, -1) (fun _ => 0)).1 = a
  generalize (pLines k 0 601 (0, 0, 0, -1, -1) (fun _ => 0)).2 = f
  intro hb hi h
  have hb4 : pBk (pF4 n 0 a f) := by
    unfold pF4
    split
    · exact pBk_also hb
    · exact hb
  have h4 : (pF4 n 0 a f).2.2.1.toInt = 0 ∧ pPosts f = true := by
    revert hb4 h
    generalize pF4 n 0 a f = b
    intro h hb4
    by_cases hq : b.2.2.1.toInt = 0
    · refine ⟨hq, ?_⟩
      by_cases hp : pPosts f = true
      · exact hp
      · exfalso
        unfold pF5 at h
        rw [if_pos ⟨rfl, hq, Bool.eq_false_iff.mpr hp⟩] at h
        unfold pAlso at h
        by_cases hc : b.2.1.toInt = 0
        · rw [if_neg (fun z => z.elim (fun z => z hc) (fun z => z.1 hq))] at h
          exact absurd (show (5 : Int32).toInt = 0 from h) (by decide)
        · exact hb4 hc hq
    · exfalso
      unfold pF5 at h
      rw [if_neg (fun z => hq z.2.1)] at h
      exact hq h
  have h5 := h4.1
  unfold pF4 at h5
  have ha : a.2.2.1.toInt = 0 := by
    by_cases hq : a.2.2.1.toInt = 0
    · exact hq
    · rw [if_neg (fun z => hq z.2.1)] at h5
      exact h5
  have hf : ¬ (f 0).toInt ≤ a.2.2.2.2.toInt := fun q => by
    rw [if_pos ⟨rfl, ha, q⟩] at h5
    unfold pAlso at h5
    by_cases hc2 : a.2.1.toInt = 0
    · rw [if_neg (fun z => z.elim (fun z => z hc2) (fun z => z.1 ha))] at h5
      exact absurd (show (4 : Int32).toInt = 0 from h5) (by decide)
    · exact hb hc2 ha
  obtain ⟨⟨t, ht, e, -, hd⟩, hJ, -⟩ := hi
  intro c hc
  refine ⟨pPosts_t.mp h4.2 c hc, fun hn => ?_, fun r hr hq => ?_⟩
  · rw [e]
    exact zIq_b t ht c hc (hd c (by omega) (by omega))
  · have := hJ c r hc hr hq
    omega
theorem zVA_low {f g : Nat → Int32} (hV : zVA f) (e : ∀ j, 610 ≤ j → g j = f j) : zVA g := fun i q hi hq => zVR_cg (fun j _ => e _ (by omega)) (hV i q hi hq)
theorem zVA_text {k : pT} {n s : Nat} {at_ r : Int32} {f g : Nat → Int32} (hV : zVA f) (hs : s < 3) (F2 : zText (pRead k n s) s at_ f g r) (T2 : ∀ j, 988 ≤ j → g j = f j) : zVA g := by
  have ho : ∀ (a b : Int32) (j : Nat), 7 ≤ j → pHd f a b j = f j := fun a b j hj => by
    unfold pHd
    rw [z_ne (by omega), z_ne (by omega), z_ne (by omega)]
  rcases F2 with ⟨-, -, z⟩ | ⟨-, -, -, z⟩ | ⟨-, y, -, z⟩
  · refine zVA_low hV (fun j hj => ?_)
    by_cases q : j < 988
    · rw [z j q, ho _ _ _ (by omega)]
    · exact T2 j (by omega)
  · refine zVA_low hV (fun j hj => ?_)
    by_cases q : j < 988
    · rw [z j q, ho _ _ _ (by omega)]
    · exact T2 j (by omega)
  · have hc2 : ∀ (G : Nat → Int32) (j : Nat), 7 ≤ j → pCnt s at_ G j = G j := fun G j hj => by
      unfold pCnt
      split
      · exact z_ne (by omega)
      · rfl
    intro i q hi hq
    by_cases e : i = 0
    · by_cases hs0 : s = 0 ∧ (pNr 0 at_ f).toInt.toNat = q
      · obtain ⟨hs0, hn⟩ := hs0
        subst hs0
        refine zVR_cg (fun j hj => ?_) (pRead_V y)
        show g (988 * i + (610 + 51 * q + j)) = (pRead k n 0).2 j
        rw [z _ (by omega), hn]
        unfold pPut
        have hp : pBase 0 q = 610 + 51 * q := rfl
        have hz : pSize 0 = 51 := rfl
        rw [hp, hz, if_pos (by omega)]
        exact congrArg _ (by omega)
      · refine zVR_cg (fun j hj => ?_) (hV i q hi hq)
        show g (988 * i + (610 + 51 * q + j)) = f (988 * i + (610 + 51 * q + j))
        rw [z _ (by omega)]
        have hx : ¬ (pBase s (pNr s at_ f).toInt.toNat ≤ 988 * i + (610 + 51 * q + j) ∧ 988 * i + (610 + 51 * q + j) < pBase s (pNr s at_ f).toInt.toNat + pSize s) := by
          rcases (show s = 0 ∨ s = 1 ∨ s = 2 by omega) with t | t | t
          · subst t
            have hp : pBase 0 (pNr 0 at_ f).toInt.toNat = 610 + 51 * (pNr 0 at_ f).toInt.toNat := rfl
            have hz : pSize 0 = 51 := rfl
            rw [hp, hz]
            have hn : ¬ (pNr 0 at_ f).toInt.toNat = q := fun w => hs0 ⟨rfl, w⟩
            omega
          · subst t
            have hp : pBase 1 (pNr 1 at_ f).toInt.toNat = 712 + 121 * (pNr 1 at_ f).toInt.toNat := rfl
            rw [hp]
            omega
          · subst t
            have hp : pBase 2 (pNr 2 at_ f).toInt.toNat = 954 + 17 * (pNr 2 at_ f).toInt.toNat := rfl
            rw [hp]
            omega
        unfold pPut
        rw [if_neg hx, hc2 _ _ (by omega), ho _ _ _ (by omega)]
    · exact zVR_cg (fun j _ => T2 _ (by omega)) (hV i q hi hq)
theorem zVA_feed {p : Nat} {a b c d e r : Int32} {f g : Nat → Int32} (hV : zVA f) (hp6 : p ≤ 600) (F2 : 580 < p ∧ r = -1 ∧ g = f ∨ p ≤ 580 ∧ r = nI (p + 20) ∧ zFeedR p a b c d e f g) : zVA g := by
  rcases F2 with ⟨-, -, y⟩ | ⟨hp5, -, y⟩
  · rw [y]; exact hV
  · obtain ⟨-, -, z3⟩ := y
    exact zVA_low hV (fun j hj => z3 j (by omega) (by omega))
theorem zVA_end {n r : Int32} {f g : Nat → Int32} (hV : zVA f) (F2 : (n.toInt < 0 ∨ (f 4).toInt < n.toInt) ∧ r.toInt = -1 ∧ g = f ∨ (0 ≤ n.toInt ∧ n.toInt ≤ (f 4).toInt) ∧ g = upd f 4 n ∧ r = n) : zVA g := by
  rcases F2 with ⟨-, -, y⟩ | ⟨-, y, -⟩
  · rw [y]; exact hV
  · rw [y]; exact zVA_low hV (fun j hj => z_ne (by omega))
theorem zVA_hd {f g : Nat → Int32} (hV : zVA f) (hg : g = upd (upd (upd f 4 0) 5 0) 6 (-1)) : zVA g := by
  rw [hg]
  exact zVA_low hV (fun j hj => by rw [z_ne (by omega), z_ne (by omega), z_ne (by omega)])
theorem zVA_img {f g : Nat → Int32} {k : Nat} (hk : k < 3) (hV : zVA f) (c1 : ∀ j, j < 988 → g (988 * (k + 1) + j) = f j) (c2 : ∀ j, (j < 988 * (k + 1) ∨ 988 * (k + 1) + 988 ≤ j) → g j = f j) : zVA g := by
  intro i q hi hq
  by_cases e : i = k + 1
  · subst e
    exact zVR_cg (fun j _ => (c1 _ (by omega)).trans (congrArg f (by omega))) (hV 0 q (by decide) hq)
  · have : i < k + 1 ∨ k + 1 < i := by omega
    exact zVR_cg (fun j _ => c2 _ (by omega)) (hV i q hi hq)
theorem zVA_ag {K : Nat} {x r' : Int32} {fh f g : Nat → Int32} (hV : zVA f) (hx : x.toInt = (K : Int)) (hK : K < 3) (F2 : r' = 0 ∧ (x.toInt < 0 ∨ 3 ≤ x.toInt ∨ fh x.toNatClampNeg = 0) ∧ g = f ∨ r' = 1 ∧ (0 ≤ x.toInt ∧ x.toInt < 3) ∧ ¬ fh x.toNatClampNeg = 0 ∧ (∀ j, j < 988 → g j = f (988 * (x.toNatClampNeg + 1) + j)) ∧ ∀ j, 988 ≤ j → g j = f j) : zVA g := by
  have e : x.toNatClampNeg = K := by have := z_clI (x := x) (by omega); omega
  rw [e] at F2
  rcases F2 with ⟨-, -, z⟩ | ⟨-, -, -, z, z2⟩
  · rw [z]; exact hV
  · intro i q hi hq
    by_cases e : i = 0
    · exact zVR_cg (fun j _ => (z _ (by omega)).trans (congrArg f (by omega))) (hV (K + 1) q (by omega) hq)
    · exact zVR_cg (fun j _ => z2 _ (by omega)) (hV i q hi hq)
theorem zBit_z (y : Int32) : zBit 0 y = 0 := by
  unfold zBit
  rw [Int32.zero_shiftRight]
  rfl
theorem zVR_z {R : Nat → Int32} (h : ∀ j, j < 51 → R j = 0) : zVR R := by
  intro c hc
  rw [h _ (by omega), h _ (by omega), h _ (by omega), h _ (by omega)]
  exact ⟨Or.inl rfl, fun _ => zBit_z _, fun r _ hq => absurd hq (by show ¬ (r : Int) < (0 : Int32).toInt; have : (0 : Int32).toInt = 0 := rfl; omega)⟩
theorem zVA_st : zVA (upd (fun _ => 0) 6 (-1)) := fun i q _ _ => zVR_z (fun j _ => if_neg (by omega))
theorem zLs_c {W W' L L' : Nat → Int32} (h : zLs W L L') (e : ∀ j, j < 7 → W' j = W j) : zLs W' L L' := fun j r hj hr hq => h j r hj hr (by rw [← e j hj]; exact hq)
theorem zA_3 {r r' x no : Int32} {fk f : Nat → Int32} {A0 A1 B0 B1 : Int32 → Prop} (hk : fk 0 = f 0) (hq : (f 0).toInt ≤ 2) (F1 : (x.toInt < 0 ∨ (fk 0).toInt ≤ x.toInt ∨ 2 ≤ x.toInt) ∧ r = no ∨ x.toInt = 0 ∧ 0 < (fk 0).toInt ∧ A0 r ∨ x.toInt = 1 ∧ 1 < (fk 0).toInt ∧ A1 r) (F2 : (x.toInt < 0 ∨ (f 0).toInt ≤ x.toInt) ∧ r' = no ∨ x.toInt = 0 ∧ 0 < (f 0).toInt ∧ B0 r' ∨ x.toInt = 1 ∧ 1 < (f 0).toInt ∧ B1 r') (e0 : A0 r → B0 r' → r = r') (e1 : A1 r → B1 r' → r = r') : r = r' := by
  rw [hk] at F1
  rcases F1 with ⟨a, b⟩ | ⟨a, b, c⟩ | ⟨a, b, c⟩ <;> rcases F2 with ⟨d, e⟩ | ⟨d, e, g⟩ | ⟨d, e, g⟩ <;> first | (exfalso; omega) | (rw [b, e]; done) | exact e0 c g | exact e1 c g
def zDR (R : Nat → Int32) : Prop := ∀ j : Nat, (j : Int) < (R 0).toInt → (0 ≤ (R (1 + 3 * j)).toInt ∧ (R (1 + 3 * j)).toInt ≤ 5) ∧ (4 ≤ (R (1 + 3 * j)).toInt → 0 ≤ (R (3 + 3 * j)).toInt ∧ (R (3 + 3 * j)).toInt ≤ 3)
theorem zDR_cg {R R' : Nat → Int32} (e : ∀ j, j < 121 → R' j = R j) (h0 : (R 0).toInt ≤ 40) (h : zDR R) : zDR R' := by
  intro j hj
  rw [e 0 (by decide)] at hj
  rw [e _ (by omega), e _ (by omega)]
  exact h j hj
section PZ
variable {k : pT} {a : pS}
theorem pEnds_z (h : pBk a) : ¬ (pEnds k a).2.2.1.toInt = 0 := by
  unfold pEnds
  split
  · show ¬ (1 : Int32).toInt = 0
    decide
  · rename_i q
    exact h q
theorem pAlso_zz {kd w : Int32} (h : pBk a) (hk : ¬ kd.toInt = 0) : ¬ (pAlso kd w a).2.2.1.toInt = 0 := by
  unfold pAlso
  split
  · rename_i q
    intro z
    rcases q with q | q
    · exact h q z
    · exact q.1 z
  · exact hk
theorem pNum_z {lo hi : Int32} (h : pBk a) (q : (pNum k lo hi a).2.2.2.1.toInt = 0) : a.2.2.1.toInt = 0 ∧ lo.toInt ≤ (pNum k lo hi a).1.toInt ∧ (pNum k lo hi a).1.toInt ≤ hi.toInt := by
  unfold pNum at q ⊢
  split at q
  · exact absurd q (pEnds_z h)
  · split at q
    · rename_i c1 c2
      rw [if_neg c1, if_pos c2]
      exact ⟨q, c2.1, c2.2⟩
    · exact absurd q (pAlso_zz (kd := 2) (w := nI (pWh k a.1)) h (by decide))
theorem pWord_z {lo hi : Nat} (h : pBk a) (q : (pWord k lo hi a).2.2.2.1.toInt = 0) : a.2.2.1.toInt = 0 ∧ lo ≤ (pWord k lo hi a).1 ∧ (pWord k lo hi a).1 ≤ hi := by
  unfold pWord at q ⊢
  split at q
  · exact absurd q (pEnds_z h)
  · rename_i c1
    rw [if_neg c1]
    exact ⟨q, by omega⟩
theorem pEndL_z (h : pBk a) (q : (pEndL k a).2.2.1.toInt = 0) : a.2.2.1.toInt = 0 := by
  unfold pEndL at q
  split at q
  · exact q
  · exact absurd q (pEnds_z h)
theorem pDB_z {m : Int} {w : Int32} {f : Nat → Int32} (h : pBk a) (q : (pDB m w f a).2.2.1.toInt = 0) : a.2.2.1.toInt = 0 ∧ (f 0).toInt < m := by
  unfold pDB at q
  split at q
  · exact absurd q (pAlso_zz h (by decide))
  · exact ⟨q, by omega⟩
theorem pBk_dy {d : Nat} (h : pBk a) : pBk (pDY k d a).2 := by
  unfold pDY
  split
  · exact pBk_num h
  · exact h
theorem pBk_day {f : Nat → Int32} (h : pBk a) : pBk (pDay k a f).1 := pBk_endL (pBk_dy (pBk_num (pBk_db (pBk_word h))))
/-- what holds of a day's row while there is no fault -/
def zDJ (a : pS) (f : Nat → Int32) : Prop := a.2.2.1.toInt = 0 → zDR f ∧ 0 ≤ (f 0).toInt ∧ (f 0).toInt ≤ 40
theorem zDJ_day {f : Nat → Int32} (h : pBk a) (hJ : zDJ a f) : zDJ (pDay k a f).1 (pDay k a f).2 := by
  intro q
  have b1 := pBk_word (k := k) (lo := 5) (hi := 10) h
  have b2 := pBk_db (m := 40) (w := nI (pWh k a.1)) (f := f) b1
  have b3 := pBk_num (k := k) (lo := 0) (hi := 6) b2
  have q1 : (pDY k (pWord k 5 10 a).1 (pNum k 0 6 (pDB 40 (nI (pWh k a.1)) f (pWord k 5 10 a).2)).2).2.2.2.1.toInt = 0 := pEndL_z (pBk_dy b3) q
  have q2 : (pNum k 0 6 (pDB 40 (nI (pWh k a.1)) f (pWord k 5 10 a).2)).2.2.2.1.toInt = 0 ∧ (8 < (pWord k 5 10 a).1 → 0 ≤ (pDY k (pWord k 5 10 a).1 (pNum k 0 6 (pDB 40 (nI (pWh k a.1)) f (pWord k 5 10 a).2)).2).1.toInt ∧ (pDY k (pWord k 5 10 a).1 (pNum k 0 6 (pDB 40 (nI (pWh k a.1)) f (pWord k 5 10 a).2)).2).1.toInt ≤ 3) := by
    unfold pDY at q1 ⊢
    by_cases c : 8 < (pWord k 5 10 a).1
    · rw [if_pos c] at q1 ⊢
      have t := pNum_z b3 q1
      exact ⟨t.1, fun _ => ⟨t.2.1, t.2.2⟩⟩
    · rw [if_neg c] at q1
      exact ⟨q1, fun z => absurd z c⟩
  have q3 := pNum_z b2 q2.1
  have q4 := pDB_z b1 q3.1
  have q5 := pWord_z h q4.1
  have hf := hJ q5.1
  have e : (pDay k a f).2 = if (f 0).toInt < 40 then upd (upd (upd (upd f (1 + 3 * (f 0).toInt.toNat) (nI (pWord k 5 10 a).1 - 5)) (2 + 3 * (f 0).toInt.toNat) (pNum k 0 6 (pDB 40 (nI (pWh k a.1)) f (pWord k 5 10 a).2)).1) (3 + 3 * (f 0).toInt.toNat) (pDY k (pWord k 5 10 a).1 (pNum k 0 6 (pDB 40 (nI (pWh k a.1)) f (pWord k 5 10 a).2)).2).1) 0 (f 0 + 1) else f := rfl
  rw [e, if_pos q4.2]
  have e1 : (f 0 + 1).toInt = (f 0).toInt + 1 := (z_iaddI (x := f 0) (y := 1) (by show -2147483648 ≤ (f 0).toInt + 1; omega) (by show (f 0).toInt + 1 < 2147483648; omega))
  have e2 := nI_toInt (n := (pWord k 5 10 a).1) (by omega)
  have e5 : (5 : Int32).toInt = 5 := rfl
  have e3 : (nI (pWord k 5 10 a).1 - 5).toInt = ((pWord k 5 10 a).1 : Int) - 5 := (z_isubI (x := nI (pWord k 5 10 a).1) (y := 5) (by rw [e5, e2]; omega) (by rw [e5, e2]; omega)).trans (by rw [e5, e2])
  refine ⟨fun j hj => ?_, by rw [z_eq rfl, e1]; omega⟩
  rw [z_eq rfl, e1] at hj
  rw [z_ne (show ¬ 1 + 3 * j = 0 by omega), z_ne (show ¬ 1 + 3 * j = 3 + 3 * (f 0).toInt.toNat by omega), z_ne (show ¬ 1 + 3 * j = 2 + 3 * (f 0).toInt.toNat by omega), z_ne (show ¬ 3 + 3 * j = 0 by omega)]
  by_cases t : j = (f 0).toInt.toNat
  · rw [z_eq (show 1 + 3 * j = 1 + 3 * (f 0).toInt.toNat by omega), z_eq (show 3 + 3 * j = 3 + 3 * (f 0).toInt.toNat by omega), e3]
    exact ⟨⟨by omega, by omega⟩, fun z => q2.2 (by omega)⟩
  · rw [z_ne (show ¬ 1 + 3 * j = 1 + 3 * (f 0).toInt.toNat by omega), z_ne (show ¬ 3 + 3 * j = 3 + 3 * (f 0).toInt.toNat by omega), z_ne (show ¬ 3 + 3 * j = 2 + 3 * (f 0).toInt.toNat by omega), z_ne (show ¬ 3 + 3 * j = 1 + 3 * (f 0).toInt.toNat by omega)]
    exact hf.1 j (by omega)
theorem zDJ_lines : ∀ (i : Nat) (a : pS) (f : Nat → Int32), pBk a → zDJ a f → zDJ (pLines k 1 i a f).1 (pLines k 1 i a f).2
  | 0, a, f, _, h => h
  | i + 1, a, f, hb, h => by
    unfold pLines
    split
    · have e : pLine k 1 a f = pDay k a f := by
        unfold pLine
        rw [if_neg (by decide), if_pos rfl]
      refine zDJ_lines i _ _ ?_ ?_
      · rw [e]; exact pBk_day hb
      · rw [e]; exact zDJ_day hb h
    · exact h
end PZ
theorem pRead_D {k : pT} {n : Nat} (h : (pRead k n 1).1.2.2.1.toInt = 0) : zDR (pRead k n 1).2 ∧ (((pRead k n 1).2 0).toInt ≤ 40) := by
  have hJ : zDJ (pLines k 1 601 (0, 0, 0, -1, -1) (fun _ => 0)).1 (pLines k 1 601 (0, 0, 0, -1, -1) (fun _ => 0)).2 := zDJ_lines 601 _ _ (fun q => absurd rfl q) (fun _ => ⟨fun j hj => absurd hj (by show ¬ (j : Int) < (0 : Int32).toInt; have : (0 : Int32).toInt = 0 := rfl; omega), by decide⟩)
  have e4 : ∀ (a : pS) (f : Nat → Int32), pF4 n 1 a f = a := fun a f => by
    unfold pF4
    rw [if_neg (fun z => absurd z.1 (by decide))]
  have e5 : ∀ (a : pS) (f : Nat → Int32), pF5 n 1 a f = a := fun a f => by
    unfold pF5
    rw [if_neg (fun z => absurd z.1 (by decide))]
  have h : (pF5 n 1 (pF4 n 1 (pLines k 1 601 (0, 0, 0, -1, -1) (fun _ => 0)).1 (pLines k 1 601 (0, 0, 0, -1, -1) (fun _ => 0)).2) (pLines k 1 601 (0, 0, 0, -1, -1) (fun _ => 0)).2).2.2.1.toInt = 0 := h
  rw [e4, e5] at h
  exact ⟨(hJ h).1, (hJ h).2.2⟩
/-- so of each day that is kept -/
def zVD (f : Nat → Int32) : Prop := ∀ i k, i < 4 → k < 2 → zDR (fun j => f (988 * i + (712 + 121 * k + j))) ∧ (f (988 * i + (712 + 121 * k))).toInt ≤ 40
theorem zVD_c {f g : Nat → Int32} {a b : Nat} (e : ∀ j, j < 121 → g (b + j) = f (a + j)) (h : zDR (fun j => f (a + j)) ∧ (f a).toInt ≤ 40) : zDR (fun j => g (b + j)) ∧ (g b).toInt ≤ 40 := by
  have e0 := e 0 (by decide)
  refine ⟨zDR_cg (R := fun j => f (a + j)) e h.2 h.1, ?_⟩
  have e0 : g b = f a := e0
  rw [e0]
  exact h.2
theorem zVD_low {f g : Nat → Int32} (hV : zVD f) (e : ∀ j, 610 ≤ j → g j = f j) : zVD g := fun i q hi hq => by
  have h := hV i q hi hq
  have a : ∀ (G : Nat → Int32), (zDR (fun j => G (988 * i + (712 + 121 * q + j))) ∧ (G (988 * i + (712 + 121 * q))).toInt ≤ 40) = (zDR (fun j => G (988 * i + (712 + 121 * q) + j)) ∧ (G (988 * i + (712 + 121 * q))).toInt ≤ 40) := fun G => by
    rw [show (fun j => G (988 * i + (712 + 121 * q + j))) = (fun j => G (988 * i + (712 + 121 * q) + j)) from funext fun j => congrArg G (by omega)]
  rw [a] at h ⊢
  exact zVD_c (fun j _ => e _ (by omega)) h
theorem zVD_a {f : Nat → Int32} (b q : Nat) : (zDR (fun j => f (b + (712 + 121 * q + j))) ∧ (f (b + (712 + 121 * q))).toInt ≤ 40) = (zDR (fun j => f (b + (712 + 121 * q) + j)) ∧ (f (b + (712 + 121 * q))).toInt ≤ 40) := by
  rw [show (fun j => f (b + (712 + 121 * q + j))) = (fun j => f (b + (712 + 121 * q) + j)) from funext fun j => congrArg f (by omega)]
theorem zVD_to {f g : Nat → Int32} {a b q : Nat} (e : ∀ j, j < 121 → g (b + (712 + 121 * q) + j) = f (a + (712 + 121 * q) + j)) (h : zDR (fun j => f (a + (712 + 121 * q + j))) ∧ (f (a + (712 + 121 * q))).toInt ≤ 40) : zDR (fun j => g (b + (712 + 121 * q + j))) ∧ (g (b + (712 + 121 * q))).toInt ≤ 40 := by
  rw [zVD_a] at h ⊢
  exact zVD_c e h
theorem pNr_lt {s : Nat} {at_ : Int32} {f : Nat → Int32} (h : pOkAt s at_ f) (h2 : (f s).toInt ≤ 2) : (pNr s at_ f).toInt.toNat < 2 := by
  unfold pOkAt at h
  unfold pNr
  by_cases q : at_.toInt = -1
  · rw [if_pos q] at h ⊢
    omega
  · rw [if_neg q] at h ⊢
    omega
theorem zVD_text {k : pT} {n s : Nat} {at_ r : Int32} {f g : Nat → Int32} (hV : zVD f) (hs : s < 3) (h2 : ∀ q, q < 3 → (f q).toInt ≤ 2) (F2 : zText (pRead k n s) s at_ f g r) (T2 : ∀ j, 988 ≤ j → g j = f j) : zVD g := by
  have ho : ∀ (a b : Int32) (j : Nat), 7 ≤ j → pHd f a b j = f j := fun a b j hj => by
    unfold pHd
    rw [z_ne (by omega), z_ne (by omega), z_ne (by omega)]
  rcases F2 with ⟨-, -, z⟩ | ⟨-, -, -, z⟩ | ⟨w, y, -, z⟩
  · refine zVD_low hV (fun j hj => ?_)
    by_cases q : j < 988
    · rw [z j q, ho _ _ _ (by omega)]
    · exact T2 j (by omega)
  · refine zVD_low hV (fun j hj => ?_)
    by_cases q : j < 988
    · rw [z j q, ho _ _ _ (by omega)]
    · exact T2 j (by omega)
  · have hc2 : ∀ (G : Nat → Int32) (j : Nat), 7 ≤ j → pCnt s at_ G j = G j := fun G j hj => by
      unfold pCnt
      split
      · exact z_ne (by omega)
      · rfl
    intro i q hi hq
    by_cases e : i = 0
    · by_cases hs0 : s = 1 ∧ (pNr 1 at_ f).toInt.toNat = q
      · obtain ⟨hs0, hn⟩ := hs0
        subst hs0
        have t := pRead_D y
        have hg : ∀ j, j < 121 → g (988 * i + (712 + 121 * q) + j) = (pRead k n 1).2 j := fun j hj => by
          rw [z _ (by omega), hn]
          unfold pPut
          have hp : pBase 1 q = 712 + 121 * q := rfl
          have hz : pSize 1 = 121 := rfl
          rw [hp, hz, if_pos (by omega)]
          exact congrArg _ (by omega)
        rw [zVD_a]
        refine ⟨zDR_cg hg t.2 t.1, ?_⟩
        have h0 : g (988 * i + (712 + 121 * q)) = (pRead k n 1).2 0 := hg 0 (by decide)
        rw [h0]
        exact t.2
      · refine zVD_to (fun j hj => ?_) (hV i q hi hq)
        rw [z _ (by omega)]
        have hx : ¬ (pBase s (pNr s at_ f).toInt.toNat ≤ 988 * i + (712 + 121 * q) + j ∧ 988 * i + (712 + 121 * q) + j < pBase s (pNr s at_ f).toInt.toNat + pSize s) := by
          rcases (show s = 0 ∨ s = 1 ∨ s = 2 by omega) with t | t | t
          · subst t
            have hp : pBase 0 (pNr 0 at_ f).toInt.toNat = 610 + 51 * (pNr 0 at_ f).toInt.toNat := rfl
            have hz : pSize 0 = 51 := rfl
            have hb := pNr_lt w (h2 0 (by decide))
            rw [hp, hz]
            omega
          · subst t
            have hp : pBase 1 (pNr 1 at_ f).toInt.toNat = 712 + 121 * (pNr 1 at_ f).toInt.toNat := rfl
            have hz : pSize 1 = 121 := rfl
            rw [hp, hz]
            have hn : ¬ (pNr 1 at_ f).toInt.toNat = q := fun w => hs0 ⟨rfl, w⟩
            omega
          · subst t
            have hp : pBase 2 (pNr 2 at_ f).toInt.toNat = 954 + 17 * (pNr 2 at_ f).toInt.toNat := rfl
            rw [hp]
            omega
        unfold pPut
        rw [if_neg hx, hc2 _ _ (by omega), ho _ _ _ (by omega)]
    · exact zVD_to (fun j _ => T2 _ (by omega)) (hV i q hi hq)
theorem zVD_feed {p : Nat} {a b c d e r : Int32} {f g : Nat → Int32} (hV : zVD f) (hp6 : p ≤ 600) (F2 : 580 < p ∧ r = -1 ∧ g = f ∨ p ≤ 580 ∧ r = nI (p + 20) ∧ zFeedR p a b c d e f g) : zVD g := by
  rcases F2 with ⟨-, -, y⟩ | ⟨hp5, -, y⟩
  · rw [y]; exact hV
  · obtain ⟨-, -, z3⟩ := y
    exact zVD_low hV (fun j hj => z3 j (by omega) (by omega))
theorem zVD_end {n r : Int32} {f g : Nat → Int32} (hV : zVD f) (F2 : (n.toInt < 0 ∨ (f 4).toInt < n.toInt) ∧ r.toInt = -1 ∧ g = f ∨ (0 ≤ n.toInt ∧ n.toInt ≤ (f 4).toInt) ∧ g = upd f 4 n ∧ r = n) : zVD g := by
  rcases F2 with ⟨-, -, y⟩ | ⟨-, y, -⟩
  · rw [y]; exact hV
  · rw [y]; exact zVD_low hV (fun j hj => z_ne (by omega))
theorem zVD_hd {f g : Nat → Int32} (hV : zVD f) (hg : g = upd (upd (upd f 4 0) 5 0) 6 (-1)) : zVD g := by
  rw [hg]
  exact zVD_low hV (fun j hj => by rw [z_ne (by omega), z_ne (by omega), z_ne (by omega)])
theorem zVD_img {f g : Nat → Int32} {k : Nat} (hk : k < 3) (hV : zVD f) (c1 : ∀ j, j < 988 → g (988 * (k + 1) + j) = f j) (c2 : ∀ j, (j < 988 * (k + 1) ∨ 988 * (k + 1) + 988 ≤ j) → g j = f j) : zVD g := by
  intro i q hi hq
  by_cases e : i = k + 1
  · subst e
    refine zVD_to (a := 988 * 0) (fun j hj => ?_) (hV 0 q (by decide) hq)
    rw [show 988 * (k + 1) + (712 + 121 * q) + j = 988 * (k + 1) + (712 + 121 * q + j) by omega, c1 _ (by omega)]
    exact congrArg f (by omega)
  · have : i < k + 1 ∨ k + 1 < i := by omega
    exact zVD_to (fun j _ => c2 _ (by omega)) (hV i q hi hq)
theorem zVD_ag {K : Nat} {x r' : Int32} {fh f g : Nat → Int32} (hV : zVD f) (hx : x.toInt = (K : Int)) (hK : K < 3) (F2 : r' = 0 ∧ (x.toInt < 0 ∨ 3 ≤ x.toInt ∨ fh x.toNatClampNeg = 0) ∧ g = f ∨ r' = 1 ∧ (0 ≤ x.toInt ∧ x.toInt < 3) ∧ ¬ fh x.toNatClampNeg = 0 ∧ (∀ j, j < 988 → g j = f (988 * (x.toNatClampNeg + 1) + j)) ∧ ∀ j, 988 ≤ j → g j = f j) : zVD g := by
  have e : x.toNatClampNeg = K := by have := z_clI (x := x) (by omega); omega
  rw [e] at F2
  rcases F2 with ⟨-, -, z⟩ | ⟨-, -, -, z, z2⟩
  · rw [z]; exact hV
  · intro i q hi hq
    by_cases e : i = 0
    · refine zVD_to (a := 988 * (K + 1)) (fun j hj => ?_) (hV (K + 1) q (by omega) hq)
      rw [z _ (by omega)]
      exact congrArg f (by omega)
    · exact zVD_to (fun j _ => z2 _ (by omega)) (hV i q hi hq)
theorem zVD_st : zVD (upd (fun _ => 0) 6 (-1)) := fun i q _ _ => by
  have o : ∀ j, ¬ j = 6 → upd (fun _ => (0 : Int32)) 6 (-1) j = 0 := fun j h => if_neg h
  have z0 : (0 : Int32).toInt = 0 := rfl
  refine ⟨fun j hj => ?_, by rw [o _ (by omega), z0]; decide⟩
  have hj : (j : Int) < (upd (fun _ => (0 : Int32)) 6 (-1) (988 * i + (712 + 121 * q + 0))).toInt := hj
  rw [o _ (by omega), z0] at hj
  omega
/-- posts as one number -/
def zCd (P : Nat → Int32) : Nat → Nat
  | 0 => 0
  | n + 1 => 4 * zCd P n + (P n).toInt.toNat
def zPn (P : Nat → Int32) : Nat → Int32
  | 0 => 0
  | n + 1 => 4 * zPn P n + P n
theorem zNm1 {n : Nat} {r : Int32} (h : n < 2147483648) (a : r = nI n) (b : r = -1) : False := by
  have e := congrArg Int32.toInt (a.symm.trans b)
  rw [nI_toInt h] at e
  have m : (-1 : Int32).toInt = -1 := rfl
  omega
theorem zCd_lt {P : Nat → Int32} (h : zMP P) : ∀ n, n ≤ 7 → zCd P n < 4 ^ n
  | 0, _ => Nat.zero_lt_one
  | n + 1, hn => by
    have a := zCd_lt h n (by omega)
    have b := h n (by omega)
    have e : 4 ^ (n + 1) = 4 ^ n * 4 := Nat.pow_succ ..
    show 4 * zCd P n + (P n).toInt.toNat < 4 ^ (n + 1)
    omega
theorem z4p {n : Nat} (h : n ≤ 7) : 4 ^ n ≤ 16384 := by
  have h1 : 4 ^ n ≤ 4 ^ 7 := Nat.pow_le_pow_right (by decide) h
  have h3 : (4 : Nat) ^ 7 = 16384 := by decide
  omega
theorem zCd_inj {P P' : Nat → Int32} (h : zMP P) (h' : zMP P') : ∀ n, n ≤ 7 → zCd P n = zCd P' n → ∀ j, j < n → P j = P' j
  | 0, _, _ => fun j hj => absurd hj (Nat.not_lt_zero j)
  | n + 1, hn, e => by
    have b := h n (by omega)
    have b' := h' n (by omega)
    have e : 4 * zCd P n + (P n).toInt.toNat = 4 * zCd P' n + (P' n).toInt.toNat := e
    intro j hj
    by_cases q : j = n
    · rw [q]
      exact Int32.toInt_inj.mp (by omega)
    · exact zCd_inj h h' n (by omega) (by omega) j (by omega)
theorem zCd_cg {P P' : Nat → Int32} : ∀ n, (∀ j, j < n → P j = P' j) → zCd P n = zCd P' n
  | 0, _ => rfl
  | n + 1, h => by
    show 4 * zCd P n + (P n).toInt.toNat = 4 * zCd P' n + (P' n).toInt.toNat
    rw [h n (by omega), zCd_cg n (fun j hj => h j (by omega))]
theorem zPn_n {P : Nat → Int32} (h : zMP P) : ∀ n, n ≤ 7 → zPn P n = nI (zCd P n)
  | 0, _ => rfl
  | n + 1, hn => by
    have a := zCd_lt h (n + 1) hn
    have b := h n (by omega)
    have p := z4p hn
    have a2 : zCd P (n + 1) = 4 * zCd P n + (P n).toInt.toNat := rfl
    have e4 : (4 : Int32).toInt = 4 := rfl
    have en := nI_toInt (n := zCd P n) (by omega)
    have m : (4 * nI (zCd P n)).toInt = 4 * (zCd P n : Int) := (z_imulI (x := 4) (y := nI (zCd P n)) (by rw [e4, en]; omega) (by rw [e4, en]; omega)).trans (by rw [e4, en])
    show 4 * zPn P n + P n = nI (zCd P (n + 1))
    rw [zPn_n h n (by omega)]
    refine z_nI ?_ (by omega)
    rw [z_iaddI (by rw [m]; omega) (by rw [m]; omega), m]
    omega
theorem zCode_n {P : Nat → Int32} (h : zMP P) : ∀ n, n ≤ 7 → zCode P n = nI (zCd P n)
  | 0, _ => rfl
  | n + 1, hn => by
    have a := zCd_lt h (n + 1) hn
    have b := h n (by omega)
    have p := z4p hn
    have a2 : zCd P (n + 1) = 4 * zCd P n + (P n).toInt.toNat := rfl
    have e4 : (4 : Int32).toInt = 4 := rfl
    have en := nI_toInt (n := zCd P n) (by omega)
    have m : (nI (zCd P n) * 4).toInt = 4 * (zCd P n : Int) := (z_imulI (x := nI (zCd P n)) (y := 4) (by rw [e4, en]; omega) (by rw [e4, en]; omega)).trans (by rw [e4, en]; omega)
    show zCode P n * 4 + P n = nI (zCd P (n + 1))
    rw [zCode_n h n (by omega)]
    refine z_nI ?_ (by omega)
    rw [z_iaddI (by rw [m]; omega) (by rw [m]; omega), m]
    omega
/-- posts at a crossing without ways out stay; all stay in their bounds -/
theorem zPost_z {f1 f2 f3 : Nat → Int32} {x : Int32} {j : Nat} (hI : zP3 f1 f3) (h : f3 j = 0) : zPost f1 f2 f3 x j = f1 j := by
  unfold zPost
  by_cases q : zTurn f1 f2 f3 x = -1
  · rw [if_pos q]
  · rw [if_neg q]
    have g := (zTurn_lt (f2 := f2) hI x).resolve_left q
    refine z_ne (fun e => ?_)
    rw [← e, h] at g
    have z0 : (0 : Int32).toInt = 0 := rfl
    omega
theorem zRunN_z {f2 f3 lf : Nat → Int32} {j : Nat} (h : f3 j = 0) : ∀ (n : Nat) (f : Nat → Int32) (x : Int32) (k : Nat), zP3 f f3 → (zRunN f2 f3 lf n f x k).1 j = f j
  | 0, f, x, k, _ => rfl
  | n + 1, f, x, k, hI => by
    unfold zRunN
    by_cases q : zStep f f2 f3 lf x = -1
    · rw [if_pos q]
      exact zPost_z hI h
    · rw [if_neg q, zRunN_z h n _ _ _ (zPost_I hI x)]
      exact zPost_z hI h
theorem zPost_mp {f1 f2 f3 : Nat → Int32} {x : Int32} (hI : zP3 f1 f3) (h : zMP f1) : zMP (zPost f1 f2 f3 x) := by
  unfold zPost
  by_cases q : zTurn f1 f2 f3 x = -1
  · rw [if_pos q]; exact h
  · rw [if_neg q]
    have g := (zTurn_in (f2 := f2) hI x).resolve_left q
    exact zMP_upd h ⟨g.2.2.1, g.2.2.2⟩
theorem zRunN_mp {f2 f3 lf : Nat → Int32} : ∀ (n : Nat) (f : Nat → Int32) (x : Int32) (k : Nat), zP3 f f3 → zMP f → zMP (zRunN f2 f3 lf n f x k).1
  | 0, f, x, k, _, h => h
  | n + 1, f, x, k, hI, h => by
    unfold zRunN
    by_cases q : zStep f f2 f3 lf x = -1
    · rw [if_pos q]; exact zPost_mp hI h
    · rw [if_neg q]; exact zRunN_mp n _ _ _ (zPost_I hI x) (zPost_mp hI h)
theorem zPk_mp {S W L P : Nat → Int32} {c : Int32} (hI : zP3 P W) (h : zMP P) : ∀ k, zMP (zPk S W L c P k)
  | 0 => h
  | k + 1 => zRunN_mp _ _ _ _ (zPk_I hI k) (zPk_mp hI h k)
theorem zPk_z {S W L P : Nat → Int32} {c : Int32} {j : Nat} (hI : zP3 P W) (h : W j = 0) : ∀ k, zPk S W L c P k j = P j
  | 0 => rfl
  | k + 1 => (zRunN_z h 499 _ c 0 (zPk_I hI k)).trans (zPk_z hI h k)
theorem zPk_p {S W L P : Nat → Int32} {c : Int32} {i : Nat} (h : 1 ≤ i) : (zRunN S W L 499 (zPk S W L c P (i - 1)) c 0).1 = zPk S W L c P i := by
  obtain ⟨m, e⟩ : ∃ m, i = m + 1 := ⟨i - 1, by omega⟩
  subst e
  rfl
/-- the first time that a number is one that was -/
def zPer (c : Nat → Int32) (ah : Prop) (r : Int32) : Prop := (∃ n i : Nat, (1 ≤ n ∧ n ≤ 999) ∧ i < n ∧ c i = c n ∧ (∀ a b, a < b → b < n → ¬ c a = c b) ∧ (ah ∧ r = nI i ∨ ¬ ah ∧ r = nI (n - i))) ∨ ((∀ a b, a < b → b ≤ 999 → ¬ c a = c b) ∧ r = -1)
theorem zPer_u {c d : Nat → Int32} {ah : Prop} {r r' : Int32} (he : ∀ a b, c a = c b ↔ d a = d b) (x : zPer c ah r) (y : zPer d ah r') : r = r' := by
  rcases x with ⟨n, i, h1, h2, h3, h4, h5⟩ | ⟨h4, h5⟩ <;> rcases y with ⟨m, j, g1, g2, g3, g4, g5⟩ | ⟨g4, g5⟩
  · have e1 : n = m := by
      rcases Nat.lt_trichotomy n m with q | q | q
      · exact absurd ((he i n).mp h3) (g4 i n h2 q)
      · exact q
      · exact absurd ((he j m).mpr g3) (h4 j m g2 q)
    subst e1
    have e2 : i = j := by
      have t : c i = c j := h3.trans ((he j n).mpr g3).symm
      rcases Nat.lt_trichotomy i j with q | q | q
      · exact absurd t (h4 i j q g2)
      · exact q
      · exact absurd t.symm (h4 j i q h2)
    subst e2
    rcases h5 with ⟨a, b⟩ | ⟨a, b⟩ <;> rcases g5 with ⟨e, f⟩ | ⟨e, f⟩
    · rw [b, f]
    · exact absurd a e
    · exact absurd e a
    · rw [b, f]
  · exact absurd ((he i n).mp h3) (g4 i n h2 (by omega))
  · exact absurd ((he j m).mpr g3) (h4 j m g2 (by omega))
  · rw [h5, g5]
def kPeriod (cr inn : Int32) (k1 k2 k3 : Nat → Int32) (a w r : Int32) : Prop := ((0 ≤ a.toInt ∧ a.toInt < cr.toInt) ∧ ∃ G1 G2 G3 : Nat → Int32, (zP3 G1 G3 ∧ (∀ j, j < 7 → G1 j = k3 j) ∧ (∀ j, j < 7 → G2 j = 0) ∧ ∀ j, j < 7 → G3 j = zWays cr inn k1 (nI j)) ∧ zPer (fun k => zCode (zPk G2 G3 k2 a G1 k) 7) (¬ w.toInt = 0) r) ∨ ¬ (0 ≤ a.toInt ∧ a.toInt < cr.toInt) ∧ r = -1
def pPeriod (f : Nat → Int32) (z a w r : Int32) : Prop := ((0 ≤ a.toInt ∧ a.toInt < (f z.toInt.toNat).toInt) ∧ ∃ G1 G2 : Nat → Int32, ((∀ j, j < 7 → G1 j = zPo f z j) ∧ ∀ j, j < 7 → G2 j = 0) ∧ zPer (fun k => zPn (zPk G2 (pW f z) (zLo f z) a G1 k) (f z.toInt.toNat).toInt.toNat) (¬ w.toInt = 0) r) ∨ ¬ (0 ≤ a.toInt ∧ a.toInt < (f z.toInt.toNat).toInt) ∧ r = -1
theorem kPeriod_e {cr inn z a w r r' : Int32} {k1 k2 k3 k4 f : Nat → Int32} {B : Nat} (h : zLnd cr inn k1 k2 k3 k4 (fun j => f (B + j))) (hF : zLF (fun j => f (B + j))) (hz : z.toInt.toNat = B) (hV : zVA f) (hz2 : z.toInt = 610 ∨ z.toInt = 661) (F1 : kPeriod cr inn k1 k2 k3 a w r) (F2 : pPeriod f z a w r') : r = r' := by
  obtain ⟨a1, a2, a3, a4, a5, a6⟩ := zLnd_w h hF hz
  have hc : 0 ≤ (f B).toInt ∧ (f B).toInt ≤ 7 := hF.1
  have e5 : cr.toInt = (f z.toInt.toNat).toInt := by rw [a5]
  rcases F1 with ⟨b, G1, G2, G3, ⟨g0, g1, g2, g3⟩, x⟩ | ⟨b, x⟩ <;> rcases F2 with ⟨c, H1, H2, ⟨h1, h2⟩, y⟩ | ⟨c, y⟩
  · have e3 : ∀ j, j < 7 → G3 j = pW f z j := fun j hj => (g3 j hj).trans (a1 j hj)
    have hP : zP3 H1 (pW f z) := fun j hj => by
      rw [h1 j hj, ← a3 j hj, ← a1 j hj]
      exact a4 j hj
    have hM : zMP H1 := fun j hj => by
      rw [h1 j hj]
      have t : 0 ≤ (f (B + (9 + j))).toInt ∧ (f (B + (9 + j))).toInt ≤ 3 := (hF.2.1 j hj).2.1
      unfold zPo
      rw [hz]
      exact t
    have hMG : zMP G1 := fun j hj => by
      rw [g1 j hj, a3 j hj, ← h1 j hj]
      exact hM j hj
    have cg : ∀ k j, j < 7 → zPk G2 G3 k2 a G1 k j = zPk H2 (pW f z) (zLo f z) a H1 k j := zPk_cg (fun j hj => (g2 j hj).trans (h2 j hj).symm) e3 (zLs_c a2 (fun j hj => g3 j hj)) g0 (fun j hj => (g1 j hj).trans ((a3 j hj).trans (h1 j hj).symm))
    have hW0 : ∀ j : Nat, j < 7 → (f z.toInt.toNat).toInt ≤ (j : Int) → pW f z j = 0 := fun j hj hq => by
      rw [← a1 j hj]
      have t := nI_toInt (n := j) (by omega)
      unfold kW zWays
      rw [if_neg (fun q => by omega)]
    refine zPer_u (fun p q => ?_) x y
    show zCode (zPk G2 G3 k2 a G1 p) 7 = zCode (zPk G2 G3 k2 a G1 q) 7 ↔ zPn (zPk H2 (pW f z) (zLo f z) a H1 p) (f z.toInt.toNat).toInt.toNat = zPn (zPk H2 (pW f z) (zLo f z) a H1 q) (f z.toInt.toNat).toInt.toNat
    have mC := fun k => zPk_mp (S := G2) (L := k2) (c := a) g0 hMG k
    have mP := fun k => zPk_mp (S := H2) (L := zLo f z) (c := a) hP hM k
    have lp := z4p (n := 7) (by decide)
    rw [hz] at hW0 ⊢
    have l7 : (f B).toInt.toNat ≤ 7 := by omega
    have lq := z4p l7
    have b1 := zCd_lt (mC p) 7 (by decide)
    have b2 := zCd_lt (mC q) 7 (by decide)
    have b3 := zCd_lt (mP p) _ l7
    have b4 := zCd_lt (mP q) _ l7
    rw [zCode_n (mC p) 7 (by decide), zCode_n (mC q) 7 (by decide), zPn_n (mP p) _ l7, zPn_n (mP q) _ l7]
    constructor
    · intro e
      have e := congrArg Int32.toInt e
      rw [nI_toInt (by omega), nI_toInt (by omega)] at e
      have t := zCd_inj (mC p) (mC q) 7 (by decide) (by omega)
      exact congrArg nI (zCd_cg _ (fun j hj => (cg p j (by omega)).symm.trans ((t j (by omega)).trans (cg q j (by omega)))))
    · intro e
      have e := congrArg Int32.toInt e
      rw [nI_toInt (by omega), nI_toInt (by omega)] at e
      have t := zCd_inj (mP p) (mP q) _ l7 (by omega)
      refine congrArg nI (zCd_cg 7 (fun j hj => ?_))
      rw [cg p j hj, cg q j hj]
      by_cases u : j < (f B).toInt.toNat
      · exact t j u
      · rw [zPk_z hP (hW0 j hj (by omega)), zPk_z hP (hW0 j hj (by omega))]
  · exact absurd ⟨b.1, by omega⟩ c
  · exact absurd ⟨c.1, by omega⟩ b
  · rw [x, y]
theorem zSubN {a b : Nat} (h : b ≤ a) (ha : a < 2147483648) : nI a - nI b = nI (a - b) := by
  have ea := nI_toInt (n := a) (by omega)
  have eb := nI_toInt (n := b) (by omega)
  refine z_nI ?_ (by omega)
  rw [z_isubI (by rw [ea, eb]; omega) (by rw [ea, eb]; omega), ea, eb]
  omega
theorem zN_s {c : Nat → Int32} {v : Int32} {i : Nat} (h : ∀ j, j < i → ¬ c j = v) (q : ¬ c i = v) : ∀ j, j < i + 1 → ¬ c j = v := by
  intro j hj
  by_cases e : j = i
  · rw [e]; exact q
  · exact h j (by omega)
set_option maxHeartbeats 4000000 in
set_option maxRecDepth 100000 in
/-- placeOfCode -/
theorem c_f_placeOfCode (l : Launch) (T : zTy) (xo : Nat) (t : Nat) (im : Nat) (mk : Nat) (rd : Nat) (po : Nat) (co : Nat) (tr : Nat) (wa : Nat) (wb_ : Nat) (fi : Nat) (cd : Nat) (fcd : Nat → Int32) (a_ : Int32) (b_ : Int32) : zMi l T yX11_placeOfCode cX11_placeOfCode 4 (some .int) 1 0 0 [.ref xo, .int a_, .int b_] [[(xo, .inr (10, [.ref t, .ref im, .ref mk, .ref rd, .ref po, .ref co, .ref tr, .ref wa, .ref wb_, .ref fi, .ref cd]))], [(cd, .inl (T.2 0, 1000, .inl fcd))]] (fun (r : Int32) bs => bs = [[(xo, .inr (10, [.ref t, .ref im, .ref mk, .ref rd, .ref po, .ref co, .ref tr, .ref wa, .ref wb_, .ref fi, .ref cd]))], [(cd, .inl (T.2 0, 1000, .inl fcd))]] ∧ ((∃ i : Nat, r = nI i ∧ (i : Int) < b_.toInt ∧ i < 1000 ∧ fcd i = a_) ∨ r = -1 ∧ ∀ i : Nat, (i : Int) < b_.toInt → i < 1000 → ¬ fcd i = a_)) := by
  refine zMi_of (own := RX11) (by decide) rfl (Nat.le_of_ble_eq_true rfl) ?_
  intro p e s m args below meth c A ls C hr hlocks hnm hAe G hl
  have hx := C.1
  have hb := C.2.1
  have hl : lv_has ls 4 [(0, .ref xo), (1, .int a_), (2, .int b_)] := hl
  refine lv_iconst (v := 0) hx hb dX11_placeOfCode_0 (by decide) ?_
  refine lv_istore_n (lv' := [(3, .int 0), (0, .ref xo), (1, .int a_), (2, .int b_)]) hx hb dX11_placeOfCode_1 rfl hl (by decide) rfl (fun ls hl => ?_)
  refine z_loop (T := T) (α := Nat) 2 (fun i => [[(xo, .inr (10, [.ref t, .ref im, .ref mk, .ref rd, .ref po, .ref co, .ref tr, .ref wa, .ref wb_, .ref fi, .ref cd]))], [(cd, .inl (T.2 0, 1000, .inl fcd))]]) (fun i => [(3, .int (nI i)), (0, .ref xo), (1, .int a_), (2, .int b_)]) (fun i => i ≤ 1000 ∧ (∀ j, j < i → ¬ fcd j = a_)) (fun i => 1000 - i) ?_ 0 (show 0 ≤ 1000 ∧ (∀ j, j < 0 → ¬ fcd j = a_) from ⟨by omega, (fun j hj => absurd hj (Nat.not_lt_zero j))⟩) G (lv_sub hl [0, 1, 2, 3] rfl)
  rintro i ⟨hi, hN⟩ ih_2 H locs ls G hl
  replace hi : i ≤ 1000 := hi
  replace hN : (∀ j, j < i → ¬ fcd j = a_) := hN
  replace G : zS T A s.heap s [[(xo, .inr (10, [.ref t, .ref im, .ref mk, .ref rd, .ref po, .ref co, .ref tr, .ref wa, .ref wb_, .ref fi, .ref cd]))], [(cd, .inl (T.2 0, 1000, .inl fcd))]] _ _ := G
  replace hl : lv_has ls 4 [(3, .int (nI i)), (0, .ref xo), (1, .int a_), (2, .int b_)] := hl
  refine lv_iload_n hx hb dX11_placeOfCode_2 rfl (lv_at hl 0 rfl) ?_
  refine lv_iload_n hx hb dX11_placeOfCode_3 rfl (lv_at hl 3 rfl) ?_
  refine lv_icmp_ge (tgt := 34) hx hb dX11_placeOfCode_4 (by decide) (fun c_1 => ?_) (fun c_1 => ?_)
  · have c_1n : b_.toInt ≤ (i : Int) := by have q := (fa_le _ _).mp c_1; rw [nI_toInt (n := i) (by omega)] at q; exact q
    refine lv_iconst (v := (-1)) hx hb dX11_placeOfCode_34 (by decide) ?_
    exact z_iret C hr hlocks G (Nat.le_of_ble_eq_true rfl) (Nat.le_of_ble_eq_true rfl) dX11_placeOfCode_35 ⟨rfl, (Or.inr ⟨rfl, fun j h1 h2 => hN j (by omega)⟩)⟩
  · have c_1n : ¬ b_.toInt ≤ (i : Int) := fun q => c_1 ((fa_le _ _).mpr (by rw [nI_toInt (n := i) (by omega)]; exact q))
    refine lv_iload_n hx hb dX11_placeOfCode_7 rfl (lv_at hl 0 rfl) ?_
    refine lv_aload_n hx hb dX11_placeOfCode_8 rfl (lv_at hl 1 rfl) ?_
    refine z_get C G clX11 0 rfl 10 (by decide) m_fl_RX11_69 rfl dX11_placeOfCode_9 ?_
    refine z_alen C G 1 0 rfl (v := 1000) rfl rfl dX11_placeOfCode_12 ?_
    refine lv_icmp_ge (tgt := 34) hx hb dX11_placeOfCode_13 (by decide) (fun c_2 => ?_) (fun c_2 => ?_)
    · have c_2n : 1000 ≤ i := (nI_leI (a := 1000) (b := i) (by omega) (by omega)).mp c_2
      refine lv_iconst (v := (-1)) hx hb dX11_placeOfCode_34 (by decide) ?_
      exact z_iret C hr hlocks G (Nat.le_of_ble_eq_true rfl) (Nat.le_of_ble_eq_true rfl) dX11_placeOfCode_35 ⟨rfl, (Or.inr ⟨rfl, fun j h1 h2 => hN j (by omega)⟩)⟩
    · have c_2n : ¬ 1000 ≤ i := fun q => c_2 ((nI_leI (a := 1000) (b := i) (by omega) (by omega)).mpr q)
      refine lv_aload_n hx hb dX11_placeOfCode_16 rfl (lv_at hl 1 rfl) ?_
      refine z_get C G clX11 0 rfl 10 (by decide) m_fl_RX11_69 rfl dX11_placeOfCode_17 ?_
      refine lv_iload_n hx hb dX11_placeOfCode_20 rfl (lv_at hl 0 rfl) ?_
      refine z_ild C G 1 rfl (vp_in_nI (by omega) (by omega)) dX11_placeOfCode_21 ?_
      refine lv_topi (fun v_3 ev_3 => ?_)
      rw [nI_clamp (by omega)] at ev_3
      subst ev_3
      refine lv_iload_n hx hb dX11_placeOfCode_22 rfl (lv_at hl 2 rfl) ?_
      refine lv_icmp_ne (tgt := 28) hx hb dX11_placeOfCode_23 (by decide) (fun c_4 => ?_) (fun c_4 => ?_)
      · have c_4n : ¬ (fcd i).toInt = a_.toInt := fun q => c_4 ((fa_eq _ _).mpr q)
        refine lv_iinc (v := nI (i + 1)) (lv' := [(3, .int (nI (i + 1))), (0, .ref xo), (1, .int a_), (2, .int b_)]) hx hb dX11_placeOfCode_28 hl (k := 0) rfl (z_inc i 1) (by decide) rfl (fun ls hl => ?_)
        refine lv_goto (tgt := 2) hx hb dX11_placeOfCode_31 (by decide) ?_
        exact ih_2 (i + 1) (show (i + 1) ≤ 1000 ∧ (∀ j, j < (i + 1) → ¬ fcd j = a_) from ⟨by omega, (zN_s hN (by assumption))⟩) (show 1000 - (i + 1) < 1000 - i from by omega) _ _ ls G (lv_sub hl [0, 1, 2, 3] rfl)
      · have c_4n : (fcd i).toInt = a_.toInt := (fa_eq _ _).mp c_4
        refine lv_iload_n hx hb dX11_placeOfCode_26 rfl (lv_at hl 0 rfl) ?_
        exact z_iret C hr hlocks G (Nat.le_of_ble_eq_true rfl) (Nat.le_of_ble_eq_true rfl) dX11_placeOfCode_27 ⟨rfl, (Or.inl ⟨i, rfl, by omega, by omega, by assumption⟩)⟩
theorem zC_0 {f c : Nat → Int32} {v : Int32} (h : v = c 0) : ∀ k, k < 1 → upd f 0 v k = c k := by
  intro k hk
  have e : k = 0 := by omega
  subst e
  rw [z_eq rfl]
  exact h
theorem zN_d {c : Nat → Int32} {i : Nat} (h : ∀ a b, a < b → b < i → ¬ c a = c b) (q : ∀ k, k < i → ¬ c k = c i) : ∀ a b, a < b → b < i + 1 → ¬ c a = c b := by
  intro a b h1 h2
  by_cases e : b = i
  · rw [e]; exact q a (by omega)
  · exact h a b h1 (by omega)
set_option maxHeartbeats 4000000 in
set_option maxRecDepth 100000 in
/-- period -/
theorem c_f_period (l : Launch) (T : zTy) (xo : Nat) (t : Nat) (im : Nat) (mk : Nat) (rd : Nat) (po : Nat) (co : Nat) (tr : Nat) (wa : Nat) (wb_ : Nat) (fi : Nat) (cd : Nat) (l0 : Nat) (l1 : Nat) (d0 : Nat) (d1 : Nat) (g0 : Nat) (g1 : Nat) (ln : Int32) (fl : Int32) (pl : Int32) (ft : Nat → Int32) (fk : Nat → Int32) (wt : va_W) (cr0_ : Int32) (inn0_ : Int32) (k10_ : Nat → Int32) (k20_ : Nat → Int32) (k30_ : Nat → Int32) (k40_ : Nat → Int32) (z0_ : va_W) (cr1_ : Int32) (inn1_ : Int32) (k11_ : Nat → Int32) (k21_ : Nat → Int32) (k31_ : Nat → Int32) (k41_ : Nat → Int32) (z1_ : va_W) (lp : Nat) (f1 : Nat → Int32) (f2 : Nat → Int32) (f3 : Nat → Int32) (st : Int32) (wh : Int32) (wp : va_W) (fcd : Nat → Int32) (i1 : Int32) (a_ : Int32) (w_ : Int32) (ht : bTold T t l0 l1 d0 d1 g0 g1 ln fl pl ft fk wt) (hK : zKT fk) (hz0_ : bLand T l0 cr0_ inn0_ k10_ k20_ k30_ k40_ z0_) (hI0_ : zLI cr0_ k10_ k30_) (hz1_ : bLand T l1 cr1_ inn1_ k11_ k21_ k31_ k41_ z1_) (hI1_ : zLI cr1_ k11_ k31_) (hp : bPosts T po lp f1 f2 f3 st wh wp) : zMi l T yX11_period cX11_period 8 (some .int) 5 0 0 [.ref xo, .int i1, .int a_, .int w_] [[(xo, .inr (10, [.ref t, .ref im, .ref mk, .ref rd, .ref po, .ref co, .ref tr, .ref wa, .ref wb_, .ref fi, .ref cd]))], wt, z0_, z1_, wp, [(cd, .inl (T.2 0, 1000, .inl fcd))]] (fun (r : Int32) bs => ∃ (lp_2 : Nat) (f1_2 : Nat → Int32) (f2_2 : Nat → Int32) (f3_2 : Nat → Int32) (st_2 : Int32) (wh_2 : Int32) (wp_2 : va_W) (fcd_2 : Nat → Int32), bs = [[(xo, .inr (10, [.ref t, .ref im, .ref mk, .ref rd, .ref po, .ref co, .ref tr, .ref wa, .ref wb_, .ref fi, .ref cd]))], wt, z0_, z1_, wp_2, [(cd, .inl (T.2 0, 1000, .inl fcd_2))]] ∧ bPosts T po lp_2 f1_2 f2_2 f3_2 st_2 wh_2 wp_2 ∧ ((i1.toInt < 0 ∨ (fk 0).toInt ≤ i1.toInt ∨ 2 ≤ i1.toInt) ∧ r = -1 ∨ i1.toInt = 0 ∧ 0 < (fk 0).toInt ∧ kPeriod cr0_ inn0_ k10_ k20_ k30_ a_ w_ r ∨ i1.toInt = 1 ∧ 1 < (fk 0).toInt ∧ kPeriod cr1_ inn1_ k11_ k21_ k31_ a_ w_ r)) := by
  refine zMi_of (own := RX11) (by decide) rfl (Nat.le_of_ble_eq_true rfl) ?_
  intro p e s m args below meth c A ls C hr hlocks hnm hAe G hl
  have hx := C.1
  have hb := C.2.1
  have hl : lv_has ls 8 [(0, .ref xo), (1, .int i1), (2, .int a_), (3, .int w_)] := hl
  refine lv_aload_n hx hb dX11_period_0 rfl (lv_at hl 0 rfl) ?_
  refine z_get C G clX11 0 rfl 0 (by decide) m_fl_RX11_10 rfl dX11_period_1 ?_
  refine lv_iload_n hx hb dX11_period_4 rfl (lv_at hl 1 rfl) ?_
  refine z_Vq (bc := [wt]) (br := [[(xo, .inr (10, [.ref t, .ref im, .ref mk, .ref rd, .ref po, .ref co, .ref tr, .ref wa, .ref wb_, .ref fi, .ref cd]))], z0_, z1_, wp, [(cd, .inl (T.2 0, 1000, .inl fcd))]]) (As := [.int i1]) (rest := []) C G (c_landAt l T t l0 l1 d0 d1 g0 g1 ln fl pl ft fk wt i1 ht) (kV_RX11_121 C.2.2.2.2 (Nat.le_of_ble_eq_true rfl) (Nat.le_of_ble_eq_true rfl)) [1] [0, 2, 3, 4, 5] rfl rfl (ci := 8) (qc := (RX9, TX9, 8)) rfl rfl (List.mem_flatten.mpr ⟨_, List.mem_of_getElem? (i := 0) rfl, (bTold_mem ht).choose_spec⟩) rfl rfl hl.1 dX11_period_5 (Nat.le_of_ble_eq_true rfl) (Nat.le_of_ble_eq_true rfl) (fun r_2 b1 H locs hw G => ?_)
  obtain ⟨rfl, hc_1⟩ := hw
  have G : zS T A s.heap s [[(xo, .inr (10, [.ref t, .ref im, .ref mk, .ref rd, .ref po, .ref co, .ref tr, .ref wa, .ref wb_, .ref fi, .ref cd]))], z0_, z1_, wp, [(cd, .inl (T.2 0, 1000, .inl fcd))], wt] _ _ := G
  rcases hc_1 with ⟨rfl, h_3⟩ | ⟨rfl, h_4, h_5⟩ | ⟨rfl, h_6, h_7⟩
  · have h_3 : (i1.toInt < 0 ∨ (fk 0).toInt ≤ i1.toInt ∨ 2 ≤ i1.toInt) := h_3
    refine lv_astoreN (lv' := [(4, .null), (0, .ref xo), (1, .int i1), (2, .int a_), (3, .int w_)]) hx hb dX11_period_8 hl (by decide) rfl (fun ls hl => ?_)
    refine lv_aloadN hx hb dX11_period_10 (lv_at hl 0 rfl) ?_
    refine lv_ifnullN (tgt := 24) hx hb dX11_period_12 (by decide) ?_
    refine lv_iconst (v := (-1)) hx hb dX11_period_24 (by decide) ?_
    have G := G.sub (bs' := [[(xo, .inr (10, [.ref t, .ref im, .ref mk, .ref rd, .ref po, .ref co, .ref tr, .ref wa, .ref wb_, .ref fi, .ref cd]))], wt, z0_, z1_, wp, [(cd, .inl (T.2 0, 1000, .inl fcd))]]) [0, 5, 1, 2, 3, 4] rfl
    exact z_iret C hr hlocks G (Nat.le_of_ble_eq_true rfl) (Nat.le_of_ble_eq_true rfl) dX11_period_25 ⟨lp, f1, f2, f3, st, wh, wp, fcd, rfl, hp, (Or.inl ⟨by assumption, rfl⟩)⟩
  · have h_4 : i1.toInt = 0 := h_4
    have h_5 : 0 < (fk 0).toInt := h_5
    refine lv_astore (lv' := [(4, .ref l0), (0, .ref xo), (1, .int i1), (2, .int a_), (3, .int w_)]) hx hb dX11_period_8 hl (by decide) rfl (fun ls hl => ?_)
    refine lv_aload hx hb dX11_period_10 (lv_at hl 0 rfl) ?_
    refine lv_ifnull hx hb dX11_period_12 ?_
    refine lv_aload hx hb dX11_period_15 (lv_at hl 0 rfl) ?_
    refine lv_iload_n hx hb dX11_period_17 rfl (lv_at hl 3 rfl) ?_
    refine z_Vi (bc := [z0_]) (br := [[(xo, .inr (10, [.ref t, .ref im, .ref mk, .ref rd, .ref po, .ref co, .ref tr, .ref wa, .ref wb_, .ref fi, .ref cd]))], z1_, wp, [(cd, .inl (T.2 0, 1000, .inl fcd))], wt]) (As := [.int a_]) (rest := []) C G (c_has l T l0 cr0_ inn0_ k10_ k20_ k30_ k40_ z0_ a_ hz0_) (kV_RX11_160 C.2.2.2.2 (Nat.le_of_ble_eq_true rfl) (Nat.le_of_ble_eq_true rfl)) [1] [0, 2, 3, 4, 5] rfl rfl (ci := 4) (qc := (RX4, TX4, 6)) rfl rfl (List.mem_flatten.mpr ⟨_, List.mem_of_getElem? (i := 0) rfl, (bLand_mem hz0_).choose_spec⟩) rfl rfl hl.1 dX11_period_18 (Nat.le_of_ble_eq_true rfl) (Nat.le_of_ble_eq_true rfl) (fun r_9 b1 H locs hw G => ?_)
    obtain ⟨rfl, hc_8⟩ := hw
    have G : zS T A s.heap s [[(xo, .inr (10, [.ref t, .ref im, .ref mk, .ref rd, .ref po, .ref co, .ref tr, .ref wa, .ref wb_, .ref fi, .ref cd]))], z1_, wp, [(cd, .inl (T.2 0, 1000, .inl fcd))], wt, z0_] _ _ := G
    rcases hc_8 with ⟨rfl, h_10, h_11, h_12⟩ | ⟨rfl, h_13⟩
    · have h_10 : 0 ≤ a_.toInt := h_10
      have h_11 : a_.toInt < cr0_.toInt := h_11
      have h_12 : a_.toInt < 7 := h_12
      refine lv_if_ne (tgt := 26) hx hb dX11_period_21 (by decide) (fun _ => ?_) (fun q => absurd q (by decide))
      refine lv_aload_n hx hb dX11_period_26 rfl (lv_at hl 1 rfl) ?_
      refine z_get C G clX11 0 rfl 4 (by decide) m_fl_RX11_34 rfl dX11_period_27 ?_
      refine lv_aload hx hb dX11_period_30 (lv_at hl 0 rfl) ?_
      refine z_Vv (bc := [wp, z0_]) (br := [[(xo, .inr (10, [.ref t, .ref im, .ref mk, .ref rd, .ref po, .ref co, .ref tr, .ref wa, .ref wb_, .ref fi, .ref cd]))], z1_, [(cd, .inl (T.2 0, 1000, .inl fcd))], wt]) (As := [.ref l0]) (rest := []) C G (c_Posts_begin l T po lp f1 f2 f3 st wh wp l0 cr0_ inn0_ k10_ k20_ k30_ k40_ z0_ hp hz0_) (kV_RX11_205 C.2.2.2.2 (Nat.le_of_ble_eq_true rfl) (Nat.le_of_ble_eq_true rfl)) [2, 5] [0, 1, 3, 4] rfl rfl (ci := 6) (qc := (RX6, TX6, 6)) rfl rfl (List.mem_flatten.mpr ⟨_, List.mem_of_getElem? (i := 0) rfl, (bPosts_mem hp).choose_spec⟩) rfl rfl hl.1 dX11_period_32 (Nat.le_of_ble_eq_true rfl) (Nat.le_of_ble_eq_true rfl) (fun b1 H locs hw G => ?_)
      obtain ⟨w2_14, g1_15, g2_16, g3_17, rfl, h_18, h_19, h_20, h_21⟩ := hw
      have G : zS T A s.heap s [[(xo, .inr (10, [.ref t, .ref im, .ref mk, .ref rd, .ref po, .ref co, .ref tr, .ref wa, .ref wb_, .ref fi, .ref cd]))], z1_, [(cd, .inl (T.2 0, 1000, .inl fcd))], wt, w2_14, z0_] _ _ := G
      have hQ : zP3 g1_15 g3_17 := z_P3 hI0_ h_19 h_21
      refine lv_aload_n hx hb dX11_period_35 rfl (lv_at hl 1 rfl) ?_
      refine z_get C G clX11 0 rfl 10 (by decide) m_fl_RX11_69 rfl dX11_period_36 ?_
      refine lv_iconst (v := 0) hx hb dX11_period_39 (by decide) ?_
      refine lv_aload_n hx hb dX11_period_40 rfl (lv_at hl 1 rfl) ?_
      refine z_get C G clX11 0 rfl 4 (by decide) m_fl_RX11_34 rfl dX11_period_41 ?_
      refine z_Vi (bc := [w2_14]) (br := [[(xo, .inr (10, [.ref t, .ref im, .ref mk, .ref rd, .ref po, .ref co, .ref tr, .ref wa, .ref wb_, .ref fi, .ref cd]))], z1_, [(cd, .inl (T.2 0, 1000, .inl fcd))], wt, z0_]) (As := []) (rest := [.int 0, .ref cd]) C G (c_code l T po l0 g1_15 g2_16 g3_17 0 0 w2_14 h_18) (kV_RX11_212 C.2.2.2.2 (Nat.le_of_ble_eq_true rfl) (Nat.le_of_ble_eq_true rfl)) [4] [0, 1, 2, 3, 5] rfl rfl (ci := 6) (qc := (RX6, TX6, 6)) rfl rfl (List.mem_flatten.mpr ⟨_, List.mem_of_getElem? (i := 0) rfl, (bPosts_mem h_18).choose_spec⟩) rfl rfl hl.1 dX11_period_44 (Nat.le_of_ble_eq_true rfl) (Nat.le_of_ble_eq_true rfl) (fun r_24 b1 H locs hw G => ?_)
      obtain ⟨rfl, h_23⟩ := hw
      have G : zS T A s.heap s [[(xo, .inr (10, [.ref t, .ref im, .ref mk, .ref rd, .ref po, .ref co, .ref tr, .ref wa, .ref wb_, .ref fi, .ref cd]))], z1_, [(cd, .inl (T.2 0, 1000, .inl fcd))], wt, z0_, w2_14] _ _ := G
      subst h_23
      refine z_ist C G 2 rfl (vp_in_nI (n := 0) (by decide) (by decide)) dX11_period_47 (fun H locs G => ?_)
      have G : zS T A s.heap s [[(xo, .inr (10, [.ref t, .ref im, .ref mk, .ref rd, .ref po, .ref co, .ref tr, .ref wa, .ref wb_, .ref fi, .ref cd]))], z1_, [(cd, .inl (T.2 0, 1000, .inl (upd fcd 0 (zCode g1_15 7))))], wt, z0_, w2_14] _ _ := G
      refine lv_iconst (v := 1) hx hb dX11_period_48 (by decide) ?_
      refine lv_istore (lv' := [(5, .int 1), (4, .ref l0), (0, .ref xo), (1, .int i1), (2, .int a_), (3, .int w_)]) hx hb dX11_period_49 hl (by decide) rfl (fun ls hl => ?_)
      refine z_loop (T := T) (α := Nat × va_W × (Nat → Int32) × Int32 × Int32 × (Nat → Int32)) 51 (fun (i, wp3, x1, sx, wx, fx) => [[(xo, .inr (10, [.ref t, .ref im, .ref mk, .ref rd, .ref po, .ref co, .ref tr, .ref wa, .ref wb_, .ref fi, .ref cd]))], z1_, [(cd, .inl (T.2 0, 1000, .inl fx))], wt, z0_, wp3]) (fun (i, wp3, x1, sx, wx, fx) => [(5, .int (nI i)), (4, .ref l0), (0, .ref xo), (1, .int i1), (2, .int a_), (3, .int w_)]) (fun (i, wp3, x1, sx, wx, fx) => bPosts T po l0 x1 g2_16 g3_17 sx wx wp3 ∧ i ≤ 1000 ∧ 1 ≤ i ∧ zP3 x1 g3_17 ∧ x1 = zPk g2_16 g3_17 k20_ a_ g1_15 (i - 1) ∧ (∀ k, k < i → fx k = zCode (zPk g2_16 g3_17 k20_ a_ g1_15 k) 7) ∧ (∀ a b, a < b → b < i → ¬ zCode (zPk g2_16 g3_17 k20_ a_ g1_15 a) 7 = zCode (zPk g2_16 g3_17 k20_ a_ g1_15 b) 7)) (fun (i, wp3, x1, sx, wx, fx) => 1000 - i) ?_ (1, w2_14, g1_15, 0, 0, (upd fcd 0 (zCode g1_15 7))) (show bPosts T po l0 g1_15 g2_16 g3_17 0 0 w2_14 ∧ 1 ≤ 1000 ∧ 1 ≤ 1 ∧ zP3 g1_15 g3_17 ∧ g1_15 = zPk g2_16 g3_17 k20_ a_ g1_15 (1 - 1) ∧ (∀ k, k < 1 → (upd fcd 0 (zCode g1_15 7)) k = zCode (zPk g2_16 g3_17 k20_ a_ g1_15 k) 7) ∧ (∀ a b, a < b → b < 1 → ¬ zCode (zPk g2_16 g3_17 k20_ a_ g1_15 a) 7 = zCode (zPk g2_16 g3_17 k20_ a_ g1_15 b) 7) from ⟨h_18, by omega, by omega, hQ, rfl, (zC_0 (c := (fun k => zCode (zPk g2_16 g3_17 k20_ a_ g1_15 k) 7)) rfl), (fun a b h1 h2 => by exfalso; omega)⟩) G (lv_sub hl [0, 1, 2, 3, 4, 5] rfl)
      rintro ⟨i, wp3, x1, sx, wx, fx⟩ ⟨hp3, hi, hi1, hQx, hZ1, hC, hN⟩ ih_51 H locs ls G hl
      replace hp3 : bPosts T po l0 x1 g2_16 g3_17 sx wx wp3 := hp3
      replace hi : i ≤ 1000 := hi
      replace hi1 : 1 ≤ i := hi1
      replace hQx : zP3 x1 g3_17 := hQx
      replace hZ1 : x1 = zPk g2_16 g3_17 k20_ a_ g1_15 (i - 1) := hZ1
      replace hC : (∀ k, k < i → fx k = zCode (zPk g2_16 g3_17 k20_ a_ g1_15 k) 7) := hC
      replace hN : (∀ a b, a < b → b < i → ¬ zCode (zPk g2_16 g3_17 k20_ a_ g1_15 a) 7 = zCode (zPk g2_16 g3_17 k20_ a_ g1_15 b) 7) := hN
      replace G : zS T A s.heap s [[(xo, .inr (10, [.ref t, .ref im, .ref mk, .ref rd, .ref po, .ref co, .ref tr, .ref wa, .ref wb_, .ref fi, .ref cd]))], z1_, [(cd, .inl (T.2 0, 1000, .inl fx))], wt, z0_, wp3] _ _ := G
      replace hl : lv_has ls 8 [(5, .int (nI i)), (4, .ref l0), (0, .ref xo), (1, .int i1), (2, .int a_), (3, .int w_)] := hl
      refine lv_iload hx hb dX11_period_51 (lv_at hl 0 rfl) ?_
      refine lv_sipush (v := 999) hx hb dX11_period_53 (by decide) ?_
      refine lv_icmp_gt (tgt := 122) hx hb dX11_period_56 (by decide) (fun c_25 => ?_) (fun c_25 => ?_)
      · have c_25n : 999 < i := (nI_ltI (a := 999) (b := i) (by omega) (by omega)).mp c_25
        refine lv_iconst (v := (-1)) hx hb dX11_period_122 (by decide) ?_
        have G := G.sub (bs' := [[(xo, .inr (10, [.ref t, .ref im, .ref mk, .ref rd, .ref po, .ref co, .ref tr, .ref wa, .ref wb_, .ref fi, .ref cd]))], wt, z0_, z1_, wp3, [(cd, .inl (T.2 0, 1000, .inl fx))]]) [0, 3, 4, 1, 5, 2] rfl
        exact z_iret C hr hlocks G (Nat.le_of_ble_eq_true rfl) (Nat.le_of_ble_eq_true rfl) dX11_period_123 ⟨l0, x1, g2_16, g3_17, sx, wx, wp3, fx, rfl, hp3, (Or.inr (Or.inl ⟨by assumption, by assumption, Or.inl ⟨⟨by omega, by omega⟩, g1_15, g2_16, g3_17, ⟨hQ, h_19, h_20, h_21⟩, Or.inr ⟨fun a b h1 h2 => hN a b h1 (by omega), rfl⟩⟩⟩))⟩
      · have c_25n : ¬ 999 < i := fun q => c_25 ((nI_ltI (a := 999) (b := i) (by omega) (by omega)).mpr q)
        refine lv_aload_n hx hb dX11_period_59 rfl (lv_at hl 2 rfl) ?_
        refine z_get C G clX11 0 rfl 4 (by decide) m_fl_RX11_34 rfl dX11_period_60 ?_
        refine lv_iload_n hx hb dX11_period_63 rfl (lv_at hl 4 rfl) ?_
        refine z_Vv (bc := [wp3, z0_]) (br := [[(xo, .inr (10, [.ref t, .ref im, .ref mk, .ref rd, .ref po, .ref co, .ref tr, .ref wa, .ref wb_, .ref fi, .ref cd]))], z1_, [(cd, .inl (T.2 0, 1000, .inl fx))], wt]) (As := [.int a_]) (rest := []) C G (c_Posts_run l T po l0 x1 g2_16 g3_17 sx wx wp3 cr0_ inn0_ k10_ k20_ k30_ k40_ z0_ a_ hp3 hz0_ (by first | with_reducible assumption | with_reducible rfl | omega | assumption | rfl)) (kV_RX11_208 C.2.2.2.2 (Nat.le_of_ble_eq_true rfl) (Nat.le_of_ble_eq_true rfl)) [5, 4] [0, 1, 2, 3] rfl rfl (ci := 6) (qc := (RX6, TX6, 6)) rfl rfl (List.mem_flatten.mpr ⟨_, List.mem_of_getElem? (i := 0) rfl, (bPosts_mem hp3).choose_spec⟩) rfl rfl hl.1 dX11_period_64 (Nat.le_of_ble_eq_true rfl) (Nat.le_of_ble_eq_true rfl) (fun b1 H locs hw G => ?_)
        obtain ⟨w2_26, g1_27, s2_28, x2_29, rfl, h_30, h_31, h_32, h_33⟩ := hw
        have G : zS T A s.heap s [[(xo, .inr (10, [.ref t, .ref im, .ref mk, .ref rd, .ref po, .ref co, .ref tr, .ref wa, .ref wb_, .ref fi, .ref cd]))], z1_, [(cd, .inl (T.2 0, 1000, .inl fx))], wt, w2_26, z0_] _ _ := G
        have hQ2 : zP3 g1_27 g3_17 := by rw [h_31]; exact zRunN_I _ _ _ _ hQx
        have hx9 : g1_27 = zPk g2_16 g3_17 k20_ a_ g1_15 i := by rw [h_31, hZ1]; exact zPk_p hi1
        refine lv_aload_n hx hb dX11_period_67 rfl (lv_at hl 2 rfl) ?_
        refine z_get C G clX11 0 rfl 4 (by decide) m_fl_RX11_34 rfl dX11_period_68 ?_
        refine z_Vi (bc := [w2_26]) (br := [[(xo, .inr (10, [.ref t, .ref im, .ref mk, .ref rd, .ref po, .ref co, .ref tr, .ref wa, .ref wb_, .ref fi, .ref cd]))], z1_, [(cd, .inl (T.2 0, 1000, .inl fx))], wt, z0_]) (As := []) (rest := []) C G (c_code l T po l0 g1_27 g2_16 g3_17 s2_28 x2_29 w2_26 h_30) (kV_RX11_212 C.2.2.2.2 (Nat.le_of_ble_eq_true rfl) (Nat.le_of_ble_eq_true rfl)) [4] [0, 1, 2, 3, 5] rfl rfl (ci := 6) (qc := (RX6, TX6, 6)) rfl rfl (List.mem_flatten.mpr ⟨_, List.mem_of_getElem? (i := 0) rfl, (bPosts_mem h_30).choose_spec⟩) rfl rfl hl.1 dX11_period_71 (Nat.le_of_ble_eq_true rfl) (Nat.le_of_ble_eq_true rfl) (fun r_36 b1 H locs hw G => ?_)
        obtain ⟨rfl, h_35⟩ := hw
        have G : zS T A s.heap s [[(xo, .inr (10, [.ref t, .ref im, .ref mk, .ref rd, .ref po, .ref co, .ref tr, .ref wa, .ref wb_, .ref fi, .ref cd]))], z1_, [(cd, .inl (T.2 0, 1000, .inl fx))], wt, z0_, w2_26] _ _ := G
        subst h_35
        have hcc : zCode g1_27 7 = zCode (zPk g2_16 g3_17 k20_ a_ g1_15 i) 7 := by rw [hx9]
        refine lv_istore (lv' := [(6, .int (zCode g1_27 7)), (5, .int (nI i)), (4, .ref l0), (0, .ref xo), (1, .int i1), (2, .int a_), (3, .int w_)]) hx hb dX11_period_74 hl (by decide) rfl (fun ls hl => ?_)
        refine lv_aload_n hx hb dX11_period_76 rfl (lv_at hl 3 rfl) ?_
        refine lv_iload hx hb dX11_period_77 (lv_at hl 0 rfl) ?_
        refine lv_iload hx hb dX11_period_79 (lv_at hl 1 rfl) ?_
        refine z_Vi (bc := [[(xo, .inr (10, [.ref t, .ref im, .ref mk, .ref rd, .ref po, .ref co, .ref tr, .ref wa, .ref wb_, .ref fi, .ref cd]))], [(cd, .inl (T.2 0, 1000, .inl fx))]]) (br := [z1_, wt, z0_, w2_26]) (As := [.int (zCode g1_27 7), .int (nI i)]) (rest := []) C G (c_f_placeOfCode l T xo t im mk rd po co tr wa wb_ fi cd fx (zCode g1_27 7) (nI i)) (kV_RX11_215 C.2.2.2.2 (Nat.le_of_ble_eq_true rfl) (Nat.le_of_ble_eq_true rfl)) [0, 2] [1, 3, 4, 5] rfl rfl (ci := 10) (qc := (RX11, TX11, 11)) rfl rfl (List.mem_flatten.mpr ⟨_, List.mem_of_getElem? (i := 0) rfl, List.mem_cons_self⟩) rfl rfl hl.1 dX11_period_81 (Nat.le_of_ble_eq_true rfl) (Nat.le_of_ble_eq_true rfl) (fun r_38 b1 H locs hw G => ?_)
        obtain ⟨rfl, h_37⟩ := hw
        have G : zS T A s.heap s [z1_, wt, z0_, w2_26, [(xo, .inr (10, [.ref t, .ref im, .ref mk, .ref rd, .ref po, .ref co, .ref tr, .ref wa, .ref wb_, .ref fi, .ref cd]))], [(cd, .inl (T.2 0, 1000, .inl fx))]] _ _ := G
        refine lv_istore (lv' := [(7, .int r_38), (6, .int (zCode g1_27 7)), (5, .int (nI i)), (4, .ref l0), (0, .ref xo), (1, .int i1), (2, .int a_), (3, .int w_)]) hx hb dX11_period_84 hl (by decide) rfl (fun ls hl => ?_)
        refine lv_iload hx hb dX11_period_86 (lv_at hl 0 rfl) ?_
        refine lv_iconst (v := (-1)) hx hb dX11_period_88 (by decide) ?_
        refine lv_icmp_eq (tgt := 107) hx hb dX11_period_89 (by decide) (fun c_39 => ?_) (fun c_39 => ?_)
        · have c_39n : r_38.toInt = (-1 : Int) := (fa_eq _ _).mp c_39
          have ti9 := nI_toInt (n := i) (by omega)
          have hpl := (h_37).resolve_left (fun q8 => by obtain ⟨i0, q7, q6, q5, -⟩ := q8; exact zNm1 (by omega) q7 (by assumption))
          have hnn : ∀ k, k < i → ¬ zCode (zPk g2_16 g3_17 k20_ a_ g1_15 k) 7 = zCode (zPk g2_16 g3_17 k20_ a_ g1_15 i) 7 := fun k hk q8 => hpl.2 k (by omega) (by omega) ((hC k hk).trans (q8.trans hcc.symm))
          refine lv_aload_n hx hb dX11_period_107 rfl (lv_at hl 4 rfl) ?_
          refine z_get C G clX11 4 rfl 10 (by decide) m_fl_RX11_69 rfl dX11_period_108 ?_
          refine lv_iload hx hb dX11_period_111 (lv_at hl 2 rfl) ?_
          refine lv_iload hx hb dX11_period_113 (lv_at hl 1 rfl) ?_
          refine z_ist C G 5 rfl (vp_in_nI (by omega) (by omega)) dX11_period_115 (fun H locs G => ?_)
          rw [nI_clamp (by omega)] at G
          have G : zS T A s.heap s [z1_, wt, z0_, w2_26, [(xo, .inr (10, [.ref t, .ref im, .ref mk, .ref rd, .ref po, .ref co, .ref tr, .ref wa, .ref wb_, .ref fi, .ref cd]))], [(cd, .inl (T.2 0, 1000, .inl (upd fx i (zCode g1_27 7))))]] _ _ := G
          refine lv_iinc (v := nI (i + 1)) (lv' := [(5, .int (nI (i + 1))), (7, .int r_38), (6, .int (zCode g1_27 7)), (4, .ref l0), (0, .ref xo), (1, .int i1), (2, .int a_), (3, .int w_)]) hx hb dX11_period_116 hl (k := 2) rfl (z_inc i 1) (by decide) rfl (fun ls hl => ?_)
          refine lv_goto (tgt := 51) hx hb dX11_period_119 (by decide) ?_
          have G := G.sub (bs' := [[(xo, .inr (10, [.ref t, .ref im, .ref mk, .ref rd, .ref po, .ref co, .ref tr, .ref wa, .ref wb_, .ref fi, .ref cd]))], z1_, [(cd, .inl (T.2 0, 1000, .inl (upd fx i (zCode g1_27 7))))], wt, z0_, w2_26]) [4, 0, 5, 1, 2, 3] rfl
          exact ih_51 ((i + 1), w2_26, g1_27, s2_28, x2_29, (upd fx i (zCode g1_27 7))) (show bPosts T po l0 g1_27 g2_16 g3_17 s2_28 x2_29 w2_26 ∧ (i + 1) ≤ 1000 ∧ 1 ≤ (i + 1) ∧ zP3 g1_27 g3_17 ∧ g1_27 = zPk g2_16 g3_17 k20_ a_ g1_15 ((i + 1) - 1) ∧ (∀ k, k < (i + 1) → (upd fx i (zCode g1_27 7)) k = zCode (zPk g2_16 g3_17 k20_ a_ g1_15 k) 7) ∧ (∀ a b, a < b → b < (i + 1) → ¬ zCode (zPk g2_16 g3_17 k20_ a_ g1_15 a) 7 = zCode (zPk g2_16 g3_17 k20_ a_ g1_15 b) 7) from ⟨h_30, by omega, by omega, hQ2, (hx9.trans (congrArg (zPk g2_16 g3_17 k20_ a_ g1_15) (by omega))), (z_upS0 (f := (fun k => zCode (zPk g2_16 g3_17 k20_ a_ g1_15 k) 7)) hC hcc), (zN_d (c := (fun k => zCode (zPk g2_16 g3_17 k20_ a_ g1_15 k) 7)) hN hnn)⟩) (show 1000 - (i + 1) < 1000 - i from by omega) _ _ ls G (lv_sub hl [0, 3, 4, 5, 6, 7] rfl)
        · have c_39n : ¬ r_38.toInt = (-1 : Int) := fun q => c_39 ((fa_eq _ _).mpr q)
          have ti9 := nI_toInt (n := i) (by omega)
          obtain ⟨i0, hi0, hi1_, hi2_, hi3_⟩ := (h_37).resolve_right (fun q8 => absurd q8.1 (by assumption))
          have hi4_ : i0 < i := by omega
          have hcm : zCode (zPk g2_16 g3_17 k20_ a_ g1_15 i0) 7 = zCode (zPk g2_16 g3_17 k20_ a_ g1_15 i) 7 := (hC i0 hi4_).symm.trans (hi3_.trans hcc)
          refine lv_iload_n hx hb dX11_period_92 rfl (lv_at hl 7 rfl) ?_
          refine lv_if_eq (tgt := 101) hx hb dX11_period_93 (by decide) (fun c_40 => ?_) (fun c_40 => ?_)
          · have c_40n : w_.toInt = (0 : Int) := (fa_eq _ _).mp c_40
            refine lv_iload hx hb dX11_period_101 (lv_at hl 2 rfl) ?_
            refine lv_iload hx hb dX11_period_103 (lv_at hl 0 rfl) ?_
            refine lv_isub hx hb dX11_period_105 ?_
            have G := G.sub (bs' := [[(xo, .inr (10, [.ref t, .ref im, .ref mk, .ref rd, .ref po, .ref co, .ref tr, .ref wa, .ref wb_, .ref fi, .ref cd]))], wt, z0_, z1_, w2_26, [(cd, .inl (T.2 0, 1000, .inl fx))]]) [4, 1, 2, 0, 3, 5] rfl
            exact z_iret C hr hlocks G (Nat.le_of_ble_eq_true rfl) (Nat.le_of_ble_eq_true rfl) dX11_period_106 ⟨l0, g1_27, g2_16, g3_17, s2_28, x2_29, w2_26, fx, rfl, h_30, (Or.inr (Or.inl ⟨by assumption, by assumption, Or.inl ⟨⟨by omega, by omega⟩, g1_15, g2_16, g3_17, ⟨hQ, h_19, h_20, h_21⟩, Or.inl ⟨i, i0, ⟨by omega, by omega⟩, hi4_, hcm, hN, Or.inr ⟨fun q8 => q8 (by omega), by rw [hi0]; exact zSubN (by omega) (by omega)⟩⟩⟩⟩))⟩
          · have c_40n : ¬ w_.toInt = (0 : Int) := fun q => c_40 ((fa_eq _ _).mpr q)
            refine lv_iload hx hb dX11_period_96 (lv_at hl 0 rfl) ?_
            refine lv_goto (tgt := 106) hx hb dX11_period_98 (by decide) ?_
            have G := G.sub (bs' := [[(xo, .inr (10, [.ref t, .ref im, .ref mk, .ref rd, .ref po, .ref co, .ref tr, .ref wa, .ref wb_, .ref fi, .ref cd]))], wt, z0_, z1_, w2_26, [(cd, .inl (T.2 0, 1000, .inl fx))]]) [4, 1, 2, 0, 3, 5] rfl
            exact z_iret C hr hlocks G (Nat.le_of_ble_eq_true rfl) (Nat.le_of_ble_eq_true rfl) dX11_period_106 ⟨l0, g1_27, g2_16, g3_17, s2_28, x2_29, w2_26, fx, rfl, h_30, (Or.inr (Or.inl ⟨by assumption, by assumption, Or.inl ⟨⟨by omega, by omega⟩, g1_15, g2_16, g3_17, ⟨hQ, h_19, h_20, h_21⟩, Or.inl ⟨i, i0, ⟨by omega, by omega⟩, hi4_, hcm, hN, Or.inl ⟨by omega, hi0⟩⟩⟩⟩))⟩
    · have h_13 : (a_.toInt < 0 ∨ cr0_.toInt ≤ a_.toInt ∨ 7 ≤ a_.toInt) := h_13
      refine lv_if_ne (tgt := 26) hx hb dX11_period_21 (by decide) (fun q => absurd (by decide) q) (fun _ => ?_)
      refine lv_iconst (v := (-1)) hx hb dX11_period_24 (by decide) ?_
      have G := G.sub (bs' := [[(xo, .inr (10, [.ref t, .ref im, .ref mk, .ref rd, .ref po, .ref co, .ref tr, .ref wa, .ref wb_, .ref fi, .ref cd]))], wt, z0_, z1_, wp, [(cd, .inl (T.2 0, 1000, .inl fcd))]]) [0, 4, 5, 1, 2, 3] rfl
      exact z_iret C hr hlocks G (Nat.le_of_ble_eq_true rfl) (Nat.le_of_ble_eq_true rfl) dX11_period_25 ⟨lp, f1, f2, f3, st, wh, wp, fcd, rfl, hp, (Or.inr (Or.inl ⟨by assumption, by assumption, Or.inr ⟨by have q9 := hI0_.1; omega, rfl⟩⟩))⟩
  · have h_6 : i1.toInt = 1 := h_6
    have h_7 : 1 < (fk 0).toInt := h_7
    refine lv_astore (lv' := [(4, .ref l1), (0, .ref xo), (1, .int i1), (2, .int a_), (3, .int w_)]) hx hb dX11_period_8 hl (by decide) rfl (fun ls hl => ?_)
    refine lv_aload hx hb dX11_period_10 (lv_at hl 0 rfl) ?_
    refine lv_ifnull hx hb dX11_period_12 ?_
    refine lv_aload hx hb dX11_period_15 (lv_at hl 0 rfl) ?_
    refine lv_iload_n hx hb dX11_period_17 rfl (lv_at hl 3 rfl) ?_
    refine z_Vi (bc := [z1_]) (br := [[(xo, .inr (10, [.ref t, .ref im, .ref mk, .ref rd, .ref po, .ref co, .ref tr, .ref wa, .ref wb_, .ref fi, .ref cd]))], z0_, wp, [(cd, .inl (T.2 0, 1000, .inl fcd))], wt]) (As := [.int a_]) (rest := []) C G (c_has l T l1 cr1_ inn1_ k11_ k21_ k31_ k41_ z1_ a_ hz1_) (kV_RX11_160 C.2.2.2.2 (Nat.le_of_ble_eq_true rfl) (Nat.le_of_ble_eq_true rfl)) [2] [0, 1, 3, 4, 5] rfl rfl (ci := 4) (qc := (RX4, TX4, 6)) rfl rfl (List.mem_flatten.mpr ⟨_, List.mem_of_getElem? (i := 0) rfl, (bLand_mem hz1_).choose_spec⟩) rfl rfl hl.1 dX11_period_18 (Nat.le_of_ble_eq_true rfl) (Nat.le_of_ble_eq_true rfl) (fun r_42 b1 H locs hw G => ?_)
    obtain ⟨rfl, hc_41⟩ := hw
    have G : zS T A s.heap s [[(xo, .inr (10, [.ref t, .ref im, .ref mk, .ref rd, .ref po, .ref co, .ref tr, .ref wa, .ref wb_, .ref fi, .ref cd]))], z0_, wp, [(cd, .inl (T.2 0, 1000, .inl fcd))], wt, z1_] _ _ := G
    rcases hc_41 with ⟨rfl, h_43, h_44, h_45⟩ | ⟨rfl, h_46⟩
    · have h_43 : 0 ≤ a_.toInt := h_43
      have h_44 : a_.toInt < cr1_.toInt := h_44
      have h_45 : a_.toInt < 7 := h_45
      refine lv_if_ne (tgt := 26) hx hb dX11_period_21 (by decide) (fun _ => ?_) (fun q => absurd q (by decide))
      refine lv_aload_n hx hb dX11_period_26 rfl (lv_at hl 1 rfl) ?_
      refine z_get C G clX11 0 rfl 4 (by decide) m_fl_RX11_34 rfl dX11_period_27 ?_
      refine lv_aload hx hb dX11_period_30 (lv_at hl 0 rfl) ?_
      refine z_Vv (bc := [wp, z1_]) (br := [[(xo, .inr (10, [.ref t, .ref im, .ref mk, .ref rd, .ref po, .ref co, .ref tr, .ref wa, .ref wb_, .ref fi, .ref cd]))], z0_, [(cd, .inl (T.2 0, 1000, .inl fcd))], wt]) (As := [.ref l1]) (rest := []) C G (c_Posts_begin l T po lp f1 f2 f3 st wh wp l1 cr1_ inn1_ k11_ k21_ k31_ k41_ z1_ hp hz1_) (kV_RX11_205 C.2.2.2.2 (Nat.le_of_ble_eq_true rfl) (Nat.le_of_ble_eq_true rfl)) [2, 5] [0, 1, 3, 4] rfl rfl (ci := 6) (qc := (RX6, TX6, 6)) rfl rfl (List.mem_flatten.mpr ⟨_, List.mem_of_getElem? (i := 0) rfl, (bPosts_mem hp).choose_spec⟩) rfl rfl hl.1 dX11_period_32 (Nat.le_of_ble_eq_true rfl) (Nat.le_of_ble_eq_true rfl) (fun b1 H locs hw G => ?_)
      obtain ⟨w2_47, g1_48, g2_49, g3_50, rfl, h_51, h_52, h_53, h_54⟩ := hw
      have G : zS T A s.heap s [[(xo, .inr (10, [.ref t, .ref im, .ref mk, .ref rd, .ref po, .ref co, .ref tr, .ref wa, .ref wb_, .ref fi, .ref cd]))], z0_, [(cd, .inl (T.2 0, 1000, .inl fcd))], wt, w2_47, z1_] _ _ := G
      have hQ : zP3 g1_48 g3_50 := z_P3 hI1_ h_52 h_54
      refine lv_aload_n hx hb dX11_period_35 rfl (lv_at hl 1 rfl) ?_
      refine z_get C G clX11 0 rfl 10 (by decide) m_fl_RX11_69 rfl dX11_period_36 ?_
      refine lv_iconst (v := 0) hx hb dX11_period_39 (by decide) ?_
      refine lv_aload_n hx hb dX11_period_40 rfl (lv_at hl 1 rfl) ?_
      refine z_get C G clX11 0 rfl 4 (by decide) m_fl_RX11_34 rfl dX11_period_41 ?_
      refine z_Vi (bc := [w2_47]) (br := [[(xo, .inr (10, [.ref t, .ref im, .ref mk, .ref rd, .ref po, .ref co, .ref tr, .ref wa, .ref wb_, .ref fi, .ref cd]))], z0_, [(cd, .inl (T.2 0, 1000, .inl fcd))], wt, z1_]) (As := []) (rest := [.int 0, .ref cd]) C G (c_code l T po l1 g1_48 g2_49 g3_50 0 0 w2_47 h_51) (kV_RX11_212 C.2.2.2.2 (Nat.le_of_ble_eq_true rfl) (Nat.le_of_ble_eq_true rfl)) [4] [0, 1, 2, 3, 5] rfl rfl (ci := 6) (qc := (RX6, TX6, 6)) rfl rfl (List.mem_flatten.mpr ⟨_, List.mem_of_getElem? (i := 0) rfl, (bPosts_mem h_51).choose_spec⟩) rfl rfl hl.1 dX11_period_44 (Nat.le_of_ble_eq_true rfl) (Nat.le_of_ble_eq_true rfl) (fun r_57 b1 H locs hw G => ?_)
      obtain ⟨rfl, h_56⟩ := hw
      have G : zS T A s.heap s [[(xo, .inr (10, [.ref t, .ref im, .ref mk, .ref rd, .ref po, .ref co, .ref tr, .ref wa, .ref wb_, .ref fi, .ref cd]))], z0_, [(cd, .inl (T.2 0, 1000, .inl fcd))], wt, z1_, w2_47] _ _ := G
      subst h_56
      refine z_ist C G 2 rfl (vp_in_nI (n := 0) (by decide) (by decide)) dX11_period_47 (fun H locs G => ?_)
      have G : zS T A s.heap s [[(xo, .inr (10, [.ref t, .ref im, .ref mk, .ref rd, .ref po, .ref co, .ref tr, .ref wa, .ref wb_, .ref fi, .ref cd]))], z0_, [(cd, .inl (T.2 0, 1000, .inl (upd fcd 0 (zCode g1_48 7))))], wt, z1_, w2_47] _ _ := G
      refine lv_iconst (v := 1) hx hb dX11_period_48 (by decide) ?_
      refine lv_istore (lv' := [(5, .int 1), (4, .ref l1), (0, .ref xo), (1, .int i1), (2, .int a_), (3, .int w_)]) hx hb dX11_period_49 hl (by decide) rfl (fun ls hl => ?_)
      refine z_loop (T := T) (α := Nat × va_W × (Nat → Int32) × Int32 × Int32 × (Nat → Int32)) 51 (fun (i, wp3, x1, sx, wx, fx) => [[(xo, .inr (10, [.ref t, .ref im, .ref mk, .ref rd, .ref po, .ref co, .ref tr, .ref wa, .ref wb_, .ref fi, .ref cd]))], z0_, [(cd, .inl (T.2 0, 1000, .inl fx))], wt, z1_, wp3]) (fun (i, wp3, x1, sx, wx, fx) => [(5, .int (nI i)), (4, .ref l1), (0, .ref xo), (1, .int i1), (2, .int a_), (3, .int w_)]) (fun (i, wp3, x1, sx, wx, fx) => bPosts T po l1 x1 g2_49 g3_50 sx wx wp3 ∧ i ≤ 1000 ∧ 1 ≤ i ∧ zP3 x1 g3_50 ∧ x1 = zPk g2_49 g3_50 k21_ a_ g1_48 (i - 1) ∧ (∀ k, k < i → fx k = zCode (zPk g2_49 g3_50 k21_ a_ g1_48 k) 7) ∧ (∀ a b, a < b → b < i → ¬ zCode (zPk g2_49 g3_50 k21_ a_ g1_48 a) 7 = zCode (zPk g2_49 g3_50 k21_ a_ g1_48 b) 7)) (fun (i, wp3, x1, sx, wx, fx) => 1000 - i) ?_ (1, w2_47, g1_48, 0, 0, (upd fcd 0 (zCode g1_48 7))) (show bPosts T po l1 g1_48 g2_49 g3_50 0 0 w2_47 ∧ 1 ≤ 1000 ∧ 1 ≤ 1 ∧ zP3 g1_48 g3_50 ∧ g1_48 = zPk g2_49 g3_50 k21_ a_ g1_48 (1 - 1) ∧ (∀ k, k < 1 → (upd fcd 0 (zCode g1_48 7)) k = zCode (zPk g2_49 g3_50 k21_ a_ g1_48 k) 7) ∧ (∀ a b, a < b → b < 1 → ¬ zCode (zPk g2_49 g3_50 k21_ a_ g1_48 a) 7 = zCode (zPk g2_49 g3_50 k21_ a_ g1_48 b) 7) from ⟨h_51, by omega, by omega, hQ, rfl, (zC_0 (c := (fun k => zCode (zPk g2_49 g3_50 k21_ a_ g1_48 k) 7)) rfl), (fun a b h1 h2 => by exfalso; omega)⟩) G (lv_sub hl [0, 1, 2, 3, 4, 5] rfl)
      rintro ⟨i, wp3, x1, sx, wx, fx⟩ ⟨hp3, hi, hi1, hQx, hZ1, hC, hN⟩ ih_51 H locs ls G hl
      replace hp3 : bPosts T po l1 x1 g2_49 g3_50 sx wx wp3 := hp3
      replace hi : i ≤ 1000 := hi
      replace hi1 : 1 ≤ i := hi1
      replace hQx : zP3 x1 g3_50 := hQx
      replace hZ1 : x1 = zPk g2_49 g3_50 k21_ a_ g1_48 (i - 1) := hZ1
      replace hC : (∀ k, k < i → fx k = zCode (zPk g2_49 g3_50 k21_ a_ g1_48 k) 7) := hC
      replace hN : (∀ a b, a < b → b < i → ¬ zCode (zPk g2_49 g3_50 k21_ a_ g1_48 a) 7 = zCode (zPk g2_49 g3_50 k21_ a_ g1_48 b) 7) := hN
      replace G : zS T A s.heap s [[(xo, .inr (10, [.ref t, .ref im, .ref mk, .ref rd, .ref po, .ref co, .ref tr, .ref wa, .ref wb_, .ref fi, .ref cd]))], z0_, [(cd, .inl (T.2 0, 1000, .inl fx))], wt, z1_, wp3] _ _ := G
      replace hl : lv_has ls 8 [(5, .int (nI i)), (4, .ref l1), (0, .ref xo), (1, .int i1), (2, .int a_), (3, .int w_)] := hl
      refine lv_iload hx hb dX11_period_51 (lv_at hl 0 rfl) ?_
      refine lv_sipush (v := 999) hx hb dX11_period_53 (by decide) ?_
      refine lv_icmp_gt (tgt := 122) hx hb dX11_period_56 (by decide) (fun c_58 => ?_) (fun c_58 => ?_)
      · have c_58n : 999 < i := (nI_ltI (a := 999) (b := i) (by omega) (by omega)).mp c_58
        refine lv_iconst (v := (-1)) hx hb dX11_period_122 (by decide) ?_
        have G := G.sub (bs' := [[(xo, .inr (10, [.ref t, .ref im, .ref mk, .ref rd, .ref po, .ref co, .ref tr, .ref wa, .ref wb_, .ref fi, .ref cd]))], wt, z0_, z1_, wp3, [(cd, .inl (T.2 0, 1000, .inl fx))]]) [0, 3, 1, 4, 5, 2] rfl
        exact z_iret C hr hlocks G (Nat.le_of_ble_eq_true rfl) (Nat.le_of_ble_eq_true rfl) dX11_period_123 ⟨l1, x1, g2_49, g3_50, sx, wx, wp3, fx, rfl, hp3, (Or.inr (Or.inr ⟨by assumption, by assumption, Or.inl ⟨⟨by omega, by omega⟩, g1_48, g2_49, g3_50, ⟨hQ, h_52, h_53, h_54⟩, Or.inr ⟨fun a b h1 h2 => hN a b h1 (by omega), rfl⟩⟩⟩))⟩
      · have c_58n : ¬ 999 < i := fun q => c_58 ((nI_ltI (a := 999) (b := i) (by omega) (by omega)).mpr q)
        refine lv_aload_n hx hb dX11_period_59 rfl (lv_at hl 2 rfl) ?_
        refine z_get C G clX11 0 rfl 4 (by decide) m_fl_RX11_34 rfl dX11_period_60 ?_
        refine lv_iload_n hx hb dX11_period_63 rfl (lv_at hl 4 rfl) ?_
        refine z_Vv (bc := [wp3, z1_]) (br := [[(xo, .inr (10, [.ref t, .ref im, .ref mk, .ref rd, .ref po, .ref co, .ref tr, .ref wa, .ref wb_, .ref fi, .ref cd]))], z0_, [(cd, .inl (T.2 0, 1000, .inl fx))], wt]) (As := [.int a_]) (rest := []) C G (c_Posts_run l T po l1 x1 g2_49 g3_50 sx wx wp3 cr1_ inn1_ k11_ k21_ k31_ k41_ z1_ a_ hp3 hz1_ (by first | with_reducible assumption | with_reducible rfl | omega | assumption | rfl)) (kV_RX11_208 C.2.2.2.2 (Nat.le_of_ble_eq_true rfl) (Nat.le_of_ble_eq_true rfl)) [5, 4] [0, 1, 2, 3] rfl rfl (ci := 6) (qc := (RX6, TX6, 6)) rfl rfl (List.mem_flatten.mpr ⟨_, List.mem_of_getElem? (i := 0) rfl, (bPosts_mem hp3).choose_spec⟩) rfl rfl hl.1 dX11_period_64 (Nat.le_of_ble_eq_true rfl) (Nat.le_of_ble_eq_true rfl) (fun b1 H locs hw G => ?_)
        obtain ⟨w2_59, g1_60, s2_61, x2_62, rfl, h_63, h_64, h_65, h_66⟩ := hw
        have G : zS T A s.heap s [[(xo, .inr (10, [.ref t, .ref im, .ref mk, .ref rd, .ref po, .ref co, .ref tr, .ref wa, .ref wb_, .ref fi, .ref cd]))], z0_, [(cd, .inl (T.2 0, 1000, .inl fx))], wt, w2_59, z1_] _ _ := G
        have hQ2 : zP3 g1_60 g3_50 := by rw [h_64]; exact zRunN_I _ _ _ _ hQx
        have hx9 : g1_60 = zPk g2_49 g3_50 k21_ a_ g1_48 i := by rw [h_64, hZ1]; exact zPk_p hi1
        refine lv_aload_n hx hb dX11_period_67 rfl (lv_at hl 2 rfl) ?_
        refine z_get C G clX11 0 rfl 4 (by decide) m_fl_RX11_34 rfl dX11_period_68 ?_
        refine z_Vi (bc := [w2_59]) (br := [[(xo, .inr (10, [.ref t, .ref im, .ref mk, .ref rd, .ref po, .ref co, .ref tr, .ref wa, .ref wb_, .ref fi, .ref cd]))], z0_, [(cd, .inl (T.2 0, 1000, .inl fx))], wt, z1_]) (As := []) (rest := []) C G (c_code l T po l1 g1_60 g2_49 g3_50 s2_61 x2_62 w2_59 h_63) (kV_RX11_212 C.2.2.2.2 (Nat.le_of_ble_eq_true rfl) (Nat.le_of_ble_eq_true rfl)) [4] [0, 1, 2, 3, 5] rfl rfl (ci := 6) (qc := (RX6, TX6, 6)) rfl rfl (List.mem_flatten.mpr ⟨_, List.mem_of_getElem? (i := 0) rfl, (bPosts_mem h_63).choose_spec⟩) rfl rfl hl.1 dX11_period_71 (Nat.le_of_ble_eq_true rfl) (Nat.le_of_ble_eq_true rfl) (fun r_69 b1 H locs hw G => ?_)
        obtain ⟨rfl, h_68⟩ := hw
        have G : zS T A s.heap s [[(xo, .inr (10, [.ref t, .ref im, .ref mk, .ref rd, .ref po, .ref co, .ref tr, .ref wa, .ref wb_, .ref fi, .ref cd]))], z0_, [(cd, .inl (T.2 0, 1000, .inl fx))], wt, z1_, w2_59] _ _ := G
        subst h_68
        have hcc : zCode g1_60 7 = zCode (zPk g2_49 g3_50 k21_ a_ g1_48 i) 7 := by rw [hx9]
        refine lv_istore (lv' := [(6, .int (zCode g1_60 7)), (5, .int (nI i)), (4, .ref l1), (0, .ref xo), (1, .int i1), (2, .int a_), (3, .int w_)]) hx hb dX11_period_74 hl (by decide) rfl (fun ls hl => ?_)
        refine lv_aload_n hx hb dX11_period_76 rfl (lv_at hl 3 rfl) ?_
        refine lv_iload hx hb dX11_period_77 (lv_at hl 0 rfl) ?_
        refine lv_iload hx hb dX11_period_79 (lv_at hl 1 rfl) ?_
        refine z_Vi (bc := [[(xo, .inr (10, [.ref t, .ref im, .ref mk, .ref rd, .ref po, .ref co, .ref tr, .ref wa, .ref wb_, .ref fi, .ref cd]))], [(cd, .inl (T.2 0, 1000, .inl fx))]]) (br := [z0_, wt, z1_, w2_59]) (As := [.int (zCode g1_60 7), .int (nI i)]) (rest := []) C G (c_f_placeOfCode l T xo t im mk rd po co tr wa wb_ fi cd fx (zCode g1_60 7) (nI i)) (kV_RX11_215 C.2.2.2.2 (Nat.le_of_ble_eq_true rfl) (Nat.le_of_ble_eq_true rfl)) [0, 2] [1, 3, 4, 5] rfl rfl (ci := 10) (qc := (RX11, TX11, 11)) rfl rfl (List.mem_flatten.mpr ⟨_, List.mem_of_getElem? (i := 0) rfl, List.mem_cons_self⟩) rfl rfl hl.1 dX11_period_81 (Nat.le_of_ble_eq_true rfl) (Nat.le_of_ble_eq_true rfl) (fun r_71 b1 H locs hw G => ?_)
        obtain ⟨rfl, h_70⟩ := hw
        have G : zS T A s.heap s [z0_, wt, z1_, w2_59, [(xo, .inr (10, [.ref t, .ref im, .ref mk, .ref rd, .ref po, .ref co, .ref tr, .ref wa, .ref wb_, .ref fi, .ref cd]))], [(cd, .inl (T.2 0, 1000, .inl fx))]] _ _ := G
        refine lv_istore (lv' := [(7, .int r_71), (6, .int (zCode g1_60 7)), (5, .int (nI i)), (4, .ref l1), (0, .ref xo), (1, .int i1), (2, .int a_), (3, .int w_)]) hx hb dX11_period_84 hl (by decide) rfl (fun ls hl => ?_)
        refine lv_iload hx hb dX11_period_86 (lv_at hl 0 rfl) ?_
        refine lv_iconst (v := (-1)) hx hb dX11_period_88 (by decide) ?_
        refine lv_icmp_eq (tgt := 107) hx hb dX11_period_89 (by decide) (fun c_72 => ?_) (fun c_72 => ?_)
        · have c_72n : r_71.toInt = (-1 : Int) := (fa_eq _ _).mp c_72
          have ti9 := nI_toInt (n := i) (by omega)
          have hpl := (h_70).resolve_left (fun q8 => by obtain ⟨i0, q7, q6, q5, -⟩ := q8; exact zNm1 (by omega) q7 (by assumption))
          have hnn : ∀ k, k < i → ¬ zCode (zPk g2_49 g3_50 k21_ a_ g1_48 k) 7 = zCode (zPk g2_49 g3_50 k21_ a_ g1_48 i) 7 := fun k hk q8 => hpl.2 k (by omega) (by omega) ((hC k hk).trans (q8.trans hcc.symm))
          refine lv_aload_n hx hb dX11_period_107 rfl (lv_at hl 4 rfl) ?_
          refine z_get C G clX11 4 rfl 10 (by decide) m_fl_RX11_69 rfl dX11_period_108 ?_
          refine lv_iload hx hb dX11_period_111 (lv_at hl 2 rfl) ?_
          refine lv_iload hx hb dX11_period_113 (lv_at hl 1 rfl) ?_
          refine z_ist C G 5 rfl (vp_in_nI (by omega) (by omega)) dX11_period_115 (fun H locs G => ?_)
          rw [nI_clamp (by omega)] at G
          have G : zS T A s.heap s [z0_, wt, z1_, w2_59, [(xo, .inr (10, [.ref t, .ref im, .ref mk, .ref rd, .ref po, .ref co, .ref tr, .ref wa, .ref wb_, .ref fi, .ref cd]))], [(cd, .inl (T.2 0, 1000, .inl (upd fx i (zCode g1_60 7))))]] _ _ := G
          refine lv_iinc (v := nI (i + 1)) (lv' := [(5, .int (nI (i + 1))), (7, .int r_71), (6, .int (zCode g1_60 7)), (4, .ref l1), (0, .ref xo), (1, .int i1), (2, .int a_), (3, .int w_)]) hx hb dX11_period_116 hl (k := 2) rfl (z_inc i 1) (by decide) rfl (fun ls hl => ?_)
          refine lv_goto (tgt := 51) hx hb dX11_period_119 (by decide) ?_
          have G := G.sub (bs' := [[(xo, .inr (10, [.ref t, .ref im, .ref mk, .ref rd, .ref po, .ref co, .ref tr, .ref wa, .ref wb_, .ref fi, .ref cd]))], z0_, [(cd, .inl (T.2 0, 1000, .inl (upd fx i (zCode g1_60 7))))], wt, z1_, w2_59]) [4, 0, 5, 1, 2, 3] rfl
          exact ih_51 ((i + 1), w2_59, g1_60, s2_61, x2_62, (upd fx i (zCode g1_60 7))) (show bPosts T po l1 g1_60 g2_49 g3_50 s2_61 x2_62 w2_59 ∧ (i + 1) ≤ 1000 ∧ 1 ≤ (i + 1) ∧ zP3 g1_60 g3_50 ∧ g1_60 = zPk g2_49 g3_50 k21_ a_ g1_48 ((i + 1) - 1) ∧ (∀ k, k < (i + 1) → (upd fx i (zCode g1_60 7)) k = zCode (zPk g2_49 g3_50 k21_ a_ g1_48 k) 7) ∧ (∀ a b, a < b → b < (i + 1) → ¬ zCode (zPk g2_49 g3_50 k21_ a_ g1_48 a) 7 = zCode (zPk g2_49 g3_50 k21_ a_ g1_48 b) 7) from ⟨h_63, by omega, by omega, hQ2, (hx9.trans (congrArg (zPk g2_49 g3_50 k21_ a_ g1_48) (by omega))), (z_upS0 (f := (fun k => zCode (zPk g2_49 g3_50 k21_ a_ g1_48 k) 7)) hC hcc), (zN_d (c := (fun k => zCode (zPk g2_49 g3_50 k21_ a_ g1_48 k) 7)) hN hnn)⟩) (show 1000 - (i + 1) < 1000 - i from by omega) _ _ ls G (lv_sub hl [0, 3, 4, 5, 6, 7] rfl)
        · have c_72n : ¬ r_71.toInt = (-1 : Int) := fun q => c_72 ((fa_eq _ _).mpr q)
          have ti9 := nI_toInt (n := i) (by omega)
          obtain ⟨i0, hi0, hi1_, hi2_, hi3_⟩ := (h_70).resolve_right (fun q8 => absurd q8.1 (by assumption))
          have hi4_ : i0 < i := by omega
          have hcm : zCode (zPk g2_49 g3_50 k21_ a_ g1_48 i0) 7 = zCode (zPk g2_49 g3_50 k21_ a_ g1_48 i) 7 := (hC i0 hi4_).symm.trans (hi3_.trans hcc)
          refine lv_iload_n hx hb dX11_period_92 rfl (lv_at hl 7 rfl) ?_
          refine lv_if_eq (tgt := 101) hx hb dX11_period_93 (by decide) (fun c_73 => ?_) (fun c_73 => ?_)
          · have c_73n : w_.toInt = (0 : Int) := (fa_eq _ _).mp c_73
            refine lv_iload hx hb dX11_period_101 (lv_at hl 2 rfl) ?_
            refine lv_iload hx hb dX11_period_103 (lv_at hl 0 rfl) ?_
            refine lv_isub hx hb dX11_period_105 ?_
            have G := G.sub (bs' := [[(xo, .inr (10, [.ref t, .ref im, .ref mk, .ref rd, .ref po, .ref co, .ref tr, .ref wa, .ref wb_, .ref fi, .ref cd]))], wt, z0_, z1_, w2_59, [(cd, .inl (T.2 0, 1000, .inl fx))]]) [4, 1, 0, 2, 3, 5] rfl
            exact z_iret C hr hlocks G (Nat.le_of_ble_eq_true rfl) (Nat.le_of_ble_eq_true rfl) dX11_period_106 ⟨l1, g1_60, g2_49, g3_50, s2_61, x2_62, w2_59, fx, rfl, h_63, (Or.inr (Or.inr ⟨by assumption, by assumption, Or.inl ⟨⟨by omega, by omega⟩, g1_48, g2_49, g3_50, ⟨hQ, h_52, h_53, h_54⟩, Or.inl ⟨i, i0, ⟨by omega, by omega⟩, hi4_, hcm, hN, Or.inr ⟨fun q8 => q8 (by omega), by rw [hi0]; exact zSubN (by omega) (by omega)⟩⟩⟩⟩))⟩
          · have c_73n : ¬ w_.toInt = (0 : Int) := fun q => c_73 ((fa_eq _ _).mpr q)
            refine lv_iload hx hb dX11_period_96 (lv_at hl 0 rfl) ?_
            refine lv_goto (tgt := 106) hx hb dX11_period_98 (by decide) ?_
            have G := G.sub (bs' := [[(xo, .inr (10, [.ref t, .ref im, .ref mk, .ref rd, .ref po, .ref co, .ref tr, .ref wa, .ref wb_, .ref fi, .ref cd]))], wt, z0_, z1_, w2_59, [(cd, .inl (T.2 0, 1000, .inl fx))]]) [4, 1, 0, 2, 3, 5] rfl
            exact z_iret C hr hlocks G (Nat.le_of_ble_eq_true rfl) (Nat.le_of_ble_eq_true rfl) dX11_period_106 ⟨l1, g1_60, g2_49, g3_50, s2_61, x2_62, w2_59, fx, rfl, h_63, (Or.inr (Or.inr ⟨by assumption, by assumption, Or.inl ⟨⟨by omega, by omega⟩, g1_48, g2_49, g3_50, ⟨hQ, h_52, h_53, h_54⟩, Or.inl ⟨i, i0, ⟨by omega, by omega⟩, hi4_, hcm, hN, Or.inl ⟨by omega, hi0⟩⟩⟩⟩))⟩
    · have h_46 : (a_.toInt < 0 ∨ cr1_.toInt ≤ a_.toInt ∨ 7 ≤ a_.toInt) := h_46
      refine lv_if_ne (tgt := 26) hx hb dX11_period_21 (by decide) (fun q => absurd (by decide) q) (fun _ => ?_)
      refine lv_iconst (v := (-1)) hx hb dX11_period_24 (by decide) ?_
      have G := G.sub (bs' := [[(xo, .inr (10, [.ref t, .ref im, .ref mk, .ref rd, .ref po, .ref co, .ref tr, .ref wa, .ref wb_, .ref fi, .ref cd]))], wt, z0_, z1_, wp, [(cd, .inl (T.2 0, 1000, .inl fcd))]]) [0, 4, 1, 5, 2, 3] rfl
      exact z_iret C hr hlocks G (Nat.le_of_ble_eq_true rfl) (Nat.le_of_ble_eq_true rfl) dX11_period_25 ⟨lp, f1, f2, f3, st, wh, wp, fcd, rfl, hp, (Or.inr (Or.inr ⟨by assumption, by assumption, Or.inr ⟨by have q9 := hI1_.1; omega, rfl⟩⟩))⟩
theorem zPn_b {P : Nat → Int32} (h : zMP P) (i : Nat) (hi : i ≤ 7) : 0 ≤ (zPn P i).toInt ∧ (zPn P i).toInt < 16384 := by
  have a := zCd_lt h i hi
  have p := z4p hi
  rw [zPn_n h i hi, nI_toInt (by omega)]
  omega
set_option maxHeartbeats 4000000 in
set_option maxRecDepth 100000 in
/-- c_fm_postsNow -/
theorem c_fm_postsNow (l : Launch) (T : zTy) (mo : Nat) (m_all : Nat) (m_has : Nat) (i_size : Int32) (i_next : Int32) (i_where : Int32) (i_token : Int32) (i_number : Int32) (i_word : Int32) (i_wrong : Int32) (i_farCrossing : Int32) (m_read : Nat) (i_z0 : Int32) (i_crossings : Int32) (i_inns : Int32) (m_posts : Nat) (m_shut : Nat) (m_here : Nat) (i_steps : Int32) (i_done : Int32) (i_at : Int32) (i_gone : Int32) (m_was : Nat) (m_came : Nat) (m_seenAt : Nat) (m_rowWorth : Nat) (m_farBy : Nat) (m_used : Nat) (i_everywhere : Int32) (i_again0 : Int32) (i_d0 : Int32) (i_never : Int32) (i_firstCame : Int32) (i_longRun : Int32) (i_moved : Int32) (i_crowd : Int32) (i_l0 : Int32) (i_fitMany : Int32) (i_fitLeast : Int32) (i_fitMost : Int32) (m_fitPost : Nat) (m_fitEnd : Nat) (m_keptPosts : Nat) (i_x0 : Int32) (f_posts : Nat → Int32) (hcr : 0 ≤ i_crossings.toInt ∧ i_crossings.toInt ≤ 7) (hP : zMP f_posts) : zMi l T yX12_postsNow cX12_postsNow 3 (some .int) 1 0 0 [.ref mo] [[(mo, .inr (11, [.ref m_all, .ref m_has, .int i_size, .int i_next, .int i_where, .int i_token, .int i_number, .int i_word, .int i_wrong, .int i_farCrossing, .ref m_read, .int i_z0, .int i_crossings, .int i_inns, .ref m_posts, .ref m_shut, .ref m_here, .int i_steps, .int i_done, .int i_at, .int i_gone, .ref m_was, .ref m_came, .ref m_seenAt, .ref m_rowWorth, .ref m_farBy, .ref m_used, .int i_everywhere, .int i_again0, .int i_d0, .int i_never, .int i_firstCame, .int i_longRun, .int i_moved, .int i_crowd, .int i_l0, .int i_fitMany, .int i_fitLeast, .int i_fitMost, .ref m_fitPost, .ref m_fitEnd, .ref m_keptPosts, .int i_x0]))], [(m_posts, .inl (T.2 0, 7, .inl f_posts))]] (fun (r : Int32) bs => bs = [[(mo, .inr (11, [.ref m_all, .ref m_has, .int i_size, .int i_next, .int i_where, .int i_token, .int i_number, .int i_word, .int i_wrong, .int i_farCrossing, .ref m_read, .int i_z0, .int i_crossings, .int i_inns, .ref m_posts, .ref m_shut, .ref m_here, .int i_steps, .int i_done, .int i_at, .int i_gone, .ref m_was, .ref m_came, .ref m_seenAt, .ref m_rowWorth, .ref m_farBy, .ref m_used, .int i_everywhere, .int i_again0, .int i_d0, .int i_never, .int i_firstCame, .int i_longRun, .int i_moved, .int i_crowd, .int i_l0, .int i_fitMany, .int i_fitLeast, .int i_fitMost, .ref m_fitPost, .ref m_fitEnd, .ref m_keptPosts, .int i_x0]))], [(m_posts, .inl (T.2 0, 7, .inl f_posts))]] ∧ r = zPn f_posts i_crossings.toInt.toNat ∧ 0 ≤ r.toInt ∧ r.toInt < 16384) := by
  refine zMi_of (own := RX12) (by decide) rfl (Nat.le_of_ble_eq_true rfl) ?_
  intro p e s m args below meth c A ls C hr hlocks hnm hAe G hl
  have hx := C.1
  have hb := C.2.1
  have hl : lv_has ls 3 [(0, .ref mo)] := hl
  refine lv_iconst (v := 0) hx hb dX12_postsNow_0 (by decide) ?_
  refine lv_istore_n (lv' := [(1, .int 0), (0, .ref mo)]) hx hb dX12_postsNow_1 rfl hl (by decide) rfl (fun ls hl => ?_)
  refine lv_iconst (v := 0) hx hb dX12_postsNow_2 (by decide) ?_
  refine lv_istore_n (lv' := [(2, .int 0), (1, .int 0), (0, .ref mo)]) hx hb dX12_postsNow_3 rfl hl (by decide) rfl (fun ls hl => ?_)
  refine z_loop (T := T) (α := Nat × Int32) 4 (fun (i, v) => [[(mo, .inr (11, [.ref m_all, .ref m_has, .int i_size, .int i_next, .int i_where, .int i_token, .int i_number, .int i_word, .int i_wrong, .int i_farCrossing, .ref m_read, .int i_z0, .int i_crossings, .int i_inns, .ref m_posts, .ref m_shut, .ref m_here, .int i_steps, .int i_done, .int i_at, .int i_gone, .ref m_was, .ref m_came, .ref m_seenAt, .ref m_rowWorth, .ref m_farBy, .ref m_used, .int i_everywhere, .int i_again0, .int i_d0, .int i_never, .int i_firstCame, .int i_longRun, .int i_moved, .int i_crowd, .int i_l0, .int i_fitMany, .int i_fitLeast, .int i_fitMost, .ref m_fitPost, .ref m_fitEnd, .ref m_keptPosts, .int i_x0]))], [(m_posts, .inl (T.2 0, 7, .inl f_posts))]]) (fun (i, v) => [(2, .int (nI i)), (1, .int v), (0, .ref mo)]) (fun (i, v) => i ≤ 7 ∧ (i : Int) ≤ i_crossings.toInt ∧ v = zPn f_posts i) (fun (i, v) => 7 - i) ?_ (0, 0) (show 0 ≤ 7 ∧ (0 : Int) ≤ i_crossings.toInt ∧ 0 = zPn f_posts 0 from ⟨by omega, by omega, rfl⟩) G (lv_sub hl [0, 1, 2] rfl)
  rintro ⟨i, v⟩ ⟨hi, hic, hv⟩ ih_4 H locs ls G hl
  replace hi : i ≤ 7 := hi
  replace hic : (i : Int) ≤ i_crossings.toInt := hic
  replace hv : v = zPn f_posts i := hv
  replace G : zS T A s.heap s [[(mo, .inr (11, [.ref m_all, .ref m_has, .int i_size, .int i_next, .int i_where, .int i_token, .int i_number, .int i_word, .int i_wrong, .int i_farCrossing, .ref m_read, .int i_z0, .int i_crossings, .int i_inns, .ref m_posts, .ref m_shut, .ref m_here, .int i_steps, .int i_done, .int i_at, .int i_gone, .ref m_was, .ref m_came, .ref m_seenAt, .ref m_rowWorth, .ref m_farBy, .ref m_used, .int i_everywhere, .int i_again0, .int i_d0, .int i_never, .int i_firstCame, .int i_longRun, .int i_moved, .int i_crowd, .int i_l0, .int i_fitMany, .int i_fitLeast, .int i_fitMost, .ref m_fitPost, .ref m_fitEnd, .ref m_keptPosts, .int i_x0]))], [(m_posts, .inl (T.2 0, 7, .inl f_posts))]] _ _ := G
  replace hl : lv_has ls 3 [(2, .int (nI i)), (1, .int v), (0, .ref mo)] := hl
  refine lv_iload_n hx hb dX12_postsNow_4 rfl (lv_at hl 0 rfl) ?_
  refine lv_aload_n hx hb dX12_postsNow_5 rfl (lv_at hl 2 rfl) ?_
  refine z_get C G clX12 0 rfl 12 (by decide) m_fl_RX12_169 rfl dX12_postsNow_6 ?_
  refine lv_icmp_ge (tgt := 29) hx hb dX12_postsNow_9 (by decide) (fun c_1 => ?_) (fun c_1 => ?_)
  · have c_1n : i_crossings.toInt ≤ (i : Int) := by have q := (fa_le _ _).mp c_1; rw [nI_toInt (n := i) (by omega)] at q; exact q
    refine lv_iload_n hx hb dX12_postsNow_29 rfl (lv_at hl 1 rfl) ?_
    exact z_iret C hr hlocks G (Nat.le_of_ble_eq_true rfl) (Nat.le_of_ble_eq_true rfl) dX12_postsNow_30 ⟨rfl, (by rw [hv, show i = i_crossings.toInt.toNat by omega]), (by rw [hv]; exact (zPn_b hP i hi).1), (by rw [hv]; exact (zPn_b hP i hi).2)⟩
  · have c_1n : ¬ i_crossings.toInt ≤ (i : Int) := fun q => c_1 ((fa_le _ _).mpr (by rw [nI_toInt (n := i) (by omega)]; exact q))
    refine lv_iconst (v := 4) hx hb dX12_postsNow_12 (by decide) ?_
    refine lv_iload_n hx hb dX12_postsNow_13 rfl (lv_at hl 1 rfl) ?_
    refine lv_imul hx hb dX12_postsNow_14 ?_
    refine lv_aload_n hx hb dX12_postsNow_15 rfl (lv_at hl 2 rfl) ?_
    refine z_get C G clX12 0 rfl 14 (by decide) m_fl_RX12_20 rfl dX12_postsNow_16 ?_
    refine lv_iload_n hx hb dX12_postsNow_19 rfl (lv_at hl 0 rfl) ?_
    refine z_ild C G 1 rfl (vp_in_nI (by omega) (by omega)) dX12_postsNow_20 ?_
    refine lv_topi (fun v_2 ev_2 => ?_)
    rw [nI_clamp (by omega)] at ev_2
    subst ev_2
    refine lv_iadd hx hb dX12_postsNow_21 ?_
    refine lv_istore_n (lv' := [(1, .int ((4 * v) + (f_posts i))), (2, .int (nI i)), (0, .ref mo)]) hx hb dX12_postsNow_22 rfl hl (by decide) rfl (fun ls hl => ?_)
    refine lv_iinc (v := nI (i + 1)) (lv' := [(2, .int (nI (i + 1))), (1, .int ((4 * v) + (f_posts i))), (0, .ref mo)]) hx hb dX12_postsNow_23 hl (k := 1) rfl (z_inc i 1) (by decide) rfl (fun ls hl => ?_)
    refine lv_goto (tgt := 4) hx hb dX12_postsNow_26 (by decide) ?_
    exact ih_4 ((i + 1), ((4 * v) + (f_posts i))) (show (i + 1) ≤ 7 ∧ ((i + 1) : Int) ≤ i_crossings.toInt ∧ ((4 * v) + (f_posts i)) = zPn f_posts (i + 1) from ⟨by omega, by omega, (by rw [hv]; rfl)⟩) (show 7 - (i + 1) < 7 - i from by omega) _ _ ls G (lv_sub hl [0, 1, 2] rfl)
/-- where numbers were seen: the first time, and nowhere else -/
def zSn (c : Nat → Int32) (n : Nat) (f : Nat → Int32) : Prop := (∀ k, k < n → f (c k).toNatClampNeg = nI (k + 1)) ∧ ∀ v, v < 16384 → ¬ f v = 0 → ∃ k, k < n ∧ v = (c k).toNatClampNeg
theorem zSn_0 {c : Nat → Int32} {f : Nat → Int32} (h : ∀ v, v < 16384 → f v = 0) : zSn c 1 (upd f (c 0).toNatClampNeg 1) := by
  refine ⟨fun k hk => ?_, fun v hv hq => ?_⟩
  · have e : k = 0 := by omega
    subst e
    exact z_eq rfl
  · by_cases e : v = (c 0).toNatClampNeg
    · exact ⟨0, by decide, e⟩
    · rw [z_ne e] at hq
      exact absurd (h v hv) hq
theorem zSn_s {c : Nat → Int32} {n : Nat} {f : Nat → Int32} (h : zSn c n f) (hc : ∀ k, 0 ≤ (c k).toInt) (q : ∀ k, k < n → ¬ c k = c n) : zSn c (n + 1) (upd f (c n).toNatClampNeg (nI (n + 1))) := by
  have hi : ∀ k, k < n → ¬ (c k).toNatClampNeg = (c n).toNatClampNeg := fun k hk e => q k hk (Int32.toInt_inj.mp (by
    have a := z_clI (hc k)
    have b := z_clI (hc n)
    omega))
  refine ⟨fun k hk => ?_, fun v hv hq => ?_⟩
  · by_cases e : k = n
    · subst e
      exact z_eq rfl
    · rw [z_ne (hi k (by omega))]
      exact h.1 k (by omega)
  · by_cases e : v = (c n).toNatClampNeg
    · exact ⟨n, by omega, e⟩
    · rw [z_ne e] at hq
      obtain ⟨k, hk, t⟩ := h.2 v hv hq
      exact ⟨k, by omega, t⟩
theorem zSn_f {c : Nat → Int32} {n : Nat} {f : Nat → Int32} {v : Int32} (h : zSn c n f) (hc : ∀ k, 0 ≤ (c k).toInt) (hv : 0 ≤ v.toInt ∧ v.toInt < 16384) (hq : ¬ f v.toNatClampNeg = 0) : ∃ k, k < n ∧ c k = v ∧ f v.toNatClampNeg = nI (k + 1) := by
  have ev := z_clI hv.1
  obtain ⟨k, hk, t⟩ := h.2 v.toNatClampNeg (by omega) hq
  refine ⟨k, hk, Int32.toInt_inj.mp ?_, by rw [t]; exact h.1 k hk⟩
  have a := z_clI (hc k)
  omega
theorem zSn_z {c : Nat → Int32} {n k : Nat} {f : Nat → Int32} (h : zSn c n f) (hn : n < 2147483647) (hk : k < n) (e : f (c k).toNatClampNeg = 0) : False := by
  have t := (h.1 k hk).symm.trans e
  have t := congrArg Int32.toInt t
  rw [nI_toInt (by omega)] at t
  have z0 : (0 : Int32).toInt = 0 := rfl
  omega
theorem zPer_a {t : Int32} {k : Nat} (h : t = nI (k + 1)) (hk : k < 2000) : t - 1 = nI k := by
  rw [h]
  exact zSubN (a := k + 1) (b := 1) (by omega) (by omega)
theorem zPer_b {t : Int32} {k n : Nat} (h : t = nI (k + 1)) (hk : k < n) (hn : n < 2000) : nI (n + 1) - t = nI (n - k) := by
  rw [h]
  exact (zSubN (a := n + 1) (b := k + 1) (by omega) (by omega)).trans (congrArg nI (by omega))
set_option maxHeartbeats 4000000 in
set_option maxRecDepth 100000 in
/-- c_fm_period -/
theorem c_fm_period (l : Launch) (T : zTy) (mo : Nat) (m_all : Nat) (m_has : Nat) (i_size : Int32) (i_next : Int32) (i_where : Int32) (i_token : Int32) (i_number : Int32) (i_word : Int32) (i_wrong : Int32) (i_farCrossing : Int32) (m_read : Nat) (i_z0 : Int32) (i_crossings : Int32) (i_inns : Int32) (m_posts : Nat) (m_shut : Nat) (m_here : Nat) (i_steps : Int32) (i_done : Int32) (i_at : Int32) (i_gone : Int32) (m_was : Nat) (m_came : Nat) (m_seenAt : Nat) (m_rowWorth : Nat) (m_farBy : Nat) (m_used : Nat) (i_everywhere : Int32) (i_again0 : Int32) (i_d0 : Int32) (i_never : Int32) (i_firstCame : Int32) (i_longRun : Int32) (i_moved : Int32) (i_crowd : Int32) (i_l0 : Int32) (i_fitMany : Int32) (i_fitLeast : Int32) (i_fitMost : Int32) (m_fitPost : Nat) (m_fitEnd : Nat) (m_keptPosts : Nat) (i_x0 : Int32) (f_all : Nat → Int32) (f_posts : Nat → Int32) (f_shut : Nat → Int32) (f_here : Nat → Int32) (f_was : Nat → Int32) (f_seenAt : Nat → Int32) (l_ : Int32) (c_ : Int32) (w_ : Int32) (hB : zBI f_all) (hVA : zVA f_all) : zMi l T yX12_period cX12_period 6 (some .int) 5 0 0 [.ref mo, .int l_, .int c_, .int w_] [[(mo, .inr (11, [.ref m_all, .ref m_has, .int i_size, .int i_next, .int i_where, .int i_token, .int i_number, .int i_word, .int i_wrong, .int i_farCrossing, .ref m_read, .int i_z0, .int i_crossings, .int i_inns, .ref m_posts, .ref m_shut, .ref m_here, .int i_steps, .int i_done, .int i_at, .int i_gone, .ref m_was, .ref m_came, .ref m_seenAt, .ref m_rowWorth, .ref m_farBy, .ref m_used, .int i_everywhere, .int i_again0, .int i_d0, .int i_never, .int i_firstCame, .int i_longRun, .int i_moved, .int i_crowd, .int i_l0, .int i_fitMany, .int i_fitLeast, .int i_fitMost, .ref m_fitPost, .ref m_fitEnd, .ref m_keptPosts, .int i_x0]))], [(m_all, .inl (T.2 0, 3952, .inl f_all))], [(m_posts, .inl (T.2 0, 7, .inl f_posts))], [(m_shut, .inl (T.2 0, 7, .inl f_shut))], [(m_here, .inl (T.2 0, 7, .inl f_here))], [(m_was, .inl (T.2 0, 7, .inl f_was))], [(m_seenAt, .inl (T.2 0, 16384, .inl f_seenAt))]] (fun (r : Int32) bs => ∃ (j_z0 : Int32) (j_crossings : Int32) (j_inns : Int32) (j_steps : Int32) (j_done : Int32) (j_at : Int32) (j_gone : Int32) (g_posts : Nat → Int32) (g_shut : Nat → Int32) (g_here : Nat → Int32) (g_was : Nat → Int32) (g_seenAt : Nat → Int32), bs = [[(mo, .inr (11, [.ref m_all, .ref m_has, .int i_size, .int i_next, .int i_where, .int i_token, .int i_number, .int i_word, .int i_wrong, .int i_farCrossing, .ref m_read, .int j_z0, .int j_crossings, .int j_inns, .ref m_posts, .ref m_shut, .ref m_here, .int j_steps, .int j_done, .int j_at, .int j_gone, .ref m_was, .ref m_came, .ref m_seenAt, .ref m_rowWorth, .ref m_farBy, .ref m_used, .int i_everywhere, .int i_again0, .int i_d0, .int i_never, .int i_firstCame, .int i_longRun, .int i_moved, .int i_crowd, .int i_l0, .int i_fitMany, .int i_fitLeast, .int i_fitMost, .ref m_fitPost, .ref m_fitEnd, .ref m_keptPosts, .int i_x0]))], [(m_all, .inl (T.2 0, 3952, .inl f_all))], [(m_posts, .inl (T.2 0, 7, .inl g_posts))], [(m_shut, .inl (T.2 0, 7, .inl g_shut))], [(m_here, .inl (T.2 0, 7, .inl g_here))], [(m_was, .inl (T.2 0, 7, .inl g_was))], [(m_seenAt, .inl (T.2 0, 16384, .inl g_seenAt))]] ∧ ((l_.toInt < 0 ∨ (f_all 0).toInt ≤ l_.toInt) ∧ r = -1 ∨ l_.toInt = 0 ∧ 0 < (f_all 0).toInt ∧ pPeriod f_all 610 c_ w_ r ∨ l_.toInt = 1 ∧ 1 < (f_all 0).toInt ∧ pPeriod f_all 661 c_ w_ r)) := by
  refine zMi_of (own := RX12) (by decide) rfl (Nat.le_of_ble_eq_true rfl) ?_
  intro p e s m args below meth c A ls C hr hlocks hnm hAe G hl
  have hx := C.1
  have hb := C.2.1
  have hl : lv_has ls 6 [(0, .ref mo), (1, .int l_), (2, .int c_), (3, .int w_)] := hl
  refine lv_aload_n hx hb dX12_period_0 rfl (lv_at hl 0 rfl) ?_
  refine lv_iload_n hx hb dX12_period_1 rfl (lv_at hl 1 rfl) ?_
  refine z_Vi (bc := [[(mo, .inr (11, [.ref m_all, .ref m_has, .int i_size, .int i_next, .int i_where, .int i_token, .int i_number, .int i_word, .int i_wrong, .int i_farCrossing, .ref m_read, .int i_z0, .int i_crossings, .int i_inns, .ref m_posts, .ref m_shut, .ref m_here, .int i_steps, .int i_done, .int i_at, .int i_gone, .ref m_was, .ref m_came, .ref m_seenAt, .ref m_rowWorth, .ref m_farBy, .ref m_used, .int i_everywhere, .int i_again0, .int i_d0, .int i_never, .int i_firstCame, .int i_longRun, .int i_moved, .int i_crowd, .int i_l0, .int i_fitMany, .int i_fitLeast, .int i_fitMost, .ref m_fitPost, .ref m_fitEnd, .ref m_keptPosts, .int i_x0]))], [(m_all, .inl (T.2 0, 3952, .inl f_all))], [(m_posts, .inl (T.2 0, 7, .inl f_posts))], [(m_shut, .inl (T.2 0, 7, .inl f_shut))], [(m_here, .inl (T.2 0, 7, .inl f_here))]]) (br := [[(m_was, .inl (T.2 0, 7, .inl f_was))], [(m_seenAt, .inl (T.2 0, 16384, .inl f_seenAt))]]) (As := [.int l_]) (rest := []) C G (c_m_isLand l T mo m_all m_has i_size i_next i_where i_token i_number i_word i_wrong i_farCrossing m_read i_z0 i_crossings i_inns m_posts m_shut m_here i_steps i_done i_at i_gone m_was m_came m_seenAt m_rowWorth m_farBy m_used i_everywhere i_again0 i_d0 i_never i_firstCame i_longRun i_moved i_crowd i_l0 i_fitMany i_fitLeast i_fitMost m_fitPost m_fitEnd m_keptPosts i_x0 f_all f_posts f_shut f_here l_ (by first | with_reducible assumption | with_reducible rfl | omega | assumption | rfl)) (kV_RX12_184 C.2.2.2.2 (Nat.le_of_ble_eq_true rfl) (Nat.le_of_ble_eq_true rfl)) [0, 1, 2, 3, 4] [5, 6] rfl rfl (ci := 11) (qc := (RX12, TX12, 43)) rfl rfl (List.mem_flatten.mpr ⟨_, List.mem_of_getElem? (i := 0) rfl, List.mem_cons_self⟩) rfl rfl hl.1 dX12_period_2 (Nat.le_of_ble_eq_true rfl) (Nat.le_of_ble_eq_true rfl) (fun r_10 b1 H locs hw G => ?_)
  obtain ⟨j_z0_1, j_crossings_2, j_inns_3, j_steps_4, j_done_5, g_posts_6, g_shut_7, g_here_8, rfl, hc_9⟩ := hw
  have G : zS T A s.heap s [[(m_was, .inl (T.2 0, 7, .inl f_was))], [(m_seenAt, .inl (T.2 0, 16384, .inl f_seenAt))], [(mo, .inr (11, [.ref m_all, .ref m_has, .int i_size, .int i_next, .int i_where, .int i_token, .int i_number, .int i_word, .int i_wrong, .int i_farCrossing, .ref m_read, .int j_z0_1, .int j_crossings_2, .int j_inns_3, .ref m_posts, .ref m_shut, .ref m_here, .int j_steps_4, .int j_done_5, .int i_at, .int i_gone, .ref m_was, .ref m_came, .ref m_seenAt, .ref m_rowWorth, .ref m_farBy, .ref m_used, .int i_everywhere, .int i_again0, .int i_d0, .int i_never, .int i_firstCame, .int i_longRun, .int i_moved, .int i_crowd, .int i_l0, .int i_fitMany, .int i_fitLeast, .int i_fitMost, .ref m_fitPost, .ref m_fitEnd, .ref m_keptPosts, .int i_x0]))], [(m_all, .inl (T.2 0, 3952, .inl f_all))], [(m_posts, .inl (T.2 0, 7, .inl g_posts_6))], [(m_shut, .inl (T.2 0, 7, .inl g_shut_7))], [(m_here, .inl (T.2 0, 7, .inl g_here_8))]] _ _ := G
  rcases hc_9 with ⟨rfl, h_11, h_12, h_13, h_14, h_15, h_16, h_17, h_18, h_19, h_20, h_21, h_22⟩ | ⟨rfl, h_23⟩
  · have h_11 : 0 ≤ l_.toInt := h_11
    have h_12 : l_.toInt ≤ 1 := h_12
    have h_13 : l_.toInt < (f_all 0).toInt := h_13
    have h_14 : j_z0_1.toInt = 610 + 51 * l_.toInt := h_14
    have h_15 : zML f_all j_z0_1 j_crossings_2 := h_15
    have h_16 : zMP g_posts_6 := h_16
    have h_17 : j_inns_3 = f_all (j_z0_1.toInt.toNat + 1) := h_17
    have h_18 : j_steps_4 = 0 := h_18
    have h_19 : j_done_5 = 0 := h_19
    have h_20 : (∀ j, j < 7 → g_posts_6 j = zPt f_all j_z0_1 (nI j)) := h_20
    have h_21 : (∀ j, j < 7 → g_shut_7 j = 0) := h_21
    have h_22 : (∀ j, j < 7 → g_here_8 j = zWk f_all j_z0_1 j) := h_22
    have hLx := h_15
    have hcr := hLx.cr
    have hzx := hLx.1
    have hPx := h_16
    have hVx : zMV (zRo f_all j_z0_1) g_posts_6 := zVA_z hVA hzx h_20
    refine lv_if_eq (tgt := 16) hx hb dX12_period_5 (by decide) (fun q => absurd q (by decide)) (fun _ => ?_)
    rcases (show l_.toInt = 0 ∨ l_.toInt = 1 from by have hq9 := hB.2.1 0 (by decide); omega) with hkk | hkk
    · obtain rfl : j_z0_1 = 610 := Int32.toInt_inj.mp (by show j_z0_1.toInt = 610; omega)
      have hcx : j_crossings_2.toInt = (f_all 610).toInt := by rw [hLx.2.1]; rfl
      have hQP : zP3 g_posts_6 (zWo f_all 610 j_inns_3) := zP3_m hLx hPx
      refine lv_aload_n hx hb dX12_period_8 rfl (lv_at hl 0 rfl) ?_
      refine lv_iload_n hx hb dX12_period_9 rfl (lv_at hl 2 rfl) ?_
      refine z_Vi (bc := [[(mo, .inr (11, [.ref m_all, .ref m_has, .int i_size, .int i_next, .int i_where, .int i_token, .int i_number, .int i_word, .int i_wrong, .int i_farCrossing, .ref m_read, .int 610, .int j_crossings_2, .int j_inns_3, .ref m_posts, .ref m_shut, .ref m_here, .int j_steps_4, .int j_done_5, .int i_at, .int i_gone, .ref m_was, .ref m_came, .ref m_seenAt, .ref m_rowWorth, .ref m_farBy, .ref m_used, .int i_everywhere, .int i_again0, .int i_d0, .int i_never, .int i_firstCame, .int i_longRun, .int i_moved, .int i_crowd, .int i_l0, .int i_fitMany, .int i_fitLeast, .int i_fitMost, .ref m_fitPost, .ref m_fitEnd, .ref m_keptPosts, .int i_x0]))]]) (br := [[(m_was, .inl (T.2 0, 7, .inl f_was))], [(m_seenAt, .inl (T.2 0, 16384, .inl f_seenAt))], [(m_all, .inl (T.2 0, 3952, .inl f_all))], [(m_posts, .inl (T.2 0, 7, .inl g_posts_6))], [(m_shut, .inl (T.2 0, 7, .inl g_shut_7))], [(m_here, .inl (T.2 0, 7, .inl g_here_8))]]) (As := [.int c_]) (rest := []) C G (c_m_isCrossing l T mo m_all m_has i_size i_next i_where i_token i_number i_word i_wrong i_farCrossing m_read 610 j_crossings_2 j_inns_3 m_posts m_shut m_here j_steps_4 j_done_5 i_at i_gone m_was m_came m_seenAt m_rowWorth m_farBy m_used i_everywhere i_again0 i_d0 i_never i_firstCame i_longRun i_moved i_crowd i_l0 i_fitMany i_fitLeast i_fitMost m_fitPost m_fitEnd m_keptPosts i_x0 c_ (by first | with_reducible assumption | with_reducible rfl | omega | assumption | rfl)) (kV_RX12_187 C.2.2.2.2 (Nat.le_of_ble_eq_true rfl) (Nat.le_of_ble_eq_true rfl)) [2] [0, 1, 3, 4, 5, 6] rfl rfl (ci := 11) (qc := (RX12, TX12, 43)) rfl rfl (List.mem_flatten.mpr ⟨_, List.mem_of_getElem? (i := 0) rfl, List.mem_cons_self⟩) rfl rfl hl.1 dX12_period_10 (Nat.le_of_ble_eq_true rfl) (Nat.le_of_ble_eq_true rfl) (fun r_25 b1 H locs hw G => ?_)
      obtain ⟨rfl, hc_24⟩ := hw
      have G : zS T A s.heap s [[(m_was, .inl (T.2 0, 7, .inl f_was))], [(m_seenAt, .inl (T.2 0, 16384, .inl f_seenAt))], [(m_all, .inl (T.2 0, 3952, .inl f_all))], [(m_posts, .inl (T.2 0, 7, .inl g_posts_6))], [(m_shut, .inl (T.2 0, 7, .inl g_shut_7))], [(m_here, .inl (T.2 0, 7, .inl g_here_8))], [(mo, .inr (11, [.ref m_all, .ref m_has, .int i_size, .int i_next, .int i_where, .int i_token, .int i_number, .int i_word, .int i_wrong, .int i_farCrossing, .ref m_read, .int 610, .int j_crossings_2, .int j_inns_3, .ref m_posts, .ref m_shut, .ref m_here, .int j_steps_4, .int j_done_5, .int i_at, .int i_gone, .ref m_was, .ref m_came, .ref m_seenAt, .ref m_rowWorth, .ref m_farBy, .ref m_used, .int i_everywhere, .int i_again0, .int i_d0, .int i_never, .int i_firstCame, .int i_longRun, .int i_moved, .int i_crowd, .int i_l0, .int i_fitMany, .int i_fitLeast, .int i_fitMost, .ref m_fitPost, .ref m_fitEnd, .ref m_keptPosts, .int i_x0]))]] _ _ := G
      rcases hc_24 with ⟨rfl, h_26, h_27⟩ | ⟨rfl, h_28⟩
      · have h_26 : 0 ≤ c_.toInt := h_26
        have h_27 : c_.toInt < j_crossings_2.toInt := h_27
        refine lv_if_ne (tgt := 18) hx hb dX12_period_13 (by decide) (fun _ => ?_) (fun q => absurd q (by decide))
        refine lv_iconst (v := 0) hx hb dX12_period_18 (by decide) ?_
        refine lv_istore (lv' := [(4, .int 0), (0, .ref mo), (1, .int l_), (2, .int c_), (3, .int w_)]) hx hb dX12_period_19 hl (by decide) rfl (fun ls hl => ?_)
        refine z_loop (T := T) (α := Nat × (Nat → Int32)) 21 (fun (i, xseenAt) => [[(m_was, .inl (T.2 0, 7, .inl f_was))], [(m_seenAt, .inl (T.2 0, 16384, .inl xseenAt))], [(m_all, .inl (T.2 0, 3952, .inl f_all))], [(m_posts, .inl (T.2 0, 7, .inl g_posts_6))], [(m_shut, .inl (T.2 0, 7, .inl g_shut_7))], [(m_here, .inl (T.2 0, 7, .inl g_here_8))], [(mo, .inr (11, [.ref m_all, .ref m_has, .int i_size, .int i_next, .int i_where, .int i_token, .int i_number, .int i_word, .int i_wrong, .int i_farCrossing, .ref m_read, .int 610, .int j_crossings_2, .int j_inns_3, .ref m_posts, .ref m_shut, .ref m_here, .int j_steps_4, .int j_done_5, .int i_at, .int i_gone, .ref m_was, .ref m_came, .ref m_seenAt, .ref m_rowWorth, .ref m_farBy, .ref m_used, .int i_everywhere, .int i_again0, .int i_d0, .int i_never, .int i_firstCame, .int i_longRun, .int i_moved, .int i_crowd, .int i_l0, .int i_fitMany, .int i_fitLeast, .int i_fitMost, .ref m_fitPost, .ref m_fitEnd, .ref m_keptPosts, .int i_x0]))]]) (fun (i, xseenAt) => [(4, .int (nI i)), (0, .ref mo), (1, .int l_), (2, .int c_), (3, .int w_)]) (fun (i, xseenAt) => i ≤ 16384 ∧ (∀ v, v < i → xseenAt v = 0)) (fun (i, xseenAt) => 16384 - i) ?_ (0, f_seenAt) (show 0 ≤ 16384 ∧ (∀ v, v < 0 → f_seenAt v = 0) from ⟨by omega, fun j hj => absurd hj (by omega)⟩) G (lv_sub hl [0, 1, 2, 3, 4] rfl)
        rintro ⟨i, xseenAt⟩ ⟨hi, hZs⟩ ih_21 H locs ls G hl
        replace hi : i ≤ 16384 := hi
        replace hZs : (∀ v, v < i → xseenAt v = 0) := hZs
        replace G : zS T A s.heap s [[(m_was, .inl (T.2 0, 7, .inl f_was))], [(m_seenAt, .inl (T.2 0, 16384, .inl xseenAt))], [(m_all, .inl (T.2 0, 3952, .inl f_all))], [(m_posts, .inl (T.2 0, 7, .inl g_posts_6))], [(m_shut, .inl (T.2 0, 7, .inl g_shut_7))], [(m_here, .inl (T.2 0, 7, .inl g_here_8))], [(mo, .inr (11, [.ref m_all, .ref m_has, .int i_size, .int i_next, .int i_where, .int i_token, .int i_number, .int i_word, .int i_wrong, .int i_farCrossing, .ref m_read, .int 610, .int j_crossings_2, .int j_inns_3, .ref m_posts, .ref m_shut, .ref m_here, .int j_steps_4, .int j_done_5, .int i_at, .int i_gone, .ref m_was, .ref m_came, .ref m_seenAt, .ref m_rowWorth, .ref m_farBy, .ref m_used, .int i_everywhere, .int i_again0, .int i_d0, .int i_never, .int i_firstCame, .int i_longRun, .int i_moved, .int i_crowd, .int i_l0, .int i_fitMany, .int i_fitLeast, .int i_fitMost, .ref m_fitPost, .ref m_fitEnd, .ref m_keptPosts, .int i_x0]))]] _ _ := G
        replace hl : lv_has ls 6 [(4, .int (nI i)), (0, .ref mo), (1, .int l_), (2, .int c_), (3, .int w_)] := hl
        refine lv_iload hx hb dX12_period_21 (lv_at hl 0 rfl) ?_
        refine lv_sipush (v := 16384) hx hb dX12_period_23 (by decide) ?_
        refine lv_icmp_ge (tgt := 43) hx hb dX12_period_26 (by decide) (fun c_29 => ?_) (fun c_29 => ?_)
        · have c_29n : 16384 ≤ i := (nI_leI (a := 16384) (b := i) (by omega) (by omega)).mp c_29
          refine lv_aload_n hx hb dX12_period_43 rfl (lv_at hl 1 rfl) ?_
          refine z_get C G clX12 6 rfl 23 (by decide) m_fl_RX12_35 rfl dX12_period_44 ?_
          refine lv_aload_n hx hb dX12_period_47 rfl (lv_at hl 1 rfl) ?_
          refine z_Vi (bc := [[(mo, .inr (11, [.ref m_all, .ref m_has, .int i_size, .int i_next, .int i_where, .int i_token, .int i_number, .int i_word, .int i_wrong, .int i_farCrossing, .ref m_read, .int 610, .int j_crossings_2, .int j_inns_3, .ref m_posts, .ref m_shut, .ref m_here, .int j_steps_4, .int j_done_5, .int i_at, .int i_gone, .ref m_was, .ref m_came, .ref m_seenAt, .ref m_rowWorth, .ref m_farBy, .ref m_used, .int i_everywhere, .int i_again0, .int i_d0, .int i_never, .int i_firstCame, .int i_longRun, .int i_moved, .int i_crowd, .int i_l0, .int i_fitMany, .int i_fitLeast, .int i_fitMost, .ref m_fitPost, .ref m_fitEnd, .ref m_keptPosts, .int i_x0]))], [(m_posts, .inl (T.2 0, 7, .inl g_posts_6))]]) (br := [[(m_was, .inl (T.2 0, 7, .inl f_was))], [(m_seenAt, .inl (T.2 0, 16384, .inl xseenAt))], [(m_all, .inl (T.2 0, 3952, .inl f_all))], [(m_shut, .inl (T.2 0, 7, .inl g_shut_7))], [(m_here, .inl (T.2 0, 7, .inl g_here_8))]]) (As := []) (rest := [.ref m_seenAt]) C G (c_fm_postsNow l T mo m_all m_has i_size i_next i_where i_token i_number i_word i_wrong i_farCrossing m_read 610 j_crossings_2 j_inns_3 m_posts m_shut m_here j_steps_4 j_done_5 i_at i_gone m_was m_came m_seenAt m_rowWorth m_farBy m_used i_everywhere i_again0 i_d0 i_never i_firstCame i_longRun i_moved i_crowd i_l0 i_fitMany i_fitLeast i_fitMost m_fitPost m_fitEnd m_keptPosts i_x0 g_posts_6 (by first | with_reducible assumption | with_reducible rfl | omega | assumption | rfl) (by first | with_reducible assumption | with_reducible rfl | omega | assumption | rfl)) (kV_RX12_220 C.2.2.2.2 (Nat.le_of_ble_eq_true rfl) (Nat.le_of_ble_eq_true rfl)) [6, 3] [0, 1, 2, 4, 5] rfl rfl (ci := 11) (qc := (RX12, TX12, 43)) rfl rfl (List.mem_flatten.mpr ⟨_, List.mem_of_getElem? (i := 0) rfl, List.mem_cons_self⟩) rfl rfl hl.1 dX12_period_48 (Nat.le_of_ble_eq_true rfl) (Nat.le_of_ble_eq_true rfl) (fun r_33 b1 H locs hw G => ?_)
          obtain ⟨rfl, h_30, h_31, h_32⟩ := hw
          have G : zS T A s.heap s [[(m_was, .inl (T.2 0, 7, .inl f_was))], [(m_seenAt, .inl (T.2 0, 16384, .inl xseenAt))], [(m_all, .inl (T.2 0, 3952, .inl f_all))], [(m_shut, .inl (T.2 0, 7, .inl g_shut_7))], [(m_here, .inl (T.2 0, 7, .inl g_here_8))], [(mo, .inr (11, [.ref m_all, .ref m_has, .int i_size, .int i_next, .int i_where, .int i_token, .int i_number, .int i_word, .int i_wrong, .int i_farCrossing, .ref m_read, .int 610, .int j_crossings_2, .int j_inns_3, .ref m_posts, .ref m_shut, .ref m_here, .int j_steps_4, .int j_done_5, .int i_at, .int i_gone, .ref m_was, .ref m_came, .ref m_seenAt, .ref m_rowWorth, .ref m_farBy, .ref m_used, .int i_everywhere, .int i_again0, .int i_d0, .int i_never, .int i_firstCame, .int i_longRun, .int i_moved, .int i_crowd, .int i_l0, .int i_fitMany, .int i_fitLeast, .int i_fitMost, .ref m_fitPost, .ref m_fitEnd, .ref m_keptPosts, .int i_x0]))], [(m_posts, .inl (T.2 0, 7, .inl g_posts_6))]] _ _ := G
          have hc0_ : r_33 = zPn (zPk g_shut_7 (zWo f_all 610 j_inns_3) (zLo f_all 610) c_ g_posts_6 0) j_crossings_2.toInt.toNat := h_30
          refine lv_iconst (v := 1) hx hb dX12_period_51 (by decide) ?_
          refine z_ist C G 1 rfl (vp_in_iff.mpr ⟨by omega, by omega⟩) dX12_period_52 (fun H locs G => ?_)
          have G : zS T A s.heap s [[(m_was, .inl (T.2 0, 7, .inl f_was))], [(m_seenAt, .inl (T.2 0, 16384, .inl (upd xseenAt r_33.toNatClampNeg 1)))], [(m_all, .inl (T.2 0, 3952, .inl f_all))], [(m_shut, .inl (T.2 0, 7, .inl g_shut_7))], [(m_here, .inl (T.2 0, 7, .inl g_here_8))], [(mo, .inr (11, [.ref m_all, .ref m_has, .int i_size, .int i_next, .int i_where, .int i_token, .int i_number, .int i_word, .int i_wrong, .int i_farCrossing, .ref m_read, .int 610, .int j_crossings_2, .int j_inns_3, .ref m_posts, .ref m_shut, .ref m_here, .int j_steps_4, .int j_done_5, .int i_at, .int i_gone, .ref m_was, .ref m_came, .ref m_seenAt, .ref m_rowWorth, .ref m_farBy, .ref m_used, .int i_everywhere, .int i_again0, .int i_d0, .int i_never, .int i_firstCame, .int i_longRun, .int i_moved, .int i_crowd, .int i_l0, .int i_fitMany, .int i_fitLeast, .int i_fitMost, .ref m_fitPost, .ref m_fitEnd, .ref m_keptPosts, .int i_x0]))], [(m_posts, .inl (T.2 0, 7, .inl g_posts_6))]] _ _ := G
          refine lv_iconst (v := 1) hx hb dX12_period_53 (by decide) ?_
          refine lv_istore (lv' := [(4, .int 1), (0, .ref mo), (1, .int l_), (2, .int c_), (3, .int w_)]) hx hb dX12_period_54 hl (by decide) rfl (fun ls hl => ?_)
          have hmp : ∀ k, zMP (zPk g_shut_7 (zWo f_all 610 j_inns_3) (zLo f_all 610) c_ g_posts_6 k) := fun k => zPk_mp hQP hPx k
          have hcp : ∀ k, 0 ≤ ((fun k => zPn (zPk g_shut_7 (zWo f_all 610 j_inns_3) (zLo f_all 610) c_ g_posts_6 k) j_crossings_2.toInt.toNat) k).toInt := fun k => (zPn_b (hmp k) _ (by omega)).1
          have hcp2 : ∀ k, 0 ≤ (zPn (zPk g_shut_7 (zWo f_all 610 j_inns_3) (zLo f_all 610) c_ g_posts_6 k) j_crossings_2.toInt.toNat).toInt ∧ (zPn (zPk g_shut_7 (zWo f_all 610 j_inns_3) (zLo f_all 610) c_ g_posts_6 k) j_crossings_2.toInt.toNat).toInt < 16384 := fun k => zPn_b (hmp k) _ (by omega)
          refine z_loop (T := T) (α := Nat × Int32 × Int32 × (Nat → Int32) × (Nat → Int32) × (Nat → Int32)) 56 (fun (i, xat, xgone, xposts, xwas, xseenAt) => [[(m_was, .inl (T.2 0, 7, .inl xwas))], [(m_seenAt, .inl (T.2 0, 16384, .inl xseenAt))], [(m_all, .inl (T.2 0, 3952, .inl f_all))], [(m_shut, .inl (T.2 0, 7, .inl g_shut_7))], [(m_here, .inl (T.2 0, 7, .inl g_here_8))], [(mo, .inr (11, [.ref m_all, .ref m_has, .int i_size, .int i_next, .int i_where, .int i_token, .int i_number, .int i_word, .int i_wrong, .int i_farCrossing, .ref m_read, .int 610, .int j_crossings_2, .int j_inns_3, .ref m_posts, .ref m_shut, .ref m_here, .int j_steps_4, .int j_done_5, .int xat, .int xgone, .ref m_was, .ref m_came, .ref m_seenAt, .ref m_rowWorth, .ref m_farBy, .ref m_used, .int i_everywhere, .int i_again0, .int i_d0, .int i_never, .int i_firstCame, .int i_longRun, .int i_moved, .int i_crowd, .int i_l0, .int i_fitMany, .int i_fitLeast, .int i_fitMost, .ref m_fitPost, .ref m_fitEnd, .ref m_keptPosts, .int i_x0]))], [(m_posts, .inl (T.2 0, 7, .inl xposts))]]) (fun (i, xat, xgone, xposts, xwas, xseenAt) => [(4, .int (nI i)), (0, .ref mo), (1, .int l_), (2, .int c_), (3, .int w_)]) (fun (i, xat, xgone, xposts, xwas, xseenAt) => i ≤ 1000 ∧ zMP xposts ∧ 1 ≤ i ∧ zMV (zRo f_all 610) xposts ∧ xposts = zPk g_shut_7 (zWo f_all 610 j_inns_3) (zLo f_all 610) c_ g_posts_6 (i - 1) ∧ zSn (fun k => zPn (zPk g_shut_7 (zWo f_all 610 j_inns_3) (zLo f_all 610) c_ g_posts_6 k) j_crossings_2.toInt.toNat) i xseenAt ∧ (∀ a b, a < b → b < i → ¬ zPn (zPk g_shut_7 (zWo f_all 610 j_inns_3) (zLo f_all 610) c_ g_posts_6 a) j_crossings_2.toInt.toNat = zPn (zPk g_shut_7 (zWo f_all 610 j_inns_3) (zLo f_all 610) c_ g_posts_6 b) j_crossings_2.toInt.toNat)) (fun (i, xat, xgone, xposts, xwas, xseenAt) => 1000 - i) ?_ (1, i_at, i_gone, g_posts_6, f_was, (upd xseenAt r_33.toNatClampNeg 1)) (show 1 ≤ 1000 ∧ zMP g_posts_6 ∧ 1 ≤ 1 ∧ zMV (zRo f_all 610) g_posts_6 ∧ g_posts_6 = zPk g_shut_7 (zWo f_all 610 j_inns_3) (zLo f_all 610) c_ g_posts_6 (1 - 1) ∧ zSn (fun k => zPn (zPk g_shut_7 (zWo f_all 610 j_inns_3) (zLo f_all 610) c_ g_posts_6 k) j_crossings_2.toInt.toNat) 1 (upd xseenAt r_33.toNatClampNeg 1) ∧ (∀ a b, a < b → b < 1 → ¬ zPn (zPk g_shut_7 (zWo f_all 610 j_inns_3) (zLo f_all 610) c_ g_posts_6 a) j_crossings_2.toInt.toNat = zPn (zPk g_shut_7 (zWo f_all 610 j_inns_3) (zLo f_all 610) c_ g_posts_6 b) j_crossings_2.toInt.toNat) from ⟨by omega, (by assumption), by omega, hVx, rfl, (by rw [hc0_]; exact zSn_0 (c := (fun k => zPn (zPk g_shut_7 (zWo f_all 610 j_inns_3) (zLo f_all 610) c_ g_posts_6 k) j_crossings_2.toInt.toNat)) (fun v hv => hZs v (by omega))), (fun a b h1 h2 => by exfalso; omega)⟩) G (lv_sub hl [0, 1, 2, 3, 4] rfl)
          rintro ⟨i, xat, xgone, xposts, xwas, xseenAt⟩ ⟨hi, hQ, hi1, hVq, hZ1, hSn, hN⟩ ih_56 H locs ls G hl
          replace hi : i ≤ 1000 := hi
          replace hQ : zMP xposts := hQ
          replace hi1 : 1 ≤ i := hi1
          replace hVq : zMV (zRo f_all 610) xposts := hVq
          replace hZ1 : xposts = zPk g_shut_7 (zWo f_all 610 j_inns_3) (zLo f_all 610) c_ g_posts_6 (i - 1) := hZ1
          replace hSn : zSn (fun k => zPn (zPk g_shut_7 (zWo f_all 610 j_inns_3) (zLo f_all 610) c_ g_posts_6 k) j_crossings_2.toInt.toNat) i xseenAt := hSn
          replace hN : (∀ a b, a < b → b < i → ¬ zPn (zPk g_shut_7 (zWo f_all 610 j_inns_3) (zLo f_all 610) c_ g_posts_6 a) j_crossings_2.toInt.toNat = zPn (zPk g_shut_7 (zWo f_all 610 j_inns_3) (zLo f_all 610) c_ g_posts_6 b) j_crossings_2.toInt.toNat) := hN
          replace G : zS T A s.heap s [[(m_was, .inl (T.2 0, 7, .inl xwas))], [(m_seenAt, .inl (T.2 0, 16384, .inl xseenAt))], [(m_all, .inl (T.2 0, 3952, .inl f_all))], [(m_shut, .inl (T.2 0, 7, .inl g_shut_7))], [(m_here, .inl (T.2 0, 7, .inl g_here_8))], [(mo, .inr (11, [.ref m_all, .ref m_has, .int i_size, .int i_next, .int i_where, .int i_token, .int i_number, .int i_word, .int i_wrong, .int i_farCrossing, .ref m_read, .int 610, .int j_crossings_2, .int j_inns_3, .ref m_posts, .ref m_shut, .ref m_here, .int j_steps_4, .int j_done_5, .int xat, .int xgone, .ref m_was, .ref m_came, .ref m_seenAt, .ref m_rowWorth, .ref m_farBy, .ref m_used, .int i_everywhere, .int i_again0, .int i_d0, .int i_never, .int i_firstCame, .int i_longRun, .int i_moved, .int i_crowd, .int i_l0, .int i_fitMany, .int i_fitLeast, .int i_fitMost, .ref m_fitPost, .ref m_fitEnd, .ref m_keptPosts, .int i_x0]))], [(m_posts, .inl (T.2 0, 7, .inl xposts))]] _ _ := G
          replace hl : lv_has ls 6 [(4, .int (nI i)), (0, .ref mo), (1, .int l_), (2, .int c_), (3, .int w_)] := hl
          refine lv_iload hx hb dX12_period_56 (lv_at hl 0 rfl) ?_
          refine lv_sipush (v := 1000) hx hb dX12_period_58 (by decide) ?_
          refine lv_icmp_ge (tgt := 124) hx hb dX12_period_61 (by decide) (fun c_34 => ?_) (fun c_34 => ?_)
          · have c_34n : 1000 ≤ i := (nI_leI (a := 1000) (b := i) (by omega) (by omega)).mp c_34
            refine lv_iconst (v := (-1)) hx hb dX12_period_124 (by decide) ?_
            have G := G.sub (bs' := [[(mo, .inr (11, [.ref m_all, .ref m_has, .int i_size, .int i_next, .int i_where, .int i_token, .int i_number, .int i_word, .int i_wrong, .int i_farCrossing, .ref m_read, .int 610, .int j_crossings_2, .int j_inns_3, .ref m_posts, .ref m_shut, .ref m_here, .int j_steps_4, .int j_done_5, .int xat, .int xgone, .ref m_was, .ref m_came, .ref m_seenAt, .ref m_rowWorth, .ref m_farBy, .ref m_used, .int i_everywhere, .int i_again0, .int i_d0, .int i_never, .int i_firstCame, .int i_longRun, .int i_moved, .int i_crowd, .int i_l0, .int i_fitMany, .int i_fitLeast, .int i_fitMost, .ref m_fitPost, .ref m_fitEnd, .ref m_keptPosts, .int i_x0]))], [(m_all, .inl (T.2 0, 3952, .inl f_all))], [(m_posts, .inl (T.2 0, 7, .inl xposts))], [(m_shut, .inl (T.2 0, 7, .inl g_shut_7))], [(m_here, .inl (T.2 0, 7, .inl g_here_8))], [(m_was, .inl (T.2 0, 7, .inl xwas))], [(m_seenAt, .inl (T.2 0, 16384, .inl xseenAt))]]) [5, 2, 6, 3, 4, 0, 1] rfl
            exact z_iret C hr hlocks G (Nat.le_of_ble_eq_true rfl) (Nat.le_of_ble_eq_true rfl) dX12_period_125 ⟨610, j_crossings_2, j_inns_3, j_steps_4, j_done_5, xat, xgone, xposts, g_shut_7, g_here_8, xwas, xseenAt, rfl, (Or.inr (Or.inl ⟨by assumption, by omega, Or.inl ⟨(show 0 ≤ c_.toInt ∧ c_.toInt < (f_all 610).toInt from ⟨by omega, by omega⟩), g_posts_6, g_shut_7, ⟨zPt_o h_20, h_21⟩, by rw [show pW f_all 610 = zWo f_all 610 j_inns_3 from congrArg (zWo f_all 610) h_17.symm, show f_all ((610 : Int32).toInt.toNat) = j_crossings_2 from hLx.2.1.symm]; exact Or.inr ⟨fun a b h1 h2 => hN a b h1 (by omega), rfl⟩⟩⟩))⟩
          · have c_34n : ¬ 1000 ≤ i := fun q => c_34 ((nI_leI (a := 1000) (b := i) (by omega) (by omega)).mpr q)
            refine lv_aload_n hx hb dX12_period_64 rfl (lv_at hl 1 rfl) ?_
            refine lv_iload_n hx hb dX12_period_65 rfl (lv_at hl 3 rfl) ?_
            refine z_Vi (bc := [[(mo, .inr (11, [.ref m_all, .ref m_has, .int i_size, .int i_next, .int i_where, .int i_token, .int i_number, .int i_word, .int i_wrong, .int i_farCrossing, .ref m_read, .int 610, .int j_crossings_2, .int j_inns_3, .ref m_posts, .ref m_shut, .ref m_here, .int j_steps_4, .int j_done_5, .int xat, .int xgone, .ref m_was, .ref m_came, .ref m_seenAt, .ref m_rowWorth, .ref m_farBy, .ref m_used, .int i_everywhere, .int i_again0, .int i_d0, .int i_never, .int i_firstCame, .int i_longRun, .int i_moved, .int i_crowd, .int i_l0, .int i_fitMany, .int i_fitLeast, .int i_fitMost, .ref m_fitPost, .ref m_fitEnd, .ref m_keptPosts, .int i_x0]))], [(m_all, .inl (T.2 0, 3952, .inl f_all))], [(m_posts, .inl (T.2 0, 7, .inl xposts))], [(m_shut, .inl (T.2 0, 7, .inl g_shut_7))], [(m_was, .inl (T.2 0, 7, .inl xwas))]]) (br := [[(m_seenAt, .inl (T.2 0, 16384, .inl xseenAt))], [(m_here, .inl (T.2 0, 7, .inl g_here_8))]]) (As := [.int c_]) (rest := []) C G (c_fm_walks l T mo m_all m_has i_size i_next i_where i_token i_number i_word i_wrong i_farCrossing m_read 610 j_crossings_2 j_inns_3 m_posts m_shut m_here j_steps_4 j_done_5 xat xgone m_was m_came m_seenAt m_rowWorth m_farBy m_used i_everywhere i_again0 i_d0 i_never i_firstCame i_longRun i_moved i_crowd i_l0 i_fitMany i_fitLeast i_fitMost m_fitPost m_fitEnd m_keptPosts i_x0 f_all xposts g_shut_7 xwas c_ (by first | with_reducible assumption | with_reducible rfl | omega | assumption | rfl) (by first | with_reducible assumption | with_reducible rfl | omega | assumption | rfl) (by first | with_reducible assumption | with_reducible rfl | omega | assumption | rfl) (by first | with_reducible assumption | with_reducible rfl | omega | assumption | rfl) (by first | with_reducible assumption | with_reducible rfl | omega | assumption | rfl)) (kV_RX12_217 C.2.2.2.2 (Nat.le_of_ble_eq_true rfl) (Nat.le_of_ble_eq_true rfl)) [5, 2, 6, 3, 0] [1, 4] rfl rfl (ci := 11) (qc := (RX12, TX12, 43)) rfl rfl (List.mem_flatten.mpr ⟨_, List.mem_of_getElem? (i := 0) rfl, List.mem_cons_self⟩) rfl rfl hl.1 dX12_period_66 (Nat.le_of_ble_eq_true rfl) (Nat.le_of_ble_eq_true rfl) (fun r_49 b1 H locs hw G => ?_)
            obtain ⟨j_at_35, j_gone_36, g_posts_37, g_was_38, rfl, h_39, h_40, h_41, h_42, h_43, h_44, h_45, h_46, h_47, h_48⟩ := hw
            have G : zS T A s.heap s [[(m_seenAt, .inl (T.2 0, 16384, .inl xseenAt))], [(m_here, .inl (T.2 0, 7, .inl g_here_8))], [(mo, .inr (11, [.ref m_all, .ref m_has, .int i_size, .int i_next, .int i_where, .int i_token, .int i_number, .int i_word, .int i_wrong, .int i_farCrossing, .ref m_read, .int 610, .int j_crossings_2, .int j_inns_3, .ref m_posts, .ref m_shut, .ref m_here, .int j_steps_4, .int j_done_5, .int j_at_35, .int j_gone_36, .ref m_was, .ref m_came, .ref m_seenAt, .ref m_rowWorth, .ref m_farBy, .ref m_used, .int i_everywhere, .int i_again0, .int i_d0, .int i_never, .int i_firstCame, .int i_longRun, .int i_moved, .int i_crowd, .int i_l0, .int i_fitMany, .int i_fitLeast, .int i_fitMost, .ref m_fitPost, .ref m_fitEnd, .ref m_keptPosts, .int i_x0]))], [(m_all, .inl (T.2 0, 3952, .inl f_all))], [(m_posts, .inl (T.2 0, 7, .inl g_posts_37))], [(m_shut, .inl (T.2 0, 7, .inl g_shut_7))], [(m_was, .inl (T.2 0, 7, .inl g_was_38))]] _ _ := G
            have hx9 : g_posts_37 = zPk g_shut_7 (zWo f_all 610 j_inns_3) (zLo f_all 610) c_ g_posts_6 i := by rw [h_45, hZ1]; exact zPk_p hi1
            refine lv_pop hx hb dX12_period_69 rfl ?_
            refine lv_aload_n hx hb dX12_period_70 rfl (lv_at hl 1 rfl) ?_
            refine z_get C G clX12 2 rfl 23 (by decide) m_fl_RX12_35 rfl dX12_period_71 ?_
            refine lv_aload_n hx hb dX12_period_74 rfl (lv_at hl 1 rfl) ?_
            refine z_Vi (bc := [[(mo, .inr (11, [.ref m_all, .ref m_has, .int i_size, .int i_next, .int i_where, .int i_token, .int i_number, .int i_word, .int i_wrong, .int i_farCrossing, .ref m_read, .int 610, .int j_crossings_2, .int j_inns_3, .ref m_posts, .ref m_shut, .ref m_here, .int j_steps_4, .int j_done_5, .int j_at_35, .int j_gone_36, .ref m_was, .ref m_came, .ref m_seenAt, .ref m_rowWorth, .ref m_farBy, .ref m_used, .int i_everywhere, .int i_again0, .int i_d0, .int i_never, .int i_firstCame, .int i_longRun, .int i_moved, .int i_crowd, .int i_l0, .int i_fitMany, .int i_fitLeast, .int i_fitMost, .ref m_fitPost, .ref m_fitEnd, .ref m_keptPosts, .int i_x0]))], [(m_posts, .inl (T.2 0, 7, .inl g_posts_37))]]) (br := [[(m_seenAt, .inl (T.2 0, 16384, .inl xseenAt))], [(m_here, .inl (T.2 0, 7, .inl g_here_8))], [(m_all, .inl (T.2 0, 3952, .inl f_all))], [(m_shut, .inl (T.2 0, 7, .inl g_shut_7))], [(m_was, .inl (T.2 0, 7, .inl g_was_38))]]) (As := []) (rest := [.ref m_seenAt]) C G (c_fm_postsNow l T mo m_all m_has i_size i_next i_where i_token i_number i_word i_wrong i_farCrossing m_read 610 j_crossings_2 j_inns_3 m_posts m_shut m_here j_steps_4 j_done_5 j_at_35 j_gone_36 m_was m_came m_seenAt m_rowWorth m_farBy m_used i_everywhere i_again0 i_d0 i_never i_firstCame i_longRun i_moved i_crowd i_l0 i_fitMany i_fitLeast i_fitMost m_fitPost m_fitEnd m_keptPosts i_x0 g_posts_37 (by first | with_reducible assumption | with_reducible rfl | omega | assumption | rfl) (by first | with_reducible assumption | with_reducible rfl | omega | assumption | rfl)) (kV_RX12_220 C.2.2.2.2 (Nat.le_of_ble_eq_true rfl) (Nat.le_of_ble_eq_true rfl)) [2, 4] [0, 1, 3, 5, 6] rfl rfl (ci := 11) (qc := (RX12, TX12, 43)) rfl rfl (List.mem_flatten.mpr ⟨_, List.mem_of_getElem? (i := 0) rfl, List.mem_cons_self⟩) rfl rfl hl.1 dX12_period_75 (Nat.le_of_ble_eq_true rfl) (Nat.le_of_ble_eq_true rfl) (fun r_53 b1 H locs hw G => ?_)
            obtain ⟨rfl, h_50, h_51, h_52⟩ := hw
            have G : zS T A s.heap s [[(m_seenAt, .inl (T.2 0, 16384, .inl xseenAt))], [(m_here, .inl (T.2 0, 7, .inl g_here_8))], [(m_all, .inl (T.2 0, 3952, .inl f_all))], [(m_shut, .inl (T.2 0, 7, .inl g_shut_7))], [(m_was, .inl (T.2 0, 7, .inl g_was_38))], [(mo, .inr (11, [.ref m_all, .ref m_has, .int i_size, .int i_next, .int i_where, .int i_token, .int i_number, .int i_word, .int i_wrong, .int i_farCrossing, .ref m_read, .int 610, .int j_crossings_2, .int j_inns_3, .ref m_posts, .ref m_shut, .ref m_here, .int j_steps_4, .int j_done_5, .int j_at_35, .int j_gone_36, .ref m_was, .ref m_came, .ref m_seenAt, .ref m_rowWorth, .ref m_farBy, .ref m_used, .int i_everywhere, .int i_again0, .int i_d0, .int i_never, .int i_firstCame, .int i_longRun, .int i_moved, .int i_crowd, .int i_l0, .int i_fitMany, .int i_fitLeast, .int i_fitMost, .ref m_fitPost, .ref m_fitEnd, .ref m_keptPosts, .int i_x0]))], [(m_posts, .inl (T.2 0, 7, .inl g_posts_37))]] _ _ := G
            have hc1_ : r_53 = zPn (zPk g_shut_7 (zWo f_all 610 j_inns_3) (zLo f_all 610) c_ g_posts_6 i) j_crossings_2.toInt.toNat := by rw [h_50, hx9]
            refine z_ild C G 0 rfl (vp_in_iff.mpr ⟨by omega, by omega⟩) dX12_period_78 ?_
            refine lv_topi (fun v_54 ev_54 => ?_)
            subst ev_54
            refine lv_istore (lv' := [(5, .int (xseenAt r_53.toNatClampNeg)), (4, .int (nI i)), (0, .ref mo), (1, .int l_), (2, .int c_), (3, .int w_)]) hx hb dX12_period_79 hl (by decide) rfl (fun ls hl => ?_)
            refine lv_iload hx hb dX12_period_81 (lv_at hl 0 rfl) ?_
            refine lv_if_le (tgt := 105) hx hb dX12_period_83 (by decide) (fun c_55 => ?_) (fun c_55 => ?_)
            · have c_55n : (xseenAt r_53.toNatClampNeg).toInt ≤ (0 : Int) := (fa_le _ _).mp c_55
              have hnn : ∀ k, k < i → ¬ (fun k => zPn (zPk g_shut_7 (zWo f_all 610 j_inns_3) (zLo f_all 610) c_ g_posts_6 k) j_crossings_2.toInt.toNat) k = (fun k => zPn (zPk g_shut_7 (zWo f_all 610 j_inns_3) (zLo f_all 610) c_ g_posts_6 k) j_crossings_2.toInt.toNat) i := fun k hk q8 => zSn_z hSn (by omega) hk (by
                have q7 : zPn (zPk g_shut_7 (zWo f_all 610 j_inns_3) (zLo f_all 610) c_ g_posts_6 k) j_crossings_2.toInt.toNat = zPn (zPk g_shut_7 (zWo f_all 610 j_inns_3) (zLo f_all 610) c_ g_posts_6 i) j_crossings_2.toInt.toNat := q8
                show xseenAt (zPn (zPk g_shut_7 (zWo f_all 610 j_inns_3) (zLo f_all 610) c_ g_posts_6 k) j_crossings_2.toInt.toNat).toNatClampNeg = 0
                rw [q7, ← hc1_]
                by_cases q6 : xseenAt r_53.toNatClampNeg = 0
                · exact q6
                · obtain ⟨i0, hi0, -, hi4_⟩ := zSn_f hSn hcp (v := r_53) (by rw [hc1_]; exact hcp2 i) q6
                  have ht0 := congrArg Int32.toInt hi4_
                  rw [nI_toInt (by omega)] at ht0
                  exfalso
                  omega)
              refine lv_aload_n hx hb dX12_period_105 rfl (lv_at hl 2 rfl) ?_
              refine z_get C G clX12 5 rfl 23 (by decide) m_fl_RX12_35 rfl dX12_period_106 ?_
              refine lv_aload_n hx hb dX12_period_109 rfl (lv_at hl 2 rfl) ?_
              refine z_Vi (bc := [[(mo, .inr (11, [.ref m_all, .ref m_has, .int i_size, .int i_next, .int i_where, .int i_token, .int i_number, .int i_word, .int i_wrong, .int i_farCrossing, .ref m_read, .int 610, .int j_crossings_2, .int j_inns_3, .ref m_posts, .ref m_shut, .ref m_here, .int j_steps_4, .int j_done_5, .int j_at_35, .int j_gone_36, .ref m_was, .ref m_came, .ref m_seenAt, .ref m_rowWorth, .ref m_farBy, .ref m_used, .int i_everywhere, .int i_again0, .int i_d0, .int i_never, .int i_firstCame, .int i_longRun, .int i_moved, .int i_crowd, .int i_l0, .int i_fitMany, .int i_fitLeast, .int i_fitMost, .ref m_fitPost, .ref m_fitEnd, .ref m_keptPosts, .int i_x0]))], [(m_posts, .inl (T.2 0, 7, .inl g_posts_37))]]) (br := [[(m_seenAt, .inl (T.2 0, 16384, .inl xseenAt))], [(m_here, .inl (T.2 0, 7, .inl g_here_8))], [(m_all, .inl (T.2 0, 3952, .inl f_all))], [(m_shut, .inl (T.2 0, 7, .inl g_shut_7))], [(m_was, .inl (T.2 0, 7, .inl g_was_38))]]) (As := []) (rest := [.ref m_seenAt]) C G (c_fm_postsNow l T mo m_all m_has i_size i_next i_where i_token i_number i_word i_wrong i_farCrossing m_read 610 j_crossings_2 j_inns_3 m_posts m_shut m_here j_steps_4 j_done_5 j_at_35 j_gone_36 m_was m_came m_seenAt m_rowWorth m_farBy m_used i_everywhere i_again0 i_d0 i_never i_firstCame i_longRun i_moved i_crowd i_l0 i_fitMany i_fitLeast i_fitMost m_fitPost m_fitEnd m_keptPosts i_x0 g_posts_37 (by first | with_reducible assumption | with_reducible rfl | omega | assumption | rfl) (by first | with_reducible assumption | with_reducible rfl | omega | assumption | rfl)) (kV_RX12_220 C.2.2.2.2 (Nat.le_of_ble_eq_true rfl) (Nat.le_of_ble_eq_true rfl)) [5, 6] [0, 1, 2, 3, 4] rfl rfl (ci := 11) (qc := (RX12, TX12, 43)) rfl rfl (List.mem_flatten.mpr ⟨_, List.mem_of_getElem? (i := 0) rfl, List.mem_cons_self⟩) rfl rfl hl.1 dX12_period_110 (Nat.le_of_ble_eq_true rfl) (Nat.le_of_ble_eq_true rfl) (fun r_59 b1 H locs hw G => ?_)
              obtain ⟨rfl, h_56, h_57, h_58⟩ := hw
              have G : zS T A s.heap s [[(m_seenAt, .inl (T.2 0, 16384, .inl xseenAt))], [(m_here, .inl (T.2 0, 7, .inl g_here_8))], [(m_all, .inl (T.2 0, 3952, .inl f_all))], [(m_shut, .inl (T.2 0, 7, .inl g_shut_7))], [(m_was, .inl (T.2 0, 7, .inl g_was_38))], [(mo, .inr (11, [.ref m_all, .ref m_has, .int i_size, .int i_next, .int i_where, .int i_token, .int i_number, .int i_word, .int i_wrong, .int i_farCrossing, .ref m_read, .int 610, .int j_crossings_2, .int j_inns_3, .ref m_posts, .ref m_shut, .ref m_here, .int j_steps_4, .int j_done_5, .int j_at_35, .int j_gone_36, .ref m_was, .ref m_came, .ref m_seenAt, .ref m_rowWorth, .ref m_farBy, .ref m_used, .int i_everywhere, .int i_again0, .int i_d0, .int i_never, .int i_firstCame, .int i_longRun, .int i_moved, .int i_crowd, .int i_l0, .int i_fitMany, .int i_fitLeast, .int i_fitMost, .ref m_fitPost, .ref m_fitEnd, .ref m_keptPosts, .int i_x0]))], [(m_posts, .inl (T.2 0, 7, .inl g_posts_37))]] _ _ := G
              have hc3_ : r_59 = (fun k => zPn (zPk g_shut_7 (zWo f_all 610 j_inns_3) (zLo f_all 610) c_ g_posts_6 k) j_crossings_2.toInt.toNat) i := by rw [h_56, hx9]
              refine lv_iload hx hb dX12_period_113 (lv_at hl 1 rfl) ?_
              refine lv_iconst (v := 1) hx hb dX12_period_115 (by decide) ?_
              refine lv_iadd hx hb dX12_period_116 ?_
              refine lv_topi (fun y_60 ey_60 => ?_)
              obtain rfl : y_60 = nI (i + 1) := ey_60.trans (z_iaddn i 1 rfl rfl)
              refine z_ist C G 0 rfl (vp_in_iff.mpr ⟨by omega, by omega⟩) dX12_period_117 (fun H locs G => ?_)
              have G : zS T A s.heap s [[(m_seenAt, .inl (T.2 0, 16384, .inl (upd xseenAt r_59.toNatClampNeg (nI (i + 1)))))], [(m_here, .inl (T.2 0, 7, .inl g_here_8))], [(m_all, .inl (T.2 0, 3952, .inl f_all))], [(m_shut, .inl (T.2 0, 7, .inl g_shut_7))], [(m_was, .inl (T.2 0, 7, .inl g_was_38))], [(mo, .inr (11, [.ref m_all, .ref m_has, .int i_size, .int i_next, .int i_where, .int i_token, .int i_number, .int i_word, .int i_wrong, .int i_farCrossing, .ref m_read, .int 610, .int j_crossings_2, .int j_inns_3, .ref m_posts, .ref m_shut, .ref m_here, .int j_steps_4, .int j_done_5, .int j_at_35, .int j_gone_36, .ref m_was, .ref m_came, .ref m_seenAt, .ref m_rowWorth, .ref m_farBy, .ref m_used, .int i_everywhere, .int i_again0, .int i_d0, .int i_never, .int i_firstCame, .int i_longRun, .int i_moved, .int i_crowd, .int i_l0, .int i_fitMany, .int i_fitLeast, .int i_fitMost, .ref m_fitPost, .ref m_fitEnd, .ref m_keptPosts, .int i_x0]))], [(m_posts, .inl (T.2 0, 7, .inl g_posts_37))]] _ _ := G
              refine lv_iinc (v := nI (i + 1)) (lv' := [(4, .int (nI (i + 1))), (5, .int (xseenAt r_53.toNatClampNeg)), (0, .ref mo), (1, .int l_), (2, .int c_), (3, .int w_)]) hx hb dX12_period_118 hl (k := 1) rfl (z_inc i 1) (by decide) rfl (fun ls hl => ?_)
              refine lv_goto (tgt := 56) hx hb dX12_period_121 (by decide) ?_
              have G := G.sub (bs' := [[(m_was, .inl (T.2 0, 7, .inl g_was_38))], [(m_seenAt, .inl (T.2 0, 16384, .inl (upd xseenAt r_59.toNatClampNeg (nI (i + 1)))))], [(m_all, .inl (T.2 0, 3952, .inl f_all))], [(m_shut, .inl (T.2 0, 7, .inl g_shut_7))], [(m_here, .inl (T.2 0, 7, .inl g_here_8))], [(mo, .inr (11, [.ref m_all, .ref m_has, .int i_size, .int i_next, .int i_where, .int i_token, .int i_number, .int i_word, .int i_wrong, .int i_farCrossing, .ref m_read, .int 610, .int j_crossings_2, .int j_inns_3, .ref m_posts, .ref m_shut, .ref m_here, .int j_steps_4, .int j_done_5, .int j_at_35, .int j_gone_36, .ref m_was, .ref m_came, .ref m_seenAt, .ref m_rowWorth, .ref m_farBy, .ref m_used, .int i_everywhere, .int i_again0, .int i_d0, .int i_never, .int i_firstCame, .int i_longRun, .int i_moved, .int i_crowd, .int i_l0, .int i_fitMany, .int i_fitLeast, .int i_fitMost, .ref m_fitPost, .ref m_fitEnd, .ref m_keptPosts, .int i_x0]))], [(m_posts, .inl (T.2 0, 7, .inl g_posts_37))]]) [4, 0, 2, 3, 1, 5, 6] rfl
              exact ih_56 ((i + 1), j_at_35, j_gone_36, g_posts_37, g_was_38, (upd xseenAt r_59.toNatClampNeg (nI (i + 1)))) (show (i + 1) ≤ 1000 ∧ zMP g_posts_37 ∧ 1 ≤ (i + 1) ∧ zMV (zRo f_all 610) g_posts_37 ∧ g_posts_37 = zPk g_shut_7 (zWo f_all 610 j_inns_3) (zLo f_all 610) c_ g_posts_6 ((i + 1) - 1) ∧ zSn (fun k => zPn (zPk g_shut_7 (zWo f_all 610 j_inns_3) (zLo f_all 610) c_ g_posts_6 k) j_crossings_2.toInt.toNat) (i + 1) (upd xseenAt r_59.toNatClampNeg (nI (i + 1))) ∧ (∀ a b, a < b → b < (i + 1) → ¬ zPn (zPk g_shut_7 (zWo f_all 610 j_inns_3) (zLo f_all 610) c_ g_posts_6 a) j_crossings_2.toInt.toNat = zPn (zPk g_shut_7 (zWo f_all 610 j_inns_3) (zLo f_all 610) c_ g_posts_6 b) j_crossings_2.toInt.toNat) from ⟨by omega, (by assumption), by omega, h_40, (hx9.trans (congrArg (zPk g_shut_7 (zWo f_all 610 j_inns_3) (zLo f_all 610) c_ g_posts_6) (by omega))), (by rw [hc3_]; exact zSn_s (c := (fun k => zPn (zPk g_shut_7 (zWo f_all 610 j_inns_3) (zLo f_all 610) c_ g_posts_6 k) j_crossings_2.toInt.toNat)) hSn hcp hnn), (zN_d (c := (fun k => zPn (zPk g_shut_7 (zWo f_all 610 j_inns_3) (zLo f_all 610) c_ g_posts_6 k) j_crossings_2.toInt.toNat)) hN hnn)⟩) (show 1000 - (i + 1) < 1000 - i from by omega) _ _ ls G (lv_sub hl [0, 2, 3, 4, 5] rfl)
            · have c_55n : ¬ (xseenAt r_53.toNatClampNeg).toInt ≤ (0 : Int) := fun q => c_55 ((fa_le _ _).mpr q)
              obtain ⟨i0, hi0, hi3_, hi4_⟩ := zSn_f hSn hcp (v := r_53) (by rw [hc1_]; exact hcp2 i) (fun q8 => by have q7 := congrArg Int32.toInt q8; have z0 : (0 : Int32).toInt = 0 := rfl; omega)
              have hcm : zPn (zPk g_shut_7 (zWo f_all 610 j_inns_3) (zLo f_all 610) c_ g_posts_6 i0) j_crossings_2.toInt.toNat = zPn (zPk g_shut_7 (zWo f_all 610 j_inns_3) (zLo f_all 610) c_ g_posts_6 i) j_crossings_2.toInt.toNat := hi3_.trans hc1_
              have ht0 := congrArg Int32.toInt hi4_
              rw [nI_toInt (by omega)] at ht0
              refine lv_iload_n hx hb dX12_period_86 rfl (lv_at hl 5 rfl) ?_
              refine lv_if_eq (tgt := 97) hx hb dX12_period_87 (by decide) (fun c_61 => ?_) (fun c_61 => ?_)
              · have c_61n : w_.toInt = (0 : Int) := (fa_eq _ _).mp c_61
                refine lv_iload hx hb dX12_period_97 (lv_at hl 1 rfl) ?_
                refine lv_iconst (v := 1) hx hb dX12_period_99 (by decide) ?_
                refine lv_iadd hx hb dX12_period_100 ?_
                refine lv_topi (fun y_62 ey_62 => ?_)
                obtain rfl : y_62 = nI (i + 1) := ey_62.trans (z_iaddn i 1 rfl rfl)
                refine lv_iload hx hb dX12_period_101 (lv_at hl 0 rfl) ?_
                refine lv_isub hx hb dX12_period_103 ?_
                have G := G.sub (bs' := [[(mo, .inr (11, [.ref m_all, .ref m_has, .int i_size, .int i_next, .int i_where, .int i_token, .int i_number, .int i_word, .int i_wrong, .int i_farCrossing, .ref m_read, .int 610, .int j_crossings_2, .int j_inns_3, .ref m_posts, .ref m_shut, .ref m_here, .int j_steps_4, .int j_done_5, .int j_at_35, .int j_gone_36, .ref m_was, .ref m_came, .ref m_seenAt, .ref m_rowWorth, .ref m_farBy, .ref m_used, .int i_everywhere, .int i_again0, .int i_d0, .int i_never, .int i_firstCame, .int i_longRun, .int i_moved, .int i_crowd, .int i_l0, .int i_fitMany, .int i_fitLeast, .int i_fitMost, .ref m_fitPost, .ref m_fitEnd, .ref m_keptPosts, .int i_x0]))], [(m_all, .inl (T.2 0, 3952, .inl f_all))], [(m_posts, .inl (T.2 0, 7, .inl g_posts_37))], [(m_shut, .inl (T.2 0, 7, .inl g_shut_7))], [(m_here, .inl (T.2 0, 7, .inl g_here_8))], [(m_was, .inl (T.2 0, 7, .inl g_was_38))], [(m_seenAt, .inl (T.2 0, 16384, .inl xseenAt))]]) [5, 2, 6, 3, 1, 4, 0] rfl
                exact z_iret C hr hlocks G (Nat.le_of_ble_eq_true rfl) (Nat.le_of_ble_eq_true rfl) dX12_period_104 ⟨610, j_crossings_2, j_inns_3, j_steps_4, j_done_5, j_at_35, j_gone_36, g_posts_37, g_shut_7, g_here_8, g_was_38, xseenAt, rfl, (Or.inr (Or.inl ⟨by assumption, by omega, Or.inl ⟨(show 0 ≤ c_.toInt ∧ c_.toInt < (f_all 610).toInt from ⟨by omega, by omega⟩), g_posts_6, g_shut_7, ⟨zPt_o h_20, h_21⟩, by rw [show pW f_all 610 = zWo f_all 610 j_inns_3 from congrArg (zWo f_all 610) h_17.symm, show f_all ((610 : Int32).toInt.toNat) = j_crossings_2 from hLx.2.1.symm]; exact Or.inl ⟨i, i0, ⟨by omega, by omega⟩, hi0, hcm, hN, Or.inr ⟨fun q8 => q8 (by omega), zPer_b hi4_ hi0 (by omega)⟩⟩⟩⟩))⟩
              · have c_61n : ¬ w_.toInt = (0 : Int) := fun q => c_61 ((fa_eq _ _).mpr q)
                refine lv_iload hx hb dX12_period_90 (lv_at hl 0 rfl) ?_
                refine lv_iconst (v := 1) hx hb dX12_period_92 (by decide) ?_
                refine lv_isub hx hb dX12_period_93 ?_
                refine lv_goto (tgt := 104) hx hb dX12_period_94 (by decide) ?_
                have G := G.sub (bs' := [[(mo, .inr (11, [.ref m_all, .ref m_has, .int i_size, .int i_next, .int i_where, .int i_token, .int i_number, .int i_word, .int i_wrong, .int i_farCrossing, .ref m_read, .int 610, .int j_crossings_2, .int j_inns_3, .ref m_posts, .ref m_shut, .ref m_here, .int j_steps_4, .int j_done_5, .int j_at_35, .int j_gone_36, .ref m_was, .ref m_came, .ref m_seenAt, .ref m_rowWorth, .ref m_farBy, .ref m_used, .int i_everywhere, .int i_again0, .int i_d0, .int i_never, .int i_firstCame, .int i_longRun, .int i_moved, .int i_crowd, .int i_l0, .int i_fitMany, .int i_fitLeast, .int i_fitMost, .ref m_fitPost, .ref m_fitEnd, .ref m_keptPosts, .int i_x0]))], [(m_all, .inl (T.2 0, 3952, .inl f_all))], [(m_posts, .inl (T.2 0, 7, .inl g_posts_37))], [(m_shut, .inl (T.2 0, 7, .inl g_shut_7))], [(m_here, .inl (T.2 0, 7, .inl g_here_8))], [(m_was, .inl (T.2 0, 7, .inl g_was_38))], [(m_seenAt, .inl (T.2 0, 16384, .inl xseenAt))]]) [5, 2, 6, 3, 1, 4, 0] rfl
                exact z_iret C hr hlocks G (Nat.le_of_ble_eq_true rfl) (Nat.le_of_ble_eq_true rfl) dX12_period_104 ⟨610, j_crossings_2, j_inns_3, j_steps_4, j_done_5, j_at_35, j_gone_36, g_posts_37, g_shut_7, g_here_8, g_was_38, xseenAt, rfl, (Or.inr (Or.inl ⟨by assumption, by omega, Or.inl ⟨(show 0 ≤ c_.toInt ∧ c_.toInt < (f_all 610).toInt from ⟨by omega, by omega⟩), g_posts_6, g_shut_7, ⟨zPt_o h_20, h_21⟩, by rw [show pW f_all 610 = zWo f_all 610 j_inns_3 from congrArg (zWo f_all 610) h_17.symm, show f_all ((610 : Int32).toInt.toNat) = j_crossings_2 from hLx.2.1.symm]; exact Or.inl ⟨i, i0, ⟨by omega, by omega⟩, hi0, hcm, hN, Or.inl ⟨by omega, zPer_a hi4_ (by omega)⟩⟩⟩⟩))⟩
        · have c_29n : ¬ 16384 ≤ i := fun q => c_29 ((nI_leI (a := 16384) (b := i) (by omega) (by omega)).mpr q)
          refine lv_aload_n hx hb dX12_period_29 rfl (lv_at hl 1 rfl) ?_
          refine z_get C G clX12 6 rfl 23 (by decide) m_fl_RX12_35 rfl dX12_period_30 ?_
          refine lv_iload hx hb dX12_period_33 (lv_at hl 0 rfl) ?_
          refine lv_iconst (v := 0) hx hb dX12_period_35 (by decide) ?_
          refine z_ist C G 1 rfl (vp_in_nI (by omega) (by omega)) dX12_period_36 (fun H locs G => ?_)
          rw [nI_clamp (by omega)] at G
          have G : zS T A s.heap s [[(m_was, .inl (T.2 0, 7, .inl f_was))], [(m_seenAt, .inl (T.2 0, 16384, .inl (upd xseenAt i 0)))], [(m_all, .inl (T.2 0, 3952, .inl f_all))], [(m_posts, .inl (T.2 0, 7, .inl g_posts_6))], [(m_shut, .inl (T.2 0, 7, .inl g_shut_7))], [(m_here, .inl (T.2 0, 7, .inl g_here_8))], [(mo, .inr (11, [.ref m_all, .ref m_has, .int i_size, .int i_next, .int i_where, .int i_token, .int i_number, .int i_word, .int i_wrong, .int i_farCrossing, .ref m_read, .int 610, .int j_crossings_2, .int j_inns_3, .ref m_posts, .ref m_shut, .ref m_here, .int j_steps_4, .int j_done_5, .int i_at, .int i_gone, .ref m_was, .ref m_came, .ref m_seenAt, .ref m_rowWorth, .ref m_farBy, .ref m_used, .int i_everywhere, .int i_again0, .int i_d0, .int i_never, .int i_firstCame, .int i_longRun, .int i_moved, .int i_crowd, .int i_l0, .int i_fitMany, .int i_fitLeast, .int i_fitMost, .ref m_fitPost, .ref m_fitEnd, .ref m_keptPosts, .int i_x0]))]] _ _ := G
          refine lv_iinc (v := nI (i + 1)) (lv' := [(4, .int (nI (i + 1))), (0, .ref mo), (1, .int l_), (2, .int c_), (3, .int w_)]) hx hb dX12_period_37 hl (k := 0) rfl (z_inc i 1) (by decide) rfl (fun ls hl => ?_)
          refine lv_goto (tgt := 21) hx hb dX12_period_40 (by decide) ?_
          exact ih_21 ((i + 1), (upd xseenAt i 0)) (show (i + 1) ≤ 16384 ∧ (∀ v, v < (i + 1) → (upd xseenAt i 0) v = 0) from ⟨by omega, z_upS0 (f := fun _ => 0) hZs rfl⟩) (show 16384 - (i + 1) < 16384 - i from by omega) _ _ ls G (lv_sub hl [0, 1, 2, 3, 4] rfl)
      · have h_28 : (c_.toInt < 0 ∨ j_crossings_2.toInt ≤ c_.toInt) := h_28
        refine lv_if_ne (tgt := 18) hx hb dX12_period_13 (by decide) (fun q => absurd (by decide) q) (fun _ => ?_)
        refine lv_iconst (v := (-1)) hx hb dX12_period_16 (by decide) ?_
        have G := G.sub (bs' := [[(mo, .inr (11, [.ref m_all, .ref m_has, .int i_size, .int i_next, .int i_where, .int i_token, .int i_number, .int i_word, .int i_wrong, .int i_farCrossing, .ref m_read, .int 610, .int j_crossings_2, .int j_inns_3, .ref m_posts, .ref m_shut, .ref m_here, .int j_steps_4, .int j_done_5, .int i_at, .int i_gone, .ref m_was, .ref m_came, .ref m_seenAt, .ref m_rowWorth, .ref m_farBy, .ref m_used, .int i_everywhere, .int i_again0, .int i_d0, .int i_never, .int i_firstCame, .int i_longRun, .int i_moved, .int i_crowd, .int i_l0, .int i_fitMany, .int i_fitLeast, .int i_fitMost, .ref m_fitPost, .ref m_fitEnd, .ref m_keptPosts, .int i_x0]))], [(m_all, .inl (T.2 0, 3952, .inl f_all))], [(m_posts, .inl (T.2 0, 7, .inl g_posts_6))], [(m_shut, .inl (T.2 0, 7, .inl g_shut_7))], [(m_here, .inl (T.2 0, 7, .inl g_here_8))], [(m_was, .inl (T.2 0, 7, .inl f_was))], [(m_seenAt, .inl (T.2 0, 16384, .inl f_seenAt))]]) [6, 2, 3, 4, 5, 0, 1] rfl
        exact z_iret C hr hlocks G (Nat.le_of_ble_eq_true rfl) (Nat.le_of_ble_eq_true rfl) dX12_period_17 ⟨610, j_crossings_2, j_inns_3, j_steps_4, j_done_5, i_at, i_gone, g_posts_6, g_shut_7, g_here_8, f_was, f_seenAt, rfl, (Or.inr (Or.inl ⟨by assumption, by omega, Or.inr ⟨by show ¬ (0 ≤ c_.toInt ∧ c_.toInt < (f_all 610).toInt); omega, rfl⟩⟩))⟩
    · obtain rfl : j_z0_1 = 661 := Int32.toInt_inj.mp (by show j_z0_1.toInt = 661; omega)
      have hcx : j_crossings_2.toInt = (f_all 661).toInt := by rw [hLx.2.1]; rfl
      have hQP : zP3 g_posts_6 (zWo f_all 661 j_inns_3) := zP3_m hLx hPx
      refine lv_aload_n hx hb dX12_period_8 rfl (lv_at hl 0 rfl) ?_
      refine lv_iload_n hx hb dX12_period_9 rfl (lv_at hl 2 rfl) ?_
      refine z_Vi (bc := [[(mo, .inr (11, [.ref m_all, .ref m_has, .int i_size, .int i_next, .int i_where, .int i_token, .int i_number, .int i_word, .int i_wrong, .int i_farCrossing, .ref m_read, .int 661, .int j_crossings_2, .int j_inns_3, .ref m_posts, .ref m_shut, .ref m_here, .int j_steps_4, .int j_done_5, .int i_at, .int i_gone, .ref m_was, .ref m_came, .ref m_seenAt, .ref m_rowWorth, .ref m_farBy, .ref m_used, .int i_everywhere, .int i_again0, .int i_d0, .int i_never, .int i_firstCame, .int i_longRun, .int i_moved, .int i_crowd, .int i_l0, .int i_fitMany, .int i_fitLeast, .int i_fitMost, .ref m_fitPost, .ref m_fitEnd, .ref m_keptPosts, .int i_x0]))]]) (br := [[(m_was, .inl (T.2 0, 7, .inl f_was))], [(m_seenAt, .inl (T.2 0, 16384, .inl f_seenAt))], [(m_all, .inl (T.2 0, 3952, .inl f_all))], [(m_posts, .inl (T.2 0, 7, .inl g_posts_6))], [(m_shut, .inl (T.2 0, 7, .inl g_shut_7))], [(m_here, .inl (T.2 0, 7, .inl g_here_8))]]) (As := [.int c_]) (rest := []) C G (c_m_isCrossing l T mo m_all m_has i_size i_next i_where i_token i_number i_word i_wrong i_farCrossing m_read 661 j_crossings_2 j_inns_3 m_posts m_shut m_here j_steps_4 j_done_5 i_at i_gone m_was m_came m_seenAt m_rowWorth m_farBy m_used i_everywhere i_again0 i_d0 i_never i_firstCame i_longRun i_moved i_crowd i_l0 i_fitMany i_fitLeast i_fitMost m_fitPost m_fitEnd m_keptPosts i_x0 c_ (by first | with_reducible assumption | with_reducible rfl | omega | assumption | rfl)) (kV_RX12_187 C.2.2.2.2 (Nat.le_of_ble_eq_true rfl) (Nat.le_of_ble_eq_true rfl)) [2] [0, 1, 3, 4, 5, 6] rfl rfl (ci := 11) (qc := (RX12, TX12, 43)) rfl rfl (List.mem_flatten.mpr ⟨_, List.mem_of_getElem? (i := 0) rfl, List.mem_cons_self⟩) rfl rfl hl.1 dX12_period_10 (Nat.le_of_ble_eq_true rfl) (Nat.le_of_ble_eq_true rfl) (fun r_64 b1 H locs hw G => ?_)
      obtain ⟨rfl, hc_63⟩ := hw
      have G : zS T A s.heap s [[(m_was, .inl (T.2 0, 7, .inl f_was))], [(m_seenAt, .inl (T.2 0, 16384, .inl f_seenAt))], [(m_all, .inl (T.2 0, 3952, .inl f_all))], [(m_posts, .inl (T.2 0, 7, .inl g_posts_6))], [(m_shut, .inl (T.2 0, 7, .inl g_shut_7))], [(m_here, .inl (T.2 0, 7, .inl g_here_8))], [(mo, .inr (11, [.ref m_all, .ref m_has, .int i_size, .int i_next, .int i_where, .int i_token, .int i_number, .int i_word, .int i_wrong, .int i_farCrossing, .ref m_read, .int 661, .int j_crossings_2, .int j_inns_3, .ref m_posts, .ref m_shut, .ref m_here, .int j_steps_4, .int j_done_5, .int i_at, .int i_gone, .ref m_was, .ref m_came, .ref m_seenAt, .ref m_rowWorth, .ref m_farBy, .ref m_used, .int i_everywhere, .int i_again0, .int i_d0, .int i_never, .int i_firstCame, .int i_longRun, .int i_moved, .int i_crowd, .int i_l0, .int i_fitMany, .int i_fitLeast, .int i_fitMost, .ref m_fitPost, .ref m_fitEnd, .ref m_keptPosts, .int i_x0]))]] _ _ := G
      rcases hc_63 with ⟨rfl, h_65, h_66⟩ | ⟨rfl, h_67⟩
      · have h_65 : 0 ≤ c_.toInt := h_65
        have h_66 : c_.toInt < j_crossings_2.toInt := h_66
        refine lv_if_ne (tgt := 18) hx hb dX12_period_13 (by decide) (fun _ => ?_) (fun q => absurd q (by decide))
        refine lv_iconst (v := 0) hx hb dX12_period_18 (by decide) ?_
        refine lv_istore (lv' := [(4, .int 0), (0, .ref mo), (1, .int l_), (2, .int c_), (3, .int w_)]) hx hb dX12_period_19 hl (by decide) rfl (fun ls hl => ?_)
        refine z_loop (T := T) (α := Nat × (Nat → Int32)) 21 (fun (i, xseenAt) => [[(m_was, .inl (T.2 0, 7, .inl f_was))], [(m_seenAt, .inl (T.2 0, 16384, .inl xseenAt))], [(m_all, .inl (T.2 0, 3952, .inl f_all))], [(m_posts, .inl (T.2 0, 7, .inl g_posts_6))], [(m_shut, .inl (T.2 0, 7, .inl g_shut_7))], [(m_here, .inl (T.2 0, 7, .inl g_here_8))], [(mo, .inr (11, [.ref m_all, .ref m_has, .int i_size, .int i_next, .int i_where, .int i_token, .int i_number, .int i_word, .int i_wrong, .int i_farCrossing, .ref m_read, .int 661, .int j_crossings_2, .int j_inns_3, .ref m_posts, .ref m_shut, .ref m_here, .int j_steps_4, .int j_done_5, .int i_at, .int i_gone, .ref m_was, .ref m_came, .ref m_seenAt, .ref m_rowWorth, .ref m_farBy, .ref m_used, .int i_everywhere, .int i_again0, .int i_d0, .int i_never, .int i_firstCame, .int i_longRun, .int i_moved, .int i_crowd, .int i_l0, .int i_fitMany, .int i_fitLeast, .int i_fitMost, .ref m_fitPost, .ref m_fitEnd, .ref m_keptPosts, .int i_x0]))]]) (fun (i, xseenAt) => [(4, .int (nI i)), (0, .ref mo), (1, .int l_), (2, .int c_), (3, .int w_)]) (fun (i, xseenAt) => i ≤ 16384 ∧ (∀ v, v < i → xseenAt v = 0)) (fun (i, xseenAt) => 16384 - i) ?_ (0, f_seenAt) (show 0 ≤ 16384 ∧ (∀ v, v < 0 → f_seenAt v = 0) from ⟨by omega, fun j hj => absurd hj (by omega)⟩) G (lv_sub hl [0, 1, 2, 3, 4] rfl)
        rintro ⟨i, xseenAt⟩ ⟨hi, hZs⟩ ih_21 H locs ls G hl
        replace hi : i ≤ 16384 := hi
        replace hZs : (∀ v, v < i → xseenAt v = 0) := hZs
        replace G : zS T A s.heap s [[(m_was, .inl (T.2 0, 7, .inl f_was))], [(m_seenAt, .inl (T.2 0, 16384, .inl xseenAt))], [(m_all, .inl (T.2 0, 3952, .inl f_all))], [(m_posts, .inl (T.2 0, 7, .inl g_posts_6))], [(m_shut, .inl (T.2 0, 7, .inl g_shut_7))], [(m_here, .inl (T.2 0, 7, .inl g_here_8))], [(mo, .inr (11, [.ref m_all, .ref m_has, .int i_size, .int i_next, .int i_where, .int i_token, .int i_number, .int i_word, .int i_wrong, .int i_farCrossing, .ref m_read, .int 661, .int j_crossings_2, .int j_inns_3, .ref m_posts, .ref m_shut, .ref m_here, .int j_steps_4, .int j_done_5, .int i_at, .int i_gone, .ref m_was, .ref m_came, .ref m_seenAt, .ref m_rowWorth, .ref m_farBy, .ref m_used, .int i_everywhere, .int i_again0, .int i_d0, .int i_never, .int i_firstCame, .int i_longRun, .int i_moved, .int i_crowd, .int i_l0, .int i_fitMany, .int i_fitLeast, .int i_fitMost, .ref m_fitPost, .ref m_fitEnd, .ref m_keptPosts, .int i_x0]))]] _ _ := G
        replace hl : lv_has ls 6 [(4, .int (nI i)), (0, .ref mo), (1, .int l_), (2, .int c_), (3, .int w_)] := hl
        refine lv_iload hx hb dX12_period_21 (lv_at hl 0 rfl) ?_
        refine lv_sipush (v := 16384) hx hb dX12_period_23 (by decide) ?_
        refine lv_icmp_ge (tgt := 43) hx hb dX12_period_26 (by decide) (fun c_68 => ?_) (fun c_68 => ?_)
        · have c_68n : 16384 ≤ i := (nI_leI (a := 16384) (b := i) (by omega) (by omega)).mp c_68
          refine lv_aload_n hx hb dX12_period_43 rfl (lv_at hl 1 rfl) ?_
          refine z_get C G clX12 6 rfl 23 (by decide) m_fl_RX12_35 rfl dX12_period_44 ?_
          refine lv_aload_n hx hb dX12_period_47 rfl (lv_at hl 1 rfl) ?_
          refine z_Vi (bc := [[(mo, .inr (11, [.ref m_all, .ref m_has, .int i_size, .int i_next, .int i_where, .int i_token, .int i_number, .int i_word, .int i_wrong, .int i_farCrossing, .ref m_read, .int 661, .int j_crossings_2, .int j_inns_3, .ref m_posts, .ref m_shut, .ref m_here, .int j_steps_4, .int j_done_5, .int i_at, .int i_gone, .ref m_was, .ref m_came, .ref m_seenAt, .ref m_rowWorth, .ref m_farBy, .ref m_used, .int i_everywhere, .int i_again0, .int i_d0, .int i_never, .int i_firstCame, .int i_longRun, .int i_moved, .int i_crowd, .int i_l0, .int i_fitMany, .int i_fitLeast, .int i_fitMost, .ref m_fitPost, .ref m_fitEnd, .ref m_keptPosts, .int i_x0]))], [(m_posts, .inl (T.2 0, 7, .inl g_posts_6))]]) (br := [[(m_was, .inl (T.2 0, 7, .inl f_was))], [(m_seenAt, .inl (T.2 0, 16384, .inl xseenAt))], [(m_all, .inl (T.2 0, 3952, .inl f_all))], [(m_shut, .inl (T.2 0, 7, .inl g_shut_7))], [(m_here, .inl (T.2 0, 7, .inl g_here_8))]]) (As := []) (rest := [.ref m_seenAt]) C G (c_fm_postsNow l T mo m_all m_has i_size i_next i_where i_token i_number i_word i_wrong i_farCrossing m_read 661 j_crossings_2 j_inns_3 m_posts m_shut m_here j_steps_4 j_done_5 i_at i_gone m_was m_came m_seenAt m_rowWorth m_farBy m_used i_everywhere i_again0 i_d0 i_never i_firstCame i_longRun i_moved i_crowd i_l0 i_fitMany i_fitLeast i_fitMost m_fitPost m_fitEnd m_keptPosts i_x0 g_posts_6 (by first | with_reducible assumption | with_reducible rfl | omega | assumption | rfl) (by first | with_reducible assumption | with_reducible rfl | omega | assumption | rfl)) (kV_RX12_220 C.2.2.2.2 (Nat.le_of_ble_eq_true rfl) (Nat.le_of_ble_eq_true rfl)) [6, 3] [0, 1, 2, 4, 5] rfl rfl (ci := 11) (qc := (RX12, TX12, 43)) rfl rfl (List.mem_flatten.mpr ⟨_, List.mem_of_getElem? (i := 0) rfl, List.mem_cons_self⟩) rfl rfl hl.1 dX12_period_48 (Nat.le_of_ble_eq_true rfl) (Nat.le_of_ble_eq_true rfl) (fun r_72 b1 H locs hw G => ?_)
          obtain ⟨rfl, h_69, h_70, h_71⟩ := hw
          have G : zS T A s.heap s [[(m_was, .inl (T.2 0, 7, .inl f_was))], [(m_seenAt, .inl (T.2 0, 16384, .inl xseenAt))], [(m_all, .inl (T.2 0, 3952, .inl f_all))], [(m_shut, .inl (T.2 0, 7, .inl g_shut_7))], [(m_here, .inl (T.2 0, 7, .inl g_here_8))], [(mo, .inr (11, [.ref m_all, .ref m_has, .int i_size, .int i_next, .int i_where, .int i_token, .int i_number, .int i_word, .int i_wrong, .int i_farCrossing, .ref m_read, .int 661, .int j_crossings_2, .int j_inns_3, .ref m_posts, .ref m_shut, .ref m_here, .int j_steps_4, .int j_done_5, .int i_at, .int i_gone, .ref m_was, .ref m_came, .ref m_seenAt, .ref m_rowWorth, .ref m_farBy, .ref m_used, .int i_everywhere, .int i_again0, .int i_d0, .int i_never, .int i_firstCame, .int i_longRun, .int i_moved, .int i_crowd, .int i_l0, .int i_fitMany, .int i_fitLeast, .int i_fitMost, .ref m_fitPost, .ref m_fitEnd, .ref m_keptPosts, .int i_x0]))], [(m_posts, .inl (T.2 0, 7, .inl g_posts_6))]] _ _ := G
          have hc0_ : r_72 = zPn (zPk g_shut_7 (zWo f_all 661 j_inns_3) (zLo f_all 661) c_ g_posts_6 0) j_crossings_2.toInt.toNat := h_69
          refine lv_iconst (v := 1) hx hb dX12_period_51 (by decide) ?_
          refine z_ist C G 1 rfl (vp_in_iff.mpr ⟨by omega, by omega⟩) dX12_period_52 (fun H locs G => ?_)
          have G : zS T A s.heap s [[(m_was, .inl (T.2 0, 7, .inl f_was))], [(m_seenAt, .inl (T.2 0, 16384, .inl (upd xseenAt r_72.toNatClampNeg 1)))], [(m_all, .inl (T.2 0, 3952, .inl f_all))], [(m_shut, .inl (T.2 0, 7, .inl g_shut_7))], [(m_here, .inl (T.2 0, 7, .inl g_here_8))], [(mo, .inr (11, [.ref m_all, .ref m_has, .int i_size, .int i_next, .int i_where, .int i_token, .int i_number, .int i_word, .int i_wrong, .int i_farCrossing, .ref m_read, .int 661, .int j_crossings_2, .int j_inns_3, .ref m_posts, .ref m_shut, .ref m_here, .int j_steps_4, .int j_done_5, .int i_at, .int i_gone, .ref m_was, .ref m_came, .ref m_seenAt, .ref m_rowWorth, .ref m_farBy, .ref m_used, .int i_everywhere, .int i_again0, .int i_d0, .int i_never, .int i_firstCame, .int i_longRun, .int i_moved, .int i_crowd, .int i_l0, .int i_fitMany, .int i_fitLeast, .int i_fitMost, .ref m_fitPost, .ref m_fitEnd, .ref m_keptPosts, .int i_x0]))], [(m_posts, .inl (T.2 0, 7, .inl g_posts_6))]] _ _ := G
          refine lv_iconst (v := 1) hx hb dX12_period_53 (by decide) ?_
          refine lv_istore (lv' := [(4, .int 1), (0, .ref mo), (1, .int l_), (2, .int c_), (3, .int w_)]) hx hb dX12_period_54 hl (by decide) rfl (fun ls hl => ?_)
          have hmp : ∀ k, zMP (zPk g_shut_7 (zWo f_all 661 j_inns_3) (zLo f_all 661) c_ g_posts_6 k) := fun k => zPk_mp hQP hPx k
          have hcp : ∀ k, 0 ≤ ((fun k => zPn (zPk g_shut_7 (zWo f_all 661 j_inns_3) (zLo f_all 661) c_ g_posts_6 k) j_crossings_2.toInt.toNat) k).toInt := fun k => (zPn_b (hmp k) _ (by omega)).1
          have hcp2 : ∀ k, 0 ≤ (zPn (zPk g_shut_7 (zWo f_all 661 j_inns_3) (zLo f_all 661) c_ g_posts_6 k) j_crossings_2.toInt.toNat).toInt ∧ (zPn (zPk g_shut_7 (zWo f_all 661 j_inns_3) (zLo f_all 661) c_ g_posts_6 k) j_crossings_2.toInt.toNat).toInt < 16384 := fun k => zPn_b (hmp k) _ (by omega)
          refine z_loop (T := T) (α := Nat × Int32 × Int32 × (Nat → Int32) × (Nat → Int32) × (Nat → Int32)) 56 (fun (i, xat, xgone, xposts, xwas, xseenAt) => [[(m_was, .inl (T.2 0, 7, .inl xwas))], [(m_seenAt, .inl (T.2 0, 16384, .inl xseenAt))], [(m_all, .inl (T.2 0, 3952, .inl f_all))], [(m_shut, .inl (T.2 0, 7, .inl g_shut_7))], [(m_here, .inl (T.2 0, 7, .inl g_here_8))], [(mo, .inr (11, [.ref m_all, .ref m_has, .int i_size, .int i_next, .int i_where, .int i_token, .int i_number, .int i_word, .int i_wrong, .int i_farCrossing, .ref m_read, .int 661, .int j_crossings_2, .int j_inns_3, .ref m_posts, .ref m_shut, .ref m_here, .int j_steps_4, .int j_done_5, .int xat, .int xgone, .ref m_was, .ref m_came, .ref m_seenAt, .ref m_rowWorth, .ref m_farBy, .ref m_used, .int i_everywhere, .int i_again0, .int i_d0, .int i_never, .int i_firstCame, .int i_longRun, .int i_moved, .int i_crowd, .int i_l0, .int i_fitMany, .int i_fitLeast, .int i_fitMost, .ref m_fitPost, .ref m_fitEnd, .ref m_keptPosts, .int i_x0]))], [(m_posts, .inl (T.2 0, 7, .inl xposts))]]) (fun (i, xat, xgone, xposts, xwas, xseenAt) => [(4, .int (nI i)), (0, .ref mo), (1, .int l_), (2, .int c_), (3, .int w_)]) (fun (i, xat, xgone, xposts, xwas, xseenAt) => i ≤ 1000 ∧ zMP xposts ∧ 1 ≤ i ∧ zMV (zRo f_all 661) xposts ∧ xposts = zPk g_shut_7 (zWo f_all 661 j_inns_3) (zLo f_all 661) c_ g_posts_6 (i - 1) ∧ zSn (fun k => zPn (zPk g_shut_7 (zWo f_all 661 j_inns_3) (zLo f_all 661) c_ g_posts_6 k) j_crossings_2.toInt.toNat) i xseenAt ∧ (∀ a b, a < b → b < i → ¬ zPn (zPk g_shut_7 (zWo f_all 661 j_inns_3) (zLo f_all 661) c_ g_posts_6 a) j_crossings_2.toInt.toNat = zPn (zPk g_shut_7 (zWo f_all 661 j_inns_3) (zLo f_all 661) c_ g_posts_6 b) j_crossings_2.toInt.toNat)) (fun (i, xat, xgone, xposts, xwas, xseenAt) => 1000 - i) ?_ (1, i_at, i_gone, g_posts_6, f_was, (upd xseenAt r_72.toNatClampNeg 1)) (show 1 ≤ 1000 ∧ zMP g_posts_6 ∧ 1 ≤ 1 ∧ zMV (zRo f_all 661) g_posts_6 ∧ g_posts_6 = zPk g_shut_7 (zWo f_all 661 j_inns_3) (zLo f_all 661) c_ g_posts_6 (1 - 1) ∧ zSn (fun k => zPn (zPk g_shut_7 (zWo f_all 661 j_inns_3) (zLo f_all 661) c_ g_posts_6 k) j_crossings_2.toInt.toNat) 1 (upd xseenAt r_72.toNatClampNeg 1) ∧ (∀ a b, a < b → b < 1 → ¬ zPn (zPk g_shut_7 (zWo f_all 661 j_inns_3) (zLo f_all 661) c_ g_posts_6 a) j_crossings_2.toInt.toNat = zPn (zPk g_shut_7 (zWo f_all 661 j_inns_3) (zLo f_all 661) c_ g_posts_6 b) j_crossings_2.toInt.toNat) from ⟨by omega, (by assumption), by omega, hVx, rfl, (by rw [hc0_]; exact zSn_0 (c := (fun k => zPn (zPk g_shut_7 (zWo f_all 661 j_inns_3) (zLo f_all 661) c_ g_posts_6 k) j_crossings_2.toInt.toNat)) (fun v hv => hZs v (by omega))), (fun a b h1 h2 => by exfalso; omega)⟩) G (lv_sub hl [0, 1, 2, 3, 4] rfl)
          rintro ⟨i, xat, xgone, xposts, xwas, xseenAt⟩ ⟨hi, hQ, hi1, hVq, hZ1, hSn, hN⟩ ih_56 H locs ls G hl
          replace hi : i ≤ 1000 := hi
          replace hQ : zMP xposts := hQ
          replace hi1 : 1 ≤ i := hi1
          replace hVq : zMV (zRo f_all 661) xposts := hVq
          replace hZ1 : xposts = zPk g_shut_7 (zWo f_all 661 j_inns_3) (zLo f_all 661) c_ g_posts_6 (i - 1) := hZ1
          replace hSn : zSn (fun k => zPn (zPk g_shut_7 (zWo f_all 661 j_inns_3) (zLo f_all 661) c_ g_posts_6 k) j_crossings_2.toInt.toNat) i xseenAt := hSn
          replace hN : (∀ a b, a < b → b < i → ¬ zPn (zPk g_shut_7 (zWo f_all 661 j_inns_3) (zLo f_all 661) c_ g_posts_6 a) j_crossings_2.toInt.toNat = zPn (zPk g_shut_7 (zWo f_all 661 j_inns_3) (zLo f_all 661) c_ g_posts_6 b) j_crossings_2.toInt.toNat) := hN
          replace G : zS T A s.heap s [[(m_was, .inl (T.2 0, 7, .inl xwas))], [(m_seenAt, .inl (T.2 0, 16384, .inl xseenAt))], [(m_all, .inl (T.2 0, 3952, .inl f_all))], [(m_shut, .inl (T.2 0, 7, .inl g_shut_7))], [(m_here, .inl (T.2 0, 7, .inl g_here_8))], [(mo, .inr (11, [.ref m_all, .ref m_has, .int i_size, .int i_next, .int i_where, .int i_token, .int i_number, .int i_word, .int i_wrong, .int i_farCrossing, .ref m_read, .int 661, .int j_crossings_2, .int j_inns_3, .ref m_posts, .ref m_shut, .ref m_here, .int j_steps_4, .int j_done_5, .int xat, .int xgone, .ref m_was, .ref m_came, .ref m_seenAt, .ref m_rowWorth, .ref m_farBy, .ref m_used, .int i_everywhere, .int i_again0, .int i_d0, .int i_never, .int i_firstCame, .int i_longRun, .int i_moved, .int i_crowd, .int i_l0, .int i_fitMany, .int i_fitLeast, .int i_fitMost, .ref m_fitPost, .ref m_fitEnd, .ref m_keptPosts, .int i_x0]))], [(m_posts, .inl (T.2 0, 7, .inl xposts))]] _ _ := G
          replace hl : lv_has ls 6 [(4, .int (nI i)), (0, .ref mo), (1, .int l_), (2, .int c_), (3, .int w_)] := hl
          refine lv_iload hx hb dX12_period_56 (lv_at hl 0 rfl) ?_
          refine lv_sipush (v := 1000) hx hb dX12_period_58 (by decide) ?_
          refine lv_icmp_ge (tgt := 124) hx hb dX12_period_61 (by decide) (fun c_73 => ?_) (fun c_73 => ?_)
          · have c_73n : 1000 ≤ i := (nI_leI (a := 1000) (b := i) (by omega) (by omega)).mp c_73
            refine lv_iconst (v := (-1)) hx hb dX12_period_124 (by decide) ?_
            have G := G.sub (bs' := [[(mo, .inr (11, [.ref m_all, .ref m_has, .int i_size, .int i_next, .int i_where, .int i_token, .int i_number, .int i_word, .int i_wrong, .int i_farCrossing, .ref m_read, .int 661, .int j_crossings_2, .int j_inns_3, .ref m_posts, .ref m_shut, .ref m_here, .int j_steps_4, .int j_done_5, .int xat, .int xgone, .ref m_was, .ref m_came, .ref m_seenAt, .ref m_rowWorth, .ref m_farBy, .ref m_used, .int i_everywhere, .int i_again0, .int i_d0, .int i_never, .int i_firstCame, .int i_longRun, .int i_moved, .int i_crowd, .int i_l0, .int i_fitMany, .int i_fitLeast, .int i_fitMost, .ref m_fitPost, .ref m_fitEnd, .ref m_keptPosts, .int i_x0]))], [(m_all, .inl (T.2 0, 3952, .inl f_all))], [(m_posts, .inl (T.2 0, 7, .inl xposts))], [(m_shut, .inl (T.2 0, 7, .inl g_shut_7))], [(m_here, .inl (T.2 0, 7, .inl g_here_8))], [(m_was, .inl (T.2 0, 7, .inl xwas))], [(m_seenAt, .inl (T.2 0, 16384, .inl xseenAt))]]) [5, 2, 6, 3, 4, 0, 1] rfl
            exact z_iret C hr hlocks G (Nat.le_of_ble_eq_true rfl) (Nat.le_of_ble_eq_true rfl) dX12_period_125 ⟨661, j_crossings_2, j_inns_3, j_steps_4, j_done_5, xat, xgone, xposts, g_shut_7, g_here_8, xwas, xseenAt, rfl, (Or.inr (Or.inr ⟨by assumption, by omega, Or.inl ⟨(show 0 ≤ c_.toInt ∧ c_.toInt < (f_all 661).toInt from ⟨by omega, by omega⟩), g_posts_6, g_shut_7, ⟨zPt_o h_20, h_21⟩, by rw [show pW f_all 661 = zWo f_all 661 j_inns_3 from congrArg (zWo f_all 661) h_17.symm, show f_all ((661 : Int32).toInt.toNat) = j_crossings_2 from hLx.2.1.symm]; exact Or.inr ⟨fun a b h1 h2 => hN a b h1 (by omega), rfl⟩⟩⟩))⟩
          · have c_73n : ¬ 1000 ≤ i := fun q => c_73 ((nI_leI (a := 1000) (b := i) (by omega) (by omega)).mpr q)
            refine lv_aload_n hx hb dX12_period_64 rfl (lv_at hl 1 rfl) ?_
            refine lv_iload_n hx hb dX12_period_65 rfl (lv_at hl 3 rfl) ?_
            refine z_Vi (bc := [[(mo, .inr (11, [.ref m_all, .ref m_has, .int i_size, .int i_next, .int i_where, .int i_token, .int i_number, .int i_word, .int i_wrong, .int i_farCrossing, .ref m_read, .int 661, .int j_crossings_2, .int j_inns_3, .ref m_posts, .ref m_shut, .ref m_here, .int j_steps_4, .int j_done_5, .int xat, .int xgone, .ref m_was, .ref m_came, .ref m_seenAt, .ref m_rowWorth, .ref m_farBy, .ref m_used, .int i_everywhere, .int i_again0, .int i_d0, .int i_never, .int i_firstCame, .int i_longRun, .int i_moved, .int i_crowd, .int i_l0, .int i_fitMany, .int i_fitLeast, .int i_fitMost, .ref m_fitPost, .ref m_fitEnd, .ref m_keptPosts, .int i_x0]))], [(m_all, .inl (T.2 0, 3952, .inl f_all))], [(m_posts, .inl (T.2 0, 7, .inl xposts))], [(m_shut, .inl (T.2 0, 7, .inl g_shut_7))], [(m_was, .inl (T.2 0, 7, .inl xwas))]]) (br := [[(m_seenAt, .inl (T.2 0, 16384, .inl xseenAt))], [(m_here, .inl (T.2 0, 7, .inl g_here_8))]]) (As := [.int c_]) (rest := []) C G (c_fm_walks l T mo m_all m_has i_size i_next i_where i_token i_number i_word i_wrong i_farCrossing m_read 661 j_crossings_2 j_inns_3 m_posts m_shut m_here j_steps_4 j_done_5 xat xgone m_was m_came m_seenAt m_rowWorth m_farBy m_used i_everywhere i_again0 i_d0 i_never i_firstCame i_longRun i_moved i_crowd i_l0 i_fitMany i_fitLeast i_fitMost m_fitPost m_fitEnd m_keptPosts i_x0 f_all xposts g_shut_7 xwas c_ (by first | with_reducible assumption | with_reducible rfl | omega | assumption | rfl) (by first | with_reducible assumption | with_reducible rfl | omega | assumption | rfl) (by first | with_reducible assumption | with_reducible rfl | omega | assumption | rfl) (by first | with_reducible assumption | with_reducible rfl | omega | assumption | rfl) (by first | with_reducible assumption | with_reducible rfl | omega | assumption | rfl)) (kV_RX12_217 C.2.2.2.2 (Nat.le_of_ble_eq_true rfl) (Nat.le_of_ble_eq_true rfl)) [5, 2, 6, 3, 0] [1, 4] rfl rfl (ci := 11) (qc := (RX12, TX12, 43)) rfl rfl (List.mem_flatten.mpr ⟨_, List.mem_of_getElem? (i := 0) rfl, List.mem_cons_self⟩) rfl rfl hl.1 dX12_period_66 (Nat.le_of_ble_eq_true rfl) (Nat.le_of_ble_eq_true rfl) (fun r_88 b1 H locs hw G => ?_)
            obtain ⟨j_at_74, j_gone_75, g_posts_76, g_was_77, rfl, h_78, h_79, h_80, h_81, h_82, h_83, h_84, h_85, h_86, h_87⟩ := hw
            have G : zS T A s.heap s [[(m_seenAt, .inl (T.2 0, 16384, .inl xseenAt))], [(m_here, .inl (T.2 0, 7, .inl g_here_8))], [(mo, .inr (11, [.ref m_all, .ref m_has, .int i_size, .int i_next, .int i_where, .int i_token, .int i_number, .int i_word, .int i_wrong, .int i_farCrossing, .ref m_read, .int 661, .int j_crossings_2, .int j_inns_3, .ref m_posts, .ref m_shut, .ref m_here, .int j_steps_4, .int j_done_5, .int j_at_74, .int j_gone_75, .ref m_was, .ref m_came, .ref m_seenAt, .ref m_rowWorth, .ref m_farBy, .ref m_used, .int i_everywhere, .int i_again0, .int i_d0, .int i_never, .int i_firstCame, .int i_longRun, .int i_moved, .int i_crowd, .int i_l0, .int i_fitMany, .int i_fitLeast, .int i_fitMost, .ref m_fitPost, .ref m_fitEnd, .ref m_keptPosts, .int i_x0]))], [(m_all, .inl (T.2 0, 3952, .inl f_all))], [(m_posts, .inl (T.2 0, 7, .inl g_posts_76))], [(m_shut, .inl (T.2 0, 7, .inl g_shut_7))], [(m_was, .inl (T.2 0, 7, .inl g_was_77))]] _ _ := G
            have hx9 : g_posts_76 = zPk g_shut_7 (zWo f_all 661 j_inns_3) (zLo f_all 661) c_ g_posts_6 i := by rw [h_84, hZ1]; exact zPk_p hi1
            refine lv_pop hx hb dX12_period_69 rfl ?_
            refine lv_aload_n hx hb dX12_period_70 rfl (lv_at hl 1 rfl) ?_
            refine z_get C G clX12 2 rfl 23 (by decide) m_fl_RX12_35 rfl dX12_period_71 ?_
            refine lv_aload_n hx hb dX12_period_74 rfl (lv_at hl 1 rfl) ?_
            refine z_Vi (bc := [[(mo, .inr (11, [.ref m_all, .ref m_has, .int i_size, .int i_next, .int i_where, .int i_token, .int i_number, .int i_word, .int i_wrong, .int i_farCrossing, .ref m_read, .int 661, .int j_crossings_2, .int j_inns_3, .ref m_posts, .ref m_shut, .ref m_here, .int j_steps_4, .int j_done_5, .int j_at_74, .int j_gone_75, .ref m_was, .ref m_came, .ref m_seenAt, .ref m_rowWorth, .ref m_farBy, .ref m_used, .int i_everywhere, .int i_again0, .int i_d0, .int i_never, .int i_firstCame, .int i_longRun, .int i_moved, .int i_crowd, .int i_l0, .int i_fitMany, .int i_fitLeast, .int i_fitMost, .ref m_fitPost, .ref m_fitEnd, .ref m_keptPosts, .int i_x0]))], [(m_posts, .inl (T.2 0, 7, .inl g_posts_76))]]) (br := [[(m_seenAt, .inl (T.2 0, 16384, .inl xseenAt))], [(m_here, .inl (T.2 0, 7, .inl g_here_8))], [(m_all, .inl (T.2 0, 3952, .inl f_all))], [(m_shut, .inl (T.2 0, 7, .inl g_shut_7))], [(m_was, .inl (T.2 0, 7, .inl g_was_77))]]) (As := []) (rest := [.ref m_seenAt]) C G (c_fm_postsNow l T mo m_all m_has i_size i_next i_where i_token i_number i_word i_wrong i_farCrossing m_read 661 j_crossings_2 j_inns_3 m_posts m_shut m_here j_steps_4 j_done_5 j_at_74 j_gone_75 m_was m_came m_seenAt m_rowWorth m_farBy m_used i_everywhere i_again0 i_d0 i_never i_firstCame i_longRun i_moved i_crowd i_l0 i_fitMany i_fitLeast i_fitMost m_fitPost m_fitEnd m_keptPosts i_x0 g_posts_76 (by first | with_reducible assumption | with_reducible rfl | omega | assumption | rfl) (by first | with_reducible assumption | with_reducible rfl | omega | assumption | rfl)) (kV_RX12_220 C.2.2.2.2 (Nat.le_of_ble_eq_true rfl) (Nat.le_of_ble_eq_true rfl)) [2, 4] [0, 1, 3, 5, 6] rfl rfl (ci := 11) (qc := (RX12, TX12, 43)) rfl rfl (List.mem_flatten.mpr ⟨_, List.mem_of_getElem? (i := 0) rfl, List.mem_cons_self⟩) rfl rfl hl.1 dX12_period_75 (Nat.le_of_ble_eq_true rfl) (Nat.le_of_ble_eq_true rfl) (fun r_92 b1 H locs hw G => ?_)
            obtain ⟨rfl, h_89, h_90, h_91⟩ := hw
            have G : zS T A s.heap s [[(m_seenAt, .inl (T.2 0, 16384, .inl xseenAt))], [(m_here, .inl (T.2 0, 7, .inl g_here_8))], [(m_all, .inl (T.2 0, 3952, .inl f_all))], [(m_shut, .inl (T.2 0, 7, .inl g_shut_7))], [(m_was, .inl (T.2 0, 7, .inl g_was_77))], [(mo, .inr (11, [.ref m_all, .ref m_has, .int i_size, .int i_next, .int i_where, .int i_token, .int i_number, .int i_word, .int i_wrong, .int i_farCrossing, .ref m_read, .int 661, .int j_crossings_2, .int j_inns_3, .ref m_posts, .ref m_shut, .ref m_here, .int j_steps_4, .int j_done_5, .int j_at_74, .int j_gone_75, .ref m_was, .ref m_came, .ref m_seenAt, .ref m_rowWorth, .ref m_farBy, .ref m_used, .int i_everywhere, .int i_again0, .int i_d0, .int i_never, .int i_firstCame, .int i_longRun, .int i_moved, .int i_crowd, .int i_l0, .int i_fitMany, .int i_fitLeast, .int i_fitMost, .ref m_fitPost, .ref m_fitEnd, .ref m_keptPosts, .int i_x0]))], [(m_posts, .inl (T.2 0, 7, .inl g_posts_76))]] _ _ := G
            have hc1_ : r_92 = zPn (zPk g_shut_7 (zWo f_all 661 j_inns_3) (zLo f_all 661) c_ g_posts_6 i) j_crossings_2.toInt.toNat := by rw [h_89, hx9]
            refine z_ild C G 0 rfl (vp_in_iff.mpr ⟨by omega, by omega⟩) dX12_period_78 ?_
            refine lv_topi (fun v_93 ev_93 => ?_)
            subst ev_93
            refine lv_istore (lv' := [(5, .int (xseenAt r_92.toNatClampNeg)), (4, .int (nI i)), (0, .ref mo), (1, .int l_), (2, .int c_), (3, .int w_)]) hx hb dX12_period_79 hl (by decide) rfl (fun ls hl => ?_)
            refine lv_iload hx hb dX12_period_81 (lv_at hl 0 rfl) ?_
            refine lv_if_le (tgt := 105) hx hb dX12_period_83 (by decide) (fun c_94 => ?_) (fun c_94 => ?_)
            · have c_94n : (xseenAt r_92.toNatClampNeg).toInt ≤ (0 : Int) := (fa_le _ _).mp c_94
              have hnn : ∀ k, k < i → ¬ (fun k => zPn (zPk g_shut_7 (zWo f_all 661 j_inns_3) (zLo f_all 661) c_ g_posts_6 k) j_crossings_2.toInt.toNat) k = (fun k => zPn (zPk g_shut_7 (zWo f_all 661 j_inns_3) (zLo f_all 661) c_ g_posts_6 k) j_crossings_2.toInt.toNat) i := fun k hk q8 => zSn_z hSn (by omega) hk (by
                have q7 : zPn (zPk g_shut_7 (zWo f_all 661 j_inns_3) (zLo f_all 661) c_ g_posts_6 k) j_crossings_2.toInt.toNat = zPn (zPk g_shut_7 (zWo f_all 661 j_inns_3) (zLo f_all 661) c_ g_posts_6 i) j_crossings_2.toInt.toNat := q8
                show xseenAt (zPn (zPk g_shut_7 (zWo f_all 661 j_inns_3) (zLo f_all 661) c_ g_posts_6 k) j_crossings_2.toInt.toNat).toNatClampNeg = 0
                rw [q7, ← hc1_]
                by_cases q6 : xseenAt r_92.toNatClampNeg = 0
                · exact q6
                · obtain ⟨i0, hi0, -, hi4_⟩ := zSn_f hSn hcp (v := r_92) (by rw [hc1_]; exact hcp2 i) q6
                  have ht0 := congrArg Int32.toInt hi4_
                  rw [nI_toInt (by omega)] at ht0
                  exfalso
                  omega)
              refine lv_aload_n hx hb dX12_period_105 rfl (lv_at hl 2 rfl) ?_
              refine z_get C G clX12 5 rfl 23 (by decide) m_fl_RX12_35 rfl dX12_period_106 ?_
              refine lv_aload_n hx hb dX12_period_109 rfl (lv_at hl 2 rfl) ?_
              refine z_Vi (bc := [[(mo, .inr (11, [.ref m_all, .ref m_has, .int i_size, .int i_next, .int i_where, .int i_token, .int i_number, .int i_word, .int i_wrong, .int i_farCrossing, .ref m_read, .int 661, .int j_crossings_2, .int j_inns_3, .ref m_posts, .ref m_shut, .ref m_here, .int j_steps_4, .int j_done_5, .int j_at_74, .int j_gone_75, .ref m_was, .ref m_came, .ref m_seenAt, .ref m_rowWorth, .ref m_farBy, .ref m_used, .int i_everywhere, .int i_again0, .int i_d0, .int i_never, .int i_firstCame, .int i_longRun, .int i_moved, .int i_crowd, .int i_l0, .int i_fitMany, .int i_fitLeast, .int i_fitMost, .ref m_fitPost, .ref m_fitEnd, .ref m_keptPosts, .int i_x0]))], [(m_posts, .inl (T.2 0, 7, .inl g_posts_76))]]) (br := [[(m_seenAt, .inl (T.2 0, 16384, .inl xseenAt))], [(m_here, .inl (T.2 0, 7, .inl g_here_8))], [(m_all, .inl (T.2 0, 3952, .inl f_all))], [(m_shut, .inl (T.2 0, 7, .inl g_shut_7))], [(m_was, .inl (T.2 0, 7, .inl g_was_77))]]) (As := []) (rest := [.ref m_seenAt]) C G (c_fm_postsNow l T mo m_all m_has i_size i_next i_where i_token i_number i_word i_wrong i_farCrossing m_read 661 j_crossings_2 j_inns_3 m_posts m_shut m_here j_steps_4 j_done_5 j_at_74 j_gone_75 m_was m_came m_seenAt m_rowWorth m_farBy m_used i_everywhere i_again0 i_d0 i_never i_firstCame i_longRun i_moved i_crowd i_l0 i_fitMany i_fitLeast i_fitMost m_fitPost m_fitEnd m_keptPosts i_x0 g_posts_76 (by first | with_reducible assumption | with_reducible rfl | omega | assumption | rfl) (by first | with_reducible assumption | with_reducible rfl | omega | assumption | rfl)) (kV_RX12_220 C.2.2.2.2 (Nat.le_of_ble_eq_true rfl) (Nat.le_of_ble_eq_true rfl)) [5, 6] [0, 1, 2, 3, 4] rfl rfl (ci := 11) (qc := (RX12, TX12, 43)) rfl rfl (List.mem_flatten.mpr ⟨_, List.mem_of_getElem? (i := 0) rfl, List.mem_cons_self⟩) rfl rfl hl.1 dX12_period_110 (Nat.le_of_ble_eq_true rfl) (Nat.le_of_ble_eq_true rfl) (fun r_98 b1 H locs hw G => ?_)
              obtain ⟨rfl, h_95, h_96, h_97⟩ := hw
              have G : zS T A s.heap s [[(m_seenAt, .inl (T.2 0, 16384, .inl xseenAt))], [(m_here, .inl (T.2 0, 7, .inl g_here_8))], [(m_all, .inl (T.2 0, 3952, .inl f_all))], [(m_shut, .inl (T.2 0, 7, .inl g_shut_7))], [(m_was, .inl (T.2 0, 7, .inl g_was_77))], [(mo, .inr (11, [.ref m_all, .ref m_has, .int i_size, .int i_next, .int i_where, .int i_token, .int i_number, .int i_word, .int i_wrong, .int i_farCrossing, .ref m_read, .int 661, .int j_crossings_2, .int j_inns_3, .ref m_posts, .ref m_shut, .ref m_here, .int j_steps_4, .int j_done_5, .int j_at_74, .int j_gone_75, .ref m_was, .ref m_came, .ref m_seenAt, .ref m_rowWorth, .ref m_farBy, .ref m_used, .int i_everywhere, .int i_again0, .int i_d0, .int i_never, .int i_firstCame, .int i_longRun, .int i_moved, .int i_crowd, .int i_l0, .int i_fitMany, .int i_fitLeast, .int i_fitMost, .ref m_fitPost, .ref m_fitEnd, .ref m_keptPosts, .int i_x0]))], [(m_posts, .inl (T.2 0, 7, .inl g_posts_76))]] _ _ := G
              have hc3_ : r_98 = (fun k => zPn (zPk g_shut_7 (zWo f_all 661 j_inns_3) (zLo f_all 661) c_ g_posts_6 k) j_crossings_2.toInt.toNat) i := by rw [h_95, hx9]
              refine lv_iload hx hb dX12_period_113 (lv_at hl 1 rfl) ?_
              refine lv_iconst (v := 1) hx hb dX12_period_115 (by decide) ?_
              refine lv_iadd hx hb dX12_period_116 ?_
              refine lv_topi (fun y_99 ey_99 => ?_)
              obtain rfl : y_99 = nI (i + 1) := ey_99.trans (z_iaddn i 1 rfl rfl)
              refine z_ist C G 0 rfl (vp_in_iff.mpr ⟨by omega, by omega⟩) dX12_period_117 (fun H locs G => ?_)
              have G : zS T A s.heap s [[(m_seenAt, .inl (T.2 0, 16384, .inl (upd xseenAt r_98.toNatClampNeg (nI (i + 1)))))], [(m_here, .inl (T.2 0, 7, .inl g_here_8))], [(m_all, .inl (T.2 0, 3952, .inl f_all))], [(m_shut, .inl (T.2 0, 7, .inl g_shut_7))], [(m_was, .inl (T.2 0, 7, .inl g_was_77))], [(mo, .inr (11, [.ref m_all, .ref m_has, .int i_size, .int i_next, .int i_where, .int i_token, .int i_number, .int i_word, .int i_wrong, .int i_farCrossing, .ref m_read, .int 661, .int j_crossings_2, .int j_inns_3, .ref m_posts, .ref m_shut, .ref m_here, .int j_steps_4, .int j_done_5, .int j_at_74, .int j_gone_75, .ref m_was, .ref m_came, .ref m_seenAt, .ref m_rowWorth, .ref m_farBy, .ref m_used, .int i_everywhere, .int i_again0, .int i_d0, .int i_never, .int i_firstCame, .int i_longRun, .int i_moved, .int i_crowd, .int i_l0, .int i_fitMany, .int i_fitLeast, .int i_fitMost, .ref m_fitPost, .ref m_fitEnd, .ref m_keptPosts, .int i_x0]))], [(m_posts, .inl (T.2 0, 7, .inl g_posts_76))]] _ _ := G
              refine lv_iinc (v := nI (i + 1)) (lv' := [(4, .int (nI (i + 1))), (5, .int (xseenAt r_92.toNatClampNeg)), (0, .ref mo), (1, .int l_), (2, .int c_), (3, .int w_)]) hx hb dX12_period_118 hl (k := 1) rfl (z_inc i 1) (by decide) rfl (fun ls hl => ?_)
              refine lv_goto (tgt := 56) hx hb dX12_period_121 (by decide) ?_
              have G := G.sub (bs' := [[(m_was, .inl (T.2 0, 7, .inl g_was_77))], [(m_seenAt, .inl (T.2 0, 16384, .inl (upd xseenAt r_98.toNatClampNeg (nI (i + 1)))))], [(m_all, .inl (T.2 0, 3952, .inl f_all))], [(m_shut, .inl (T.2 0, 7, .inl g_shut_7))], [(m_here, .inl (T.2 0, 7, .inl g_here_8))], [(mo, .inr (11, [.ref m_all, .ref m_has, .int i_size, .int i_next, .int i_where, .int i_token, .int i_number, .int i_word, .int i_wrong, .int i_farCrossing, .ref m_read, .int 661, .int j_crossings_2, .int j_inns_3, .ref m_posts, .ref m_shut, .ref m_here, .int j_steps_4, .int j_done_5, .int j_at_74, .int j_gone_75, .ref m_was, .ref m_came, .ref m_seenAt, .ref m_rowWorth, .ref m_farBy, .ref m_used, .int i_everywhere, .int i_again0, .int i_d0, .int i_never, .int i_firstCame, .int i_longRun, .int i_moved, .int i_crowd, .int i_l0, .int i_fitMany, .int i_fitLeast, .int i_fitMost, .ref m_fitPost, .ref m_fitEnd, .ref m_keptPosts, .int i_x0]))], [(m_posts, .inl (T.2 0, 7, .inl g_posts_76))]]) [4, 0, 2, 3, 1, 5, 6] rfl
              exact ih_56 ((i + 1), j_at_74, j_gone_75, g_posts_76, g_was_77, (upd xseenAt r_98.toNatClampNeg (nI (i + 1)))) (show (i + 1) ≤ 1000 ∧ zMP g_posts_76 ∧ 1 ≤ (i + 1) ∧ zMV (zRo f_all 661) g_posts_76 ∧ g_posts_76 = zPk g_shut_7 (zWo f_all 661 j_inns_3) (zLo f_all 661) c_ g_posts_6 ((i + 1) - 1) ∧ zSn (fun k => zPn (zPk g_shut_7 (zWo f_all 661 j_inns_3) (zLo f_all 661) c_ g_posts_6 k) j_crossings_2.toInt.toNat) (i + 1) (upd xseenAt r_98.toNatClampNeg (nI (i + 1))) ∧ (∀ a b, a < b → b < (i + 1) → ¬ zPn (zPk g_shut_7 (zWo f_all 661 j_inns_3) (zLo f_all 661) c_ g_posts_6 a) j_crossings_2.toInt.toNat = zPn (zPk g_shut_7 (zWo f_all 661 j_inns_3) (zLo f_all 661) c_ g_posts_6 b) j_crossings_2.toInt.toNat) from ⟨by omega, (by assumption), by omega, h_79, (hx9.trans (congrArg (zPk g_shut_7 (zWo f_all 661 j_inns_3) (zLo f_all 661) c_ g_posts_6) (by omega))), (by rw [hc3_]; exact zSn_s (c := (fun k => zPn (zPk g_shut_7 (zWo f_all 661 j_inns_3) (zLo f_all 661) c_ g_posts_6 k) j_crossings_2.toInt.toNat)) hSn hcp hnn), (zN_d (c := (fun k => zPn (zPk g_shut_7 (zWo f_all 661 j_inns_3) (zLo f_all 661) c_ g_posts_6 k) j_crossings_2.toInt.toNat)) hN hnn)⟩) (show 1000 - (i + 1) < 1000 - i from by omega) _ _ ls G (lv_sub hl [0, 2, 3, 4, 5] rfl)
            · have c_94n : ¬ (xseenAt r_92.toNatClampNeg).toInt ≤ (0 : Int) := fun q => c_94 ((fa_le _ _).mpr q)
              obtain ⟨i0, hi0, hi3_, hi4_⟩ := zSn_f hSn hcp (v := r_92) (by rw [hc1_]; exact hcp2 i) (fun q8 => by have q7 := congrArg Int32.toInt q8; have z0 : (0 : Int32).toInt = 0 := rfl; omega)
              have hcm : zPn (zPk g_shut_7 (zWo f_all 661 j_inns_3) (zLo f_all 661) c_ g_posts_6 i0) j_crossings_2.toInt.toNat = zPn (zPk g_shut_7 (zWo f_all 661 j_inns_3) (zLo f_all 661) c_ g_posts_6 i) j_crossings_2.toInt.toNat := hi3_.trans hc1_
              have ht0 := congrArg Int32.toInt hi4_
              rw [nI_toInt (by omega)] at ht0
              refine lv_iload_n hx hb dX12_period_86 rfl (lv_at hl 5 rfl) ?_
              refine lv_if_eq (tgt := 97) hx hb dX12_period_87 (by decide) (fun c_100 => ?_) (fun c_100 => ?_)
              · have c_100n : w_.toInt = (0 : Int) := (fa_eq _ _).mp c_100
                refine lv_iload hx hb dX12_period_97 (lv_at hl 1 rfl) ?_
                refine lv_iconst (v := 1) hx hb dX12_period_99 (by decide) ?_
                refine lv_iadd hx hb dX12_period_100 ?_
                refine lv_topi (fun y_101 ey_101 => ?_)
                obtain rfl : y_101 = nI (i + 1) := ey_101.trans (z_iaddn i 1 rfl rfl)
                refine lv_iload hx hb dX12_period_101 (lv_at hl 0 rfl) ?_
                refine lv_isub hx hb dX12_period_103 ?_
                have G := G.sub (bs' := [[(mo, .inr (11, [.ref m_all, .ref m_has, .int i_size, .int i_next, .int i_where, .int i_token, .int i_number, .int i_word, .int i_wrong, .int i_farCrossing, .ref m_read, .int 661, .int j_crossings_2, .int j_inns_3, .ref m_posts, .ref m_shut, .ref m_here, .int j_steps_4, .int j_done_5, .int j_at_74, .int j_gone_75, .ref m_was, .ref m_came, .ref m_seenAt, .ref m_rowWorth, .ref m_farBy, .ref m_used, .int i_everywhere, .int i_again0, .int i_d0, .int i_never, .int i_firstCame, .int i_longRun, .int i_moved, .int i_crowd, .int i_l0, .int i_fitMany, .int i_fitLeast, .int i_fitMost, .ref m_fitPost, .ref m_fitEnd, .ref m_keptPosts, .int i_x0]))], [(m_all, .inl (T.2 0, 3952, .inl f_all))], [(m_posts, .inl (T.2 0, 7, .inl g_posts_76))], [(m_shut, .inl (T.2 0, 7, .inl g_shut_7))], [(m_here, .inl (T.2 0, 7, .inl g_here_8))], [(m_was, .inl (T.2 0, 7, .inl g_was_77))], [(m_seenAt, .inl (T.2 0, 16384, .inl xseenAt))]]) [5, 2, 6, 3, 1, 4, 0] rfl
                exact z_iret C hr hlocks G (Nat.le_of_ble_eq_true rfl) (Nat.le_of_ble_eq_true rfl) dX12_period_104 ⟨661, j_crossings_2, j_inns_3, j_steps_4, j_done_5, j_at_74, j_gone_75, g_posts_76, g_shut_7, g_here_8, g_was_77, xseenAt, rfl, (Or.inr (Or.inr ⟨by assumption, by omega, Or.inl ⟨(show 0 ≤ c_.toInt ∧ c_.toInt < (f_all 661).toInt from ⟨by omega, by omega⟩), g_posts_6, g_shut_7, ⟨zPt_o h_20, h_21⟩, by rw [show pW f_all 661 = zWo f_all 661 j_inns_3 from congrArg (zWo f_all 661) h_17.symm, show f_all ((661 : Int32).toInt.toNat) = j_crossings_2 from hLx.2.1.symm]; exact Or.inl ⟨i, i0, ⟨by omega, by omega⟩, hi0, hcm, hN, Or.inr ⟨fun q8 => q8 (by omega), zPer_b hi4_ hi0 (by omega)⟩⟩⟩⟩))⟩
              · have c_100n : ¬ w_.toInt = (0 : Int) := fun q => c_100 ((fa_eq _ _).mpr q)
                refine lv_iload hx hb dX12_period_90 (lv_at hl 0 rfl) ?_
                refine lv_iconst (v := 1) hx hb dX12_period_92 (by decide) ?_
                refine lv_isub hx hb dX12_period_93 ?_
                refine lv_goto (tgt := 104) hx hb dX12_period_94 (by decide) ?_
                have G := G.sub (bs' := [[(mo, .inr (11, [.ref m_all, .ref m_has, .int i_size, .int i_next, .int i_where, .int i_token, .int i_number, .int i_word, .int i_wrong, .int i_farCrossing, .ref m_read, .int 661, .int j_crossings_2, .int j_inns_3, .ref m_posts, .ref m_shut, .ref m_here, .int j_steps_4, .int j_done_5, .int j_at_74, .int j_gone_75, .ref m_was, .ref m_came, .ref m_seenAt, .ref m_rowWorth, .ref m_farBy, .ref m_used, .int i_everywhere, .int i_again0, .int i_d0, .int i_never, .int i_firstCame, .int i_longRun, .int i_moved, .int i_crowd, .int i_l0, .int i_fitMany, .int i_fitLeast, .int i_fitMost, .ref m_fitPost, .ref m_fitEnd, .ref m_keptPosts, .int i_x0]))], [(m_all, .inl (T.2 0, 3952, .inl f_all))], [(m_posts, .inl (T.2 0, 7, .inl g_posts_76))], [(m_shut, .inl (T.2 0, 7, .inl g_shut_7))], [(m_here, .inl (T.2 0, 7, .inl g_here_8))], [(m_was, .inl (T.2 0, 7, .inl g_was_77))], [(m_seenAt, .inl (T.2 0, 16384, .inl xseenAt))]]) [5, 2, 6, 3, 1, 4, 0] rfl
                exact z_iret C hr hlocks G (Nat.le_of_ble_eq_true rfl) (Nat.le_of_ble_eq_true rfl) dX12_period_104 ⟨661, j_crossings_2, j_inns_3, j_steps_4, j_done_5, j_at_74, j_gone_75, g_posts_76, g_shut_7, g_here_8, g_was_77, xseenAt, rfl, (Or.inr (Or.inr ⟨by assumption, by omega, Or.inl ⟨(show 0 ≤ c_.toInt ∧ c_.toInt < (f_all 661).toInt from ⟨by omega, by omega⟩), g_posts_6, g_shut_7, ⟨zPt_o h_20, h_21⟩, by rw [show pW f_all 661 = zWo f_all 661 j_inns_3 from congrArg (zWo f_all 661) h_17.symm, show f_all ((661 : Int32).toInt.toNat) = j_crossings_2 from hLx.2.1.symm]; exact Or.inl ⟨i, i0, ⟨by omega, by omega⟩, hi0, hcm, hN, Or.inl ⟨by omega, zPer_a hi4_ (by omega)⟩⟩⟩⟩))⟩
        · have c_68n : ¬ 16384 ≤ i := fun q => c_68 ((nI_leI (a := 16384) (b := i) (by omega) (by omega)).mpr q)
          refine lv_aload_n hx hb dX12_period_29 rfl (lv_at hl 1 rfl) ?_
          refine z_get C G clX12 6 rfl 23 (by decide) m_fl_RX12_35 rfl dX12_period_30 ?_
          refine lv_iload hx hb dX12_period_33 (lv_at hl 0 rfl) ?_
          refine lv_iconst (v := 0) hx hb dX12_period_35 (by decide) ?_
          refine z_ist C G 1 rfl (vp_in_nI (by omega) (by omega)) dX12_period_36 (fun H locs G => ?_)
          rw [nI_clamp (by omega)] at G
          have G : zS T A s.heap s [[(m_was, .inl (T.2 0, 7, .inl f_was))], [(m_seenAt, .inl (T.2 0, 16384, .inl (upd xseenAt i 0)))], [(m_all, .inl (T.2 0, 3952, .inl f_all))], [(m_posts, .inl (T.2 0, 7, .inl g_posts_6))], [(m_shut, .inl (T.2 0, 7, .inl g_shut_7))], [(m_here, .inl (T.2 0, 7, .inl g_here_8))], [(mo, .inr (11, [.ref m_all, .ref m_has, .int i_size, .int i_next, .int i_where, .int i_token, .int i_number, .int i_word, .int i_wrong, .int i_farCrossing, .ref m_read, .int 661, .int j_crossings_2, .int j_inns_3, .ref m_posts, .ref m_shut, .ref m_here, .int j_steps_4, .int j_done_5, .int i_at, .int i_gone, .ref m_was, .ref m_came, .ref m_seenAt, .ref m_rowWorth, .ref m_farBy, .ref m_used, .int i_everywhere, .int i_again0, .int i_d0, .int i_never, .int i_firstCame, .int i_longRun, .int i_moved, .int i_crowd, .int i_l0, .int i_fitMany, .int i_fitLeast, .int i_fitMost, .ref m_fitPost, .ref m_fitEnd, .ref m_keptPosts, .int i_x0]))]] _ _ := G
          refine lv_iinc (v := nI (i + 1)) (lv' := [(4, .int (nI (i + 1))), (0, .ref mo), (1, .int l_), (2, .int c_), (3, .int w_)]) hx hb dX12_period_37 hl (k := 0) rfl (z_inc i 1) (by decide) rfl (fun ls hl => ?_)
          refine lv_goto (tgt := 21) hx hb dX12_period_40 (by decide) ?_
          exact ih_21 ((i + 1), (upd xseenAt i 0)) (show (i + 1) ≤ 16384 ∧ (∀ v, v < (i + 1) → (upd xseenAt i 0) v = 0) from ⟨by omega, z_upS0 (f := fun _ => 0) hZs rfl⟩) (show 16384 - (i + 1) < 16384 - i from by omega) _ _ ls G (lv_sub hl [0, 1, 2, 3, 4] rfl)
      · have h_67 : (c_.toInt < 0 ∨ j_crossings_2.toInt ≤ c_.toInt) := h_67
        refine lv_if_ne (tgt := 18) hx hb dX12_period_13 (by decide) (fun q => absurd (by decide) q) (fun _ => ?_)
        refine lv_iconst (v := (-1)) hx hb dX12_period_16 (by decide) ?_
        have G := G.sub (bs' := [[(mo, .inr (11, [.ref m_all, .ref m_has, .int i_size, .int i_next, .int i_where, .int i_token, .int i_number, .int i_word, .int i_wrong, .int i_farCrossing, .ref m_read, .int 661, .int j_crossings_2, .int j_inns_3, .ref m_posts, .ref m_shut, .ref m_here, .int j_steps_4, .int j_done_5, .int i_at, .int i_gone, .ref m_was, .ref m_came, .ref m_seenAt, .ref m_rowWorth, .ref m_farBy, .ref m_used, .int i_everywhere, .int i_again0, .int i_d0, .int i_never, .int i_firstCame, .int i_longRun, .int i_moved, .int i_crowd, .int i_l0, .int i_fitMany, .int i_fitLeast, .int i_fitMost, .ref m_fitPost, .ref m_fitEnd, .ref m_keptPosts, .int i_x0]))], [(m_all, .inl (T.2 0, 3952, .inl f_all))], [(m_posts, .inl (T.2 0, 7, .inl g_posts_6))], [(m_shut, .inl (T.2 0, 7, .inl g_shut_7))], [(m_here, .inl (T.2 0, 7, .inl g_here_8))], [(m_was, .inl (T.2 0, 7, .inl f_was))], [(m_seenAt, .inl (T.2 0, 16384, .inl f_seenAt))]]) [6, 2, 3, 4, 5, 0, 1] rfl
        exact z_iret C hr hlocks G (Nat.le_of_ble_eq_true rfl) (Nat.le_of_ble_eq_true rfl) dX12_period_17 ⟨661, j_crossings_2, j_inns_3, j_steps_4, j_done_5, i_at, i_gone, g_posts_6, g_shut_7, g_here_8, f_was, f_seenAt, rfl, (Or.inr (Or.inr ⟨by assumption, by omega, Or.inr ⟨by show ¬ (0 ≤ c_.toInt ∧ c_.toInt < (f_all 661).toInt); omega, rfl⟩⟩))⟩
  · have h_23 : (l_.toInt < 0 ∨ (f_all 0).toInt ≤ l_.toInt) := h_23
    refine lv_if_eq (tgt := 16) hx hb dX12_period_5 (by decide) (fun _ => ?_) (fun q => absurd (by decide) q)
    refine lv_iconst (v := (-1)) hx hb dX12_period_16 (by decide) ?_
    have G := G.sub (bs' := [[(mo, .inr (11, [.ref m_all, .ref m_has, .int i_size, .int i_next, .int i_where, .int i_token, .int i_number, .int i_word, .int i_wrong, .int i_farCrossing, .ref m_read, .int j_z0_1, .int j_crossings_2, .int j_inns_3, .ref m_posts, .ref m_shut, .ref m_here, .int j_steps_4, .int j_done_5, .int i_at, .int i_gone, .ref m_was, .ref m_came, .ref m_seenAt, .ref m_rowWorth, .ref m_farBy, .ref m_used, .int i_everywhere, .int i_again0, .int i_d0, .int i_never, .int i_firstCame, .int i_longRun, .int i_moved, .int i_crowd, .int i_l0, .int i_fitMany, .int i_fitLeast, .int i_fitMost, .ref m_fitPost, .ref m_fitEnd, .ref m_keptPosts, .int i_x0]))], [(m_all, .inl (T.2 0, 3952, .inl f_all))], [(m_posts, .inl (T.2 0, 7, .inl g_posts_6))], [(m_shut, .inl (T.2 0, 7, .inl g_shut_7))], [(m_here, .inl (T.2 0, 7, .inl g_here_8))], [(m_was, .inl (T.2 0, 7, .inl f_was))], [(m_seenAt, .inl (T.2 0, 16384, .inl f_seenAt))]]) [2, 3, 4, 5, 6, 0, 1] rfl
    exact z_iret C hr hlocks G (Nat.le_of_ble_eq_true rfl) (Nat.le_of_ble_eq_true rfl) dX12_period_17 ⟨j_z0_1, j_crossings_2, j_inns_3, j_steps_4, j_done_5, i_at, i_gone, g_posts_6, g_shut_7, g_here_8, f_was, f_seenAt, rfl, (Or.inl ⟨by assumption, rfl⟩)⟩
section ZL2
variable {p : Program} {l : Launch} {e : Env} {R : Room} {s : State} {m : MethodId} {args : Array Value} {below : List Frame} {meth : Method} {c : Code} {Q : State → Prop}
variable {nL : Nat} {T : zTy} {A : Nat → Prop} {H0 : Heap}
theorem z_loopR {α : Type} (pc : Nat) (Wd : α → List va_W) (Lv : α → List (Nat × Value)) (Cl Sl : α → Nat) (Inv : α → Prop) (mu : α → Nat)
    (step : ∀ a : α, Inv a → (∀ b : α, Inv b → mu b < mu a → ∀ (H : Heap) (locs : List Loc) (ls : Array Slot), zS T A H0 s (Wd b) H locs → lv_has ls nL (Lv b) → W p l e R s m args below meth c H locs (Cl b) (Sl b) Q (F0 m pc ls [])) → ∀ (H : Heap) (locs : List Loc) (ls : Array Slot), zS T A H0 s (Wd a) H locs → lv_has ls nL (Lv a) → W p l e R s m args below meth c H locs (Cl a) (Sl a) Q (F0 m pc ls []))
    (a : α) (ha : Inv a) {H : Heap} {locs : List Loc} {ls : Array Slot} (G : zS T A H0 s (Wd a) H locs) (hl : lv_has ls nL (Lv a)) : W p l e R s m args below meth c H locs (Cl a) (Sl a) Q (F0 m pc ls []) := by
  have key : ∀ (n : Nat) (a : α), mu a < n → Inv a → ∀ (H : Heap) (locs : List Loc) (ls : Array Slot), zS T A H0 s (Wd a) H locs → lv_has ls nL (Lv a) → W p l e R s m args below meth c H locs (Cl a) (Sl a) Q (F0 m pc ls []) := by
    intro n
    induction n with
    | zero => intro a h; exact absurd h (Nat.not_lt_zero _)
    | succ n ih => intro a h ha; exact step a ha (fun b hb hlt => ih b (by omega) hb)
  exact key (mu a + 1) a (Nat.lt_succ_self _) ha H locs ls G hl
end ZL2
def zAI (f : Nat → Int32) : Prop := ∀ i, i < 4 → zBI (fun j => f (988 * i + j))
abbrev zHs (fm fh : Nat → Int32) : Prop := ∀ k, k < 3 → (fm k = 0 ↔ fh k = 0)
abbrev zIn6 (x : Int32) : Prop := 0 ≤ x.toInt ∧ x.toInt ≤ 600
theorem zBI_cg {f g : Nat → Int32} (e : ∀ j, j < 988 → g j = f j) (h : zBI f) : zBI g :=
  ⟨by rw [e 4 (by decide)]; exact h.1, fun q hq => by rw [e q (by omega)]; exact h.2.1 q hq, fun k hk => zLF_cg (fun j hj => e _ (by omega)) (h.2.2.1 k hk), fun k hk => zCF_cg (e _ (by omega)) (h.2.2.2.1 k hk), fun k hk => zCF_cg (e _ (by omega)) (h.2.2.2.2 k hk)⟩
theorem zAI_0 {f : Nat → Int32} (h : zAI f) : zBI f := zBI_cg (fun j _ => (congrArg f (by omega)).symm) (h 0 (by decide))
theorem zAI_low {f g : Nat → Int32} (h : zAI f) (h0 : zBI g) (ho : ∀ j, 988 ≤ j → g j = f j) : zAI g := by
  intro i hi
  by_cases e : i = 0
  · subst e
    exact zBI_cg (fun j _ => congrArg g (by omega)) h0
  · exact zBI_cg (fun j _ => ho _ (by omega)) (h i hi)
theorem zBI_fd {f g : Nat → Int32} (h : zBI f) (h4 : zIn6 (g 4)) (ho : ∀ j, (j < 10 ∨ 610 ≤ j) → j ≠ 4 → g j = f j) : zBI g :=
  ⟨h4, fun q hq => by rw [ho q (by omega) (by omega)]; exact h.2.1 q hq, fun k hk => zLF_cg (fun j hj => ho _ (by omega) (by omega)) (h.2.2.1 k hk), fun k hk => zCF_cg (ho _ (by omega) (by omega)) (h.2.2.2.1 k hk), fun k hk => zCF_cg (ho _ (by omega) (by omega)) (h.2.2.2.2 k hk)⟩
theorem zHs_upd {fm fh : Nat → Int32} (h : zHs fm fh) (k : Nat) : zHs (upd fm k 1) (upd fh k 1) := by
  intro j hj
  unfold upd
  split
  · exact Iff.rfl
  · exact h j hj
theorem zNA_mono {c : Prop} [Decidable c] {md : Int32} {n : Nat} {cr inn : Int32} {k1 : Nat → Int32} (h : zPw n) : n ≤ zNA c md n (zPl cr inn k1) := by
  unfold zNA zMk zNl
  split
  · split
    · split
      · exact Nat.le_refl _
      · have := zNl_room (pl := zPl cr inn k1) h (zPl_le cr inn k1) (by assumption)
        omega
    · exact Nat.le_refl _
  · exact Nat.le_refl _
theorem zFnN_up {wy : Int32} {n : Nat} (hn : n ≤ 16384) (hw : (n : Int) < wy.toInt) : ∀ (f k : Nat), k ≤ 10 → 11 ≤ f + k → n ≤ zFnN wy f (16 * 2 ^ k)
  | 0, k, h, h2 => by omega
  | f + 1, k, h, h2 => by
    rw [zFnN]
    split
    · rename_i q
      have hk : k < 10 := by
        rcases Nat.lt_or_ge k 10 with z | z
        · exact z
        · have e : k = 10 := by omega
          subst e
          exact absurd q.2 (by decide)
      rw [show 2 * (16 * 2 ^ k) = 16 * 2 ^ (k + 1) by rw [Nat.pow_succ]; omega]
      exact zFnN_up hn hw f (k + 1) (by omega) (by omega)
    · rename_i q
      rcases Nat.lt_or_ge 16383 (16 * 2 ^ k) with z | z
      · omega
      · have : ¬ ((16 * 2 ^ k : Nat) : Int) < wy.toInt := fun y => q ⟨y, z⟩
        omega
theorem zNF_mono {c : Prop} [Decidable c] {n : Nat} {wy : Int32} (h : zFw n) : n ≤ zNF c n wy := by
  unfold zNF zFl
  split
  · split
    · exact Nat.le_refl _
    · have e : (16 * 2 ^ 0 : Nat) = 16 := by decide
      have := zFnN_up (wy := wy) (zFw_le h) (by omega) 11 0 (by decide) (by decide)
      rw [e] at this
      exact this
  · exact Nat.le_refl _
theorem zNF_fw {c : Prop} [Decidable c] {n : Nat} {wy : Int32} (h : zFw n) : zFw (zNF c n wy) := by
  unfold zNF
  split
  · exact zFl_pw h
  · exact h
/-! THE LAW'S STEPS, with all that is told kept equal -/
theorem zTR_by {ln : Int32} {fl : Int32} {pl : Int32} {ft : Nat → Int32} {fk : Nat → Int32} {cr_L0 : Int32} {inn_L0 : Int32} {k1_L0 : Nat → Int32} {k2_L0 : Nat → Int32} {k3_L0 : Nat → Int32} {k4_L0 : Nat → Int32} {cr_L1 : Int32} {inn_L1 : Int32} {k1_L1 : Nat → Int32} {k2_L1 : Nat → Int32} {k3_L1 : Nat → Int32} {k4_L1 : Nat → Int32} {dd_D0 : Int32} {p1_D0 : Nat → Int32} {p2_D0 : Nat → Int32} {p3_D0 : Nat → Int32} {dd_D1 : Int32} {p1_D1 : Nat → Int32} {p2_D1 : Nat → Int32} {p3_D1 : Nat → Int32} {gg_G0 : Int32} {q1_G0 : Nat → Int32} {q2_G0 : Nat → Int32} {gg_G1 : Int32} {q1_G1 : Nat → Int32} {q2_G1 : Nat → Int32} {G : Nat → Int32} (h : zTR ln fl pl ft fk cr_L0 inn_L0 k1_L0 k2_L0 k3_L0 k4_L0 cr_L1 inn_L1 k1_L1 k2_L1 k3_L1 k4_L1 dd_D0 p1_D0 p2_D0 p3_D0 dd_D1 p1_D1 p2_D1 p3_D1 gg_G0 q1_G0 q2_G0 gg_G1 q1_G1 q2_G1 G) : ∀ j, j < 600 → 0 ≤ (G (10 + j)).toInt := by
  intro j hj
  rcases (h.1.2.2.2.2 j hj).1 with ⟨e, a⟩ | ⟨-, a⟩
  · rw [e]; exact a
  · omega
theorem zTR_tk {ln : Int32} {fl : Int32} {pl : Int32} {ft : Nat → Int32} {fk : Nat → Int32} {cr_L0 : Int32} {inn_L0 : Int32} {k1_L0 : Nat → Int32} {k2_L0 : Nat → Int32} {k3_L0 : Nat → Int32} {k4_L0 : Nat → Int32} {cr_L1 : Int32} {inn_L1 : Int32} {k1_L1 : Nat → Int32} {k2_L1 : Nat → Int32} {k3_L1 : Nat → Int32} {k4_L1 : Nat → Int32} {dd_D0 : Int32} {p1_D0 : Nat → Int32} {p2_D0 : Nat → Int32} {p3_D0 : Nat → Int32} {dd_D1 : Int32} {p1_D1 : Nat → Int32} {p2_D1 : Nat → Int32} {p3_D1 : Nat → Int32} {gg_G0 : Int32} {q1_G0 : Nat → Int32} {q2_G0 : Nat → Int32} {gg_G1 : Int32} {q1_G1 : Nat → Int32} {q2_G1 : Nat → Int32} {G : Nat → Int32} (h : zTR ln fl pl ft fk cr_L0 inn_L0 k1_L0 k2_L0 k3_L0 k4_L0 cr_L1 inn_L1 k1_L1 k2_L1 k3_L1 k4_L1 dd_D0 p1_D0 p2_D0 p3_D0 dd_D1 p1_D1 p2_D1 p3_D1 gg_G0 q1_G0 q2_G0 gg_G1 q1_G1 q2_G1 G) {n : Nat} (hn : n ≤ 600) : tkT ft n = tkT (fun j => G (10 + j)) n := tkT_cg (fun j hj => (h.1.2.2.2.2 j (by omega)).1)
theorem zAI_at {f : Nat → Int32} (h : zAI f) : zIn6 (f 4) := (zAI_0 h).1
theorem zM_feed {ln : Int32} {fl : Int32} {pl : Int32} {ft : Nat → Int32} {fk : Nat → Int32} {cr_L0 : Int32} {inn_L0 : Int32} {k1_L0 : Nat → Int32} {k2_L0 : Nat → Int32} {k3_L0 : Nat → Int32} {k4_L0 : Nat → Int32} {cr_L1 : Int32} {inn_L1 : Int32} {k1_L1 : Nat → Int32} {k2_L1 : Nat → Int32} {k3_L1 : Nat → Int32} {k4_L1 : Nat → Int32} {dd_D0 : Int32} {p1_D0 : Nat → Int32} {p2_D0 : Nat → Int32} {p3_D0 : Nat → Int32} {dd_D1 : Int32} {p1_D1 : Nat → Int32} {p2_D1 : Nat → Int32} {p3_D1 : Nat → Int32} {gg_G0 : Int32} {q1_G0 : Nat → Int32} {q2_G0 : Nat → Int32} {gg_G1 : Int32} {q1_G1 : Nat → Int32} {q2_G1 : Nat → Int32} {p : Nat} {a b c d e u r r' : Int32} {g g' f : Nat → Int32} (hT : zTR ln fl pl ft fk cr_L0 inn_L0 k1_L0 k2_L0 k3_L0 k4_L0 cr_L1 inn_L1 k1_L1 k2_L1 k3_L1 k4_L1 dd_D0 p1_D0 p2_D0 p3_D0 dd_D1 p1_D1 p2_D1 p3_D1 gg_G0 q1_G0 q2_G0 gg_G1 q1_G1 q2_G1 f) (hA : zAI f) (hp : ln = nI p) (hp6 : p ≤ 600) (F1 : 580 < p ∧ r = -1 ∧ u = nI p ∧ g' = ft ∨ p ≤ 580 ∧ r = nI (p + 20) ∧ u = nI (p + 20) ∧ g' = zFeedC p a b c d e ft) (F2 : 580 < p ∧ r' = -1 ∧ g = f ∨ p ≤ 580 ∧ r' = nI (p + 20) ∧ zFeedR p a b c d e f g) : r = r' ∧ zAI g ∧ zTR u fl pl g' fk cr_L0 inn_L0 k1_L0 k2_L0 k3_L0 k4_L0 cr_L1 inn_L1 k1_L1 k2_L1 k3_L1 k4_L1 dd_D0 p1_D0 p2_D0 p3_D0 dd_D1 p1_D1 p2_D1 p3_D1 gg_G0 q1_G0 q2_G0 gg_G1 q1_G1 q2_G1 g ∧ ∀ j, 988 ≤ j → g j = f j := by
  rcases F1 with ⟨x1, x2, x3, x4⟩ | ⟨x1, x2, x3, x4⟩ <;> rcases F2 with ⟨y1, y2, y3⟩ | ⟨y1, y2, y3⟩
  · subst x4
    subst y3
    exact ⟨x2.trans y2.symm, hA, by rw [x3, ← hp]; exact hT, fun _ _ => rfl⟩
  · omega
  · omega
  · obtain ⟨z1, z2, z3⟩ := y3
    obtain ⟨⟨a1, a2, a3, a4, a5⟩, h1, h2, h3, h4, h5, h6⟩ := hT
    have ho : ∀ j, (j < 10 ∨ 610 ≤ j) → ¬ j = 4 → g j = f j := fun j q1 q2 => z3 j (by omega) q2
    have e4 : (nI (p + 20)).toInt = ((p + 20 : Nat) : Int) := nI_toInt (by omega)
    refine ⟨x2.trans y2.symm, zAI_low hA (zBI_fd (zAI_0 hA) (by rw [z1]; exact ⟨by omega, by omega⟩) ho) (fun j hj => ho j (by omega) (by omega)), ⟨⟨x3.trans z1.symm, a2.trans (ho _ (by omega) (by omega)).symm, a3.trans (ho _ (by omega) (by omega)).symm, fun j hj => (a4 j hj).trans (ho _ (by omega) (by omega)).symm, fun j hj => ?_⟩, zLnd_cg h1 (fun j hj => ho _ (by omega) (by omega)), zLnd_cg h2 (fun j hj => ho _ (by omega) (by omega)), zDyd_cg h3 (fun j hj => ho _ (by omega) (by omega)), zDyd_cg h4 (fun j hj => ho _ (by omega) (by omega)), zLgd_cg h5 (fun j hj => ho _ (by omega) (by omega)), zLgd_cg h6 (fun j hj => ho _ (by omega) (by omega))⟩, fun j hj => ho j (by omega) (by omega)⟩
    rw [x4]
    by_cases q : p ≤ j ∧ j < p + 20
    · have e1 := zFeed_be (p := p) (i := j - p) (a := a) (b := b) (c := c) (d := d) (e := e) (f := ft) (by omega)
      have e2 := z2 (j - p) (by omega)
      rw [show p + (j - p) = j by omega] at e1 e2
      rw [e1, e2]
      exact ⟨zBe_b _, by rw [Int8.toInt8_toInt32]⟩
    · rw [zFeedC_o (by omega), z3 _ (by omega) (by omega)]
      exact a5 j hj
theorem zM_end {ln : Int32} {fl : Int32} {pl : Int32} {ft : Nat → Int32} {fk : Nat → Int32} {cr_L0 : Int32} {inn_L0 : Int32} {k1_L0 : Nat → Int32} {k2_L0 : Nat → Int32} {k3_L0 : Nat → Int32} {k4_L0 : Nat → Int32} {cr_L1 : Int32} {inn_L1 : Int32} {k1_L1 : Nat → Int32} {k2_L1 : Nat → Int32} {k3_L1 : Nat → Int32} {k4_L1 : Nat → Int32} {dd_D0 : Int32} {p1_D0 : Nat → Int32} {p2_D0 : Nat → Int32} {p3_D0 : Nat → Int32} {dd_D1 : Int32} {p1_D1 : Nat → Int32} {p2_D1 : Nat → Int32} {p3_D1 : Nat → Int32} {gg_G0 : Int32} {q1_G0 : Nat → Int32} {q2_G0 : Nat → Int32} {gg_G1 : Int32} {q1_G1 : Nat → Int32} {q2_G1 : Nat → Int32} {u n r r' : Int32} {g f : Nat → Int32} (hT : zTR ln fl pl ft fk cr_L0 inn_L0 k1_L0 k2_L0 k3_L0 k4_L0 cr_L1 inn_L1 k1_L1 k2_L1 k3_L1 k4_L1 dd_D0 p1_D0 p2_D0 p3_D0 dd_D1 p1_D1 p2_D1 p3_D1 gg_G0 q1_G0 q2_G0 gg_G1 q1_G1 q2_G1 f) (hA : zAI f) (F1 : (n.toInt < 0 ∨ ln.toInt < n.toInt) ∧ r.toInt = -1 ∧ u = ln ∨ (0 ≤ n.toInt ∧ n.toInt ≤ ln.toInt) ∧ u = n ∧ r = n) (F2 : (n.toInt < 0 ∨ (f 4).toInt < n.toInt) ∧ r'.toInt = -1 ∧ g = f ∨ (0 ≤ n.toInt ∧ n.toInt ≤ (f 4).toInt) ∧ g = upd f 4 n ∧ r' = n) : r = r' ∧ zAI g ∧ zTR u fl pl ft fk cr_L0 inn_L0 k1_L0 k2_L0 k3_L0 k4_L0 cr_L1 inn_L1 k1_L1 k2_L1 k3_L1 k4_L1 dd_D0 p1_D0 p2_D0 p3_D0 dd_D1 p1_D1 p2_D1 p3_D1 gg_G0 q1_G0 q2_G0 gg_G1 q1_G1 q2_G1 g ∧ ∀ j, 988 ≤ j → g j = f j := by
  have b := zAI_at hA
  have e4 : ln = f 4 := hT.1.1
  have e4i : ln.toInt = (f 4).toInt := by rw [e4]
  rcases F1 with ⟨x1, x2, x3⟩ | ⟨x1, x2, x3⟩ <;> rcases F2 with ⟨y1, y2, y3⟩ | ⟨y1, y2, y3⟩
  · subst y3
    exact ⟨Int32.toInt_inj.mp (by omega), hA, by rw [x3]; exact hT, fun _ _ => rfl⟩
  · omega
  · omega
  · obtain ⟨⟨a1, a2, a3, a4, a5⟩, h1, h2, h3, h4, h5, h6⟩ := hT
    have ho : ∀ j, ¬ j = 4 → g j = f j := fun j q => by rw [y2]; exact z_ne q
    have k4 : g 4 = n := by rw [y2]; exact z_eq rfl
    exact ⟨x3.trans y3.symm, zAI_low hA (zBI_fd (zAI_0 hA) (by rw [k4]; exact ⟨by omega, by omega⟩) (fun j _ q => ho j q)) (fun j hj => ho j (by omega)), ⟨⟨x2.trans k4.symm, a2.trans (ho _ (by omega)).symm, a3.trans (ho _ (by omega)).symm, fun j hj => (a4 j hj).trans (ho _ (by omega)).symm, fun j hj => by rw [ho _ (by omega)]; exact a5 j hj⟩, zLnd_cg h1 (fun j hj => ho _ (by omega)), zLnd_cg h2 (fun j hj => ho _ (by omega)), zDyd_cg h3 (fun j hj => ho _ (by omega)), zDyd_cg h4 (fun j hj => ho _ (by omega)), zLgd_cg h5 (fun j hj => ho _ (by omega)), zLgd_cg h6 (fun j hj => ho _ (by omega))⟩, fun j hj => ho j (by omega)⟩
theorem zText_u {z : pS × (Nat → Int32)} {s : Nat} {at_ r r' : Int32} {f G G' : Nat → Int32} (h : zText z s at_ f G r) (h' : zText z s at_ f G' r') : r = r' ∧ ∀ j, j < 988 → G' j = G j := by
  rcases h with ⟨a1, a2, a3⟩ | ⟨a1, a0, a2, a3⟩ | ⟨a1, a0, a2, a3⟩ <;> rcases h' with ⟨b1, b2, b3⟩ | ⟨b1, b0, b2, b3⟩ | ⟨b1, b0, b2, b3⟩
  · exact ⟨a2.trans b2.symm, fun j hj => (b3 j hj).trans (a3 j hj).symm⟩
  · exact absurd b1 a1
  · exact absurd b1 a1
  · exact absurd a1 b1
  · exact ⟨a2.trans b2.symm, fun j hj => (b3 j hj).trans (a3 j hj).symm⟩
  · exact absurd b0 a0
  · exact absurd a1 b1
  · exact absurd a0 b0
  · exact ⟨a2.trans b2.symm, fun j hj => (b3 j hj).trans (a3 j hj).symm⟩
theorem zM_text {ln : Int32} {fl : Int32} {pl : Int32} {ft : Nat → Int32} {fk : Nat → Int32} {cr_L0 : Int32} {inn_L0 : Int32} {k1_L0 : Nat → Int32} {k2_L0 : Nat → Int32} {k3_L0 : Nat → Int32} {k4_L0 : Nat → Int32} {cr_L1 : Int32} {inn_L1 : Int32} {k1_L1 : Nat → Int32} {k2_L1 : Nat → Int32} {k3_L1 : Nat → Int32} {k4_L1 : Nat → Int32} {dd_D0 : Int32} {p1_D0 : Nat → Int32} {p2_D0 : Nat → Int32} {p3_D0 : Nat → Int32} {dd_D1 : Int32} {p1_D1 : Nat → Int32} {p2_D1 : Nat → Int32} {p3_D1 : Nat → Int32} {gg_G0 : Int32} {q1_G0 : Nat → Int32} {q2_G0 : Nat → Int32} {gg_G1 : Int32} {q1_G1 : Nat → Int32} {q2_G1 : Nat → Int32} {z : pS × (Nat → Int32)} {s : Nat} {at_ r r' : Int32} {g f : Nat → Int32} (hA : zAI f) (F1 : ∃ G2, zText z s at_ f G2 r ∧ zTR ln fl pl ft fk cr_L0 inn_L0 k1_L0 k2_L0 k3_L0 k4_L0 cr_L1 inn_L1 k1_L1 k2_L1 k3_L1 k4_L1 dd_D0 p1_D0 p2_D0 p3_D0 dd_D1 p1_D1 p2_D1 p3_D1 gg_G0 q1_G0 q2_G0 gg_G1 q1_G1 q2_G1 G2) (F2 : zText z s at_ f g r') (T0 : zBI g) (T2 : ∀ j, 988 ≤ j → g j = f j) : r = r' ∧ zAI g ∧ zTR ln fl pl ft fk cr_L0 inn_L0 k1_L0 k2_L0 k3_L0 k4_L0 cr_L1 inn_L1 k1_L1 k2_L1 k3_L1 k4_L1 dd_D0 p1_D0 p2_D0 p3_D0 dd_D1 p1_D1 p2_D1 p3_D1 gg_G0 q1_G0 q2_G0 gg_G1 q1_G1 q2_G1 g ∧ ∀ j, 988 ≤ j → g j = f j := by
  obtain ⟨G2, x1, x2⟩ := F1
  have q := zText_u x1 F2
  exact ⟨q.1, zAI_low hA T0 T2, zTR_cg x2 q.2, T2⟩
theorem zM_textN {ln : Int32} {fl : Int32} {pl : Int32} {ft : Nat → Int32} {fk : Nat → Int32} {cr_L0 : Int32} {inn_L0 : Int32} {k1_L0 : Nat → Int32} {k2_L0 : Nat → Int32} {k3_L0 : Nat → Int32} {k4_L0 : Nat → Int32} {cr_L1 : Int32} {inn_L1 : Int32} {k1_L1 : Nat → Int32} {k2_L1 : Nat → Int32} {k3_L1 : Nat → Int32} {k4_L1 : Nat → Int32} {dd_D0 : Int32} {p1_D0 : Nat → Int32} {p2_D0 : Nat → Int32} {p3_D0 : Nat → Int32} {dd_D1 : Int32} {p1_D1 : Nat → Int32} {p2_D1 : Nat → Int32} {p3_D1 : Nat → Int32} {gg_G0 : Int32} {q1_G0 : Nat → Int32} {q2_G0 : Nat → Int32} {gg_G1 : Int32} {q1_G1 : Nat → Int32} {q2_G1 : Nat → Int32} {g f : Nat → Int32} (hT : zTR ln fl pl ft fk cr_L0 inn_L0 k1_L0 k2_L0 k3_L0 k4_L0 cr_L1 inn_L1 k1_L1 k2_L1 k3_L1 k4_L1 dd_D0 p1_D0 p2_D0 p3_D0 dd_D1 p1_D1 p2_D1 p3_D1 gg_G0 q1_G0 q2_G0 gg_G1 q1_G1 q2_G1 f) (hA : zAI f) (hg : g = upd (upd (upd f 4 0) 5 0) 6 (-1)) : zAI g ∧ zTR 0 0 (-1) ft fk cr_L0 inn_L0 k1_L0 k2_L0 k3_L0 k4_L0 cr_L1 inn_L1 k1_L1 k2_L1 k3_L1 k4_L1 dd_D0 p1_D0 p2_D0 p3_D0 dd_D1 p1_D1 p2_D1 p3_D1 gg_G0 q1_G0 q2_G0 gg_G1 q1_G1 q2_G1 g ∧ ∀ j, 988 ≤ j → g j = f j := by
  have ho : ∀ j, 7 ≤ j → g j = f j := fun j q => by rw [hg, z_ne (by omega), z_ne (by omega), z_ne (by omega)]
  refine ⟨zAI_low hA (zBI_hd (zAI_0 hA) (by rw [hg]; rfl) (fun q hq => ?_) ho) (fun j hj => ho j (by omega)), by rw [hg]; exact zTR_hd hT, fun j hj => ho j (by omega)⟩
  rw [hg, z_ne (by omega), z_ne (by omega), z_ne (by omega)]
  exact (zAI_0 hA).2.1 q hq
theorem zM_keep {ln : Int32} {fl : Int32} {pl : Int32} {ft : Nat → Int32} {fk : Nat → Int32} {cr_L0 : Int32} {inn_L0 : Int32} {k1_L0 : Nat → Int32} {k2_L0 : Nat → Int32} {k3_L0 : Nat → Int32} {k4_L0 : Nat → Int32} {cr_L1 : Int32} {inn_L1 : Int32} {k1_L1 : Nat → Int32} {k2_L1 : Nat → Int32} {k3_L1 : Nat → Int32} {k4_L1 : Nat → Int32} {dd_D0 : Int32} {p1_D0 : Nat → Int32} {p2_D0 : Nat → Int32} {p3_D0 : Nat → Int32} {dd_D1 : Int32} {p1_D1 : Nat → Int32} {p2_D1 : Nat → Int32} {p3_D1 : Nat → Int32} {gg_G0 : Int32} {q1_G0 : Nat → Int32} {q2_G0 : Nat → Int32} {gg_G1 : Int32} {q1_G1 : Nat → Int32} {q2_G1 : Nat → Int32} {c : Prop} {b : Nat} {g f : Nat → Int32} (h : c → zTR ln fl pl ft fk cr_L0 inn_L0 k1_L0 k2_L0 k3_L0 k4_L0 cr_L1 inn_L1 k1_L1 k2_L1 k3_L1 k4_L1 dd_D0 p1_D0 p2_D0 p3_D0 dd_D1 p1_D1 p2_D1 p3_D1 gg_G0 q1_G0 q2_G0 gg_G1 q1_G1 q2_G1 (fun j => f (b + j))) (hb : 988 ≤ b) (T2 : ∀ j, 988 ≤ j → g j = f j) : c → zTR ln fl pl ft fk cr_L0 inn_L0 k1_L0 k2_L0 k3_L0 k4_L0 cr_L1 inn_L1 k1_L1 k2_L1 k3_L1 k4_L1 dd_D0 p1_D0 p2_D0 p3_D0 dd_D1 p1_D1 p2_D1 p3_D1 gg_G0 q1_G0 q2_G0 gg_G1 q1_G1 q2_G1 (fun j => g (b + j)) := fun z => zTR_cg (h z) (fun j _ => T2 _ (by omega))
theorem zAI_img {f g : Nat → Int32} {k : Nat} (hk : k < 3) (hA : zAI f) (c1 : ∀ j, j < 988 → g (988 * (k + 1) + j) = f j) (c2 : ∀ j, (j < 988 * (k + 1) ∨ 988 * (k + 1) + 988 ≤ j) → g j = f j) : zAI g := by
  intro i hi
  by_cases e : i = k + 1
  · subst e
    exact zBI_cg c1 (zAI_0 hA)
  · have : i < k + 1 ∨ k + 1 < i := by omega
    exact zBI_cg (fun j hj => c2 _ (by omega)) (hA i hi)
theorem zM_low {ln : Int32} {fl : Int32} {pl : Int32} {ft : Nat → Int32} {fk : Nat → Int32} {cr_L0 : Int32} {inn_L0 : Int32} {k1_L0 : Nat → Int32} {k2_L0 : Nat → Int32} {k3_L0 : Nat → Int32} {k4_L0 : Nat → Int32} {cr_L1 : Int32} {inn_L1 : Int32} {k1_L1 : Nat → Int32} {k2_L1 : Nat → Int32} {k3_L1 : Nat → Int32} {k4_L1 : Nat → Int32} {dd_D0 : Int32} {p1_D0 : Nat → Int32} {p2_D0 : Nat → Int32} {p3_D0 : Nat → Int32} {dd_D1 : Int32} {p1_D1 : Nat → Int32} {p2_D1 : Nat → Int32} {p3_D1 : Nat → Int32} {gg_G0 : Int32} {q1_G0 : Nat → Int32} {q2_G0 : Nat → Int32} {gg_G1 : Int32} {q1_G1 : Nat → Int32} {q2_G1 : Nat → Int32} {g f : Nat → Int32} (h : zTR ln fl pl ft fk cr_L0 inn_L0 k1_L0 k2_L0 k3_L0 k4_L0 cr_L1 inn_L1 k1_L1 k2_L1 k3_L1 k4_L1 dd_D0 p1_D0 p2_D0 p3_D0 dd_D1 p1_D1 p2_D1 p3_D1 gg_G0 q1_G0 q2_G0 gg_G1 q1_G1 q2_G1 f) (c : ∀ j, j < 988 → g j = f j) : zTR ln fl pl ft fk cr_L0 inn_L0 k1_L0 k2_L0 k3_L0 k4_L0 cr_L1 inn_L1 k1_L1 k2_L1 k3_L1 k4_L1 dd_D0 p1_D0 p2_D0 p3_D0 dd_D1 p1_D1 p2_D1 p3_D1 gg_G0 q1_G0 q2_G0 gg_G1 q1_G1 q2_G1 g := zTR_cg h c
theorem zM_imk {ln : Int32} {fl : Int32} {pl : Int32} {ft : Nat → Int32} {fk : Nat → Int32} {cr_L0 : Int32} {inn_L0 : Int32} {k1_L0 : Nat → Int32} {k2_L0 : Nat → Int32} {k3_L0 : Nat → Int32} {k4_L0 : Nat → Int32} {cr_L1 : Int32} {inn_L1 : Int32} {k1_L1 : Nat → Int32} {k2_L1 : Nat → Int32} {k3_L1 : Nat → Int32} {k4_L1 : Nat → Int32} {dd_D0 : Int32} {p1_D0 : Nat → Int32} {p2_D0 : Nat → Int32} {p3_D0 : Nat → Int32} {dd_D1 : Int32} {p1_D1 : Nat → Int32} {p2_D1 : Nat → Int32} {p3_D1 : Nat → Int32} {gg_G0 : Int32} {q1_G0 : Nat → Int32} {q2_G0 : Nat → Int32} {gg_G1 : Int32} {q1_G1 : Nat → Int32} {q2_G1 : Nat → Int32} {fm f g : Nat → Int32} {k b : Nat} (h : zTR ln fl pl ft fk cr_L0 inn_L0 k1_L0 k2_L0 k3_L0 k4_L0 cr_L1 inn_L1 k1_L1 k2_L1 k3_L1 k4_L1 dd_D0 p1_D0 p2_D0 p3_D0 dd_D1 p1_D1 p2_D1 p3_D1 gg_G0 q1_G0 q2_G0 gg_G1 q1_G1 q2_G1 f) (c1 : ∀ j, j < 988 → g (b + j) = f j) : ¬ upd fm k 1 k = 0 → zTR ln fl pl ft fk cr_L0 inn_L0 k1_L0 k2_L0 k3_L0 k4_L0 cr_L1 inn_L1 k1_L1 k2_L1 k3_L1 k4_L1 dd_D0 p1_D0 p2_D0 p3_D0 dd_D1 p1_D1 p2_D1 p3_D1 gg_G0 q1_G0 q2_G0 gg_G1 q1_G1 q2_G1 (fun j => g (b + j)) := fun _ => zTR_cg h c1
theorem zM_imo {ln : Int32} {fl : Int32} {pl : Int32} {ft : Nat → Int32} {fk : Nat → Int32} {cr_L0 : Int32} {inn_L0 : Int32} {k1_L0 : Nat → Int32} {k2_L0 : Nat → Int32} {k3_L0 : Nat → Int32} {k4_L0 : Nat → Int32} {cr_L1 : Int32} {inn_L1 : Int32} {k1_L1 : Nat → Int32} {k2_L1 : Nat → Int32} {k3_L1 : Nat → Int32} {k4_L1 : Nat → Int32} {dd_D0 : Int32} {p1_D0 : Nat → Int32} {p2_D0 : Nat → Int32} {p3_D0 : Nat → Int32} {dd_D1 : Int32} {p1_D1 : Nat → Int32} {p2_D1 : Nat → Int32} {p3_D1 : Nat → Int32} {gg_G0 : Int32} {q1_G0 : Nat → Int32} {q2_G0 : Nat → Int32} {gg_G1 : Int32} {q1_G1 : Nat → Int32} {q2_G1 : Nat → Int32} {fm f g : Nat → Int32} {i k b : Nat} (hik : ¬ i = k) (h : ¬ fm i = 0 → zTR ln fl pl ft fk cr_L0 inn_L0 k1_L0 k2_L0 k3_L0 k4_L0 cr_L1 inn_L1 k1_L1 k2_L1 k3_L1 k4_L1 dd_D0 p1_D0 p2_D0 p3_D0 dd_D1 p1_D1 p2_D1 p3_D1 gg_G0 q1_G0 q2_G0 gg_G1 q1_G1 q2_G1 (fun j => f (b + j))) (c2 : ∀ j, j < 988 → g (b + j) = f (b + j)) : ¬ upd fm k 1 i = 0 → zTR ln fl pl ft fk cr_L0 inn_L0 k1_L0 k2_L0 k3_L0 k4_L0 cr_L1 inn_L1 k1_L1 k2_L1 k3_L1 k4_L1 dd_D0 p1_D0 p2_D0 p3_D0 dd_D1 p1_D1 p2_D1 p3_D1 gg_G0 q1_G0 q2_G0 gg_G1 q1_G1 q2_G1 (fun j => g (b + j)) := fun z => zTR_cg (h (by rw [z_ne hik] at z; exact z)) c2
theorem zM_again {ln : Int32} {fl : Int32} {pl : Int32} {ft : Nat → Int32} {fk : Nat → Int32} {cr_L0 : Int32} {inn_L0 : Int32} {k1_L0 : Nat → Int32} {k2_L0 : Nat → Int32} {k3_L0 : Nat → Int32} {k4_L0 : Nat → Int32} {cr_L1 : Int32} {inn_L1 : Int32} {k1_L1 : Nat → Int32} {k2_L1 : Nat → Int32} {k3_L1 : Nat → Int32} {k4_L1 : Nat → Int32} {dd_D0 : Int32} {p1_D0 : Nat → Int32} {p2_D0 : Nat → Int32} {p3_D0 : Nat → Int32} {dd_D1 : Int32} {p1_D1 : Nat → Int32} {p2_D1 : Nat → Int32} {p3_D1 : Nat → Int32} {gg_G0 : Int32} {q1_G0 : Nat → Int32} {q2_G0 : Nat → Int32} {gg_G1 : Int32} {q1_G1 : Nat → Int32} {q2_G1 : Nat → Int32} {K b : Nat} {x r r' : Int32} {fm fh f g : Nat → Int32} (hA : zAI f) (hH : fm K = 0 ↔ fh K = 0) (hx : x.toInt = (K : Int)) (hK : K < 3) (hb : b = 988 * (K + 1)) (F1 : fm K = 0 ∧ r = 0 ∧ zTR ln fl pl ft fk cr_L0 inn_L0 k1_L0 k2_L0 k3_L0 k4_L0 cr_L1 inn_L1 k1_L1 k2_L1 k3_L1 k4_L1 dd_D0 p1_D0 p2_D0 p3_D0 dd_D1 p1_D1 p2_D1 p3_D1 gg_G0 q1_G0 q2_G0 gg_G1 q1_G1 q2_G1 f ∨ ¬ fm K = 0 ∧ r = 1 ∧ zTR ln fl pl ft fk cr_L0 inn_L0 k1_L0 k2_L0 k3_L0 k4_L0 cr_L1 inn_L1 k1_L1 k2_L1 k3_L1 k4_L1 dd_D0 p1_D0 p2_D0 p3_D0 dd_D1 p1_D1 p2_D1 p3_D1 gg_G0 q1_G0 q2_G0 gg_G1 q1_G1 q2_G1 (fun j => f (b + j))) (F2 : r' = 0 ∧ (x.toInt < 0 ∨ 3 ≤ x.toInt ∨ fh x.toNatClampNeg = 0) ∧ g = f ∨ r' = 1 ∧ (0 ≤ x.toInt ∧ x.toInt < 3) ∧ ¬ fh x.toNatClampNeg = 0 ∧ (∀ j, j < 988 → g j = f (988 * (x.toNatClampNeg + 1) + j)) ∧ ∀ j, 988 ≤ j → g j = f j) : r = r' ∧ zAI g ∧ zTR ln fl pl ft fk cr_L0 inn_L0 k1_L0 k2_L0 k3_L0 k4_L0 cr_L1 inn_L1 k1_L1 k2_L1 k3_L1 k4_L1 dd_D0 p1_D0 p2_D0 p3_D0 dd_D1 p1_D1 p2_D1 p3_D1 gg_G0 q1_G0 q2_G0 gg_G1 q1_G1 q2_G1 g ∧ ∀ j, 988 ≤ j → g j = f j := by
  subst hb
  have e : x.toNatClampNeg = K := by have := z_clI (x := x) (by omega); omega
  rw [e] at F2
  rcases F1 with ⟨a1, a2, a3⟩ | ⟨a1, a2, a3⟩ <;> rcases F2 with ⟨b1, b2, b3⟩ | ⟨b1, b2, b3, b4, b5⟩
  · exact ⟨a2.trans b1.symm, by rw [b3]; exact hA, by rw [b3]; exact a3, fun j _ => by rw [b3]⟩
  · exact absurd (hH.mp a1) b3
  · rcases b2 with q | q | q
    · omega
    · omega
    · exact absurd (hH.mpr q) a1
  · exact ⟨a2.trans b1.symm, zAI_low hA (zBI_cg b4 (hA (K + 1) (by omega))) b5, zTR_cg a3 b4, b5⟩
theorem zM_imr {K : Nat} {x r' : Int32} {fh gh f g : Nat → Int32} (hx : x.toInt = (K : Int)) (hK : K < 3) (F2 : r' = 0 ∧ (x.toInt < 0 ∨ 3 ≤ x.toInt) ∧ g = f ∧ gh = fh ∨ r' = 1 ∧ (0 ≤ x.toInt ∧ x.toInt < 3) ∧ (∀ j, j < 988 → g (988 * (x.toNatClampNeg + 1) + j) = f j) ∧ (∀ j, (j < 988 * (x.toNatClampNeg + 1) ∨ 988 * (x.toNatClampNeg + 1) + 988 ≤ j) → g j = f j) ∧ gh = upd fh x.toNatClampNeg 1) : r' = 1 ∧ (∀ j, j < 988 → g (988 * (K + 1) + j) = f j) ∧ (∀ j, (j < 988 * (K + 1) ∨ 988 * (K + 1) + 988 ≤ j) → g j = f j) ∧ gh = upd fh K 1 := by
  have e : x.toNatClampNeg = K := by have := z_clI (x := x) (by omega); omega
  rw [e] at F2
  rcases F2 with ⟨a, b, -⟩ | ⟨a, -, b, c, d⟩
  · omega
  · exact ⟨a, b, c, d⟩
theorem zM_imN {x r' : Int32} {fh gh f g : Nat → Int32} (hx : x.toInt < 0 ∨ 2 < x.toInt) (F2 : r' = 0 ∧ (x.toInt < 0 ∨ 3 ≤ x.toInt) ∧ g = f ∧ gh = fh ∨ r' = 1 ∧ (0 ≤ x.toInt ∧ x.toInt < 3) ∧ (∀ j, j < 988 → g (988 * (x.toNatClampNeg + 1) + j) = f j) ∧ (∀ j, (j < 988 * (x.toNatClampNeg + 1) ∨ 988 * (x.toNatClampNeg + 1) + 988 ≤ j) → g j = f j) ∧ gh = upd fh x.toNatClampNeg 1) : (0 : Int32) = r' ∧ g = f ∧ gh = fh := by
  rcases F2 with ⟨a, -, b, c⟩ | ⟨-, b, -⟩
  · exact ⟨a.symm, b, c⟩
  · omega
theorem zM_agN {x r' : Int32} {fh f g : Nat → Int32} (hx : x.toInt < 0 ∨ 2 < x.toInt) (F2 : r' = 0 ∧ (x.toInt < 0 ∨ 3 ≤ x.toInt ∨ fh x.toNatClampNeg = 0) ∧ g = f ∨ r' = 1 ∧ (0 ≤ x.toInt ∧ x.toInt < 3) ∧ ¬ fh x.toNatClampNeg = 0 ∧ (∀ j, j < 988 → g j = f (988 * (x.toNatClampNeg + 1) + j)) ∧ ∀ j, 988 ≤ j → g j = f j) : (0 : Int32) = r' ∧ g = f := by
  rcases F2 with ⟨a, -, b⟩ | ⟨-, b, -⟩
  · exact ⟨a.symm, b⟩
  · omega
set_option maxHeartbeats 4000000 in
set_option maxRecDepth 100000 in
/-- c_f_textN -/
theorem c_f_textN (l : Launch) (T : zTy) (xo : Nat) (t : Nat) (im : Nat) (mk : Nat) (rd : Nat) (po : Nat) (co : Nat) (tr : Nat) (wa : Nat) (wb_ : Nat) (fi : Nat) (cd : Nat) (l0 : Nat) (l1 : Nat) (d0 : Nat) (d1 : Nat) (g0 : Nat) (g1 : Nat) (ln : Int32) (fl : Int32) (pl : Int32) (ft : Nat → Int32) (fk : Nat → Int32) (wt : va_W) (i1 : Int32) (at_ : Int32) (ht : bTold T t l0 l1 d0 d1 g0 g1 ln fl pl ft fk wt) (hK : zKT fk) (hso : i1.toInt < 0 ∨ 2 < i1.toInt) : zMi l T yX11_text cX11_text 5 (some .int) 9 0 0 [.ref xo, .int i1, .int at_] [[(xo, .inr (10, [.ref t, .ref im, .ref mk, .ref rd, .ref po, .ref co, .ref tr, .ref wa, .ref wb_, .ref fi, .ref cd]))], wt] (fun (r : Int32) bs => ∃ (wt_2 : va_W), bs = [[(xo, .inr (10, [.ref t, .ref im, .ref mk, .ref rd, .ref po, .ref co, .ref tr, .ref wa, .ref wb_, .ref fi, .ref cd]))], wt_2] ∧ bTold T t l0 l1 d0 d1 g0 g1 0 0 (-1) ft fk wt_2 ∧ r = -2) := by
  refine zMi_of (own := RX11) (by decide) rfl (Nat.le_of_ble_eq_true rfl) ?_
  intro p e s m args below meth c A ls C hr hlocks hnm hAe G hl
  have hx := C.1
  have hb := C.2.1
  have hl : lv_has ls 5 [(0, .ref xo), (1, .int i1), (2, .int at_)] := hl
  refine lv_aload_n hx hb dX11_text_0 rfl (lv_at hl 0 rfl) ?_
  refine z_get C G clX11 0 rfl 0 (by decide) m_fl_RX11_10 rfl dX11_text_1 ?_
  refine lv_iload_n hx hb dX11_text_4 rfl (lv_at hl 1 rfl) ?_
  refine lv_iload_n hx hb dX11_text_5 rfl (lv_at hl 2 rfl) ?_
  refine z_Vi (bc := [wt]) (br := [[(xo, .inr (10, [.ref t, .ref im, .ref mk, .ref rd, .ref po, .ref co, .ref tr, .ref wa, .ref wb_, .ref fi, .ref cd]))]]) (As := [.int i1, .int at_]) (rest := []) C G (c_placeFor l T t l0 l1 d0 d1 g0 g1 ln fl pl ft fk wt i1 at_ ht (by first | with_reducible assumption | with_reducible rfl | omega | assumption | rfl)) (kV_RX11_81 C.2.2.2.2 (Nat.le_of_ble_eq_true rfl) (Nat.le_of_ble_eq_true rfl)) [1] [0] rfl rfl (ci := 8) (qc := (RX9, TX9, 8)) rfl rfl (List.mem_flatten.mpr ⟨_, List.mem_of_getElem? (i := 0) rfl, (bTold_mem ht).choose_spec⟩) rfl rfl hl.1 dX11_text_6 (Nat.le_of_ble_eq_true rfl) (Nat.le_of_ble_eq_true rfl) (fun r_2 b1 H locs hw G => ?_)
  obtain ⟨rfl, h_1⟩ := hw
  have G : zS T A s.heap s [[(xo, .inr (10, [.ref t, .ref im, .ref mk, .ref rd, .ref po, .ref co, .ref tr, .ref wa, .ref wb_, .ref fi, .ref cd]))], wt] _ _ := G
  have hr9 : r_2.toInt = -2 := by have := h_1; omega
  refine lv_istore_n (lv' := [(3, .int r_2), (0, .ref xo), (1, .int i1), (2, .int at_)]) hx hb dX11_text_9 rfl hl (by decide) rfl (fun ls hl => ?_)
  refine lv_aload_n hx hb dX11_text_10 rfl (lv_at hl 1 rfl) ?_
  refine z_get C G clX11 0 rfl 0 (by decide) m_fl_RX11_10 rfl dX11_text_11 ?_
  obtain ⟨a1_3, a2_4, a3_5, a4_6, a5_7, q1_8, q2_9, q3_10, rfl, h_11, h_12, h_13, h_14, h_15, h_16⟩ := ht
  have G : zS T A s.heap s [[(xo, .inr (10, [.ref t, .ref im, .ref mk, .ref rd, .ref po, .ref co, .ref tr, .ref wa, .ref wb_, .ref fi, .ref cd]))], [(t, .inr (8, [.ref a1_3, .int ln, .int fl, .int pl, .ref a2_4, .ref a3_5, .ref a4_6, .ref a5_7]))], [(a1_3, .inl (T.2 1, 600, .inl ft))], [(a2_4, .inl (T.2 0, 3, .inl fk))], [(a3_5, .inl (T.2 3, 2, .inr (.inr (.inr (.inr q1_8)))))], [(a4_6, .inl (T.2 4, 2, .inr (.inr (.inr (.inr q2_9)))))], [(a5_7, .inl (T.2 5, 2, .inr (.inr (.inr (.inr q3_10)))))]] _ _ := G.re rfl
  refine z_get C G clX9 1 rfl 1 (by decide) m_fl_RX11_73 rfl dX11_text_14 ?_
  refine lv_istore (lv' := [(4, .int ln), (3, .int r_2), (0, .ref xo), (1, .int i1), (2, .int at_)]) hx hb dX11_text_17 hl (by decide) rfl (fun ls hl => ?_)
  refine lv_aload_n hx hb dX11_text_19 rfl (lv_at hl 2 rfl) ?_
  refine z_get C G clX11 0 rfl 0 (by decide) m_fl_RX11_10 rfl dX11_text_20 ?_
  refine lv_iconst (v := 0) hx hb dX11_text_23 (by decide) ?_
  refine z_put C G clX9 1 rfl 1 (by decide) m_fl_RX11_73 rfl rfl rfl (Nat.le_of_ble_eq_true rfl) dX11_text_24 (fun H locs G => ?_)
  have G : zS T A s.heap s [[(xo, .inr (10, [.ref t, .ref im, .ref mk, .ref rd, .ref po, .ref co, .ref tr, .ref wa, .ref wb_, .ref fi, .ref cd]))], [(t, .inr (8, [.ref a1_3, .int 0, .int fl, .int pl, .ref a2_4, .ref a3_5, .ref a4_6, .ref a5_7]))], [(a1_3, .inl (T.2 1, 600, .inl ft))], [(a2_4, .inl (T.2 0, 3, .inl fk))], [(a3_5, .inl (T.2 3, 2, .inr (.inr (.inr (.inr q1_8)))))], [(a4_6, .inl (T.2 4, 2, .inr (.inr (.inr (.inr q2_9)))))], [(a5_7, .inl (T.2 5, 2, .inr (.inr (.inr (.inr q3_10)))))]] _ _ := G
  refine lv_aload_n hx hb dX11_text_27 rfl (lv_at hl 2 rfl) ?_
  refine z_get C G clX11 0 rfl 0 (by decide) m_fl_RX11_10 rfl dX11_text_28 ?_
  refine lv_iconst (v := 0) hx hb dX11_text_31 (by decide) ?_
  refine z_put C G clX9 1 rfl 2 (by decide) m_fl_RX11_85 rfl rfl rfl (Nat.le_of_ble_eq_true rfl) dX11_text_32 (fun H locs G => ?_)
  have G : zS T A s.heap s [[(xo, .inr (10, [.ref t, .ref im, .ref mk, .ref rd, .ref po, .ref co, .ref tr, .ref wa, .ref wb_, .ref fi, .ref cd]))], [(t, .inr (8, [.ref a1_3, .int 0, .int 0, .int pl, .ref a2_4, .ref a3_5, .ref a4_6, .ref a5_7]))], [(a1_3, .inl (T.2 1, 600, .inl ft))], [(a2_4, .inl (T.2 0, 3, .inl fk))], [(a3_5, .inl (T.2 3, 2, .inr (.inr (.inr (.inr q1_8)))))], [(a4_6, .inl (T.2 4, 2, .inr (.inr (.inr (.inr q2_9)))))], [(a5_7, .inl (T.2 5, 2, .inr (.inr (.inr (.inr q3_10)))))]] _ _ := G
  refine lv_aload_n hx hb dX11_text_35 rfl (lv_at hl 2 rfl) ?_
  refine z_get C G clX11 0 rfl 0 (by decide) m_fl_RX11_10 rfl dX11_text_36 ?_
  refine lv_iconst (v := (-1)) hx hb dX11_text_39 (by decide) ?_
  refine z_put C G clX9 1 rfl 3 (by decide) m_fl_RX11_88 rfl rfl rfl (Nat.le_of_ble_eq_true rfl) dX11_text_40 (fun H locs G => ?_)
  have G : zS T A s.heap s [[(xo, .inr (10, [.ref t, .ref im, .ref mk, .ref rd, .ref po, .ref co, .ref tr, .ref wa, .ref wb_, .ref fi, .ref cd]))], [(t, .inr (8, [.ref a1_3, .int 0, .int 0, .int (-1), .ref a2_4, .ref a3_5, .ref a4_6, .ref a5_7]))], [(a1_3, .inl (T.2 1, 600, .inl ft))], [(a2_4, .inl (T.2 0, 3, .inl fk))], [(a3_5, .inl (T.2 3, 2, .inr (.inr (.inr (.inr q1_8)))))], [(a4_6, .inl (T.2 4, 2, .inr (.inr (.inr (.inr q2_9)))))], [(a5_7, .inl (T.2 5, 2, .inr (.inr (.inr (.inr q3_10)))))]] _ _ := G
  refine lv_iload_n hx hb dX11_text_43 rfl (lv_at hl 1 rfl) ?_
  refine lv_bipush (v := (-2)) hx hb dX11_text_44 (by decide) ?_
  refine lv_icmp_ne (tgt := 52) hx hb dX11_text_46 (by decide) (fun q => absurd ((fa_eq r_2 ((-2) : Int32)).mpr (by show r_2.toInt = (-2 : Int); omega)) q) (fun _ => ?_)
  refine lv_bipush (v := (-2)) hx hb dX11_text_49 (by decide) ?_
  have hw_17 : bTold T t l0 l1 d0 d1 g0 g1 0 0 (-1) ft fk [(t, .inr (8, [.ref a1_3, .int 0, .int 0, .int (-1), .ref a2_4, .ref a3_5, .ref a4_6, .ref a5_7])), (a1_3, .inl (T.2 1, 600, .inl ft)), (a2_4, .inl (T.2 0, 3, .inl fk)), (a3_5, .inl (T.2 3, 2, .inr (.inr (.inr (.inr q1_8))))), (a4_6, .inl (T.2 4, 2, .inr (.inr (.inr (.inr q2_9))))), (a5_7, .inl (T.2 5, 2, .inr (.inr (.inr (.inr q3_10)))))] := ⟨a1_3, a2_4, a3_5, a4_6, a5_7, q1_8, q2_9, q3_10, rfl, h_11, h_12, h_13, h_14, h_15, h_16⟩
  have G : zS T A s.heap s [[(xo, .inr (10, [.ref t, .ref im, .ref mk, .ref rd, .ref po, .ref co, .ref tr, .ref wa, .ref wb_, .ref fi, .ref cd]))], [(t, .inr (8, [.ref a1_3, .int 0, .int 0, .int (-1), .ref a2_4, .ref a3_5, .ref a4_6, .ref a5_7])), (a1_3, .inl (T.2 1, 600, .inl ft)), (a2_4, .inl (T.2 0, 3, .inl fk)), (a3_5, .inl (T.2 3, 2, .inr (.inr (.inr (.inr q1_8))))), (a4_6, .inl (T.2 4, 2, .inr (.inr (.inr (.inr q2_9))))), (a5_7, .inl (T.2 5, 2, .inr (.inr (.inr (.inr q3_10)))))]] _ _ := G.re rfl
  exact z_iret C hr hlocks G (Nat.le_of_ble_eq_true rfl) (Nat.le_of_ble_eq_true rfl) dX11_text_51 ⟨([(t, .inr (8, [.ref a1_3, .int 0, .int 0, .int (-1), .ref a2_4, .ref a3_5, .ref a4_6, .ref a5_7])), (a1_3, .inl (T.2 1, 600, .inl ft)), (a2_4, .inl (T.2 0, 3, .inl fk)), (a3_5, .inl (T.2 3, 2, .inr (.inr (.inr (.inr q1_8))))), (a4_6, .inl (T.2 4, 2, .inr (.inr (.inr (.inr q2_9))))), (a5_7, .inl (T.2 5, 2, .inr (.inr (.inr (.inr q3_10)))))]), rfl, hw_17, rfl⟩
set_option maxHeartbeats 4000000 in
set_option maxRecDepth 100000 in
/-- c_fm_textN -/
theorem c_fm_textN (l : Launch) (T : zTy) (mo : Nat) (m_all : Nat) (m_has : Nat) (i_size : Int32) (i_next : Int32) (i_where : Int32) (i_token : Int32) (i_number : Int32) (i_word : Int32) (i_wrong : Int32) (i_farCrossing : Int32) (m_read : Nat) (i_z0 : Int32) (i_crossings : Int32) (i_inns : Int32) (m_posts : Nat) (m_shut : Nat) (m_here : Nat) (i_steps : Int32) (i_done : Int32) (i_at : Int32) (i_gone : Int32) (m_was : Nat) (m_came : Nat) (m_seenAt : Nat) (m_rowWorth : Nat) (m_farBy : Nat) (m_used : Nat) (i_everywhere : Int32) (i_again0 : Int32) (i_d0 : Int32) (i_never : Int32) (i_firstCame : Int32) (i_longRun : Int32) (i_moved : Int32) (i_crowd : Int32) (i_l0 : Int32) (i_fitMany : Int32) (i_fitLeast : Int32) (i_fitMost : Int32) (m_fitPost : Nat) (m_fitEnd : Nat) (m_keptPosts : Nat) (i_x0 : Int32) (f_all : Nat → Int32) (f_read : Nat → Int32) (so_ : Int32) (at_ : Int32) (hso : so_.toInt < 0 ∨ 2 < so_.toInt) : zMi l T yX12_text cX12_text 5 (some .int) 9 0 0 [.ref mo, .int so_, .int at_] [[(mo, .inr (11, [.ref m_all, .ref m_has, .int i_size, .int i_next, .int i_where, .int i_token, .int i_number, .int i_word, .int i_wrong, .int i_farCrossing, .ref m_read, .int i_z0, .int i_crossings, .int i_inns, .ref m_posts, .ref m_shut, .ref m_here, .int i_steps, .int i_done, .int i_at, .int i_gone, .ref m_was, .ref m_came, .ref m_seenAt, .ref m_rowWorth, .ref m_farBy, .ref m_used, .int i_everywhere, .int i_again0, .int i_d0, .int i_never, .int i_firstCame, .int i_longRun, .int i_moved, .int i_crowd, .int i_l0, .int i_fitMany, .int i_fitLeast, .int i_fitMost, .ref m_fitPost, .ref m_fitEnd, .ref m_keptPosts, .int i_x0]))], [(m_all, .inl (T.2 0, 3952, .inl f_all))], [(m_read, .inl (T.2 0, 121, .inl f_read))]] (fun (r : Int32) bs => ∃ (j_size : Int32) (g_all : Nat → Int32), bs = [[(mo, .inr (11, [.ref m_all, .ref m_has, .int j_size, .int i_next, .int i_where, .int i_token, .int i_number, .int i_word, .int i_wrong, .int i_farCrossing, .ref m_read, .int i_z0, .int i_crossings, .int i_inns, .ref m_posts, .ref m_shut, .ref m_here, .int i_steps, .int i_done, .int i_at, .int i_gone, .ref m_was, .ref m_came, .ref m_seenAt, .ref m_rowWorth, .ref m_farBy, .ref m_used, .int i_everywhere, .int i_again0, .int i_d0, .int i_never, .int i_firstCame, .int i_longRun, .int i_moved, .int i_crowd, .int i_l0, .int i_fitMany, .int i_fitLeast, .int i_fitMost, .ref m_fitPost, .ref m_fitEnd, .ref m_keptPosts, .int i_x0]))], [(m_all, .inl (T.2 0, 3952, .inl g_all))], [(m_read, .inl (T.2 0, 121, .inl f_read))]] ∧ r = -2 ∧ g_all = upd (upd (upd f_all 4 0) 5 0) 6 (-1)) := by
  refine zMi_of (own := RX12) (by decide) rfl (Nat.le_of_ble_eq_true rfl) ?_
  intro p e s m args below meth c A ls C hr hlocks hnm hAe G hl
  have hx := C.1
  have hb := C.2.1
  have hl : lv_has ls 5 [(0, .ref mo), (1, .int so_), (2, .int at_)] := hl
  refine lv_aload_n hx hb dX12_text_0 rfl (lv_at hl 0 rfl) ?_
  refine lv_aload_n hx hb dX12_text_1 rfl (lv_at hl 0 rfl) ?_
  refine z_get C G clX12 0 rfl 0 (by decide) m_fl_RX12_7 rfl dX12_text_2 ?_
  refine lv_iconst (v := 4) hx hb dX12_text_5 (by decide) ?_
  refine z_ild C G 1 rfl (vp_in_nI (n := 4) (by decide) (by decide)) dX12_text_6 ?_
  refine lv_topi (fun v_1 ev_1 => ?_)
  rw [show ((4 : Int32).toNatClampNeg) = 4 from rfl] at ev_1
  subst ev_1
  refine z_put C G clX12 0 rfl 2 (by decide) m_fl_RX12_56 rfl rfl rfl (Nat.le_of_ble_eq_true rfl) dX12_text_7 (fun H locs G => ?_)
  have G : zS T A s.heap s [[(mo, .inr (11, [.ref m_all, .ref m_has, .int (f_all 4), .int i_next, .int i_where, .int i_token, .int i_number, .int i_word, .int i_wrong, .int i_farCrossing, .ref m_read, .int i_z0, .int i_crossings, .int i_inns, .ref m_posts, .ref m_shut, .ref m_here, .int i_steps, .int i_done, .int i_at, .int i_gone, .ref m_was, .ref m_came, .ref m_seenAt, .ref m_rowWorth, .ref m_farBy, .ref m_used, .int i_everywhere, .int i_again0, .int i_d0, .int i_never, .int i_firstCame, .int i_longRun, .int i_moved, .int i_crowd, .int i_l0, .int i_fitMany, .int i_fitLeast, .int i_fitMost, .ref m_fitPost, .ref m_fitEnd, .ref m_keptPosts, .int i_x0]))], [(m_all, .inl (T.2 0, 3952, .inl f_all))], [(m_read, .inl (T.2 0, 121, .inl f_read))]] _ _ := G
  refine lv_aload_n hx hb dX12_text_10 rfl (lv_at hl 0 rfl) ?_
  refine z_get C G clX12 0 rfl 0 (by decide) m_fl_RX12_7 rfl dX12_text_11 ?_
  refine lv_iconst (v := 4) hx hb dX12_text_14 (by decide) ?_
  refine lv_iconst (v := 0) hx hb dX12_text_15 (by decide) ?_
  refine z_ist C G 1 rfl (vp_in_nI (n := 4) (by decide) (by decide)) dX12_text_16 (fun H locs G => ?_)
  have G : zS T A s.heap s [[(mo, .inr (11, [.ref m_all, .ref m_has, .int (f_all 4), .int i_next, .int i_where, .int i_token, .int i_number, .int i_word, .int i_wrong, .int i_farCrossing, .ref m_read, .int i_z0, .int i_crossings, .int i_inns, .ref m_posts, .ref m_shut, .ref m_here, .int i_steps, .int i_done, .int i_at, .int i_gone, .ref m_was, .ref m_came, .ref m_seenAt, .ref m_rowWorth, .ref m_farBy, .ref m_used, .int i_everywhere, .int i_again0, .int i_d0, .int i_never, .int i_firstCame, .int i_longRun, .int i_moved, .int i_crowd, .int i_l0, .int i_fitMany, .int i_fitLeast, .int i_fitMost, .ref m_fitPost, .ref m_fitEnd, .ref m_keptPosts, .int i_x0]))], [(m_all, .inl (T.2 0, 3952, .inl (upd f_all 4 0)))], [(m_read, .inl (T.2 0, 121, .inl f_read))]] _ _ := G
  refine lv_aload_n hx hb dX12_text_17 rfl (lv_at hl 0 rfl) ?_
  refine z_get C G clX12 0 rfl 0 (by decide) m_fl_RX12_7 rfl dX12_text_18 ?_
  refine lv_iconst (v := 5) hx hb dX12_text_21 (by decide) ?_
  refine lv_iconst (v := 0) hx hb dX12_text_22 (by decide) ?_
  refine z_ist C G 1 rfl (vp_in_nI (n := 5) (by decide) (by decide)) dX12_text_23 (fun H locs G => ?_)
  have G : zS T A s.heap s [[(mo, .inr (11, [.ref m_all, .ref m_has, .int (f_all 4), .int i_next, .int i_where, .int i_token, .int i_number, .int i_word, .int i_wrong, .int i_farCrossing, .ref m_read, .int i_z0, .int i_crossings, .int i_inns, .ref m_posts, .ref m_shut, .ref m_here, .int i_steps, .int i_done, .int i_at, .int i_gone, .ref m_was, .ref m_came, .ref m_seenAt, .ref m_rowWorth, .ref m_farBy, .ref m_used, .int i_everywhere, .int i_again0, .int i_d0, .int i_never, .int i_firstCame, .int i_longRun, .int i_moved, .int i_crowd, .int i_l0, .int i_fitMany, .int i_fitLeast, .int i_fitMost, .ref m_fitPost, .ref m_fitEnd, .ref m_keptPosts, .int i_x0]))], [(m_all, .inl (T.2 0, 3952, .inl (upd (upd f_all 4 0) 5 0)))], [(m_read, .inl (T.2 0, 121, .inl f_read))]] _ _ := G
  refine lv_aload_n hx hb dX12_text_24 rfl (lv_at hl 0 rfl) ?_
  refine z_get C G clX12 0 rfl 0 (by decide) m_fl_RX12_7 rfl dX12_text_25 ?_
  refine lv_bipush (v := 6) hx hb dX12_text_28 (by decide) ?_
  refine lv_iconst (v := (-1)) hx hb dX12_text_30 (by decide) ?_
  refine z_ist C G 1 rfl (vp_in_nI (n := 6) (by decide) (by decide)) dX12_text_31 (fun H locs G => ?_)
  have G : zS T A s.heap s [[(mo, .inr (11, [.ref m_all, .ref m_has, .int (f_all 4), .int i_next, .int i_where, .int i_token, .int i_number, .int i_word, .int i_wrong, .int i_farCrossing, .ref m_read, .int i_z0, .int i_crossings, .int i_inns, .ref m_posts, .ref m_shut, .ref m_here, .int i_steps, .int i_done, .int i_at, .int i_gone, .ref m_was, .ref m_came, .ref m_seenAt, .ref m_rowWorth, .ref m_farBy, .ref m_used, .int i_everywhere, .int i_again0, .int i_d0, .int i_never, .int i_firstCame, .int i_longRun, .int i_moved, .int i_crowd, .int i_l0, .int i_fitMany, .int i_fitLeast, .int i_fitMost, .ref m_fitPost, .ref m_fitEnd, .ref m_keptPosts, .int i_x0]))], [(m_all, .inl (T.2 0, 3952, .inl (upd (upd (upd f_all 4 0) 5 0) 6 (-1))))], [(m_read, .inl (T.2 0, 121, .inl f_read))]] _ _ := G
  refine lv_iload_n hx hb dX12_text_32 rfl (lv_at hl 1 rfl) ?_
  refine lv_iconst (v := 0) hx hb dX12_text_33 (by decide) ?_
  refine lv_iconst (v := 2) hx hb dX12_text_34 (by decide) ?_
  refine z_Si (bc := []) (br := [[(mo, .inr (11, [.ref m_all, .ref m_has, .int (f_all 4), .int i_next, .int i_where, .int i_token, .int i_number, .int i_word, .int i_wrong, .int i_farCrossing, .ref m_read, .int i_z0, .int i_crossings, .int i_inns, .ref m_posts, .ref m_shut, .ref m_here, .int i_steps, .int i_done, .int i_at, .int i_gone, .ref m_was, .ref m_came, .ref m_seenAt, .ref m_rowWorth, .ref m_farBy, .ref m_used, .int i_everywhere, .int i_again0, .int i_d0, .int i_never, .int i_firstCame, .int i_longRun, .int i_moved, .int i_crowd, .int i_l0, .int i_fitMany, .int i_fitLeast, .int i_fitMost, .ref m_fitPost, .ref m_fitEnd, .ref m_keptPosts, .int i_x0]))], [(m_all, .inl (T.2 0, 3952, .inl (upd (upd (upd f_all 4 0) 5 0) 6 (-1))))], [(m_read, .inl (T.2 0, 121, .inl f_read))]]) (As := [.int so_, .int 0, .int 2]) (rest := []) C G (c_m_isIn l T so_ 0 2) (kS_RX12_111 C.2.2.2.2 (Nat.le_of_ble_eq_true rfl) (Nat.le_of_ble_eq_true rfl)) [] [0, 1, 2] rfl rfl rfl rfl hl.1 dX12_text_35 (Nat.le_of_ble_eq_true rfl) (Nat.le_of_ble_eq_true rfl) (fun r_3 b1 H locs hw G => ?_)
  obtain ⟨rfl, hc_2⟩ := hw
  have G : zS T A s.heap s [[(mo, .inr (11, [.ref m_all, .ref m_has, .int (f_all 4), .int i_next, .int i_where, .int i_token, .int i_number, .int i_word, .int i_wrong, .int i_farCrossing, .ref m_read, .int i_z0, .int i_crossings, .int i_inns, .ref m_posts, .ref m_shut, .ref m_here, .int i_steps, .int i_done, .int i_at, .int i_gone, .ref m_was, .ref m_came, .ref m_seenAt, .ref m_rowWorth, .ref m_farBy, .ref m_used, .int i_everywhere, .int i_again0, .int i_d0, .int i_never, .int i_firstCame, .int i_longRun, .int i_moved, .int i_crowd, .int i_l0, .int i_fitMany, .int i_fitLeast, .int i_fitMost, .ref m_fitPost, .ref m_fitEnd, .ref m_keptPosts, .int i_x0]))], [(m_all, .inl (T.2 0, 3952, .inl (upd (upd (upd f_all 4 0) 5 0) 6 (-1))))], [(m_read, .inl (T.2 0, 121, .inl f_read))]] _ _ := G
  rcases hc_2 with ⟨rfl, h_4, h_5⟩ | ⟨rfl, h_6⟩
  · have h_4 : (0 : Int) ≤ so_.toInt := h_4
    have h_5 : so_.toInt ≤ (2 : Int) := h_5
    refine lv_if_eq (tgt := 68) hx hb dX12_text_38 (by decide) (fun q => absurd q (by decide)) (fun _ => ?_)
    exact absurd (show (0 : Int) = 1 by omega) (by decide)
  · have h_6 : (so_.toInt < (0 : Int) ∨ (2 : Int) < so_.toInt) := h_6
    refine lv_if_eq (tgt := 68) hx hb dX12_text_38 (by decide) (fun _ => ?_) (fun q => absurd (by decide) q)
    refine lv_bipush (v := (-2)) hx hb dX12_text_68 (by decide) ?_
    exact z_iret C hr hlocks G (Nat.le_of_ble_eq_true rfl) (Nat.le_of_ble_eq_true rfl) dX12_text_70 ⟨(f_all 4), (upd (upd (upd f_all 4 0) 5 0) 6 (-1)), rfl, rfl, rfl⟩

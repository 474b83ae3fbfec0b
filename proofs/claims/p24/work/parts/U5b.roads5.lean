theorem own0 : decide (¬ (0 : Int32) = 0) = false := by decide
theorem own1 : decide (¬ (1 : Int32) = 0) = true := by decide
theorem rClf {W L g : Nat → Int32} {cr u : Int32} {i : Nat} (hO : rOk W L cr.toInt.toNat) (hg : ∀ a b : Nat, (a : Int) < cr.toInt → b < 7 → g (7 * a + b) = rFar W L cr.toInt.toNat a b) (hi : (i : Int) < cr.toInt) (h : rOb (fun b => ¬ g (7 * i + b) = -1 ∧ ¬ g (7 * b + i) = -1) cr.toInt.toNat u) : u = rCl W L cr.toInt.toNat i := by
  have m7 := hO.1
  refine rCk_u m7 h (fun b hb => ?_)
  rw [hg i b hi (by omega), hg b i (by omega) (by omega), rFar_n hO (by omega) (by omega), rFar_n hO hb (by omega), Bool.and_eq_true]
  exact and_congr (by rw [Bool.not_eq_false]) (by rw [Bool.not_eq_false])
theorem rMo_y {W L : Nat → Int32} {m n : Nat} {v b b1 : Int32} (hv : v = rMo W L m n) (hb : b = zBs (rCl W L m n) 12) (h1 : b1 = zBs (rCl W L m n) 12) (h : v < b1) : b = rMo W L m (n + 1) := by
  rw [hb]
  exact (if_pos (by rw [← hv, ← h1]; exact h)).symm
theorem rMo_n {W L : Nat → Int32} {m n : Nat} {v b1 : Int32} (hv : v = rMo W L m n) (h1 : b1 = zBs (rCl W L m n) 12) (h : ¬ v < b1) : v = rMo W L m (n + 1) := by
  rw [hv]
  exact (if_neg (by rw [← hv, ← h1]; exact h)).symm
theorem rLd_y {L : Nat → Int32} {u v x c : Int32} {own : Bool} {i k : Nat} (hv : v = u + nI (if own = true ∨ ¬ nI i = c then rHr L i c k else 0)) (hx : x = L (4 * i + k)) (h : x = c) (ho : own = true ∨ ¬ nI i = c) : v + 1 = u + nI (if own = true ∨ ¬ nI i = c then rHr L i c (k + 1) else 0) := by
  rw [if_pos ho] at hv ⊢
  rw [hv, Int32.add_assoc]
  exact congrArg (fun q => u + q) ((rHr_s (u := nI (rHr L i c k)) rfl hx).1 h)
theorem rLd_n {L : Nat → Int32} {u v x c : Int32} {own : Bool} {i k : Nat} (hv : v = u + nI (if own = true ∨ ¬ nI i = c then rHr L i c k else 0)) (hx : x = L (4 * i + k)) (h : ¬ x = c ∨ ¬ (own = true ∨ ¬ nI i = c)) : v + 0 = u + nI (if own = true ∨ ¬ nI i = c then rHr L i c (k + 1) else 0) := by
  by_cases ho : own = true ∨ ¬ nI i = c
  · rw [if_pos ho] at hv ⊢
    rw [hv, Int32.add_assoc]
    exact congrArg (fun q => u + q) ((rHr_s (u := nI (rHr L i c k)) rfl hx).2 (h.resolve_right (fun z => z ho)))
  · rw [if_neg ho] at hv ⊢
    rw [hv, Int32.add_zero]
theorem rHt_s {W L : Nat → Int32} {u v c : Int32} {own : Bool} {i k : Nat} (hu : u = nI (rHt W L c own i)) (hv : v = u + nI (if own = true ∨ ¬ nI i = c then rHr L i c k else 0)) (hk : k = (W i).toInt.toNat) : v = nI (rHt W L c own (i + 1)) := by
  rw [hv, hu, nI_add, hk]
  rfl
/-- of one kind -/
def rKd (W L : Nat → Int32) (m : Nat) (inn w : Int32) (c : Nat) : Prop := (w.toInt = 2 ∧ rHt W L (nI c) false m = 0) ∨ (w.toInt = 3 ∧ (W c = 0 ∧ ¬ zBit inn (nI c) = 1)) ∨ (¬ w.toInt = 2 ∧ ¬ w.toInt = 3 ∧ nI (rHt W L (nI c) true m) = W c)
theorem rKd_2 {W L : Nat → Int32} {m : Nat} {inn w u : Int32} (hm : m ≤ 7) (hw : w.toInt = 2) (h : rOb (rKd W L m inn w) m u) : u = rHd W L m := rCk_u hm h (fun b hb => by
  rw [decide_eq_true_eq]
  exact ⟨fun q => by rcases q with q | q | q <;> first | exact q.2 | (exfalso; omega), fun q => Or.inl ⟨hw, q⟩⟩)
theorem rKd_3 {W L : Nat → Int32} {m : Nat} {inn w u : Int32} (hm : m ≤ 7) (hw : w.toInt = 3) (h : rOb (rKd W L m inn w) m u) : u = rEn W inn m := rCk_u hm h (fun b hb => by
  rw [decide_eq_true_eq]
  exact ⟨fun q => by rcases q with q | q | q <;> first | exact q.2 | (exfalso; omega), fun q => Or.inr (Or.inl ⟨hw, q⟩)⟩)
theorem rKd_6 {W L : Nat → Int32} {m : Nat} {inn w u : Int32} (hm : m ≤ 7) (h2 : ¬ w.toInt = 2) (h3 : ¬ w.toInt = 3) (h : rOb (rKd W L m inn w) m u) : u = rEv W L m := rCk_u hm h (fun b hb => by
  rw [decide_eq_true_eq]
  exact ⟨fun q => by rcases q with q | q | q <;> first | exact q.2.2 | (exfalso; omega), fun q => Or.inr (Or.inr ⟨h2, h3, q⟩)⟩)
theorem zWo_r {f : Nat → Int32} {z n : Int32} {i : Nat} (hi : i < 1000) (q : ¬ zBit n (nI i) = 1) : zWo f z n i = zRd f z (nI i) := by
  have e : zWo f z n i = zRo f z i := if_neg q
  rw [e]
  unfold zRd zRo
  rw [nI_n9 (by omega)]
/-- loops or couples -/
theorem rQ_a {L : Nat → Int32} {u v w x : Int32} {i k : Nat} (hv : v = u + nI (if w = 0 then rHr L i (nI i) k else rDr L i k)) (hx : x = L (4 * i + k)) : (w = 0 → x = nI i → v + 1 = u + nI (if w = 0 then rHr L i (nI i) (k + 1) else rDr L i k + rPr L i k 0)) ∧ (w = 0 → ¬ x = nI i → v + 0 = u + nI (if w = 0 then rHr L i (nI i) (k + 1) else rDr L i k + rPr L i k 0)) ∧ (¬ w = 0 → v + 0 = u + nI (if w = 0 then rHr L i (nI i) (k + 1) else rDr L i k + rPr L i k 0)) := by
  refine ⟨fun a b => ?_, fun a b => ?_, fun a => ?_⟩
  · rw [if_pos a] at hv ⊢
    rw [hv, Int32.add_assoc]
    exact congrArg (fun q => u + q) ((rHr_s (u := nI (rHr L i (nI i) k)) rfl hx).1 b)
  · rw [if_pos a] at hv ⊢
    rw [hv, Int32.add_assoc]
    exact congrArg (fun q => u + q) ((rHr_s (u := nI (rHr L i (nI i) k)) rfl hx).2 b)
  · rw [if_neg a] at hv ⊢
    rw [hv, Int32.add_zero]
    rfl
theorem rQ_b {L : Nat → Int32} {u v w x y : Int32} {i k t : Nat} (hv : v = u + nI (if w = 0 then rHr L i (nI i) (k + 1) else rDr L i k + rPr L i k t)) (hx : x = L (4 * i + k)) (hy : y = L (4 * i + t)) : (¬ w = 0 → x = y → v + 1 = u + nI (if w = 0 then rHr L i (nI i) (k + 1) else rDr L i k + rPr L i k (t + 1))) ∧ (¬ w = 0 → ¬ x = y → v + 0 = u + nI (if w = 0 then rHr L i (nI i) (k + 1) else rDr L i k + rPr L i k (t + 1))) ∧ (w = 0 → v + 0 = u + nI (if w = 0 then rHr L i (nI i) (k + 1) else rDr L i k + rPr L i k (t + 1))) := by
  refine ⟨fun a b => ?_, fun a b => ?_, fun a => ?_⟩
  · have e : rPr L i k (t + 1) = rPr L i k t + 1 := by
      show rPr L i k t + (if L (4 * i + k) = L (4 * i + t) then 1 else 0) = _
      rw [if_pos (by rw [← hx, ← hy]; exact b)]
    rw [if_neg a] at hv ⊢
    rw [hv, e, Int32.add_assoc]
    exact congrArg (fun q => u + q) (nI_add _ 1)
  · have e : rPr L i k (t + 1) = rPr L i k t := by
      show rPr L i k t + (if L (4 * i + k) = L (4 * i + t) then 1 else 0) = _
      rw [if_neg (by rw [← hx, ← hy]; exact b), Nat.add_zero]
    rw [if_neg a] at hv ⊢
    rw [hv, e, Int32.add_zero]
  · rw [if_pos a] at hv ⊢
    rw [hv, Int32.add_zero]
theorem rQ_c {L : Nat → Int32} {u v w : Int32} {i k t : Nat} (hv : v = u + nI (if w = 0 then rHr L i (nI i) (k + 1) else rDr L i k + rPr L i k t)) (ht : t = k) : v = u + nI (if w = 0 then rHr L i (nI i) (k + 1) else rDr L i (k + 1)) := by
  rw [hv, ht]
  rfl
theorem rQ_d {W L : Nat → Int32} {u v w : Int32} {i k : Nat} (hu : u = if w = 0 then rLo W L i else rDo W L i) (hv : v = u + nI (if w = 0 then rHr L i (nI i) k else rDr L i k)) (hk : k = (W i).toInt.toNat) : v = if w = 0 then rLo W L (i + 1) else rDo W L (i + 1) := by
  rw [hv, hu, hk]
  by_cases q : w = 0
  · rw [if_pos q, if_pos q, if_pos q]
    rfl
  · rw [if_neg q, if_neg q, if_neg q]
    rfl
theorem rQ_0 {L : Nat → Int32} {u w : Int32} {i : Nat} : u = u + nI (if w = 0 then rHr L i (nI i) 0 else rDr L i 0) := by
  by_cases q : w = 0
  · rw [if_pos q]
    exact (Int32.add_zero _).symm
  · rw [if_neg q]
    exact (Int32.add_zero _).symm
theorem rLd_0 {L : Nat → Int32} {u c : Int32} {own : Bool} {i : Nat} : u = u + nI (if own = true ∨ ¬ nI i = c then rHr L i c 0 else 0) := by
  by_cases q : own = true ∨ ¬ nI i = c
  · rw [if_pos q]
    exact (Int32.add_zero _).symm
  · rw [if_neg q]
    exact (Int32.add_zero _).symm
theorem rBu_s {g : Nat → Nat} {i : Nat} {u x y : Int32} (hg : ∀ c, g c < 1000) (hi : 1 ≤ i) (hu : u = nI (rBu g i)) (hx : x = nI (g i)) (hy : y = nI (g (rBu g i))) : (y < x → nI i = nI (rBu g (i + 1))) ∧ (¬ y < x → u = nI (rBu g (i + 1))) := by
  have t := nI_toInt (n := g i) (by have := hg i; omega)
  have t2 := nI_toInt (n := g (rBu g i)) (by have := hg (rBu g i); omega)
  have e : rBu g (i + 1) = if g (rBu g i) < g i then i else rBu g i := if_neg (by omega)
  constructor
  · intro q
    have q := (fa_lt _ _).mp q
    rw [hx, hy, t, t2] at q
    rw [e, if_pos (by omega)]
  · intro q
    have q : ¬ y.toInt < x.toInt := fun z => q ((fa_lt _ _).mpr z)
    rw [hx, hy, t, t2] at q
    rw [e, if_neg (by omega)]
    exact hu
set_option maxHeartbeats 4000000 in
set_option maxRecDepth 100000 in
/-- c_fm_bitsOf -/
theorem c_fm_bitsOf (l : Launch) (T : zTy) (s_ : Int32) : zMi l T yX12_bitsOf cX12_bitsOf 3 (some .int) 1 0 0 [.int s_] [] (fun (r : Int32) bs => bs = [] ∧ r = zBs s_ 12) := by
  refine zMi_of (own := RX12) (by decide) rfl (Nat.le_of_ble_eq_true rfl) ?_
  intro p e s m args below meth c A ls C hr hlocks hnm hAe G hl
  refine zHide (fun Qz_ hQz_ => ?_)
  have hx := C.1
  have hb := C.2.1
  have hl : lv_has ls 3 [(0, .int s_)] := hl
  refine lv_iconst (v := 0) hx hb dX12_bitsOf_0 (by decide) ?_
  refine lv_istore_n (lv' := [(1, .int 0), (0, .int s_)]) hx hb dX12_bitsOf_1 rfl hl (by decide) (zLvf_h rfl) (fun ls hl => ?_)
  refine lv_iconst (v := 0) hx hb dX12_bitsOf_2 (by decide) ?_
  refine lv_istore_n (lv' := [(2, .int 0), (1, .int 0), (0, .int s_)]) hx hb dX12_bitsOf_3 rfl hl (by decide) (zLvf_h rfl) (fun ls hl => ?_)
  refine z_lp2 (T := T) 4 (fun (i : Nat) (u : Int32) => []) (fun (i : Nat) (u : Int32) => [(2, .int (nI i)), (1, .int u), (0, .int s_)]) (fun (i : Nat) (u : Int32) => i ≤ 12 ∧ u = zBs s_ i) (fun (i : Nat) (u : Int32) => 12 - i) ?_ 0 0 (show 0 ≤ 12 ∧ 0 = zBs s_ 0 from ⟨by omega, rfl⟩) G (lv_sub hl [0, 1, 2] rfl)
  intro i u hI9 ih_4 H locs ls G hl
  replace hI9 : i ≤ 12 ∧ u = zBs s_ i := hI9
  refine zAn2 hI9 ?_
  intro hi hu
  clear hI9
  replace G : zS T A s.heap s [] _ _ := G
  replace hl : lv_has ls 3 [(2, .int (nI i)), (1, .int u), (0, .int s_)] := hl
  refine lv_iload_n hx hb dX12_bitsOf_4 rfl (lv_at hl 0 rfl) ?_
  refine lv_bipush (v := 12) hx hb dX12_bitsOf_5 (by decide) ?_
  refine lv_icmp_ge (tgt := 24) hx hb dX12_bitsOf_7 (by decide) (fun c_1 => ?_) (fun c_1 => ?_)
  · have c_1n : 12 ≤ i := (nI_leI (a := 12) (b := i) (by omega) (by omega)).mp c_1
    refine lv_iload_n hx hb dX12_bitsOf_24 rfl (lv_at hl 1 rfl) ?_
    exact z_back hQz_ (z_iret C hr hlocks G (Nat.le_of_ble_eq_true rfl) (Nat.le_of_ble_eq_true rfl) dX12_bitsOf_25 ⟨rfl, (by rw [hu]; exact congrArg (zBs s_) (by omega))⟩)
  · have c_1n : ¬ 12 ≤ i := fun q => c_1 ((nI_leI (a := 12) (b := i) (by omega) (by omega)).mpr q)
    refine lv_iload_n hx hb dX12_bitsOf_10 rfl (lv_at hl 1 rfl) ?_
    refine lv_iload_n hx hb dX12_bitsOf_11 rfl (lv_at hl 2 rfl) ?_
    refine lv_iload_n hx hb dX12_bitsOf_12 rfl (lv_at hl 0 rfl) ?_
    refine lv_ishr hx hb dX12_bitsOf_13 ?_
    refine lv_iconst (v := 1) hx hb dX12_bitsOf_14 (by decide) ?_
    refine lv_iand hx hb dX12_bitsOf_15 ?_
    refine lv_iadd hx hb dX12_bitsOf_16 ?_
    refine lv_istore_n (lv' := [(1, .int (u + ((s_ >>> ((nI i) &&& 31)) &&& 1))), (2, .int (nI i)), (0, .int s_)]) hx hb dX12_bitsOf_17 rfl hl (by decide) (zLvf_h rfl) (fun ls hl => ?_)
    refine lv_iinc (v := nI (i + 1)) (lv' := [(2, .int (nI (i + 1))), (1, .int (u + ((s_ >>> ((nI i) &&& 31)) &&& 1))), (0, .int s_)]) hx hb dX12_bitsOf_18 hl (k := 1) rfl (z_inc i 1) (by decide) (zLvf_h rfl) (fun ls hl => ?_)
    refine lv_goto (tgt := 4) hx hb dX12_bitsOf_21 (by decide) ?_
    exact ih_4 (i + 1) (u + ((s_ >>> ((nI i) &&& 31)) &&& 1)) (show (i + 1) ≤ 12 ∧ (u + ((s_ >>> ((nI i) &&& 31)) &&& 1)) = zBs s_ (i + 1) from ⟨by omega, (by rw [hu]; rfl)⟩) (show 12 - (i + 1) < 12 - i from by omega) _ _ ls G (lv_sub hl [0, 1, 2] rfl)
set_option maxHeartbeats 4000000 in
set_option maxRecDepth 100000 in
/-- c_fm_classOf -/
theorem c_fm_classOf (l : Launch) (T : zTy) (mo : Nat) (m_all : Nat) (m_has : Nat) (i_size : Int32) (i_next : Int32) (i_where : Int32) (i_token : Int32) (i_number : Int32) (i_word : Int32) (i_wrong : Int32) (i_farCrossing : Int32) (m_read : Nat) (i_z0 : Int32) (i_crossings : Int32) (i_inns : Int32) (m_posts : Nat) (m_shut : Nat) (m_here : Nat) (i_steps : Int32) (i_done : Int32) (i_at : Int32) (i_gone : Int32) (m_was : Nat) (m_came : Nat) (m_seenAt : Nat) (m_rowWorth : Nat) (m_farBy : Nat) (m_used : Nat) (i_everywhere : Int32) (i_again0 : Int32) (i_d0 : Int32) (i_never : Int32) (i_firstCame : Int32) (i_longRun : Int32) (i_moved : Int32) (i_crowd : Int32) (i_l0 : Int32) (i_fitMany : Int32) (i_fitLeast : Int32) (i_fitMost : Int32) (m_fitPost : Nat) (m_fitEnd : Nat) (m_keptPosts : Nat) (i_x0 : Int32) (f_farBy : Nat → Int32) (a_ : Int32) (hcr : 0 ≤ i_crossings.toInt ∧ i_crossings.toInt ≤ 7) (ha0 : 0 ≤ a_.toInt) (ha6 : a_.toInt ≤ 6) : zMi l T yX12_classOf cX12_classOf 4 (some .int) 1 0 0 [.ref mo, .int a_] [[zO11 mo m_all m_has i_size i_next i_where i_token i_number i_word i_wrong i_farCrossing m_read i_z0 i_crossings i_inns m_posts m_shut m_here i_steps i_done i_at i_gone m_was m_came m_seenAt m_rowWorth m_farBy m_used i_everywhere i_again0 i_d0 i_never i_firstCame i_longRun i_moved i_crowd i_l0 i_fitMany i_fitLeast i_fitMost m_fitPost m_fitEnd m_keptPosts i_x0], [zAr T 0 m_farBy 49 f_farBy]] (fun (r : Int32) bs => bs = [[zO11 mo m_all m_has i_size i_next i_where i_token i_number i_word i_wrong i_farCrossing m_read i_z0 i_crossings i_inns m_posts m_shut m_here i_steps i_done i_at i_gone m_was m_came m_seenAt m_rowWorth m_farBy m_used i_everywhere i_again0 i_d0 i_never i_firstCame i_longRun i_moved i_crowd i_l0 i_fitMany i_fitLeast i_fitMost m_fitPost m_fitEnd m_keptPosts i_x0], [zAr T 0 m_farBy 49 f_farBy]] ∧ rOb (fun b => ¬ f_farBy (7 * a_.toInt.toNat + b) = -1 ∧ ¬ f_farBy (7 * b + a_.toInt.toNat) = -1) i_crossings.toInt.toNat r) := by
  refine zMi_of (own := RX12) (by decide) rfl (Nat.le_of_ble_eq_true rfl) ?_
  intro p e s m args below meth c A ls C hr hlocks hnm hAe G hl
  refine zHide (fun Qz_ hQz_ => ?_)
  have hx := C.1
  have hb := C.2.1
  have hl : lv_has ls 4 [(0, .ref mo), (1, .int a_)] := hl
  refine lv_iconst (v := 0) hx hb dX12_classOf_0 (by decide) ?_
  refine lv_istore_n (lv' := [(2, .int 0), (0, .ref mo), (1, .int a_)]) hx hb dX12_classOf_1 rfl hl (by decide) (zLvf_h rfl) (fun ls hl => ?_)
  refine lv_iconst (v := 0) hx hb dX12_classOf_2 (by decide) ?_
  refine lv_istore_n (lv' := [(3, .int 0), (2, .int 0), (0, .ref mo), (1, .int a_)]) hx hb dX12_classOf_3 rfl hl (by decide) (zLvf_h rfl) (fun ls hl => ?_)
  refine z_lp2 (T := T) 4 (fun (i : Nat) (u : Int32) => [[zO11 mo m_all m_has i_size i_next i_where i_token i_number i_word i_wrong i_farCrossing m_read i_z0 i_crossings i_inns m_posts m_shut m_here i_steps i_done i_at i_gone m_was m_came m_seenAt m_rowWorth m_farBy m_used i_everywhere i_again0 i_d0 i_never i_firstCame i_longRun i_moved i_crowd i_l0 i_fitMany i_fitLeast i_fitMost m_fitPost m_fitEnd m_keptPosts i_x0], [zAr T 0 m_farBy 49 f_farBy]]) (fun (i : Nat) (u : Int32) => [(3, .int (nI i)), (2, .int u), (0, .ref mo), (1, .int a_)]) (fun (i : Nat) (u : Int32) => i ≤ 7 ∧ (i : Int) ≤ i_crossings.toInt ∧ rOb (fun b => ¬ f_farBy (7 * a_.toInt.toNat + b) = -1 ∧ ¬ f_farBy (7 * b + a_.toInt.toNat) = -1) i u) (fun (i : Nat) (u : Int32) => 7 - i) ?_ 0 0 (show 0 ≤ 7 ∧ (0 : Int) ≤ i_crossings.toInt ∧ rOb (fun b => ¬ f_farBy (7 * a_.toInt.toNat + b) = -1 ∧ ¬ f_farBy (7 * b + a_.toInt.toNat) = -1) 0 0 from ⟨by omega, by omega, rOb_0⟩) G (lv_sub hl [0, 1, 2, 3] rfl)
  intro i u hI9 ih_4 H locs ls G hl
  replace hI9 : i ≤ 7 ∧ (i : Int) ≤ i_crossings.toInt ∧ rOb (fun b => ¬ f_farBy (7 * a_.toInt.toNat + b) = -1 ∧ ¬ f_farBy (7 * b + a_.toInt.toNat) = -1) i u := hI9
  refine zAn3 hI9 ?_
  intro hi hic hu
  clear hI9
  replace G : zS T A s.heap s [[zO11 mo m_all m_has i_size i_next i_where i_token i_number i_word i_wrong i_farCrossing m_read i_z0 i_crossings i_inns m_posts m_shut m_here i_steps i_done i_at i_gone m_was m_came m_seenAt m_rowWorth m_farBy m_used i_everywhere i_again0 i_d0 i_never i_firstCame i_longRun i_moved i_crowd i_l0 i_fitMany i_fitLeast i_fitMost m_fitPost m_fitEnd m_keptPosts i_x0], [zAr T 0 m_farBy 49 f_farBy]] _ _ := G
  replace hl : lv_has ls 4 [(3, .int (nI i)), (2, .int u), (0, .ref mo), (1, .int a_)] := hl
  refine lv_iload_n hx hb dX12_classOf_4 rfl (lv_at hl 0 rfl) ?_
  refine lv_aload_n hx hb dX12_classOf_5 rfl (lv_at hl 2 rfl) ?_
  refine z_get C G clX12 0 rfl 12 (by decide) m_fl_RX12_169 rfl dX12_classOf_6 ?_
  refine lv_icmp_ge (tgt := 58) hx hb dX12_classOf_9 (by decide) (fun c_1 => ?_) (fun c_1 => ?_)
  · have c_1n : i_crossings.toInt ≤ (i : Int) := by have q := (fa_le _ _).mp c_1; rw [nI_toInt (n := i) (by omega)] at q; exact q
    refine lv_iload_n hx hb dX12_classOf_58 rfl (lv_at hl 1 rfl) ?_
    exact z_back hQz_ (z_iret C hr hlocks G (Nat.le_of_ble_eq_true rfl) (Nat.le_of_ble_eq_true rfl) dX12_classOf_59 ⟨rfl, (by rw [show i = i_crossings.toInt.toNat by omega] at hu; exact hu)⟩)
  · have c_1n : ¬ i_crossings.toInt ≤ (i : Int) := fun q => c_1 ((fa_le _ _).mpr (by rw [nI_toInt (n := i) (by omega)]; exact q))
    refine lv_iload_n hx hb dX12_classOf_12 rfl (lv_at hl 1 rfl) ?_
    refine lv_aload_n hx hb dX12_classOf_13 rfl (lv_at hl 2 rfl) ?_
    refine z_get C G clX12 0 rfl 25 (by decide) m_fl_RX12_41 rfl dX12_classOf_14 ?_
    refine lv_bipush (v := 7) hx hb dX12_classOf_17 (by decide) ?_
    refine lv_iload_n hx hb dX12_classOf_19 rfl (lv_at hl 3 rfl) ?_
    refine lv_imul hx hb dX12_classOf_20 ?_
    refine lv_topi (fun y_2 ey_2 => ?_)
    have ey_2i : y_2.toInt = (7 : Int) * a_.toInt := by rw [ey_2]; exact z_imulI (x := (7 : Int32)) (y := a_) (by show -2147483648 ≤ (7 : Int) * a_.toInt; omega) (by show (7 : Int) * a_.toInt < 2147483648; omega)
    refine lv_iload_n hx hb dX12_classOf_21 rfl (lv_at hl 0 rfl) ?_
    refine lv_iadd hx hb dX12_classOf_22 ?_
    refine lv_topi (fun y_3 ey_3 => ?_)
    have ey_3i : y_3.toInt = y_2.toInt + (i : Int) := by rw [ey_3]; exact (z_iaddI (x := y_2) (y := (nI i)) (by rw [nI_toInt (n := i) (by omega)]; show -2147483648 ≤ y_2.toInt + (i : Int); omega) (by rw [nI_toInt (n := i) (by omega)]; show y_2.toInt + (i : Int) < 2147483648; omega)).trans (by rw [nI_toInt (n := i) (by omega)] <;> rfl)
    refine z_ild C G 1 rfl (vp_in_iff.mpr ⟨by omega, by omega⟩) dX12_classOf_23 ?_
    refine lv_topi (fun v_4 ev_4 => ?_)
    subst ev_4
    refine lv_topi (fun y_5 ey_5 => ?_)
    obtain rfl : y_5 = f_farBy (7 * a_.toInt.toNat + i) := ey_5.trans (congrArg f_farBy (by have q1 := z_clI (x := y_3) (by omega); omega))
    refine lv_iconst (v := (-1)) hx hb dX12_classOf_24 (by decide) ?_
    refine lv_icmp_eq (tgt := 49) hx hb dX12_classOf_25 (by decide) (fun c_6 => ?_) (fun c_6 => ?_)
    · have c_6n : (f_farBy (7 * a_.toInt.toNat + i)).toInt = (-1 : Int) := (fa_eq _ _).mp c_6
      refine lv_iconst (v := 0) hx hb dX12_classOf_49 (by decide) ?_
      refine lv_ior hx hb dX12_classOf_50 ?_
      refine lv_istore_n (lv' := [(2, .int (u ||| 0)), (3, .int (nI i)), (0, .ref mo), (1, .int a_)]) hx hb dX12_classOf_51 rfl hl (by decide) (zLvf_h rfl) (fun ls hl => ?_)
      refine lv_iinc (v := nI (i + 1)) (lv' := [(3, .int (nI (i + 1))), (2, .int (u ||| 0)), (0, .ref mo), (1, .int a_)]) hx hb dX12_classOf_52 hl (k := 1) rfl (z_inc i 1) (by decide) (zLvf_h rfl) (fun ls hl => ?_)
      refine lv_goto (tgt := 4) hx hb dX12_classOf_55 (by decide) ?_
      exact ih_4 (i + 1) (u ||| 0) (show (i + 1) ≤ 7 ∧ ((i + 1) : Int) ≤ i_crossings.toInt ∧ rOb (fun b => ¬ f_farBy (7 * a_.toInt.toNat + b) = -1 ∧ ¬ f_farBy (7 * b + a_.toInt.toNat) = -1) (i + 1) (u ||| 0) from ⟨by omega, by omega, (rOb_n hu (fun q8 => by first | exact q8.1 (by first | with_reducible assumption | assumption) | exact q8.2 (by first | with_reducible assumption | assumption)))⟩) (show 7 - (i + 1) < 7 - i from by omega) _ _ ls G (lv_sub hl [0, 1, 2, 3] rfl)
    · have c_6n : ¬ (f_farBy (7 * a_.toInt.toNat + i)).toInt = (-1 : Int) := fun q => c_6 ((fa_eq _ _).mpr q)
      refine lv_aload_n hx hb dX12_classOf_28 rfl (lv_at hl 2 rfl) ?_
      refine z_get C G clX12 0 rfl 25 (by decide) m_fl_RX12_41 rfl dX12_classOf_29 ?_
      refine lv_bipush (v := 7) hx hb dX12_classOf_32 (by decide) ?_
      refine lv_iload_n hx hb dX12_classOf_34 rfl (lv_at hl 0 rfl) ?_
      refine lv_imul hx hb dX12_classOf_35 ?_
      refine lv_topi (fun y_7 ey_7 => ?_)
      obtain rfl : y_7 = nI (7 * i) := ey_7.trans (z_imuln 7 i rfl rfl)
      refine lv_iload_n hx hb dX12_classOf_36 rfl (lv_at hl 3 rfl) ?_
      refine lv_iadd hx hb dX12_classOf_37 ?_
      refine lv_topi (fun y_8 ey_8 => ?_)
      have ey_8i : y_8.toInt = ((7 * i) : Int) + a_.toInt := by rw [ey_8]; exact (z_iaddI (x := (nI (7 * i))) (y := a_) (by rw [nI_toInt (n := 7 * i) (by omega)]; show -2147483648 ≤ ((7 * i) : Int) + a_.toInt; omega) (by rw [nI_toInt (n := 7 * i) (by omega)]; show ((7 * i) : Int) + a_.toInt < 2147483648; omega)).trans (by rw [nI_toInt (n := 7 * i) (by omega)] <;> rfl)
      refine z_ild C G 1 rfl (vp_in_iff.mpr ⟨by omega, by omega⟩) dX12_classOf_38 ?_
      refine lv_topi (fun v_9 ev_9 => ?_)
      subst ev_9
      refine lv_topi (fun y_10 ey_10 => ?_)
      obtain rfl : y_10 = f_farBy (7 * i + a_.toInt.toNat) := ey_10.trans (congrArg f_farBy (by have q1 := z_clI (x := y_8) (by omega); omega))
      refine lv_iconst (v := (-1)) hx hb dX12_classOf_39 (by decide) ?_
      refine lv_icmp_eq (tgt := 49) hx hb dX12_classOf_40 (by decide) (fun c_11 => ?_) (fun c_11 => ?_)
      · have c_11n : (f_farBy (7 * i + a_.toInt.toNat)).toInt = (-1 : Int) := (fa_eq _ _).mp c_11
        refine lv_iconst (v := 0) hx hb dX12_classOf_49 (by decide) ?_
        refine lv_ior hx hb dX12_classOf_50 ?_
        refine lv_istore_n (lv' := [(2, .int (u ||| 0)), (3, .int (nI i)), (0, .ref mo), (1, .int a_)]) hx hb dX12_classOf_51 rfl hl (by decide) (zLvf_h rfl) (fun ls hl => ?_)
        refine lv_iinc (v := nI (i + 1)) (lv' := [(3, .int (nI (i + 1))), (2, .int (u ||| 0)), (0, .ref mo), (1, .int a_)]) hx hb dX12_classOf_52 hl (k := 1) rfl (z_inc i 1) (by decide) (zLvf_h rfl) (fun ls hl => ?_)
        refine lv_goto (tgt := 4) hx hb dX12_classOf_55 (by decide) ?_
        exact ih_4 (i + 1) (u ||| 0) (show (i + 1) ≤ 7 ∧ ((i + 1) : Int) ≤ i_crossings.toInt ∧ rOb (fun b => ¬ f_farBy (7 * a_.toInt.toNat + b) = -1 ∧ ¬ f_farBy (7 * b + a_.toInt.toNat) = -1) (i + 1) (u ||| 0) from ⟨by omega, by omega, (rOb_n hu (fun q8 => by first | exact q8.1 (by first | with_reducible assumption | assumption) | exact q8.2 (by first | with_reducible assumption | assumption)))⟩) (show 7 - (i + 1) < 7 - i from by omega) _ _ ls G (lv_sub hl [0, 1, 2, 3] rfl)
      · have c_11n : ¬ (f_farBy (7 * i + a_.toInt.toNat)).toInt = (-1 : Int) := fun q => c_11 ((fa_eq _ _).mpr q)
        refine lv_iconst (v := 1) hx hb dX12_classOf_43 (by decide) ?_
        refine lv_iload_n hx hb dX12_classOf_44 rfl (lv_at hl 0 rfl) ?_
        refine lv_ishl hx hb dX12_classOf_45 ?_
        refine lv_goto (tgt := 50) hx hb dX12_classOf_46 (by decide) ?_
        refine lv_ior hx hb dX12_classOf_50 ?_
        refine lv_istore_n (lv' := [(2, .int (u ||| (1 <<< ((nI i) &&& 31)))), (3, .int (nI i)), (0, .ref mo), (1, .int a_)]) hx hb dX12_classOf_51 rfl hl (by decide) (zLvf_h rfl) (fun ls hl => ?_)
        refine lv_iinc (v := nI (i + 1)) (lv' := [(3, .int (nI (i + 1))), (2, .int (u ||| (1 <<< ((nI i) &&& 31)))), (0, .ref mo), (1, .int a_)]) hx hb dX12_classOf_52 hl (k := 1) rfl (z_inc i 1) (by decide) (zLvf_h rfl) (fun ls hl => ?_)
        refine lv_goto (tgt := 4) hx hb dX12_classOf_55 (by decide) ?_
        exact ih_4 (i + 1) (u ||| (1 <<< ((nI i) &&& 31))) (show (i + 1) ≤ 7 ∧ ((i + 1) : Int) ≤ i_crossings.toInt ∧ rOb (fun b => ¬ f_farBy (7 * a_.toInt.toNat + b) = -1 ∧ ¬ f_farBy (7 * b + a_.toInt.toNat) = -1) (i + 1) (u ||| (1 <<< ((nI i) &&& 31))) from ⟨by omega, by omega, (rOb_y (by omega) hu ⟨by first | with_reducible assumption | assumption, by first | with_reducible assumption | assumption⟩)⟩) (show 7 - (i + 1) < 7 - i from by omega) _ _ ls G (lv_sub hl [0, 1, 2, 3] rfl)
set_option maxHeartbeats 4000000 in
set_option maxRecDepth 100000 in
/-- c_fm_classesOf -/
theorem c_fm_classesOf (l : Launch) (T : zTy) (mo : Nat) (m_all : Nat) (m_has : Nat) (i_size : Int32) (i_next : Int32) (i_where : Int32) (i_token : Int32) (i_number : Int32) (i_word : Int32) (i_wrong : Int32) (i_farCrossing : Int32) (m_read : Nat) (i_z0 : Int32) (i_crossings : Int32) (i_inns : Int32) (m_posts : Nat) (m_shut : Nat) (m_here : Nat) (i_steps : Int32) (i_done : Int32) (i_at : Int32) (i_gone : Int32) (m_was : Nat) (m_came : Nat) (m_seenAt : Nat) (m_rowWorth : Nat) (m_farBy : Nat) (m_used : Nat) (i_everywhere : Int32) (i_again0 : Int32) (i_d0 : Int32) (i_never : Int32) (i_firstCame : Int32) (i_longRun : Int32) (i_moved : Int32) (i_crowd : Int32) (i_l0 : Int32) (i_fitMany : Int32) (i_fitLeast : Int32) (i_fitMost : Int32) (m_fitPost : Nat) (m_fitEnd : Nat) (m_keptPosts : Nat) (i_x0 : Int32) (f_all : Nat → Int32) (f_farBy : Nat → Int32) (w_ : Int32) (hL : zML f_all i_z0 i_crossings) (hVR : zVR (fun j => f_all (i_z0.toInt.toNat + j))) : zMi l T yX12_classesOf cX12_classesOf 5 (some .int) 5 0 0 [.ref mo, .int w_] [[zO11 mo m_all m_has i_size i_next i_where i_token i_number i_word i_wrong i_farCrossing m_read i_z0 i_crossings i_inns m_posts m_shut m_here i_steps i_done i_at i_gone m_was m_came m_seenAt m_rowWorth m_farBy m_used i_everywhere i_again0 i_d0 i_never i_firstCame i_longRun i_moved i_crowd i_l0 i_fitMany i_fitLeast i_fitMost m_fitPost m_fitEnd m_keptPosts i_x0], [zAr T 0 m_all 3952 f_all], [zAr T 0 m_farBy 49 f_farBy]] (fun (r : Int32) bs => ∃ (g_farBy : Nat → Int32), bs = [[zO11 mo m_all m_has i_size i_next i_where i_token i_number i_word i_wrong i_farCrossing m_read i_z0 i_crossings i_inns m_posts m_shut m_here i_steps i_done i_at i_gone m_was m_came m_seenAt m_rowWorth m_farBy m_used i_everywhere i_again0 i_d0 i_never i_firstCame i_longRun i_moved i_crowd i_l0 i_fitMany i_fitLeast i_fitMost m_fitPost m_fitEnd m_keptPosts i_x0], [zAr T 0 m_all 3952 f_all], [zAr T 0 m_farBy 49 g_farBy]] ∧ r = (if w_ = 0 then rPa (zWo f_all i_z0 i_inns) (zLo f_all i_z0) i_crossings.toInt.toNat i_crossings.toInt.toNat else rMo (zWo f_all i_z0 i_inns) (zLo f_all i_z0) i_crossings.toInt.toNat i_crossings.toInt.toNat)) := by
  refine zMi_of (own := RX12) (by decide) rfl (Nat.le_of_ble_eq_true rfl) ?_
  intro p e s m args below meth c A ls C hr hlocks hnm hAe G hl
  refine zHide (fun Qz_ hQz_ => ?_)
  have hx := C.1
  have hb := C.2.1
  have hl : lv_has ls 5 [(0, .ref mo), (1, .int w_)] := hl
  have hz := hL.1
  have hcr := hL.cr
  have hO9 := qOk (n := i_inns) hL hVR
  refine lv_aload_n hx hb dX12_classesOf_0 rfl (lv_at hl 0 rfl) ?_
  refine z_Vv (bc := [[zO11 mo m_all m_has i_size i_next i_where i_token i_number i_word i_wrong i_farCrossing m_read i_z0 i_crossings i_inns m_posts m_shut m_here i_steps i_done i_at i_gone m_was m_came m_seenAt m_rowWorth m_farBy m_used i_everywhere i_again0 i_d0 i_never i_firstCame i_longRun i_moved i_crowd i_l0 i_fitMany i_fitLeast i_fitMost m_fitPost m_fitEnd m_keptPosts i_x0], [zAr T 0 m_all 3952 f_all], [zAr T 0 m_farBy 49 f_farBy]]) (br := []) (As := []) (rest := []) C G (c_fm_laysFar l T mo m_all m_has i_size i_next i_where i_token i_number i_word i_wrong i_farCrossing m_read i_z0 i_crossings i_inns m_posts m_shut m_here i_steps i_done i_at i_gone m_was m_came m_seenAt m_rowWorth m_farBy m_used i_everywhere i_again0 i_d0 i_never i_firstCame i_longRun i_moved i_crowd i_l0 i_fitMany i_fitLeast i_fitMost m_fitPost m_fitEnd m_keptPosts i_x0 f_all f_farBy (by first | with_reducible assumption | with_reducible rfl | omega | assumption | rfl | decide) (by first | with_reducible assumption | with_reducible rfl | omega | assumption | rfl | decide)) (kV_RX12_258 C.2.2.2.2 (Nat.le_of_ble_eq_true rfl) (Nat.le_of_ble_eq_true rfl)) [0, 1, 2] [0, 0, 0] rfl rfl (ci := 11) (qc := (RX12, TX12, 43)) rfl rfl (List.mem_flatten.mpr ⟨_, List.mem_of_getElem? (i := 0) rfl, List.mem_cons_self⟩) rfl rfl hl.1 dX12_classesOf_1 (Nat.le_of_ble_eq_true rfl) (Nat.le_of_ble_eq_true rfl) (fun b1 H locs hw G => ?_)
  refine zEx1 hw ?_
  intro g_farBy_1
  refine zCu2 ?_
  intro hbs9 h_2
  clear hw
  subst hbs9
  have G : zS T A s.heap s [[zO11 mo m_all m_has i_size i_next i_where i_token i_number i_word i_wrong i_farCrossing m_read i_z0 i_crossings i_inns m_posts m_shut m_here i_steps i_done i_at i_gone m_was m_came m_seenAt m_rowWorth m_farBy m_used i_everywhere i_again0 i_d0 i_never i_firstCame i_longRun i_moved i_crowd i_l0 i_fitMany i_fitLeast i_fitMost m_fitPost m_fitEnd m_keptPosts i_x0], [zAr T 0 m_all 3952 f_all], [zAr T 0 m_farBy 49 g_farBy_1]] _ _ := G
  refine lv_iconst (v := 0) hx hb dX12_classesOf_4 (by decide) ?_
  refine lv_istore_n (lv' := [(2, .int 0), (0, .ref mo), (1, .int w_)]) hx hb dX12_classesOf_5 rfl hl (by decide) (zLvf_h rfl) (fun ls hl => ?_)
  refine lv_iconst (v := 0) hx hb dX12_classesOf_6 (by decide) ?_
  refine lv_istore_n (lv' := [(3, .int 0), (2, .int 0), (0, .ref mo), (1, .int w_)]) hx hb dX12_classesOf_7 rfl hl (by decide) (zLvf_h rfl) (fun ls hl => ?_)
  refine lv_iconst (v := 0) hx hb dX12_classesOf_8 (by decide) ?_
  refine lv_istore (lv' := [(4, .int 0), (3, .int 0), (2, .int 0), (0, .ref mo), (1, .int w_)]) hx hb dX12_classesOf_9 hl (by decide) (zLvf_h rfl) (fun ls hl => ?_)
  refine z_lp3 (T := T) 11 (fun (i : Nat) (u : Int32) (v : Int32) => [[zO11 mo m_all m_has i_size i_next i_where i_token i_number i_word i_wrong i_farCrossing m_read i_z0 i_crossings i_inns m_posts m_shut m_here i_steps i_done i_at i_gone m_was m_came m_seenAt m_rowWorth m_farBy m_used i_everywhere i_again0 i_d0 i_never i_firstCame i_longRun i_moved i_crowd i_l0 i_fitMany i_fitLeast i_fitMost m_fitPost m_fitEnd m_keptPosts i_x0], [zAr T 0 m_all 3952 f_all], [zAr T 0 m_farBy 49 g_farBy_1]]) (fun (i : Nat) (u : Int32) (v : Int32) => [(4, .int (nI i)), (3, .int v), (2, .int u), (0, .ref mo), (1, .int w_)]) (fun (i : Nat) (u : Int32) (v : Int32) => i ≤ 7 ∧ (i : Int) ≤ i_crossings.toInt ∧ u = rPa (zWo f_all i_z0 i_inns) (zLo f_all i_z0) i_crossings.toInt.toNat i ∧ v = rMo (zWo f_all i_z0 i_inns) (zLo f_all i_z0) i_crossings.toInt.toNat i) (fun (i : Nat) (u : Int32) (v : Int32) => 7 - i) ?_ 0 0 0 (show 0 ≤ 7 ∧ (0 : Int) ≤ i_crossings.toInt ∧ 0 = rPa (zWo f_all i_z0 i_inns) (zLo f_all i_z0) i_crossings.toInt.toNat 0 ∧ 0 = rMo (zWo f_all i_z0 i_inns) (zLo f_all i_z0) i_crossings.toInt.toNat 0 from ⟨by omega, by omega, rfl, rfl⟩) G (lv_sub hl [0, 1, 2, 3, 4] rfl)
  intro i u v hI9 ih_11 H locs ls G hl
  replace hI9 : i ≤ 7 ∧ (i : Int) ≤ i_crossings.toInt ∧ u = rPa (zWo f_all i_z0 i_inns) (zLo f_all i_z0) i_crossings.toInt.toNat i ∧ v = rMo (zWo f_all i_z0 i_inns) (zLo f_all i_z0) i_crossings.toInt.toNat i := hI9
  refine zAn4 hI9 ?_
  intro hi hic hu hv
  clear hI9
  replace G : zS T A s.heap s [[zO11 mo m_all m_has i_size i_next i_where i_token i_number i_word i_wrong i_farCrossing m_read i_z0 i_crossings i_inns m_posts m_shut m_here i_steps i_done i_at i_gone m_was m_came m_seenAt m_rowWorth m_farBy m_used i_everywhere i_again0 i_d0 i_never i_firstCame i_longRun i_moved i_crowd i_l0 i_fitMany i_fitLeast i_fitMost m_fitPost m_fitEnd m_keptPosts i_x0], [zAr T 0 m_all 3952 f_all], [zAr T 0 m_farBy 49 g_farBy_1]] _ _ := G
  replace hl : lv_has ls 5 [(4, .int (nI i)), (3, .int v), (2, .int u), (0, .ref mo), (1, .int w_)] := hl
  refine lv_iload hx hb dX12_classesOf_11 (lv_at hl 0 rfl) ?_
  refine lv_aload_n hx hb dX12_classesOf_13 rfl (lv_at hl 3 rfl) ?_
  refine z_get C G clX12 0 rfl 12 (by decide) m_fl_RX12_169 rfl dX12_classesOf_14 ?_
  refine lv_icmp_ge (tgt := 77) hx hb dX12_classesOf_17 (by decide) (fun c_4 => ?_) (fun c_4 => ?_)
  · have c_4n : i_crossings.toInt ≤ (i : Int) := by have q := (fa_le _ _).mp c_4; rw [nI_toInt (n := i) (by omega)] at q; exact q
    refine lv_iload_n hx hb dX12_classesOf_77 rfl (lv_at hl 4 rfl) ?_
    refine lv_if_eq (tgt := 85) hx hb dX12_classesOf_78 (by decide) (fun c_5 => ?_) (fun c_5 => ?_)
    · have c_5n : w_.toInt = (0 : Int) := (fa_eq _ _).mp c_5
      refine lv_iload_n hx hb dX12_classesOf_85 rfl (lv_at hl 2 rfl) ?_
      exact z_back hQz_ (z_iret C hr hlocks G (Nat.le_of_ble_eq_true rfl) (Nat.le_of_ble_eq_true rfl) dX12_classesOf_86 ⟨g_farBy_1, rfl, (by rw [if_pos (by first | with_reducible assumption | assumption)]; rw [show i = i_crossings.toInt.toNat by omega] at hu; exact hu)⟩)
    · have c_5n : ¬ w_.toInt = (0 : Int) := fun q => c_5 ((fa_eq _ _).mpr q)
      refine lv_iload_n hx hb dX12_classesOf_81 rfl (lv_at hl 1 rfl) ?_
      refine lv_goto (tgt := 86) hx hb dX12_classesOf_82 (by decide) ?_
      exact z_back hQz_ (z_iret C hr hlocks G (Nat.le_of_ble_eq_true rfl) (Nat.le_of_ble_eq_true rfl) dX12_classesOf_86 ⟨g_farBy_1, rfl, (by rw [if_neg (by first | with_reducible assumption | assumption)]; rw [show i = i_crossings.toInt.toNat by omega] at hv; exact hv)⟩)
  · have c_4n : ¬ i_crossings.toInt ≤ (i : Int) := fun q => c_4 ((fa_le _ _).mpr (by rw [nI_toInt (n := i) (by omega)]; exact q))
    refine lv_iload_n hx hb dX12_classesOf_20 rfl (lv_at hl 2 rfl) ?_
    refine lv_aload_n hx hb dX12_classesOf_21 rfl (lv_at hl 3 rfl) ?_
    refine lv_iload hx hb dX12_classesOf_22 (lv_at hl 0 rfl) ?_
    have ti_6 : (nI i).toInt = ((i : Nat) : Int) := nI_toInt (by omega)
    refine z_Vi (bc := [[zO11 mo m_all m_has i_size i_next i_where i_token i_number i_word i_wrong i_farCrossing m_read i_z0 i_crossings i_inns m_posts m_shut m_here i_steps i_done i_at i_gone m_was m_came m_seenAt m_rowWorth m_farBy m_used i_everywhere i_again0 i_d0 i_never i_firstCame i_longRun i_moved i_crowd i_l0 i_fitMany i_fitLeast i_fitMost m_fitPost m_fitEnd m_keptPosts i_x0], [zAr T 0 m_farBy 49 g_farBy_1]]) (br := [[zAr T 0 m_all 3952 f_all]]) (As := [.int (nI i)]) (rest := [.int u]) C G (c_fm_classOf l T mo m_all m_has i_size i_next i_where i_token i_number i_word i_wrong i_farCrossing m_read i_z0 i_crossings i_inns m_posts m_shut m_here i_steps i_done i_at i_gone m_was m_came m_seenAt m_rowWorth m_farBy m_used i_everywhere i_again0 i_d0 i_never i_firstCame i_longRun i_moved i_crowd i_l0 i_fitMany i_fitLeast i_fitMost m_fitPost m_fitEnd m_keptPosts i_x0 g_farBy_1 (nI i) (by first | with_reducible assumption | with_reducible rfl | omega | assumption | rfl | decide) (by first | with_reducible assumption | with_reducible rfl | omega | assumption | rfl | decide) (by first | with_reducible assumption | with_reducible rfl | omega | assumption | rfl | decide)) (kV_RX12_264 C.2.2.2.2 (Nat.le_of_ble_eq_true rfl) (Nat.le_of_ble_eq_true rfl)) [0, 2] [0, 1] rfl rfl (ci := 11) (qc := (RX12, TX12, 43)) rfl rfl (List.mem_flatten.mpr ⟨_, List.mem_of_getElem? (i := 0) rfl, List.mem_cons_self⟩) rfl rfl hl.1 dX12_classesOf_24 (Nat.le_of_ble_eq_true rfl) (Nat.le_of_ble_eq_true rfl) (fun r_8 b1 H locs hw G => ?_)
    refine zAn2 hw ?_
    intro hbs9 h_7
    clear hw
    subst hbs9
    have G : zS T A s.heap s [[zAr T 0 m_all 3952 f_all], [zO11 mo m_all m_has i_size i_next i_where i_token i_number i_word i_wrong i_farCrossing m_read i_z0 i_crossings i_inns m_posts m_shut m_here i_steps i_done i_at i_gone m_was m_came m_seenAt m_rowWorth m_farBy m_used i_everywhere i_again0 i_d0 i_never i_firstCame i_longRun i_moved i_crowd i_l0 i_fitMany i_fitLeast i_fitMost m_fitPost m_fitEnd m_keptPosts i_x0], [zAr T 0 m_farBy 49 g_farBy_1]] _ _ := G
    have tn9 := nI_n9 (n := i) (by omega)
    rw [tn9] at h_7
    have hcl_9 : r_8 = rCl (zWo f_all i_z0 i_inns) (zLo f_all i_z0) i_crossings.toInt.toNat i := rClf hO9 h_2 (by omega) h_7
    refine lv_iconst (v := 1) hx hb dX12_classesOf_27 (by decide) ?_
    refine lv_iload hx hb dX12_classesOf_28 (lv_at hl 0 rfl) ?_
    refine lv_ishl hx hb dX12_classesOf_30 ?_
    refine lv_iconst (v := 1) hx hb dX12_classesOf_31 (by decide) ?_
    refine lv_isub hx hb dX12_classesOf_32 ?_
    refine lv_iand hx hb dX12_classesOf_33 ?_
    refine lv_if_ne (tgt := 41) hx hb dX12_classesOf_34 (by decide) (fun c_10 => ?_) (fun c_10 => ?_)
    · have c_10n : ¬ (r_8 &&& ((1 <<< ((nI i) &&& 31)) - 1)).toInt = (0 : Int) := fun q => c_10 ((fa_eq _ _).mpr q)
      refine lv_iconst (v := 0) hx hb dX12_classesOf_41 (by decide) ?_
      refine lv_iadd hx hb dX12_classesOf_42 ?_
      refine lv_istore_n (lv' := [(2, .int (u + 0)), (4, .int (nI i)), (3, .int v), (0, .ref mo), (1, .int w_)]) hx hb dX12_classesOf_43 rfl hl (by decide) (zLvf_h rfl) (fun ls hl => ?_)
      refine lv_aload_n hx hb dX12_classesOf_44 rfl (lv_at hl 3 rfl) ?_
      refine lv_iload hx hb dX12_classesOf_45 (lv_at hl 1 rfl) ?_
      have ti_11 : (nI i).toInt = ((i : Nat) : Int) := nI_toInt (by omega)
      refine z_Vi (bc := [[zO11 mo m_all m_has i_size i_next i_where i_token i_number i_word i_wrong i_farCrossing m_read i_z0 i_crossings i_inns m_posts m_shut m_here i_steps i_done i_at i_gone m_was m_came m_seenAt m_rowWorth m_farBy m_used i_everywhere i_again0 i_d0 i_never i_firstCame i_longRun i_moved i_crowd i_l0 i_fitMany i_fitLeast i_fitMost m_fitPost m_fitEnd m_keptPosts i_x0], [zAr T 0 m_farBy 49 g_farBy_1]]) (br := [[zAr T 0 m_all 3952 f_all]]) (As := [.int (nI i)]) (rest := []) C G (c_fm_classOf l T mo m_all m_has i_size i_next i_where i_token i_number i_word i_wrong i_farCrossing m_read i_z0 i_crossings i_inns m_posts m_shut m_here i_steps i_done i_at i_gone m_was m_came m_seenAt m_rowWorth m_farBy m_used i_everywhere i_again0 i_d0 i_never i_firstCame i_longRun i_moved i_crowd i_l0 i_fitMany i_fitLeast i_fitMost m_fitPost m_fitEnd m_keptPosts i_x0 g_farBy_1 (nI i) (by first | with_reducible assumption | with_reducible rfl | omega | assumption | rfl | decide) (by first | with_reducible assumption | with_reducible rfl | omega | assumption | rfl | decide) (by first | with_reducible assumption | with_reducible rfl | omega | assumption | rfl | decide)) (kV_RX12_264 C.2.2.2.2 (Nat.le_of_ble_eq_true rfl) (Nat.le_of_ble_eq_true rfl)) [1, 2] [1, 0] rfl rfl (ci := 11) (qc := (RX12, TX12, 43)) rfl rfl (List.mem_flatten.mpr ⟨_, List.mem_of_getElem? (i := 0) rfl, List.mem_cons_self⟩) rfl rfl hl.1 dX12_classesOf_47 (Nat.le_of_ble_eq_true rfl) (Nat.le_of_ble_eq_true rfl) (fun r_13 b1 H locs hw G => ?_)
      refine zAn2 hw ?_
      intro hbs9 h_12
      clear hw
      subst hbs9
      have G : zS T A s.heap s [[zAr T 0 m_all 3952 f_all], [zO11 mo m_all m_has i_size i_next i_where i_token i_number i_word i_wrong i_farCrossing m_read i_z0 i_crossings i_inns m_posts m_shut m_here i_steps i_done i_at i_gone m_was m_came m_seenAt m_rowWorth m_farBy m_used i_everywhere i_again0 i_d0 i_never i_firstCame i_longRun i_moved i_crowd i_l0 i_fitMany i_fitLeast i_fitMost m_fitPost m_fitEnd m_keptPosts i_x0], [zAr T 0 m_farBy 49 g_farBy_1]] _ _ := G
      have tn9 := nI_n9 (n := i) (by omega)
      rw [tn9] at h_12
      have hcl_14 : r_13 = rCl (zWo f_all i_z0 i_inns) (zLo f_all i_z0) i_crossings.toInt.toNat i := rClf hO9 h_2 (by omega) h_12
      refine z_Si (bc := []) (br := [[zAr T 0 m_all 3952 f_all], [zO11 mo m_all m_has i_size i_next i_where i_token i_number i_word i_wrong i_farCrossing m_read i_z0 i_crossings i_inns m_posts m_shut m_here i_steps i_done i_at i_gone m_was m_came m_seenAt m_rowWorth m_farBy m_used i_everywhere i_again0 i_d0 i_never i_firstCame i_longRun i_moved i_crowd i_l0 i_fitMany i_fitLeast i_fitMost m_fitPost m_fitEnd m_keptPosts i_x0], [zAr T 0 m_farBy 49 g_farBy_1]]) (As := [.int r_13]) (rest := []) C G (c_fm_bitsOf l T r_13) (kS_RX12_235 C.2.2.2.2 (Nat.le_of_ble_eq_true rfl) (Nat.le_of_ble_eq_true rfl)) [] [] rfl rfl rfl rfl hl.1 dX12_classesOf_50 (Nat.le_of_ble_eq_true rfl) (Nat.le_of_ble_eq_true rfl) (fun r_16 b1 H locs hw G => ?_)
      refine zAn2 hw ?_
      intro hbs9 h_15
      clear hw
      subst hbs9
      have G : zS T A s.heap s [[zAr T 0 m_all 3952 f_all], [zO11 mo m_all m_has i_size i_next i_where i_token i_number i_word i_wrong i_farCrossing m_read i_z0 i_crossings i_inns m_posts m_shut m_here i_steps i_done i_at i_gone m_was m_came m_seenAt m_rowWorth m_farBy m_used i_everywhere i_again0 i_d0 i_never i_firstCame i_longRun i_moved i_crowd i_l0 i_fitMany i_fitLeast i_fitMost m_fitPost m_fitEnd m_keptPosts i_x0], [zAr T 0 m_farBy 49 g_farBy_1]] _ _ := G
      have hbt_17 : r_16 = zBs (rCl (zWo f_all i_z0 i_inns) (zLo f_all i_z0) i_crossings.toInt.toNat i) 12 := by rw [h_15, hcl_14]
      refine lv_iload_n hx hb dX12_classesOf_53 rfl (lv_at hl 2 rfl) ?_
      refine lv_icmp_le (tgt := 69) hx hb dX12_classesOf_54 (by decide) (fun c_18 => ?_) (fun c_18 => ?_)
      · have c_18n : r_16.toInt ≤ v.toInt := (fa_le _ _).mp c_18
        refine lv_iload_n hx hb dX12_classesOf_69 rfl (lv_at hl 2 rfl) ?_
        refine lv_istore_n (lv' := [(3, .int v), (2, .int (u + 0)), (4, .int (nI i)), (0, .ref mo), (1, .int w_)]) hx hb dX12_classesOf_70 rfl hl (by decide) (zLvf_h rfl) (fun ls hl => ?_)
        refine lv_iinc (v := nI (i + 1)) (lv' := [(4, .int (nI (i + 1))), (3, .int v), (2, .int (u + 0)), (0, .ref mo), (1, .int w_)]) hx hb dX12_classesOf_71 hl (k := 2) rfl (z_inc i 1) (by decide) (zLvf_h rfl) (fun ls hl => ?_)
        refine lv_goto (tgt := 11) hx hb dX12_classesOf_74 (by decide) ?_
        have G := G.sub (bs' := [[zO11 mo m_all m_has i_size i_next i_where i_token i_number i_word i_wrong i_farCrossing m_read i_z0 i_crossings i_inns m_posts m_shut m_here i_steps i_done i_at i_gone m_was m_came m_seenAt m_rowWorth m_farBy m_used i_everywhere i_again0 i_d0 i_never i_firstCame i_longRun i_moved i_crowd i_l0 i_fitMany i_fitLeast i_fitMost m_fitPost m_fitEnd m_keptPosts i_x0], [zAr T 0 m_all 3952 f_all], [zAr T 0 m_farBy 49 g_farBy_1]]) [1, 0, 2] rfl
        exact ih_11 (i + 1) (u + 0) v (show (i + 1) ≤ 7 ∧ ((i + 1) : Int) ≤ i_crossings.toInt ∧ (u + 0) = rPa (zWo f_all i_z0 i_inns) (zLo f_all i_z0) i_crossings.toInt.toNat (i + 1) ∧ v = rMo (zWo f_all i_z0 i_inns) (zLo f_all i_z0) i_crossings.toInt.toNat (i + 1) from ⟨by omega, by omega, (by rw [Int32.add_zero, hu]; exact (rPa_n hcl_9 (by first | with_reducible assumption | assumption)).symm), (rMo_n hv hbt_17 (fun q9 => by have q8 := (fa_lt _ _).mp q9; omega))⟩) (show 7 - (i + 1) < 7 - i from by omega) _ _ ls G (lv_sub hl [0, 1, 2, 3, 4] rfl)
      · have c_18n : ¬ r_16.toInt ≤ v.toInt := fun q => c_18 ((fa_le _ _).mpr q)
        refine lv_aload_n hx hb dX12_classesOf_57 rfl (lv_at hl 3 rfl) ?_
        refine lv_iload hx hb dX12_classesOf_58 (lv_at hl 1 rfl) ?_
        have ti_19 : (nI i).toInt = ((i : Nat) : Int) := nI_toInt (by omega)
        refine z_Vi (bc := [[zO11 mo m_all m_has i_size i_next i_where i_token i_number i_word i_wrong i_farCrossing m_read i_z0 i_crossings i_inns m_posts m_shut m_here i_steps i_done i_at i_gone m_was m_came m_seenAt m_rowWorth m_farBy m_used i_everywhere i_again0 i_d0 i_never i_firstCame i_longRun i_moved i_crowd i_l0 i_fitMany i_fitLeast i_fitMost m_fitPost m_fitEnd m_keptPosts i_x0], [zAr T 0 m_farBy 49 g_farBy_1]]) (br := [[zAr T 0 m_all 3952 f_all]]) (As := [.int (nI i)]) (rest := []) C G (c_fm_classOf l T mo m_all m_has i_size i_next i_where i_token i_number i_word i_wrong i_farCrossing m_read i_z0 i_crossings i_inns m_posts m_shut m_here i_steps i_done i_at i_gone m_was m_came m_seenAt m_rowWorth m_farBy m_used i_everywhere i_again0 i_d0 i_never i_firstCame i_longRun i_moved i_crowd i_l0 i_fitMany i_fitLeast i_fitMost m_fitPost m_fitEnd m_keptPosts i_x0 g_farBy_1 (nI i) (by first | with_reducible assumption | with_reducible rfl | omega | assumption | rfl | decide) (by first | with_reducible assumption | with_reducible rfl | omega | assumption | rfl | decide) (by first | with_reducible assumption | with_reducible rfl | omega | assumption | rfl | decide)) (kV_RX12_264 C.2.2.2.2 (Nat.le_of_ble_eq_true rfl) (Nat.le_of_ble_eq_true rfl)) [1, 2] [1, 0] rfl rfl (ci := 11) (qc := (RX12, TX12, 43)) rfl rfl (List.mem_flatten.mpr ⟨_, List.mem_of_getElem? (i := 0) rfl, List.mem_cons_self⟩) rfl rfl hl.1 dX12_classesOf_60 (Nat.le_of_ble_eq_true rfl) (Nat.le_of_ble_eq_true rfl) (fun r_21 b1 H locs hw G => ?_)
        refine zAn2 hw ?_
        intro hbs9 h_20
        clear hw
        subst hbs9
        have G : zS T A s.heap s [[zAr T 0 m_all 3952 f_all], [zO11 mo m_all m_has i_size i_next i_where i_token i_number i_word i_wrong i_farCrossing m_read i_z0 i_crossings i_inns m_posts m_shut m_here i_steps i_done i_at i_gone m_was m_came m_seenAt m_rowWorth m_farBy m_used i_everywhere i_again0 i_d0 i_never i_firstCame i_longRun i_moved i_crowd i_l0 i_fitMany i_fitLeast i_fitMost m_fitPost m_fitEnd m_keptPosts i_x0], [zAr T 0 m_farBy 49 g_farBy_1]] _ _ := G
        have tn9 := nI_n9 (n := i) (by omega)
        rw [tn9] at h_20
        have hcl_22 : r_21 = rCl (zWo f_all i_z0 i_inns) (zLo f_all i_z0) i_crossings.toInt.toNat i := rClf hO9 h_2 (by omega) h_20
        refine z_Si (bc := []) (br := [[zAr T 0 m_all 3952 f_all], [zO11 mo m_all m_has i_size i_next i_where i_token i_number i_word i_wrong i_farCrossing m_read i_z0 i_crossings i_inns m_posts m_shut m_here i_steps i_done i_at i_gone m_was m_came m_seenAt m_rowWorth m_farBy m_used i_everywhere i_again0 i_d0 i_never i_firstCame i_longRun i_moved i_crowd i_l0 i_fitMany i_fitLeast i_fitMost m_fitPost m_fitEnd m_keptPosts i_x0], [zAr T 0 m_farBy 49 g_farBy_1]]) (As := [.int r_21]) (rest := []) C G (c_fm_bitsOf l T r_21) (kS_RX12_235 C.2.2.2.2 (Nat.le_of_ble_eq_true rfl) (Nat.le_of_ble_eq_true rfl)) [] [] rfl rfl rfl rfl hl.1 dX12_classesOf_63 (Nat.le_of_ble_eq_true rfl) (Nat.le_of_ble_eq_true rfl) (fun r_24 b1 H locs hw G => ?_)
        refine zAn2 hw ?_
        intro hbs9 h_23
        clear hw
        subst hbs9
        have G : zS T A s.heap s [[zAr T 0 m_all 3952 f_all], [zO11 mo m_all m_has i_size i_next i_where i_token i_number i_word i_wrong i_farCrossing m_read i_z0 i_crossings i_inns m_posts m_shut m_here i_steps i_done i_at i_gone m_was m_came m_seenAt m_rowWorth m_farBy m_used i_everywhere i_again0 i_d0 i_never i_firstCame i_longRun i_moved i_crowd i_l0 i_fitMany i_fitLeast i_fitMost m_fitPost m_fitEnd m_keptPosts i_x0], [zAr T 0 m_farBy 49 g_farBy_1]] _ _ := G
        have hbt_25 : r_24 = zBs (rCl (zWo f_all i_z0 i_inns) (zLo f_all i_z0) i_crossings.toInt.toNat i) 12 := by rw [h_23, hcl_22]
        refine lv_goto (tgt := 70) hx hb dX12_classesOf_66 (by decide) ?_
        refine lv_istore_n (lv' := [(3, .int r_24), (2, .int (u + 0)), (4, .int (nI i)), (0, .ref mo), (1, .int w_)]) hx hb dX12_classesOf_70 rfl hl (by decide) (zLvf_h rfl) (fun ls hl => ?_)
        refine lv_iinc (v := nI (i + 1)) (lv' := [(4, .int (nI (i + 1))), (3, .int r_24), (2, .int (u + 0)), (0, .ref mo), (1, .int w_)]) hx hb dX12_classesOf_71 hl (k := 2) rfl (z_inc i 1) (by decide) (zLvf_h rfl) (fun ls hl => ?_)
        refine lv_goto (tgt := 11) hx hb dX12_classesOf_74 (by decide) ?_
        have G := G.sub (bs' := [[zO11 mo m_all m_has i_size i_next i_where i_token i_number i_word i_wrong i_farCrossing m_read i_z0 i_crossings i_inns m_posts m_shut m_here i_steps i_done i_at i_gone m_was m_came m_seenAt m_rowWorth m_farBy m_used i_everywhere i_again0 i_d0 i_never i_firstCame i_longRun i_moved i_crowd i_l0 i_fitMany i_fitLeast i_fitMost m_fitPost m_fitEnd m_keptPosts i_x0], [zAr T 0 m_all 3952 f_all], [zAr T 0 m_farBy 49 g_farBy_1]]) [1, 0, 2] rfl
        exact ih_11 (i + 1) (u + 0) r_24 (show (i + 1) ≤ 7 ∧ ((i + 1) : Int) ≤ i_crossings.toInt ∧ (u + 0) = rPa (zWo f_all i_z0 i_inns) (zLo f_all i_z0) i_crossings.toInt.toNat (i + 1) ∧ r_24 = rMo (zWo f_all i_z0 i_inns) (zLo f_all i_z0) i_crossings.toInt.toNat (i + 1) from ⟨by omega, by omega, (by rw [Int32.add_zero, hu]; exact (rPa_n hcl_9 (by first | with_reducible assumption | assumption)).symm), (rMo_y hv hbt_25 hbt_17 ((fa_lt _ _).mpr (by omega)))⟩) (show 7 - (i + 1) < 7 - i from by omega) _ _ ls G (lv_sub hl [0, 1, 2, 3, 4] rfl)
    · have c_10n : (r_8 &&& ((1 <<< ((nI i) &&& 31)) - 1)).toInt = (0 : Int) := (fa_eq _ _).mp c_10
      refine lv_iconst (v := 1) hx hb dX12_classesOf_37 (by decide) ?_
      refine lv_goto (tgt := 42) hx hb dX12_classesOf_38 (by decide) ?_
      refine lv_iadd hx hb dX12_classesOf_42 ?_
      refine lv_istore_n (lv' := [(2, .int (u + 1)), (4, .int (nI i)), (3, .int v), (0, .ref mo), (1, .int w_)]) hx hb dX12_classesOf_43 rfl hl (by decide) (zLvf_h rfl) (fun ls hl => ?_)
      refine lv_aload_n hx hb dX12_classesOf_44 rfl (lv_at hl 3 rfl) ?_
      refine lv_iload hx hb dX12_classesOf_45 (lv_at hl 1 rfl) ?_
      have ti_26 : (nI i).toInt = ((i : Nat) : Int) := nI_toInt (by omega)
      refine z_Vi (bc := [[zO11 mo m_all m_has i_size i_next i_where i_token i_number i_word i_wrong i_farCrossing m_read i_z0 i_crossings i_inns m_posts m_shut m_here i_steps i_done i_at i_gone m_was m_came m_seenAt m_rowWorth m_farBy m_used i_everywhere i_again0 i_d0 i_never i_firstCame i_longRun i_moved i_crowd i_l0 i_fitMany i_fitLeast i_fitMost m_fitPost m_fitEnd m_keptPosts i_x0], [zAr T 0 m_farBy 49 g_farBy_1]]) (br := [[zAr T 0 m_all 3952 f_all]]) (As := [.int (nI i)]) (rest := []) C G (c_fm_classOf l T mo m_all m_has i_size i_next i_where i_token i_number i_word i_wrong i_farCrossing m_read i_z0 i_crossings i_inns m_posts m_shut m_here i_steps i_done i_at i_gone m_was m_came m_seenAt m_rowWorth m_farBy m_used i_everywhere i_again0 i_d0 i_never i_firstCame i_longRun i_moved i_crowd i_l0 i_fitMany i_fitLeast i_fitMost m_fitPost m_fitEnd m_keptPosts i_x0 g_farBy_1 (nI i) (by first | with_reducible assumption | with_reducible rfl | omega | assumption | rfl | decide) (by first | with_reducible assumption | with_reducible rfl | omega | assumption | rfl | decide) (by first | with_reducible assumption | with_reducible rfl | omega | assumption | rfl | decide)) (kV_RX12_264 C.2.2.2.2 (Nat.le_of_ble_eq_true rfl) (Nat.le_of_ble_eq_true rfl)) [1, 2] [1, 0] rfl rfl (ci := 11) (qc := (RX12, TX12, 43)) rfl rfl (List.mem_flatten.mpr ⟨_, List.mem_of_getElem? (i := 0) rfl, List.mem_cons_self⟩) rfl rfl hl.1 dX12_classesOf_47 (Nat.le_of_ble_eq_true rfl) (Nat.le_of_ble_eq_true rfl) (fun r_28 b1 H locs hw G => ?_)
      refine zAn2 hw ?_
      intro hbs9 h_27
      clear hw
      subst hbs9
      have G : zS T A s.heap s [[zAr T 0 m_all 3952 f_all], [zO11 mo m_all m_has i_size i_next i_where i_token i_number i_word i_wrong i_farCrossing m_read i_z0 i_crossings i_inns m_posts m_shut m_here i_steps i_done i_at i_gone m_was m_came m_seenAt m_rowWorth m_farBy m_used i_everywhere i_again0 i_d0 i_never i_firstCame i_longRun i_moved i_crowd i_l0 i_fitMany i_fitLeast i_fitMost m_fitPost m_fitEnd m_keptPosts i_x0], [zAr T 0 m_farBy 49 g_farBy_1]] _ _ := G
      have tn9 := nI_n9 (n := i) (by omega)
      rw [tn9] at h_27
      have hcl_29 : r_28 = rCl (zWo f_all i_z0 i_inns) (zLo f_all i_z0) i_crossings.toInt.toNat i := rClf hO9 h_2 (by omega) h_27
      refine z_Si (bc := []) (br := [[zAr T 0 m_all 3952 f_all], [zO11 mo m_all m_has i_size i_next i_where i_token i_number i_word i_wrong i_farCrossing m_read i_z0 i_crossings i_inns m_posts m_shut m_here i_steps i_done i_at i_gone m_was m_came m_seenAt m_rowWorth m_farBy m_used i_everywhere i_again0 i_d0 i_never i_firstCame i_longRun i_moved i_crowd i_l0 i_fitMany i_fitLeast i_fitMost m_fitPost m_fitEnd m_keptPosts i_x0], [zAr T 0 m_farBy 49 g_farBy_1]]) (As := [.int r_28]) (rest := []) C G (c_fm_bitsOf l T r_28) (kS_RX12_235 C.2.2.2.2 (Nat.le_of_ble_eq_true rfl) (Nat.le_of_ble_eq_true rfl)) [] [] rfl rfl rfl rfl hl.1 dX12_classesOf_50 (Nat.le_of_ble_eq_true rfl) (Nat.le_of_ble_eq_true rfl) (fun r_31 b1 H locs hw G => ?_)
      refine zAn2 hw ?_
      intro hbs9 h_30
      clear hw
      subst hbs9
      have G : zS T A s.heap s [[zAr T 0 m_all 3952 f_all], [zO11 mo m_all m_has i_size i_next i_where i_token i_number i_word i_wrong i_farCrossing m_read i_z0 i_crossings i_inns m_posts m_shut m_here i_steps i_done i_at i_gone m_was m_came m_seenAt m_rowWorth m_farBy m_used i_everywhere i_again0 i_d0 i_never i_firstCame i_longRun i_moved i_crowd i_l0 i_fitMany i_fitLeast i_fitMost m_fitPost m_fitEnd m_keptPosts i_x0], [zAr T 0 m_farBy 49 g_farBy_1]] _ _ := G
      have hbt_32 : r_31 = zBs (rCl (zWo f_all i_z0 i_inns) (zLo f_all i_z0) i_crossings.toInt.toNat i) 12 := by rw [h_30, hcl_29]
      refine lv_iload_n hx hb dX12_classesOf_53 rfl (lv_at hl 2 rfl) ?_
      refine lv_icmp_le (tgt := 69) hx hb dX12_classesOf_54 (by decide) (fun c_33 => ?_) (fun c_33 => ?_)
      · have c_33n : r_31.toInt ≤ v.toInt := (fa_le _ _).mp c_33
        refine lv_iload_n hx hb dX12_classesOf_69 rfl (lv_at hl 2 rfl) ?_
        refine lv_istore_n (lv' := [(3, .int v), (2, .int (u + 1)), (4, .int (nI i)), (0, .ref mo), (1, .int w_)]) hx hb dX12_classesOf_70 rfl hl (by decide) (zLvf_h rfl) (fun ls hl => ?_)
        refine lv_iinc (v := nI (i + 1)) (lv' := [(4, .int (nI (i + 1))), (3, .int v), (2, .int (u + 1)), (0, .ref mo), (1, .int w_)]) hx hb dX12_classesOf_71 hl (k := 2) rfl (z_inc i 1) (by decide) (zLvf_h rfl) (fun ls hl => ?_)
        refine lv_goto (tgt := 11) hx hb dX12_classesOf_74 (by decide) ?_
        have G := G.sub (bs' := [[zO11 mo m_all m_has i_size i_next i_where i_token i_number i_word i_wrong i_farCrossing m_read i_z0 i_crossings i_inns m_posts m_shut m_here i_steps i_done i_at i_gone m_was m_came m_seenAt m_rowWorth m_farBy m_used i_everywhere i_again0 i_d0 i_never i_firstCame i_longRun i_moved i_crowd i_l0 i_fitMany i_fitLeast i_fitMost m_fitPost m_fitEnd m_keptPosts i_x0], [zAr T 0 m_all 3952 f_all], [zAr T 0 m_farBy 49 g_farBy_1]]) [1, 0, 2] rfl
        exact ih_11 (i + 1) (u + 1) v (show (i + 1) ≤ 7 ∧ ((i + 1) : Int) ≤ i_crossings.toInt ∧ (u + 1) = rPa (zWo f_all i_z0 i_inns) (zLo f_all i_z0) i_crossings.toInt.toNat (i + 1) ∧ v = rMo (zWo f_all i_z0 i_inns) (zLo f_all i_z0) i_crossings.toInt.toNat (i + 1) from ⟨by omega, by omega, (by rw [hu]; exact (rPa_y hcl_9 (by first | with_reducible assumption | assumption)).symm), (rMo_n hv hbt_32 (fun q9 => by have q8 := (fa_lt _ _).mp q9; omega))⟩) (show 7 - (i + 1) < 7 - i from by omega) _ _ ls G (lv_sub hl [0, 1, 2, 3, 4] rfl)
      · have c_33n : ¬ r_31.toInt ≤ v.toInt := fun q => c_33 ((fa_le _ _).mpr q)
        refine lv_aload_n hx hb dX12_classesOf_57 rfl (lv_at hl 3 rfl) ?_
        refine lv_iload hx hb dX12_classesOf_58 (lv_at hl 1 rfl) ?_
        have ti_34 : (nI i).toInt = ((i : Nat) : Int) := nI_toInt (by omega)
        refine z_Vi (bc := [[zO11 mo m_all m_has i_size i_next i_where i_token i_number i_word i_wrong i_farCrossing m_read i_z0 i_crossings i_inns m_posts m_shut m_here i_steps i_done i_at i_gone m_was m_came m_seenAt m_rowWorth m_farBy m_used i_everywhere i_again0 i_d0 i_never i_firstCame i_longRun i_moved i_crowd i_l0 i_fitMany i_fitLeast i_fitMost m_fitPost m_fitEnd m_keptPosts i_x0], [zAr T 0 m_farBy 49 g_farBy_1]]) (br := [[zAr T 0 m_all 3952 f_all]]) (As := [.int (nI i)]) (rest := []) C G (c_fm_classOf l T mo m_all m_has i_size i_next i_where i_token i_number i_word i_wrong i_farCrossing m_read i_z0 i_crossings i_inns m_posts m_shut m_here i_steps i_done i_at i_gone m_was m_came m_seenAt m_rowWorth m_farBy m_used i_everywhere i_again0 i_d0 i_never i_firstCame i_longRun i_moved i_crowd i_l0 i_fitMany i_fitLeast i_fitMost m_fitPost m_fitEnd m_keptPosts i_x0 g_farBy_1 (nI i) (by first | with_reducible assumption | with_reducible rfl | omega | assumption | rfl | decide) (by first | with_reducible assumption | with_reducible rfl | omega | assumption | rfl | decide) (by first | with_reducible assumption | with_reducible rfl | omega | assumption | rfl | decide)) (kV_RX12_264 C.2.2.2.2 (Nat.le_of_ble_eq_true rfl) (Nat.le_of_ble_eq_true rfl)) [1, 2] [1, 0] rfl rfl (ci := 11) (qc := (RX12, TX12, 43)) rfl rfl (List.mem_flatten.mpr ⟨_, List.mem_of_getElem? (i := 0) rfl, List.mem_cons_self⟩) rfl rfl hl.1 dX12_classesOf_60 (Nat.le_of_ble_eq_true rfl) (Nat.le_of_ble_eq_true rfl) (fun r_36 b1 H locs hw G => ?_)
        refine zAn2 hw ?_
        intro hbs9 h_35
        clear hw
        subst hbs9
        have G : zS T A s.heap s [[zAr T 0 m_all 3952 f_all], [zO11 mo m_all m_has i_size i_next i_where i_token i_number i_word i_wrong i_farCrossing m_read i_z0 i_crossings i_inns m_posts m_shut m_here i_steps i_done i_at i_gone m_was m_came m_seenAt m_rowWorth m_farBy m_used i_everywhere i_again0 i_d0 i_never i_firstCame i_longRun i_moved i_crowd i_l0 i_fitMany i_fitLeast i_fitMost m_fitPost m_fitEnd m_keptPosts i_x0], [zAr T 0 m_farBy 49 g_farBy_1]] _ _ := G
        have tn9 := nI_n9 (n := i) (by omega)
        rw [tn9] at h_35
        have hcl_37 : r_36 = rCl (zWo f_all i_z0 i_inns) (zLo f_all i_z0) i_crossings.toInt.toNat i := rClf hO9 h_2 (by omega) h_35
        refine z_Si (bc := []) (br := [[zAr T 0 m_all 3952 f_all], [zO11 mo m_all m_has i_size i_next i_where i_token i_number i_word i_wrong i_farCrossing m_read i_z0 i_crossings i_inns m_posts m_shut m_here i_steps i_done i_at i_gone m_was m_came m_seenAt m_rowWorth m_farBy m_used i_everywhere i_again0 i_d0 i_never i_firstCame i_longRun i_moved i_crowd i_l0 i_fitMany i_fitLeast i_fitMost m_fitPost m_fitEnd m_keptPosts i_x0], [zAr T 0 m_farBy 49 g_farBy_1]]) (As := [.int r_36]) (rest := []) C G (c_fm_bitsOf l T r_36) (kS_RX12_235 C.2.2.2.2 (Nat.le_of_ble_eq_true rfl) (Nat.le_of_ble_eq_true rfl)) [] [] rfl rfl rfl rfl hl.1 dX12_classesOf_63 (Nat.le_of_ble_eq_true rfl) (Nat.le_of_ble_eq_true rfl) (fun r_39 b1 H locs hw G => ?_)
        refine zAn2 hw ?_
        intro hbs9 h_38
        clear hw
        subst hbs9
        have G : zS T A s.heap s [[zAr T 0 m_all 3952 f_all], [zO11 mo m_all m_has i_size i_next i_where i_token i_number i_word i_wrong i_farCrossing m_read i_z0 i_crossings i_inns m_posts m_shut m_here i_steps i_done i_at i_gone m_was m_came m_seenAt m_rowWorth m_farBy m_used i_everywhere i_again0 i_d0 i_never i_firstCame i_longRun i_moved i_crowd i_l0 i_fitMany i_fitLeast i_fitMost m_fitPost m_fitEnd m_keptPosts i_x0], [zAr T 0 m_farBy 49 g_farBy_1]] _ _ := G
        have hbt_40 : r_39 = zBs (rCl (zWo f_all i_z0 i_inns) (zLo f_all i_z0) i_crossings.toInt.toNat i) 12 := by rw [h_38, hcl_37]
        refine lv_goto (tgt := 70) hx hb dX12_classesOf_66 (by decide) ?_
        refine lv_istore_n (lv' := [(3, .int r_39), (2, .int (u + 1)), (4, .int (nI i)), (0, .ref mo), (1, .int w_)]) hx hb dX12_classesOf_70 rfl hl (by decide) (zLvf_h rfl) (fun ls hl => ?_)
        refine lv_iinc (v := nI (i + 1)) (lv' := [(4, .int (nI (i + 1))), (3, .int r_39), (2, .int (u + 1)), (0, .ref mo), (1, .int w_)]) hx hb dX12_classesOf_71 hl (k := 2) rfl (z_inc i 1) (by decide) (zLvf_h rfl) (fun ls hl => ?_)
        refine lv_goto (tgt := 11) hx hb dX12_classesOf_74 (by decide) ?_
        have G := G.sub (bs' := [[zO11 mo m_all m_has i_size i_next i_where i_token i_number i_word i_wrong i_farCrossing m_read i_z0 i_crossings i_inns m_posts m_shut m_here i_steps i_done i_at i_gone m_was m_came m_seenAt m_rowWorth m_farBy m_used i_everywhere i_again0 i_d0 i_never i_firstCame i_longRun i_moved i_crowd i_l0 i_fitMany i_fitLeast i_fitMost m_fitPost m_fitEnd m_keptPosts i_x0], [zAr T 0 m_all 3952 f_all], [zAr T 0 m_farBy 49 g_farBy_1]]) [1, 0, 2] rfl
        exact ih_11 (i + 1) (u + 1) r_39 (show (i + 1) ≤ 7 ∧ ((i + 1) : Int) ≤ i_crossings.toInt ∧ (u + 1) = rPa (zWo f_all i_z0 i_inns) (zLo f_all i_z0) i_crossings.toInt.toNat (i + 1) ∧ r_39 = rMo (zWo f_all i_z0 i_inns) (zLo f_all i_z0) i_crossings.toInt.toNat (i + 1) from ⟨by omega, by omega, (by rw [hu]; exact (rPa_y hcl_9 (by first | with_reducible assumption | assumption)).symm), (rMo_y hv hbt_40 hbt_32 ((fa_lt _ _).mpr (by omega)))⟩) (show 7 - (i + 1) < 7 - i from by omega) _ _ ls G (lv_sub hl [0, 1, 2, 3, 4] rfl)
set_option maxHeartbeats 4000000 in
set_option maxRecDepth 100000 in
/-- c_fm_leadHere -/
theorem c_fm_leadHere (l : Launch) (T : zTy) (mo : Nat) (m_all : Nat) (m_has : Nat) (i_size : Int32) (i_next : Int32) (i_where : Int32) (i_token : Int32) (i_number : Int32) (i_word : Int32) (i_wrong : Int32) (i_farCrossing : Int32) (m_read : Nat) (i_z0 : Int32) (i_crossings : Int32) (i_inns : Int32) (m_posts : Nat) (m_shut : Nat) (m_here : Nat) (i_steps : Int32) (i_done : Int32) (i_at : Int32) (i_gone : Int32) (m_was : Nat) (m_came : Nat) (m_seenAt : Nat) (m_rowWorth : Nat) (m_farBy : Nat) (m_used : Nat) (i_everywhere : Int32) (i_again0 : Int32) (i_d0 : Int32) (i_never : Int32) (i_firstCame : Int32) (i_longRun : Int32) (i_moved : Int32) (i_crowd : Int32) (i_l0 : Int32) (i_fitMany : Int32) (i_fitLeast : Int32) (i_fitMost : Int32) (m_fitPost : Nat) (m_fitEnd : Nat) (m_keptPosts : Nat) (i_x0 : Int32) (f_all : Nat → Int32) (c_ : Int32) (w_ : Int32) (hL : zML f_all i_z0 i_crossings) (hVR : zVR (fun j => f_all (i_z0.toInt.toNat + j))) : zMi l T yX12_leadHere cX12_leadHere 6 (some .int) 4 0 0 [.ref mo, .int c_, .int w_] [[zO11 mo m_all m_has i_size i_next i_where i_token i_number i_word i_wrong i_farCrossing m_read i_z0 i_crossings i_inns m_posts m_shut m_here i_steps i_done i_at i_gone m_was m_came m_seenAt m_rowWorth m_farBy m_used i_everywhere i_again0 i_d0 i_never i_firstCame i_longRun i_moved i_crowd i_l0 i_fitMany i_fitLeast i_fitMost m_fitPost m_fitEnd m_keptPosts i_x0], [zAr T 0 m_all 3952 f_all]] (fun (r : Int32) bs => bs = [[zO11 mo m_all m_has i_size i_next i_where i_token i_number i_word i_wrong i_farCrossing m_read i_z0 i_crossings i_inns m_posts m_shut m_here i_steps i_done i_at i_gone m_was m_came m_seenAt m_rowWorth m_farBy m_used i_everywhere i_again0 i_d0 i_never i_firstCame i_longRun i_moved i_crowd i_l0 i_fitMany i_fitLeast i_fitMost m_fitPost m_fitEnd m_keptPosts i_x0], [zAr T 0 m_all 3952 f_all]] ∧ r = nI (rHt (zWo f_all i_z0 i_inns) (zLo f_all i_z0) c_ (decide (¬ w_ = 0)) i_crossings.toInt.toNat)) := by
  refine zMi_of (own := RX12) (by decide) rfl (Nat.le_of_ble_eq_true rfl) ?_
  intro p e s m args below meth c A ls C hr hlocks hnm hAe G hl
  refine zHide (fun Qz_ hQz_ => ?_)
  have hx := C.1
  have hb := C.2.1
  have hl : lv_has ls 6 [(0, .ref mo), (1, .int c_), (2, .int w_)] := hl
  have hz := hL.1
  have hcr := hL.cr
  have hO9 := qOk (n := i_inns) hL hVR
  refine lv_iconst (v := 0) hx hb dX12_leadHere_0 (by decide) ?_
  refine lv_istore_n (lv' := [(3, .int 0), (0, .ref mo), (1, .int c_), (2, .int w_)]) hx hb dX12_leadHere_1 rfl hl (by decide) (zLvf_h rfl) (fun ls hl => ?_)
  refine lv_iconst (v := 0) hx hb dX12_leadHere_2 (by decide) ?_
  refine lv_istore (lv' := [(4, .int 0), (3, .int 0), (0, .ref mo), (1, .int c_), (2, .int w_)]) hx hb dX12_leadHere_3 hl (by decide) (zLvf_h rfl) (fun ls hl => ?_)
  refine z_lp2 (T := T) 5 (fun (i : Nat) (u : Int32) => [[zO11 mo m_all m_has i_size i_next i_where i_token i_number i_word i_wrong i_farCrossing m_read i_z0 i_crossings i_inns m_posts m_shut m_here i_steps i_done i_at i_gone m_was m_came m_seenAt m_rowWorth m_farBy m_used i_everywhere i_again0 i_d0 i_never i_firstCame i_longRun i_moved i_crowd i_l0 i_fitMany i_fitLeast i_fitMost m_fitPost m_fitEnd m_keptPosts i_x0], [zAr T 0 m_all 3952 f_all]]) (fun (i : Nat) (u : Int32) => [(4, .int (nI i)), (3, .int u), (0, .ref mo), (1, .int c_), (2, .int w_)]) (fun (i : Nat) (u : Int32) => i ≤ 7 ∧ (i : Int) ≤ i_crossings.toInt ∧ u = nI (rHt (zWo f_all i_z0 i_inns) (zLo f_all i_z0) c_ (decide (¬ w_ = 0)) i)) (fun (i : Nat) (u : Int32) => 7 - i) ?_ 0 0 (show 0 ≤ 7 ∧ (0 : Int) ≤ i_crossings.toInt ∧ 0 = nI (rHt (zWo f_all i_z0 i_inns) (zLo f_all i_z0) c_ (decide (¬ w_ = 0)) 0) from ⟨by omega, by omega, rfl⟩) G (lv_sub hl [0, 1, 2, 3, 4] rfl)
  intro i u hI9 ih_5 H locs ls G hl
  replace hI9 : i ≤ 7 ∧ (i : Int) ≤ i_crossings.toInt ∧ u = nI (rHt (zWo f_all i_z0 i_inns) (zLo f_all i_z0) c_ (decide (¬ w_ = 0)) i) := hI9
  refine zAn3 hI9 ?_
  intro hi hic hu
  clear hI9
  replace G : zS T A s.heap s [[zO11 mo m_all m_has i_size i_next i_where i_token i_number i_word i_wrong i_farCrossing m_read i_z0 i_crossings i_inns m_posts m_shut m_here i_steps i_done i_at i_gone m_was m_came m_seenAt m_rowWorth m_farBy m_used i_everywhere i_again0 i_d0 i_never i_firstCame i_longRun i_moved i_crowd i_l0 i_fitMany i_fitLeast i_fitMost m_fitPost m_fitEnd m_keptPosts i_x0], [zAr T 0 m_all 3952 f_all]] _ _ := G
  replace hl : lv_has ls 6 [(4, .int (nI i)), (3, .int u), (0, .ref mo), (1, .int c_), (2, .int w_)] := hl
  refine lv_iload hx hb dX12_leadHere_5 (lv_at hl 0 rfl) ?_
  refine lv_aload_n hx hb dX12_leadHere_7 rfl (lv_at hl 2 rfl) ?_
  refine z_get C G clX12 0 rfl 12 (by decide) m_fl_RX12_169 rfl dX12_leadHere_8 ?_
  refine lv_icmp_ge (tgt := 70) hx hb dX12_leadHere_11 (by decide) (fun c_1 => ?_) (fun c_1 => ?_)
  · have c_1n : i_crossings.toInt ≤ (i : Int) := by have q := (fa_le _ _).mp c_1; rw [nI_toInt (n := i) (by omega)] at q; exact q
    refine lv_iload_n hx hb dX12_leadHere_70 rfl (lv_at hl 1 rfl) ?_
    exact z_back hQz_ (z_iret C hr hlocks G (Nat.le_of_ble_eq_true rfl) (Nat.le_of_ble_eq_true rfl) dX12_leadHere_71 ⟨rfl, (by rw [hu]; exact congrArg (fun q => nI (rHt (zWo f_all i_z0 i_inns) (zLo f_all i_z0) c_ (decide (¬ w_ = 0)) q)) (by omega))⟩)
  · have c_1n : ¬ i_crossings.toInt ≤ (i : Int) := fun q => c_1 ((fa_le _ _).mpr (by rw [nI_toInt (n := i) (by omega)]; exact q))
    have hw9 := hO9.2.1 i (by omega)
    refine lv_iconst (v := 0) hx hb dX12_leadHere_14 (by decide) ?_
    refine lv_istore (lv' := [(5, .int 0), (4, .int (nI i)), (3, .int u), (0, .ref mo), (1, .int c_), (2, .int w_)]) hx hb dX12_leadHere_15 hl (by decide) (zLvf_h rfl) (fun ls hl => ?_)
    refine z_lp2 (T := T) 17 (fun (k : Nat) (v : Int32) => [[zO11 mo m_all m_has i_size i_next i_where i_token i_number i_word i_wrong i_farCrossing m_read i_z0 i_crossings i_inns m_posts m_shut m_here i_steps i_done i_at i_gone m_was m_came m_seenAt m_rowWorth m_farBy m_used i_everywhere i_again0 i_d0 i_never i_firstCame i_longRun i_moved i_crowd i_l0 i_fitMany i_fitLeast i_fitMost m_fitPost m_fitEnd m_keptPosts i_x0], [zAr T 0 m_all 3952 f_all]]) (fun (k : Nat) (v : Int32) => [(5, .int (nI k)), (4, .int (nI i)), (3, .int v), (0, .ref mo), (1, .int c_), (2, .int w_)]) (fun (k : Nat) (v : Int32) => k ≤ 4 ∧ (k : Int) ≤ ((zWo f_all i_z0 i_inns) i).toInt ∧ v = u + nI (if (decide (¬ w_ = 0)) = true ∨ ¬ nI i = c_ then rHr (zLo f_all i_z0) i c_ k else 0)) (fun (k : Nat) (v : Int32) => 4 - k) ?_ 0 u (show 0 ≤ 4 ∧ (0 : Int) ≤ ((zWo f_all i_z0 i_inns) i).toInt ∧ u = u + nI (if (decide (¬ w_ = 0)) = true ∨ ¬ nI i = c_ then rHr (zLo f_all i_z0) i c_ 0 else 0) from ⟨by omega, by omega, rLd_0⟩) G (lv_sub hl [0, 1, 2, 3, 4, 5] rfl)
    intro k v hI9 ih_17 H locs ls G hl
    replace hI9 : k ≤ 4 ∧ (k : Int) ≤ ((zWo f_all i_z0 i_inns) i).toInt ∧ v = u + nI (if (decide (¬ w_ = 0)) = true ∨ ¬ nI i = c_ then rHr (zLo f_all i_z0) i c_ k else 0) := hI9
    refine zAn3 hI9 ?_
    intro hk hkw hv
    clear hI9
    replace G : zS T A s.heap s [[zO11 mo m_all m_has i_size i_next i_where i_token i_number i_word i_wrong i_farCrossing m_read i_z0 i_crossings i_inns m_posts m_shut m_here i_steps i_done i_at i_gone m_was m_came m_seenAt m_rowWorth m_farBy m_used i_everywhere i_again0 i_d0 i_never i_firstCame i_longRun i_moved i_crowd i_l0 i_fitMany i_fitLeast i_fitMost m_fitPost m_fitEnd m_keptPosts i_x0], [zAr T 0 m_all 3952 f_all]] _ _ := G
    replace hl : lv_has ls 6 [(5, .int (nI k)), (4, .int (nI i)), (3, .int v), (0, .ref mo), (1, .int c_), (2, .int w_)] := hl
    refine lv_iload hx hb dX12_leadHere_17 (lv_at hl 0 rfl) ?_
    refine lv_aload_n hx hb dX12_leadHere_19 rfl (lv_at hl 3 rfl) ?_
    refine lv_iload hx hb dX12_leadHere_20 (lv_at hl 1 rfl) ?_
    have ti_2 : (nI i).toInt = ((i : Nat) : Int) := nI_toInt (by omega)
    refine z_Vi (bc := [[zO11 mo m_all m_has i_size i_next i_where i_token i_number i_word i_wrong i_farCrossing m_read i_z0 i_crossings i_inns m_posts m_shut m_here i_steps i_done i_at i_gone m_was m_came m_seenAt m_rowWorth m_farBy m_used i_everywhere i_again0 i_d0 i_never i_firstCame i_longRun i_moved i_crowd i_l0 i_fitMany i_fitLeast i_fitMost m_fitPost m_fitEnd m_keptPosts i_x0], [zAr T 0 m_all 3952 f_all]]) (br := []) (As := [.int (nI i)]) (rest := [.int (nI k)]) C G (c_fm_roads5 l T mo m_all m_has i_size i_next i_where i_token i_number i_word i_wrong i_farCrossing m_read i_z0 i_crossings i_inns m_posts m_shut m_here i_steps i_done i_at i_gone m_was m_came m_seenAt m_rowWorth m_farBy m_used i_everywhere i_again0 i_d0 i_never i_firstCame i_longRun i_moved i_crowd i_l0 i_fitMany i_fitLeast i_fitMost m_fitPost m_fitEnd m_keptPosts i_x0 f_all (nI i) (by first | with_reducible assumption | with_reducible rfl | omega | assumption | rfl | decide) (by first | with_reducible assumption | with_reducible rfl | omega | assumption | rfl | decide) (by first | with_reducible assumption | with_reducible rfl | omega | assumption | rfl | decide)) (kV_RX12_255 C.2.2.2.2 (Nat.le_of_ble_eq_true rfl) (Nat.le_of_ble_eq_true rfl)) [0, 1] [0, 0] rfl rfl (ci := 11) (qc := (RX12, TX12, 43)) rfl rfl (List.mem_flatten.mpr ⟨_, List.mem_of_getElem? (i := 0) rfl, List.mem_cons_self⟩) rfl rfl hl.1 dX12_leadHere_22 (Nat.le_of_ble_eq_true rfl) (Nat.le_of_ble_eq_true rfl) (fun r_6 b1 H locs hw G => ?_)
    refine zAn4 hw ?_
    intro hbs9 h_3 h_4 h_5
    clear hw
    subst hbs9
    have G : zS T A s.heap s [[zO11 mo m_all m_has i_size i_next i_where i_token i_number i_word i_wrong i_farCrossing m_read i_z0 i_crossings i_inns m_posts m_shut m_here i_steps i_done i_at i_gone m_was m_came m_seenAt m_rowWorth m_farBy m_used i_everywhere i_again0 i_d0 i_never i_firstCame i_longRun i_moved i_crowd i_l0 i_fitMany i_fitLeast i_fitMost m_fitPost m_fitEnd m_keptPosts i_x0], [zAr T 0 m_all 3952 f_all]] _ _ := G
    rw [nI_n9 (by omega)] at h_5
    have hr5 : r_6.toInt = ((zWo f_all i_z0 i_inns) i).toInt := congrArg Int32.toInt h_5
    refine lv_icmp_ge (tgt := 64) hx hb dX12_leadHere_25 (by decide) (fun c_7 => ?_) (fun c_7 => ?_)
    · have c_7n : r_6.toInt ≤ (k : Int) := by have q := (fa_le _ _).mp c_7; rw [nI_toInt (n := k) (by omega)] at q; exact q
      refine lv_iinc (v := nI (i + 1)) (lv' := [(4, .int (nI (i + 1))), (5, .int (nI k)), (3, .int v), (0, .ref mo), (1, .int c_), (2, .int w_)]) hx hb dX12_leadHere_64 hl (k := 1) rfl (z_inc i 1) (by decide) (zLvf_h rfl) (fun ls hl => ?_)
      refine lv_goto (tgt := 5) hx hb dX12_leadHere_67 (by decide) ?_
      exact ih_5 (i + 1) v (show (i + 1) ≤ 7 ∧ ((i + 1) : Int) ≤ i_crossings.toInt ∧ v = nI (rHt (zWo f_all i_z0 i_inns) (zLo f_all i_z0) c_ (decide (¬ w_ = 0)) (i + 1)) from ⟨by omega, by omega, (rHt_s hu hv (by omega))⟩) (show 7 - (i + 1) < 7 - i from by omega) _ _ ls G (lv_sub hl [0, 2, 3, 4, 5] rfl)
    · have c_7n : ¬ r_6.toInt ≤ (k : Int) := fun q => c_7 ((fa_le _ _).mpr (by rw [nI_toInt (n := k) (by omega)]; exact q))
      refine lv_iload_n hx hb dX12_leadHere_28 rfl (lv_at hl 2 rfl) ?_
      refine lv_aload_n hx hb dX12_leadHere_29 rfl (lv_at hl 3 rfl) ?_
      refine lv_iload hx hb dX12_leadHere_30 (lv_at hl 1 rfl) ?_
      refine lv_iload hx hb dX12_leadHere_32 (lv_at hl 0 rfl) ?_
      have ti_8 : (nI i).toInt = ((i : Nat) : Int) := nI_toInt (by omega)
      have ti_9 : (nI k).toInt = ((k : Nat) : Int) := nI_toInt (by omega)
      refine z_Vi (bc := [[zO11 mo m_all m_has i_size i_next i_where i_token i_number i_word i_wrong i_farCrossing m_read i_z0 i_crossings i_inns m_posts m_shut m_here i_steps i_done i_at i_gone m_was m_came m_seenAt m_rowWorth m_farBy m_used i_everywhere i_again0 i_d0 i_never i_firstCame i_longRun i_moved i_crowd i_l0 i_fitMany i_fitLeast i_fitMost m_fitPost m_fitEnd m_keptPosts i_x0], [zAr T 0 m_all 3952 f_all]]) (br := []) (As := [.int (nI i), .int (nI k)]) (rest := [.int v]) C G (c_m_leadsTo l T mo m_all m_has i_size i_next i_where i_token i_number i_word i_wrong i_farCrossing m_read i_z0 i_crossings i_inns m_posts m_shut m_here i_steps i_done i_at i_gone m_was m_came m_seenAt m_rowWorth m_farBy m_used i_everywhere i_again0 i_d0 i_never i_firstCame i_longRun i_moved i_crowd i_l0 i_fitMany i_fitLeast i_fitMost m_fitPost m_fitEnd m_keptPosts i_x0 f_all (nI i) (nI k) (by first | with_reducible assumption | with_reducible rfl | omega | assumption | rfl | decide) (by first | with_reducible assumption | with_reducible rfl | omega | assumption | rfl | decide) (by first | with_reducible assumption | with_reducible rfl | omega | assumption | rfl | decide) (by first | with_reducible assumption | with_reducible rfl | omega | assumption | rfl | decide) (by first | with_reducible assumption | with_reducible rfl | omega | assumption | rfl | decide)) (kV_RX12_190 C.2.2.2.2 (Nat.le_of_ble_eq_true rfl) (Nat.le_of_ble_eq_true rfl)) [0, 1] [0, 0] rfl rfl (ci := 11) (qc := (RX12, TX12, 43)) rfl rfl (List.mem_flatten.mpr ⟨_, List.mem_of_getElem? (i := 0) rfl, List.mem_cons_self⟩) rfl rfl hl.1 dX12_leadHere_34 (Nat.le_of_ble_eq_true rfl) (Nat.le_of_ble_eq_true rfl) (fun r_13 b1 H locs hw G => ?_)
      refine zAn4 hw ?_
      intro hbs9 h_10 h_11 h_12
      clear hw
      subst hbs9
      have G : zS T A s.heap s [[zO11 mo m_all m_has i_size i_next i_where i_token i_number i_word i_wrong i_farCrossing m_read i_z0 i_crossings i_inns m_posts m_shut m_here i_steps i_done i_at i_gone m_was m_came m_seenAt m_rowWorth m_farBy m_used i_everywhere i_again0 i_d0 i_never i_firstCame i_longRun i_moved i_crowd i_l0 i_fitMany i_fitLeast i_fitMost m_fitPost m_fitEnd m_keptPosts i_x0], [zAr T 0 m_all 3952 f_all]] _ _ := G
      subst h_10
      refine lv_iload_n hx hb dX12_leadHere_37 rfl (lv_at hl 4 rfl) ?_
      refine lv_icmp_ne (tgt := 55) hx hb dX12_leadHere_38 (by decide) (fun c_14 => ?_) (fun c_14 => ?_)
      · have c_14n : ¬ (zLe f_all i_z0 (nI i) (nI k)).toInt = c_.toInt := fun q => c_14 ((fa_eq _ _).mpr q)
        refine lv_iconst (v := 0) hx hb dX12_leadHere_55 (by decide) ?_
        refine lv_iadd hx hb dX12_leadHere_56 ?_
        refine lv_istore_n (lv' := [(3, .int (v + 0)), (5, .int (nI k)), (4, .int (nI i)), (0, .ref mo), (1, .int c_), (2, .int w_)]) hx hb dX12_leadHere_57 rfl hl (by decide) (zLvf_h rfl) (fun ls hl => ?_)
        refine lv_iinc (v := nI (k + 1)) (lv' := [(5, .int (nI (k + 1))), (3, .int (v + 0)), (4, .int (nI i)), (0, .ref mo), (1, .int c_), (2, .int w_)]) hx hb dX12_leadHere_58 hl (k := 1) rfl (z_inc k 1) (by decide) (zLvf_h rfl) (fun ls hl => ?_)
        refine lv_goto (tgt := 17) hx hb dX12_leadHere_61 (by decide) ?_
        exact ih_17 (k + 1) (v + 0) (show (k + 1) ≤ 4 ∧ ((k + 1) : Int) ≤ ((zWo f_all i_z0 i_inns) i).toInt ∧ (v + 0) = u + nI (if (decide (¬ w_ = 0)) = true ∨ ¬ nI i = c_ then rHr (zLo f_all i_z0) i c_ (k + 1) else 0) from ⟨by omega, by omega, (rLd_n hv (zLe_o (f := f_all) (z := i_z0) (c := i) (k := k) (by omega) (by omega)) (by first | exact Or.inl (by first | with_reducible assumption | assumption) | exact Or.inr (fun q8 => q8.elim (fun q7 => (of_decide_eq_true q7) (by first | with_reducible assumption | assumption)) (fun q7 => q7 (by first | with_reducible assumption | assumption)))))⟩) (show 4 - (k + 1) < 4 - k from by omega) _ _ ls G (lv_sub hl [0, 2, 1, 3, 4, 5] rfl)
      · have c_14n : (zLe f_all i_z0 (nI i) (nI k)).toInt = c_.toInt := (fa_eq _ _).mp c_14
        refine lv_iload_n hx hb dX12_leadHere_41 rfl (lv_at hl 5 rfl) ?_
        refine lv_if_ne (tgt := 51) hx hb dX12_leadHere_42 (by decide) (fun c_15 => ?_) (fun c_15 => ?_)
        · have c_15n : ¬ w_.toInt = (0 : Int) := fun q => c_15 ((fa_eq _ _).mpr q)
          refine lv_iconst (v := 1) hx hb dX12_leadHere_51 (by decide) ?_
          refine lv_goto (tgt := 56) hx hb dX12_leadHere_52 (by decide) ?_
          refine lv_iadd hx hb dX12_leadHere_56 ?_
          refine lv_istore_n (lv' := [(3, .int (v + 1)), (5, .int (nI k)), (4, .int (nI i)), (0, .ref mo), (1, .int c_), (2, .int w_)]) hx hb dX12_leadHere_57 rfl hl (by decide) (zLvf_h rfl) (fun ls hl => ?_)
          refine lv_iinc (v := nI (k + 1)) (lv' := [(5, .int (nI (k + 1))), (3, .int (v + 1)), (4, .int (nI i)), (0, .ref mo), (1, .int c_), (2, .int w_)]) hx hb dX12_leadHere_58 hl (k := 1) rfl (z_inc k 1) (by decide) (zLvf_h rfl) (fun ls hl => ?_)
          refine lv_goto (tgt := 17) hx hb dX12_leadHere_61 (by decide) ?_
          exact ih_17 (k + 1) (v + 1) (show (k + 1) ≤ 4 ∧ ((k + 1) : Int) ≤ ((zWo f_all i_z0 i_inns) i).toInt ∧ (v + 1) = u + nI (if (decide (¬ w_ = 0)) = true ∨ ¬ nI i = c_ then rHr (zLo f_all i_z0) i c_ (k + 1) else 0) from ⟨by omega, by omega, (rLd_y hv (zLe_o (f := f_all) (z := i_z0) (c := i) (k := k) (by omega) (by omega)) (by first | with_reducible assumption | assumption) (by first | exact Or.inl (decide_eq_true (by first | with_reducible assumption | assumption)) | exact Or.inr (by first | with_reducible assumption | assumption)))⟩) (show 4 - (k + 1) < 4 - k from by omega) _ _ ls G (lv_sub hl [0, 2, 1, 3, 4, 5] rfl)
        · have c_15n : w_.toInt = (0 : Int) := (fa_eq _ _).mp c_15
          refine lv_iload hx hb dX12_leadHere_45 (lv_at hl 1 rfl) ?_
          refine lv_iload_n hx hb dX12_leadHere_47 rfl (lv_at hl 4 rfl) ?_
          refine lv_icmp_eq (tgt := 55) hx hb dX12_leadHere_48 (by decide) (fun c_16 => ?_) (fun c_16 => ?_)
          · have c_16n : (i : Int) = c_.toInt := by have q := (fa_eq _ _).mp c_16; rw [nI_toInt (n := i) (by omega)] at q; exact q
            refine lv_iconst (v := 0) hx hb dX12_leadHere_55 (by decide) ?_
            refine lv_iadd hx hb dX12_leadHere_56 ?_
            refine lv_istore_n (lv' := [(3, .int (v + 0)), (5, .int (nI k)), (4, .int (nI i)), (0, .ref mo), (1, .int c_), (2, .int w_)]) hx hb dX12_leadHere_57 rfl hl (by decide) (zLvf_h rfl) (fun ls hl => ?_)
            refine lv_iinc (v := nI (k + 1)) (lv' := [(5, .int (nI (k + 1))), (3, .int (v + 0)), (4, .int (nI i)), (0, .ref mo), (1, .int c_), (2, .int w_)]) hx hb dX12_leadHere_58 hl (k := 1) rfl (z_inc k 1) (by decide) (zLvf_h rfl) (fun ls hl => ?_)
            refine lv_goto (tgt := 17) hx hb dX12_leadHere_61 (by decide) ?_
            exact ih_17 (k + 1) (v + 0) (show (k + 1) ≤ 4 ∧ ((k + 1) : Int) ≤ ((zWo f_all i_z0 i_inns) i).toInt ∧ (v + 0) = u + nI (if (decide (¬ w_ = 0)) = true ∨ ¬ nI i = c_ then rHr (zLo f_all i_z0) i c_ (k + 1) else 0) from ⟨by omega, by omega, (rLd_n hv (zLe_o (f := f_all) (z := i_z0) (c := i) (k := k) (by omega) (by omega)) (by first | exact Or.inl (by first | with_reducible assumption | assumption) | exact Or.inr (fun q8 => q8.elim (fun q7 => (of_decide_eq_true q7) (by first | with_reducible assumption | assumption)) (fun q7 => q7 (by first | with_reducible assumption | assumption)))))⟩) (show 4 - (k + 1) < 4 - k from by omega) _ _ ls G (lv_sub hl [0, 2, 1, 3, 4, 5] rfl)
          · have c_16n : ¬ (i : Int) = c_.toInt := fun q => c_16 ((fa_eq _ _).mpr (by rw [nI_toInt (n := i) (by omega)]; exact q))
            refine lv_iconst (v := 1) hx hb dX12_leadHere_51 (by decide) ?_
            refine lv_goto (tgt := 56) hx hb dX12_leadHere_52 (by decide) ?_
            refine lv_iadd hx hb dX12_leadHere_56 ?_
            refine lv_istore_n (lv' := [(3, .int (v + 1)), (5, .int (nI k)), (4, .int (nI i)), (0, .ref mo), (1, .int c_), (2, .int w_)]) hx hb dX12_leadHere_57 rfl hl (by decide) (zLvf_h rfl) (fun ls hl => ?_)
            refine lv_iinc (v := nI (k + 1)) (lv' := [(5, .int (nI (k + 1))), (3, .int (v + 1)), (4, .int (nI i)), (0, .ref mo), (1, .int c_), (2, .int w_)]) hx hb dX12_leadHere_58 hl (k := 1) rfl (z_inc k 1) (by decide) (zLvf_h rfl) (fun ls hl => ?_)
            refine lv_goto (tgt := 17) hx hb dX12_leadHere_61 (by decide) ?_
            exact ih_17 (k + 1) (v + 1) (show (k + 1) ≤ 4 ∧ ((k + 1) : Int) ≤ ((zWo f_all i_z0 i_inns) i).toInt ∧ (v + 1) = u + nI (if (decide (¬ w_ = 0)) = true ∨ ¬ nI i = c_ then rHr (zLo f_all i_z0) i c_ (k + 1) else 0) from ⟨by omega, by omega, (rLd_y hv (zLe_o (f := f_all) (z := i_z0) (c := i) (k := k) (by omega) (by omega)) (by first | with_reducible assumption | assumption) (by first | exact Or.inl (decide_eq_true (by first | with_reducible assumption | assumption)) | exact Or.inr (by first | with_reducible assumption | assumption)))⟩) (show 4 - (k + 1) < 4 - k from by omega) _ _ ls G (lv_sub hl [0, 2, 1, 3, 4, 5] rfl)
set_option maxHeartbeats 4000000 in
set_option maxRecDepth 100000 in
/-- c_fm_crossingsOf -/
theorem c_fm_crossingsOf (l : Launch) (T : zTy) (mo : Nat) (m_all : Nat) (m_has : Nat) (i_size : Int32) (i_next : Int32) (i_where : Int32) (i_token : Int32) (i_number : Int32) (i_word : Int32) (i_wrong : Int32) (i_farCrossing : Int32) (m_read : Nat) (i_z0 : Int32) (i_crossings : Int32) (i_inns : Int32) (m_posts : Nat) (m_shut : Nat) (m_here : Nat) (i_steps : Int32) (i_done : Int32) (i_at : Int32) (i_gone : Int32) (m_was : Nat) (m_came : Nat) (m_seenAt : Nat) (m_rowWorth : Nat) (m_farBy : Nat) (m_used : Nat) (i_everywhere : Int32) (i_again0 : Int32) (i_d0 : Int32) (i_never : Int32) (i_firstCame : Int32) (i_longRun : Int32) (i_moved : Int32) (i_crowd : Int32) (i_l0 : Int32) (i_fitMany : Int32) (i_fitLeast : Int32) (i_fitMost : Int32) (m_fitPost : Nat) (m_fitEnd : Nat) (m_keptPosts : Nat) (i_x0 : Int32) (f_all : Nat → Int32) (w_ : Int32) (hL : zML f_all i_z0 i_crossings) (hVR : zVR (fun j => f_all (i_z0.toInt.toNat + j))) : zMi l T yX12_crossingsOf cX12_crossingsOf 5 (some .int) 5 0 0 [.ref mo, .int w_] [[zO11 mo m_all m_has i_size i_next i_where i_token i_number i_word i_wrong i_farCrossing m_read i_z0 i_crossings i_inns m_posts m_shut m_here i_steps i_done i_at i_gone m_was m_came m_seenAt m_rowWorth m_farBy m_used i_everywhere i_again0 i_d0 i_never i_firstCame i_longRun i_moved i_crowd i_l0 i_fitMany i_fitLeast i_fitMost m_fitPost m_fitEnd m_keptPosts i_x0], [zAr T 0 m_all 3952 f_all]] (fun (r : Int32) bs => bs = [[zO11 mo m_all m_has i_size i_next i_where i_token i_number i_word i_wrong i_farCrossing m_read i_z0 i_crossings i_inns m_posts m_shut m_here i_steps i_done i_at i_gone m_was m_came m_seenAt m_rowWorth m_farBy m_used i_everywhere i_again0 i_d0 i_never i_firstCame i_longRun i_moved i_crowd i_l0 i_fitMany i_fitLeast i_fitMost m_fitPost m_fitEnd m_keptPosts i_x0], [zAr T 0 m_all 3952 f_all]] ∧ (w_.toInt = 2 ∧ r = rHd (zWo f_all i_z0 i_inns) (zLo f_all i_z0) i_crossings.toInt.toNat ∨ w_.toInt = 3 ∧ r = rEn (zWo f_all i_z0 i_inns) i_inns i_crossings.toInt.toNat ∨ ¬ w_.toInt = 2 ∧ ¬ w_.toInt = 3 ∧ r = rEv (zWo f_all i_z0 i_inns) (zLo f_all i_z0) i_crossings.toInt.toNat)) := by
  refine zMi_of (own := RX12) (by decide) rfl (Nat.le_of_ble_eq_true rfl) ?_
  intro p e s m args below meth c A ls C hr hlocks hnm hAe G hl
  refine zHide (fun Qz_ hQz_ => ?_)
  have hx := C.1
  have hb := C.2.1
  have hl : lv_has ls 5 [(0, .ref mo), (1, .int w_)] := hl
  have hz := hL.1
  have hcr := hL.cr
  have hO9 := qOk (n := i_inns) hL hVR
  have hg9 : ∀ c, rHt (zWo f_all i_z0 i_inns) (zLo f_all i_z0) (nI c) true i_crossings.toInt.toNat < 1000 := fun c => by have q9 := rHt_le (W := (zWo f_all i_z0 i_inns)) (L := (zLo f_all i_z0)) (y := nI c) (own := true) (fun j hj => (hO9.2.1 j hj).2) i_crossings.toInt.toNat (by omega); omega
  have hg0 : ∀ c, rHt (zWo f_all i_z0 i_inns) (zLo f_all i_z0) (nI c) false i_crossings.toInt.toNat < 1000 := fun c => by have q9 := rHt_le (W := (zWo f_all i_z0 i_inns)) (L := (zLo f_all i_z0)) (y := nI c) (own := false) (fun j hj => (hO9.2.1 j hj).2) i_crossings.toInt.toNat (by omega); omega
  refine lv_iconst (v := 0) hx hb dX12_crossingsOf_0 (by decide) ?_
  refine lv_istore_n (lv' := [(2, .int 0), (0, .ref mo), (1, .int w_)]) hx hb dX12_crossingsOf_1 rfl hl (by decide) (zLvf_h rfl) (fun ls hl => ?_)
  refine lv_iconst (v := 0) hx hb dX12_crossingsOf_2 (by decide) ?_
  refine lv_istore_n (lv' := [(3, .int 0), (2, .int 0), (0, .ref mo), (1, .int w_)]) hx hb dX12_crossingsOf_3 rfl hl (by decide) (zLvf_h rfl) (fun ls hl => ?_)
  refine z_lp2 (T := T) 4 (fun (i : Nat) (u : Int32) => [[zO11 mo m_all m_has i_size i_next i_where i_token i_number i_word i_wrong i_farCrossing m_read i_z0 i_crossings i_inns m_posts m_shut m_here i_steps i_done i_at i_gone m_was m_came m_seenAt m_rowWorth m_farBy m_used i_everywhere i_again0 i_d0 i_never i_firstCame i_longRun i_moved i_crowd i_l0 i_fitMany i_fitLeast i_fitMost m_fitPost m_fitEnd m_keptPosts i_x0], [zAr T 0 m_all 3952 f_all]]) (fun (i : Nat) (u : Int32) => [(3, .int (nI i)), (2, .int u), (0, .ref mo), (1, .int w_)]) (fun (i : Nat) (u : Int32) => i ≤ 7 ∧ (i : Int) ≤ i_crossings.toInt ∧ rOb (rKd (zWo f_all i_z0 i_inns) (zLo f_all i_z0) i_crossings.toInt.toNat i_inns w_) i u) (fun (i : Nat) (u : Int32) => 7 - i) ?_ 0 0 (show 0 ≤ 7 ∧ (0 : Int) ≤ i_crossings.toInt ∧ rOb (rKd (zWo f_all i_z0 i_inns) (zLo f_all i_z0) i_crossings.toInt.toNat i_inns w_) 0 0 from ⟨by omega, by omega, rOb_0⟩) G (lv_sub hl [0, 1, 2, 3] rfl)
  intro i u hI9 ih_4 H locs ls G hl
  replace hI9 : i ≤ 7 ∧ (i : Int) ≤ i_crossings.toInt ∧ rOb (rKd (zWo f_all i_z0 i_inns) (zLo f_all i_z0) i_crossings.toInt.toNat i_inns w_) i u := hI9
  refine zAn3 hI9 ?_
  intro hi hic hu
  clear hI9
  replace G : zS T A s.heap s [[zO11 mo m_all m_has i_size i_next i_where i_token i_number i_word i_wrong i_farCrossing m_read i_z0 i_crossings i_inns m_posts m_shut m_here i_steps i_done i_at i_gone m_was m_came m_seenAt m_rowWorth m_farBy m_used i_everywhere i_again0 i_d0 i_never i_firstCame i_longRun i_moved i_crowd i_l0 i_fitMany i_fitLeast i_fitMost m_fitPost m_fitEnd m_keptPosts i_x0], [zAr T 0 m_all 3952 f_all]] _ _ := G
  replace hl : lv_has ls 5 [(3, .int (nI i)), (2, .int u), (0, .ref mo), (1, .int w_)] := hl
  refine lv_iload_n hx hb dX12_crossingsOf_4 rfl (lv_at hl 0 rfl) ?_
  refine lv_aload_n hx hb dX12_crossingsOf_5 rfl (lv_at hl 2 rfl) ?_
  refine z_get C G clX12 0 rfl 12 (by decide) m_fl_RX12_169 rfl dX12_crossingsOf_6 ?_
  refine lv_icmp_ge (tgt := 105) hx hb dX12_crossingsOf_9 (by decide) (fun c_1 => ?_) (fun c_1 => ?_)
  · have c_1n : i_crossings.toInt ≤ (i : Int) := by have q := (fa_le _ _).mp c_1; rw [nI_toInt (n := i) (by omega)] at q; exact q
    refine lv_iload_n hx hb dX12_crossingsOf_105 rfl (lv_at hl 1 rfl) ?_
    exact z_back hQz_ (z_iret C hr hlocks G (Nat.le_of_ble_eq_true rfl) (Nat.le_of_ble_eq_true rfl) dX12_crossingsOf_106 ⟨rfl, (by rw [show i = i_crossings.toInt.toNat by omega] at hu; exact (if q2 : w_.toInt = 2 then Or.inl ⟨q2, rKd_2 (by omega) q2 hu⟩ else if q3 : w_.toInt = 3 then Or.inr (Or.inl ⟨q3, rKd_3 (by omega) q3 hu⟩) else Or.inr (Or.inr ⟨q2, q3, rKd_6 (by omega) q2 q3 hu⟩)))⟩)
  · have c_1n : ¬ i_crossings.toInt ≤ (i : Int) := fun q => c_1 ((fa_le _ _).mpr (by rw [nI_toInt (n := i) (by omega)]; exact q))
    refine lv_iload_n hx hb dX12_crossingsOf_12 rfl (lv_at hl 3 rfl) ?_
    refine lv_iconst (v := 2) hx hb dX12_crossingsOf_13 (by decide) ?_
    refine lv_icmp_ne (tgt := 34) hx hb dX12_crossingsOf_14 (by decide) (fun c_2 => ?_) (fun c_2 => ?_)
    · have c_2n : ¬ w_.toInt = (2 : Int) := fun q => c_2 ((fa_eq _ _).mpr q)
      refine lv_iload_n hx hb dX12_crossingsOf_34 rfl (lv_at hl 3 rfl) ?_
      refine lv_iconst (v := 3) hx hb dX12_crossingsOf_35 (by decide) ?_
      refine lv_icmp_ne (tgt := 63) hx hb dX12_crossingsOf_36 (by decide) (fun c_3 => ?_) (fun c_3 => ?_)
      · have c_3n : ¬ w_.toInt = (3 : Int) := fun q => c_3 ((fa_eq _ _).mpr q)
        have hw2 : ¬ w_.toInt = 2 := by omega
        refine lv_aload_n hx hb dX12_crossingsOf_63 rfl (lv_at hl 2 rfl) ?_
        refine lv_iload_n hx hb dX12_crossingsOf_64 rfl (lv_at hl 0 rfl) ?_
        refine lv_iconst (v := 1) hx hb dX12_crossingsOf_65 (by decide) ?_
        have ti_4 : (nI i).toInt = ((i : Nat) : Int) := nI_toInt (by omega)
        refine z_Vi (bc := [[zO11 mo m_all m_has i_size i_next i_where i_token i_number i_word i_wrong i_farCrossing m_read i_z0 i_crossings i_inns m_posts m_shut m_here i_steps i_done i_at i_gone m_was m_came m_seenAt m_rowWorth m_farBy m_used i_everywhere i_again0 i_d0 i_never i_firstCame i_longRun i_moved i_crowd i_l0 i_fitMany i_fitLeast i_fitMost m_fitPost m_fitEnd m_keptPosts i_x0], [zAr T 0 m_all 3952 f_all]]) (br := []) (As := [.int (nI i), .int 1]) (rest := []) C G (c_fm_leadHere l T mo m_all m_has i_size i_next i_where i_token i_number i_word i_wrong i_farCrossing m_read i_z0 i_crossings i_inns m_posts m_shut m_here i_steps i_done i_at i_gone m_was m_came m_seenAt m_rowWorth m_farBy m_used i_everywhere i_again0 i_d0 i_never i_firstCame i_longRun i_moved i_crowd i_l0 i_fitMany i_fitLeast i_fitMost m_fitPost m_fitEnd m_keptPosts i_x0 f_all (nI i) 1 (by first | with_reducible assumption | with_reducible rfl | omega | assumption | rfl | decide) (by first | with_reducible assumption | with_reducible rfl | omega | assumption | rfl | decide)) (kV_RX12_267 C.2.2.2.2 (Nat.le_of_ble_eq_true rfl) (Nat.le_of_ble_eq_true rfl)) [0, 1] [0, 0] rfl rfl (ci := 11) (qc := (RX12, TX12, 43)) rfl rfl (List.mem_flatten.mpr ⟨_, List.mem_of_getElem? (i := 0) rfl, List.mem_cons_self⟩) rfl rfl hl.1 dX12_crossingsOf_66 (Nat.le_of_ble_eq_true rfl) (Nat.le_of_ble_eq_true rfl) (fun r_6 b1 H locs hw G => ?_)
        refine zAn2 hw ?_
        intro hbs9 h_5
        clear hw
        subst hbs9
        have G : zS T A s.heap s [[zO11 mo m_all m_has i_size i_next i_where i_token i_number i_word i_wrong i_farCrossing m_read i_z0 i_crossings i_inns m_posts m_shut m_here i_steps i_done i_at i_gone m_was m_came m_seenAt m_rowWorth m_farBy m_used i_everywhere i_again0 i_d0 i_never i_firstCame i_longRun i_moved i_crowd i_l0 i_fitMany i_fitLeast i_fitMost m_fitPost m_fitEnd m_keptPosts i_x0], [zAr T 0 m_all 3952 f_all]] _ _ := G
        rw [own1] at h_5
        refine lv_aload_n hx hb dX12_crossingsOf_69 rfl (lv_at hl 2 rfl) ?_
        refine lv_iload_n hx hb dX12_crossingsOf_70 rfl (lv_at hl 0 rfl) ?_
        have ti_7 : (nI i).toInt = ((i : Nat) : Int) := nI_toInt (by omega)
        refine z_Vi (bc := [[zO11 mo m_all m_has i_size i_next i_where i_token i_number i_word i_wrong i_farCrossing m_read i_z0 i_crossings i_inns m_posts m_shut m_here i_steps i_done i_at i_gone m_was m_came m_seenAt m_rowWorth m_farBy m_used i_everywhere i_again0 i_d0 i_never i_firstCame i_longRun i_moved i_crowd i_l0 i_fitMany i_fitLeast i_fitMost m_fitPost m_fitEnd m_keptPosts i_x0], [zAr T 0 m_all 3952 f_all]]) (br := []) (As := [.int (nI i)]) (rest := [.int r_6]) C G (c_fm_roads5 l T mo m_all m_has i_size i_next i_where i_token i_number i_word i_wrong i_farCrossing m_read i_z0 i_crossings i_inns m_posts m_shut m_here i_steps i_done i_at i_gone m_was m_came m_seenAt m_rowWorth m_farBy m_used i_everywhere i_again0 i_d0 i_never i_firstCame i_longRun i_moved i_crowd i_l0 i_fitMany i_fitLeast i_fitMost m_fitPost m_fitEnd m_keptPosts i_x0 f_all (nI i) (by first | with_reducible assumption | with_reducible rfl | omega | assumption | rfl | decide) (by first | with_reducible assumption | with_reducible rfl | omega | assumption | rfl | decide) (by first | with_reducible assumption | with_reducible rfl | omega | assumption | rfl | decide)) (kV_RX12_255 C.2.2.2.2 (Nat.le_of_ble_eq_true rfl) (Nat.le_of_ble_eq_true rfl)) [0, 1] [0, 0] rfl rfl (ci := 11) (qc := (RX12, TX12, 43)) rfl rfl (List.mem_flatten.mpr ⟨_, List.mem_of_getElem? (i := 0) rfl, List.mem_cons_self⟩) rfl rfl hl.1 dX12_crossingsOf_71 (Nat.le_of_ble_eq_true rfl) (Nat.le_of_ble_eq_true rfl) (fun r_11 b1 H locs hw G => ?_)
        refine zAn4 hw ?_
        intro hbs9 h_8 h_9 h_10
        clear hw
        subst hbs9
        have G : zS T A s.heap s [[zO11 mo m_all m_has i_size i_next i_where i_token i_number i_word i_wrong i_farCrossing m_read i_z0 i_crossings i_inns m_posts m_shut m_here i_steps i_done i_at i_gone m_was m_came m_seenAt m_rowWorth m_farBy m_used i_everywhere i_again0 i_d0 i_never i_firstCame i_longRun i_moved i_crowd i_l0 i_fitMany i_fitLeast i_fitMost m_fitPost m_fitEnd m_keptPosts i_x0], [zAr T 0 m_all 3952 f_all]] _ _ := G
        rw [nI_n9 (by omega)] at h_10
        refine lv_icmp_ne (tgt := 81) hx hb dX12_crossingsOf_74 (by decide) (fun c_12 => ?_) (fun c_12 => ?_)
        · have c_12n : ¬ r_6.toInt = r_11.toInt := fun q => c_12 ((fa_eq _ _).mpr q)
          refine lv_iconst (v := 0) hx hb dX12_crossingsOf_81 (by decide) ?_
          have hg1 := hg0 i
          refine lv_istore (lv' := [(4, .int 0), (3, .int (nI i)), (2, .int u), (0, .ref mo), (1, .int w_)]) hx hb dX12_crossingsOf_82 hl (by decide) (zLvf_h rfl) (fun ls hl => ?_)
          refine lv_iload_n hx hb dX12_crossingsOf_84 rfl (lv_at hl 2 rfl) ?_
          refine lv_iload hx hb dX12_crossingsOf_85 (lv_at hl 0 rfl) ?_
          refine lv_if_eq (tgt := 96) hx hb dX12_crossingsOf_87 (by decide) (fun _ => ?_) (fun q => absurd (by decide) q)
          refine lv_iconst (v := 0) hx hb dX12_crossingsOf_96 (by decide) ?_
          refine lv_ior hx hb dX12_crossingsOf_97 ?_
          refine lv_istore_n (lv' := [(2, .int (u ||| 0)), (4, .int 0), (3, .int (nI i)), (0, .ref mo), (1, .int w_)]) hx hb dX12_crossingsOf_98 rfl hl (by decide) (zLvf_h rfl) (fun ls hl => ?_)
          refine lv_iinc (v := nI (i + 1)) (lv' := [(3, .int (nI (i + 1))), (2, .int (u ||| 0)), (4, .int 0), (0, .ref mo), (1, .int w_)]) hx hb dX12_crossingsOf_99 hl (k := 2) rfl (z_inc i 1) (by decide) (zLvf_h rfl) (fun ls hl => ?_)
          refine lv_goto (tgt := 4) hx hb dX12_crossingsOf_102 (by decide) ?_
          exact ih_4 (i + 1) (u ||| 0) (show (i + 1) ≤ 7 ∧ ((i + 1) : Int) ≤ i_crossings.toInt ∧ rOb (rKd (zWo f_all i_z0 i_inns) (zLo f_all i_z0) i_crossings.toInt.toNat i_inns w_) (i + 1) (u ||| 0) from ⟨by omega, by omega, (rOb_n hu (fun q8 => by rcases q8 with q8 | q8 | q8 <;> first | (exfalso; omega) | (have q7 := q8.2.2; rw [← h_5, ← h_10] at q7; exact absurd q7 (by first | with_reducible assumption | assumption))))⟩) (show 7 - (i + 1) < 7 - i from by omega) _ _ ls G (lv_sub hl [0, 1, 3, 4] rfl)
        · have c_12n : r_6.toInt = r_11.toInt := (fa_eq _ _).mp c_12
          refine lv_iconst (v := 1) hx hb dX12_crossingsOf_77 (by decide) ?_
          refine lv_goto (tgt := 82) hx hb dX12_crossingsOf_78 (by decide) ?_
          have hg1 := hg0 i
          refine lv_istore (lv' := [(4, .int 1), (3, .int (nI i)), (2, .int u), (0, .ref mo), (1, .int w_)]) hx hb dX12_crossingsOf_82 hl (by decide) (zLvf_h rfl) (fun ls hl => ?_)
          refine lv_iload_n hx hb dX12_crossingsOf_84 rfl (lv_at hl 2 rfl) ?_
          refine lv_iload hx hb dX12_crossingsOf_85 (lv_at hl 0 rfl) ?_
          refine lv_if_eq (tgt := 96) hx hb dX12_crossingsOf_87 (by decide) (fun q => absurd q (by decide)) (fun _ => ?_)
          refine lv_iconst (v := 1) hx hb dX12_crossingsOf_90 (by decide) ?_
          refine lv_iload_n hx hb dX12_crossingsOf_91 rfl (lv_at hl 1 rfl) ?_
          refine lv_ishl hx hb dX12_crossingsOf_92 ?_
          refine lv_goto (tgt := 97) hx hb dX12_crossingsOf_93 (by decide) ?_
          refine lv_ior hx hb dX12_crossingsOf_97 ?_
          refine lv_istore_n (lv' := [(2, .int (u ||| (1 <<< ((nI i) &&& 31)))), (4, .int 1), (3, .int (nI i)), (0, .ref mo), (1, .int w_)]) hx hb dX12_crossingsOf_98 rfl hl (by decide) (zLvf_h rfl) (fun ls hl => ?_)
          refine lv_iinc (v := nI (i + 1)) (lv' := [(3, .int (nI (i + 1))), (2, .int (u ||| (1 <<< ((nI i) &&& 31)))), (4, .int 1), (0, .ref mo), (1, .int w_)]) hx hb dX12_crossingsOf_99 hl (k := 2) rfl (z_inc i 1) (by decide) (zLvf_h rfl) (fun ls hl => ?_)
          refine lv_goto (tgt := 4) hx hb dX12_crossingsOf_102 (by decide) ?_
          exact ih_4 (i + 1) (u ||| (1 <<< ((nI i) &&& 31))) (show (i + 1) ≤ 7 ∧ ((i + 1) : Int) ≤ i_crossings.toInt ∧ rOb (rKd (zWo f_all i_z0 i_inns) (zLo f_all i_z0) i_crossings.toInt.toNat i_inns w_) (i + 1) (u ||| (1 <<< ((nI i) &&& 31))) from ⟨by omega, by omega, (rOb_y (by omega) hu (Or.inr (Or.inr ⟨by omega, by omega, by rw [← h_5, ← h_10]; assumption⟩)))⟩) (show 7 - (i + 1) < 7 - i from by omega) _ _ ls G (lv_sub hl [0, 1, 3, 4] rfl)
      · have c_3n : w_.toInt = (3 : Int) := (fa_eq _ _).mp c_3
        have hw2 : ¬ w_.toInt = 2 := by omega
        refine lv_aload_n hx hb dX12_crossingsOf_39 rfl (lv_at hl 2 rfl) ?_
        refine lv_iload_n hx hb dX12_crossingsOf_40 rfl (lv_at hl 0 rfl) ?_
        have ti_13 : (nI i).toInt = ((i : Nat) : Int) := nI_toInt (by omega)
        refine z_Vi (bc := [[zO11 mo m_all m_has i_size i_next i_where i_token i_number i_word i_wrong i_farCrossing m_read i_z0 i_crossings i_inns m_posts m_shut m_here i_steps i_done i_at i_gone m_was m_came m_seenAt m_rowWorth m_farBy m_used i_everywhere i_again0 i_d0 i_never i_firstCame i_longRun i_moved i_crowd i_l0 i_fitMany i_fitLeast i_fitMost m_fitPost m_fitEnd m_keptPosts i_x0]]) (br := [[zAr T 0 m_all 3952 f_all]]) (As := [.int (nI i)]) (rest := []) C G (c_m_isInn l T mo m_all m_has i_size i_next i_where i_token i_number i_word i_wrong i_farCrossing m_read i_z0 i_crossings i_inns m_posts m_shut m_here i_steps i_done i_at i_gone m_was m_came m_seenAt m_rowWorth m_farBy m_used i_everywhere i_again0 i_d0 i_never i_firstCame i_longRun i_moved i_crowd i_l0 i_fitMany i_fitLeast i_fitMost m_fitPost m_fitEnd m_keptPosts i_x0 (nI i)) (kV_RX12_178 C.2.2.2.2 (Nat.le_of_ble_eq_true rfl) (Nat.le_of_ble_eq_true rfl)) [0] [0] rfl rfl (ci := 11) (qc := (RX12, TX12, 43)) rfl rfl (List.mem_flatten.mpr ⟨_, List.mem_of_getElem? (i := 0) rfl, List.mem_cons_self⟩) rfl rfl hl.1 dX12_crossingsOf_41 (Nat.le_of_ble_eq_true rfl) (Nat.le_of_ble_eq_true rfl) (fun r_15 b1 H locs hw G => ?_)
        refine zAn2 hw ?_
        intro hbs9 hc_14
        clear hw
        subst hbs9
        have G : zS T A s.heap s [[zAr T 0 m_all 3952 f_all], [zO11 mo m_all m_has i_size i_next i_where i_token i_number i_word i_wrong i_farCrossing m_read i_z0 i_crossings i_inns m_posts m_shut m_here i_steps i_done i_at i_gone m_was m_came m_seenAt m_rowWorth m_farBy m_used i_everywhere i_again0 i_d0 i_never i_firstCame i_longRun i_moved i_crowd i_l0 i_fitMany i_fitLeast i_fitMost m_fitPost m_fitEnd m_keptPosts i_x0]] _ _ := G
        rcases hc_14 with ⟨rfl, h_16⟩ | ⟨rfl, h_17⟩
        · have h_16 : zInn i_inns (nI i) := h_16
          refine lv_if_ne (tgt := 59) hx hb dX12_crossingsOf_44 (by decide) (fun _ => ?_) (fun q => absurd q (by decide))
          refine lv_iconst (v := 0) hx hb dX12_crossingsOf_59 (by decide) ?_
          refine lv_goto (tgt := 82) hx hb dX12_crossingsOf_60 (by decide) ?_
          have hg1 := hg0 i
          refine lv_istore (lv' := [(4, .int 0), (3, .int (nI i)), (2, .int u), (0, .ref mo), (1, .int w_)]) hx hb dX12_crossingsOf_82 hl (by decide) (zLvf_h rfl) (fun ls hl => ?_)
          refine lv_iload_n hx hb dX12_crossingsOf_84 rfl (lv_at hl 2 rfl) ?_
          refine lv_iload hx hb dX12_crossingsOf_85 (lv_at hl 0 rfl) ?_
          refine lv_if_eq (tgt := 96) hx hb dX12_crossingsOf_87 (by decide) (fun _ => ?_) (fun q => absurd (by decide) q)
          refine lv_iconst (v := 0) hx hb dX12_crossingsOf_96 (by decide) ?_
          refine lv_ior hx hb dX12_crossingsOf_97 ?_
          refine lv_istore_n (lv' := [(2, .int (u ||| 0)), (4, .int 0), (3, .int (nI i)), (0, .ref mo), (1, .int w_)]) hx hb dX12_crossingsOf_98 rfl hl (by decide) (zLvf_h rfl) (fun ls hl => ?_)
          refine lv_iinc (v := nI (i + 1)) (lv' := [(3, .int (nI (i + 1))), (2, .int (u ||| 0)), (4, .int 0), (0, .ref mo), (1, .int w_)]) hx hb dX12_crossingsOf_99 hl (k := 2) rfl (z_inc i 1) (by decide) (zLvf_h rfl) (fun ls hl => ?_)
          refine lv_goto (tgt := 4) hx hb dX12_crossingsOf_102 (by decide) ?_
          have G := G.sub (bs' := [[zO11 mo m_all m_has i_size i_next i_where i_token i_number i_word i_wrong i_farCrossing m_read i_z0 i_crossings i_inns m_posts m_shut m_here i_steps i_done i_at i_gone m_was m_came m_seenAt m_rowWorth m_farBy m_used i_everywhere i_again0 i_d0 i_never i_firstCame i_longRun i_moved i_crowd i_l0 i_fitMany i_fitLeast i_fitMost m_fitPost m_fitEnd m_keptPosts i_x0], [zAr T 0 m_all 3952 f_all]]) [1, 0] rfl
          exact ih_4 (i + 1) (u ||| 0) (show (i + 1) ≤ 7 ∧ ((i + 1) : Int) ≤ i_crossings.toInt ∧ rOb (rKd (zWo f_all i_z0 i_inns) (zLo f_all i_z0) i_crossings.toInt.toNat i_inns w_) (i + 1) (u ||| 0) from ⟨by omega, by omega, (rOb_n hu (fun q8 => by rcases q8 with q8 | q8 | q8 <;> first | (exfalso; omega) | exact absurd (by first | with_reducible assumption | assumption) q8.2.2 | (have q7 := q8.2.1; rw [zWo_r (by omega) q8.2.2] at q7; exact absurd q7 (by first | with_reducible assumption | assumption))))⟩) (show 7 - (i + 1) < 7 - i from by omega) _ _ ls G (lv_sub hl [0, 1, 3, 4] rfl)
        · have h_17 : ¬ zInn i_inns (nI i) := h_17
          refine lv_if_ne (tgt := 59) hx hb dX12_crossingsOf_44 (by decide) (fun q => absurd (by decide) q) (fun _ => ?_)
          refine lv_aload_n hx hb dX12_crossingsOf_47 rfl (lv_at hl 2 rfl) ?_
          refine lv_iload_n hx hb dX12_crossingsOf_48 rfl (lv_at hl 0 rfl) ?_
          have ti_18 : (nI i).toInt = ((i : Nat) : Int) := nI_toInt (by omega)
          refine z_Vi (bc := [[zO11 mo m_all m_has i_size i_next i_where i_token i_number i_word i_wrong i_farCrossing m_read i_z0 i_crossings i_inns m_posts m_shut m_here i_steps i_done i_at i_gone m_was m_came m_seenAt m_rowWorth m_farBy m_used i_everywhere i_again0 i_d0 i_never i_firstCame i_longRun i_moved i_crowd i_l0 i_fitMany i_fitLeast i_fitMost m_fitPost m_fitEnd m_keptPosts i_x0], [zAr T 0 m_all 3952 f_all]]) (br := []) (As := [.int (nI i)]) (rest := []) C G (c_m_roadsOf l T mo m_all m_has i_size i_next i_where i_token i_number i_word i_wrong i_farCrossing m_read i_z0 i_crossings i_inns m_posts m_shut m_here i_steps i_done i_at i_gone m_was m_came m_seenAt m_rowWorth m_farBy m_used i_everywhere i_again0 i_d0 i_never i_firstCame i_longRun i_moved i_crowd i_l0 i_fitMany i_fitLeast i_fitMost m_fitPost m_fitEnd m_keptPosts i_x0 f_all (nI i) (by first | with_reducible assumption | with_reducible rfl | omega | assumption | rfl | decide) (by first | with_reducible assumption | with_reducible rfl | omega | assumption | rfl | decide) (by first | with_reducible assumption | with_reducible rfl | omega | assumption | rfl | decide)) (kV_RX12_181 C.2.2.2.2 (Nat.le_of_ble_eq_true rfl) (Nat.le_of_ble_eq_true rfl)) [1, 0] [0, 0] rfl rfl (ci := 11) (qc := (RX12, TX12, 43)) rfl rfl (List.mem_flatten.mpr ⟨_, List.mem_of_getElem? (i := 0) rfl, List.mem_cons_self⟩) rfl rfl hl.1 dX12_crossingsOf_49 (Nat.le_of_ble_eq_true rfl) (Nat.le_of_ble_eq_true rfl) (fun r_22 b1 H locs hw G => ?_)
          refine zAn4 hw ?_
          intro hbs9 h_19 h_20 h_21
          clear hw
          subst hbs9
          have G : zS T A s.heap s [[zO11 mo m_all m_has i_size i_next i_where i_token i_number i_word i_wrong i_farCrossing m_read i_z0 i_crossings i_inns m_posts m_shut m_here i_steps i_done i_at i_gone m_was m_came m_seenAt m_rowWorth m_farBy m_used i_everywhere i_again0 i_d0 i_never i_firstCame i_longRun i_moved i_crowd i_l0 i_fitMany i_fitLeast i_fitMost m_fitPost m_fitEnd m_keptPosts i_x0], [zAr T 0 m_all 3952 f_all]] _ _ := G
          subst h_19
          refine lv_if_ne (tgt := 59) hx hb dX12_crossingsOf_52 (by decide) (fun c_23 => ?_) (fun c_23 => ?_)
          · have c_23n : ¬ (zRd f_all i_z0 (nI i)).toInt = (0 : Int) := fun q => c_23 ((fa_eq _ _).mpr q)
            refine lv_iconst (v := 0) hx hb dX12_crossingsOf_59 (by decide) ?_
            refine lv_goto (tgt := 82) hx hb dX12_crossingsOf_60 (by decide) ?_
            have hg1 := hg0 i
            refine lv_istore (lv' := [(4, .int 0), (3, .int (nI i)), (2, .int u), (0, .ref mo), (1, .int w_)]) hx hb dX12_crossingsOf_82 hl (by decide) (zLvf_h rfl) (fun ls hl => ?_)
            refine lv_iload_n hx hb dX12_crossingsOf_84 rfl (lv_at hl 2 rfl) ?_
            refine lv_iload hx hb dX12_crossingsOf_85 (lv_at hl 0 rfl) ?_
            refine lv_if_eq (tgt := 96) hx hb dX12_crossingsOf_87 (by decide) (fun _ => ?_) (fun q => absurd (by decide) q)
            refine lv_iconst (v := 0) hx hb dX12_crossingsOf_96 (by decide) ?_
            refine lv_ior hx hb dX12_crossingsOf_97 ?_
            refine lv_istore_n (lv' := [(2, .int (u ||| 0)), (4, .int 0), (3, .int (nI i)), (0, .ref mo), (1, .int w_)]) hx hb dX12_crossingsOf_98 rfl hl (by decide) (zLvf_h rfl) (fun ls hl => ?_)
            refine lv_iinc (v := nI (i + 1)) (lv' := [(3, .int (nI (i + 1))), (2, .int (u ||| 0)), (4, .int 0), (0, .ref mo), (1, .int w_)]) hx hb dX12_crossingsOf_99 hl (k := 2) rfl (z_inc i 1) (by decide) (zLvf_h rfl) (fun ls hl => ?_)
            refine lv_goto (tgt := 4) hx hb dX12_crossingsOf_102 (by decide) ?_
            exact ih_4 (i + 1) (u ||| 0) (show (i + 1) ≤ 7 ∧ ((i + 1) : Int) ≤ i_crossings.toInt ∧ rOb (rKd (zWo f_all i_z0 i_inns) (zLo f_all i_z0) i_crossings.toInt.toNat i_inns w_) (i + 1) (u ||| 0) from ⟨by omega, by omega, (rOb_n hu (fun q8 => by rcases q8 with q8 | q8 | q8 <;> first | (exfalso; omega) | exact absurd (by first | with_reducible assumption | assumption) q8.2.2 | (have q7 := q8.2.1; rw [zWo_r (by omega) q8.2.2] at q7; exact absurd q7 (by first | with_reducible assumption | assumption))))⟩) (show 7 - (i + 1) < 7 - i from by omega) _ _ ls G (lv_sub hl [0, 1, 3, 4] rfl)
          · have c_23n : (zRd f_all i_z0 (nI i)).toInt = (0 : Int) := (fa_eq _ _).mp c_23
            refine lv_iconst (v := 1) hx hb dX12_crossingsOf_55 (by decide) ?_
            refine lv_goto (tgt := 82) hx hb dX12_crossingsOf_56 (by decide) ?_
            have hg1 := hg0 i
            refine lv_istore (lv' := [(4, .int 1), (3, .int (nI i)), (2, .int u), (0, .ref mo), (1, .int w_)]) hx hb dX12_crossingsOf_82 hl (by decide) (zLvf_h rfl) (fun ls hl => ?_)
            refine lv_iload_n hx hb dX12_crossingsOf_84 rfl (lv_at hl 2 rfl) ?_
            refine lv_iload hx hb dX12_crossingsOf_85 (lv_at hl 0 rfl) ?_
            refine lv_if_eq (tgt := 96) hx hb dX12_crossingsOf_87 (by decide) (fun q => absurd q (by decide)) (fun _ => ?_)
            refine lv_iconst (v := 1) hx hb dX12_crossingsOf_90 (by decide) ?_
            refine lv_iload_n hx hb dX12_crossingsOf_91 rfl (lv_at hl 1 rfl) ?_
            refine lv_ishl hx hb dX12_crossingsOf_92 ?_
            refine lv_goto (tgt := 97) hx hb dX12_crossingsOf_93 (by decide) ?_
            refine lv_ior hx hb dX12_crossingsOf_97 ?_
            refine lv_istore_n (lv' := [(2, .int (u ||| (1 <<< ((nI i) &&& 31)))), (4, .int 1), (3, .int (nI i)), (0, .ref mo), (1, .int w_)]) hx hb dX12_crossingsOf_98 rfl hl (by decide) (zLvf_h rfl) (fun ls hl => ?_)
            refine lv_iinc (v := nI (i + 1)) (lv' := [(3, .int (nI (i + 1))), (2, .int (u ||| (1 <<< ((nI i) &&& 31)))), (4, .int 1), (0, .ref mo), (1, .int w_)]) hx hb dX12_crossingsOf_99 hl (k := 2) rfl (z_inc i 1) (by decide) (zLvf_h rfl) (fun ls hl => ?_)
            refine lv_goto (tgt := 4) hx hb dX12_crossingsOf_102 (by decide) ?_
            exact ih_4 (i + 1) (u ||| (1 <<< ((nI i) &&& 31))) (show (i + 1) ≤ 7 ∧ ((i + 1) : Int) ≤ i_crossings.toInt ∧ rOb (rKd (zWo f_all i_z0 i_inns) (zLo f_all i_z0) i_crossings.toInt.toNat i_inns w_) (i + 1) (u ||| (1 <<< ((nI i) &&& 31))) from ⟨by omega, by omega, (rOb_y (by omega) hu (Or.inr (Or.inl ⟨by omega, by rw [zWo_r (by omega) (by first | with_reducible assumption | assumption)]; assumption, by first | with_reducible assumption | assumption⟩)))⟩) (show 7 - (i + 1) < 7 - i from by omega) _ _ ls G (lv_sub hl [0, 1, 3, 4] rfl)
    · have c_2n : w_.toInt = (2 : Int) := (fa_eq _ _).mp c_2
      have hw2 : w_.toInt = 2 := by omega
      refine lv_aload_n hx hb dX12_crossingsOf_17 rfl (lv_at hl 2 rfl) ?_
      refine lv_iload_n hx hb dX12_crossingsOf_18 rfl (lv_at hl 0 rfl) ?_
      refine lv_iconst (v := 0) hx hb dX12_crossingsOf_19 (by decide) ?_
      have ti_24 : (nI i).toInt = ((i : Nat) : Int) := nI_toInt (by omega)
      refine z_Vi (bc := [[zO11 mo m_all m_has i_size i_next i_where i_token i_number i_word i_wrong i_farCrossing m_read i_z0 i_crossings i_inns m_posts m_shut m_here i_steps i_done i_at i_gone m_was m_came m_seenAt m_rowWorth m_farBy m_used i_everywhere i_again0 i_d0 i_never i_firstCame i_longRun i_moved i_crowd i_l0 i_fitMany i_fitLeast i_fitMost m_fitPost m_fitEnd m_keptPosts i_x0], [zAr T 0 m_all 3952 f_all]]) (br := []) (As := [.int (nI i), .int 0]) (rest := []) C G (c_fm_leadHere l T mo m_all m_has i_size i_next i_where i_token i_number i_word i_wrong i_farCrossing m_read i_z0 i_crossings i_inns m_posts m_shut m_here i_steps i_done i_at i_gone m_was m_came m_seenAt m_rowWorth m_farBy m_used i_everywhere i_again0 i_d0 i_never i_firstCame i_longRun i_moved i_crowd i_l0 i_fitMany i_fitLeast i_fitMost m_fitPost m_fitEnd m_keptPosts i_x0 f_all (nI i) 0 (by first | with_reducible assumption | with_reducible rfl | omega | assumption | rfl | decide) (by first | with_reducible assumption | with_reducible rfl | omega | assumption | rfl | decide)) (kV_RX12_267 C.2.2.2.2 (Nat.le_of_ble_eq_true rfl) (Nat.le_of_ble_eq_true rfl)) [0, 1] [0, 0] rfl rfl (ci := 11) (qc := (RX12, TX12, 43)) rfl rfl (List.mem_flatten.mpr ⟨_, List.mem_of_getElem? (i := 0) rfl, List.mem_cons_self⟩) rfl rfl hl.1 dX12_crossingsOf_20 (Nat.le_of_ble_eq_true rfl) (Nat.le_of_ble_eq_true rfl) (fun r_26 b1 H locs hw G => ?_)
      refine zAn2 hw ?_
      intro hbs9 h_25
      clear hw
      subst hbs9
      have G : zS T A s.heap s [[zO11 mo m_all m_has i_size i_next i_where i_token i_number i_word i_wrong i_farCrossing m_read i_z0 i_crossings i_inns m_posts m_shut m_here i_steps i_done i_at i_gone m_was m_came m_seenAt m_rowWorth m_farBy m_used i_everywhere i_again0 i_d0 i_never i_firstCame i_longRun i_moved i_crowd i_l0 i_fitMany i_fitLeast i_fitMost m_fitPost m_fitEnd m_keptPosts i_x0], [zAr T 0 m_all 3952 f_all]] _ _ := G
      rw [own0] at h_25
      refine lv_if_ne (tgt := 30) hx hb dX12_crossingsOf_23 (by decide) (fun c_27 => ?_) (fun c_27 => ?_)
      · have c_27n : ¬ r_26.toInt = (0 : Int) := fun q => c_27 ((fa_eq _ _).mpr q)
        refine lv_iconst (v := 0) hx hb dX12_crossingsOf_30 (by decide) ?_
        refine lv_goto (tgt := 82) hx hb dX12_crossingsOf_31 (by decide) ?_
        have hg1 := hg0 i
        refine lv_istore (lv' := [(4, .int 0), (3, .int (nI i)), (2, .int u), (0, .ref mo), (1, .int w_)]) hx hb dX12_crossingsOf_82 hl (by decide) (zLvf_h rfl) (fun ls hl => ?_)
        refine lv_iload_n hx hb dX12_crossingsOf_84 rfl (lv_at hl 2 rfl) ?_
        refine lv_iload hx hb dX12_crossingsOf_85 (lv_at hl 0 rfl) ?_
        refine lv_if_eq (tgt := 96) hx hb dX12_crossingsOf_87 (by decide) (fun _ => ?_) (fun q => absurd (by decide) q)
        refine lv_iconst (v := 0) hx hb dX12_crossingsOf_96 (by decide) ?_
        refine lv_ior hx hb dX12_crossingsOf_97 ?_
        refine lv_istore_n (lv' := [(2, .int (u ||| 0)), (4, .int 0), (3, .int (nI i)), (0, .ref mo), (1, .int w_)]) hx hb dX12_crossingsOf_98 rfl hl (by decide) (zLvf_h rfl) (fun ls hl => ?_)
        refine lv_iinc (v := nI (i + 1)) (lv' := [(3, .int (nI (i + 1))), (2, .int (u ||| 0)), (4, .int 0), (0, .ref mo), (1, .int w_)]) hx hb dX12_crossingsOf_99 hl (k := 2) rfl (z_inc i 1) (by decide) (zLvf_h rfl) (fun ls hl => ?_)
        refine lv_goto (tgt := 4) hx hb dX12_crossingsOf_102 (by decide) ?_
        exact ih_4 (i + 1) (u ||| 0) (show (i + 1) ≤ 7 ∧ ((i + 1) : Int) ≤ i_crossings.toInt ∧ rOb (rKd (zWo f_all i_z0 i_inns) (zLo f_all i_z0) i_crossings.toInt.toNat i_inns w_) (i + 1) (u ||| 0) from ⟨by omega, by omega, (rOb_n hu (fun q8 => by rcases q8 with q8 | q8 | q8 <;> first | (exfalso; omega) | (have q7 := h_25; rw [q8.2] at q7; exact absurd q7 (by first | with_reducible assumption | assumption))))⟩) (show 7 - (i + 1) < 7 - i from by omega) _ _ ls G (lv_sub hl [0, 1, 3, 4] rfl)
      · have c_27n : r_26.toInt = (0 : Int) := (fa_eq _ _).mp c_27
        refine lv_iconst (v := 1) hx hb dX12_crossingsOf_26 (by decide) ?_
        refine lv_goto (tgt := 82) hx hb dX12_crossingsOf_27 (by decide) ?_
        have hg1 := hg0 i
        refine lv_istore (lv' := [(4, .int 1), (3, .int (nI i)), (2, .int u), (0, .ref mo), (1, .int w_)]) hx hb dX12_crossingsOf_82 hl (by decide) (zLvf_h rfl) (fun ls hl => ?_)
        refine lv_iload_n hx hb dX12_crossingsOf_84 rfl (lv_at hl 2 rfl) ?_
        refine lv_iload hx hb dX12_crossingsOf_85 (lv_at hl 0 rfl) ?_
        refine lv_if_eq (tgt := 96) hx hb dX12_crossingsOf_87 (by decide) (fun q => absurd q (by decide)) (fun _ => ?_)
        refine lv_iconst (v := 1) hx hb dX12_crossingsOf_90 (by decide) ?_
        refine lv_iload_n hx hb dX12_crossingsOf_91 rfl (lv_at hl 1 rfl) ?_
        refine lv_ishl hx hb dX12_crossingsOf_92 ?_
        refine lv_goto (tgt := 97) hx hb dX12_crossingsOf_93 (by decide) ?_
        refine lv_ior hx hb dX12_crossingsOf_97 ?_
        refine lv_istore_n (lv' := [(2, .int (u ||| (1 <<< ((nI i) &&& 31)))), (4, .int 1), (3, .int (nI i)), (0, .ref mo), (1, .int w_)]) hx hb dX12_crossingsOf_98 rfl hl (by decide) (zLvf_h rfl) (fun ls hl => ?_)
        refine lv_iinc (v := nI (i + 1)) (lv' := [(3, .int (nI (i + 1))), (2, .int (u ||| (1 <<< ((nI i) &&& 31)))), (4, .int 1), (0, .ref mo), (1, .int w_)]) hx hb dX12_crossingsOf_99 hl (k := 2) rfl (z_inc i 1) (by decide) (zLvf_h rfl) (fun ls hl => ?_)
        refine lv_goto (tgt := 4) hx hb dX12_crossingsOf_102 (by decide) ?_
        exact ih_4 (i + 1) (u ||| (1 <<< ((nI i) &&& 31))) (show (i + 1) ≤ 7 ∧ ((i + 1) : Int) ≤ i_crossings.toInt ∧ rOb (rKd (zWo f_all i_z0 i_inns) (zLo f_all i_z0) i_crossings.toInt.toNat i_inns w_) (i + 1) (u ||| (1 <<< ((nI i) &&& 31))) from ⟨by omega, by omega, (rOb_y (by omega) hu (Or.inl ⟨by omega, (by have q9 := h_25; first | (rw [show r_26 = 0 by assumption] at q9; exact (nI_i (a := rHt (zWo f_all i_z0 i_inns) (zLo f_all i_z0) (nI i) false i_crossings.toInt.toNat) (b := 0) (by omega) (by omega)).mp q9.symm) | assumption)⟩))⟩) (show 7 - (i + 1) < 7 - i from by omega) _ _ ls G (lv_sub hl [0, 1, 3, 4] rfl)
set_option maxHeartbeats 4000000 in
set_option maxRecDepth 100000 in
/-- c_fm_loops -/
theorem c_fm_loops (l : Launch) (T : zTy) (mo : Nat) (m_all : Nat) (m_has : Nat) (i_size : Int32) (i_next : Int32) (i_where : Int32) (i_token : Int32) (i_number : Int32) (i_word : Int32) (i_wrong : Int32) (i_farCrossing : Int32) (m_read : Nat) (i_z0 : Int32) (i_crossings : Int32) (i_inns : Int32) (m_posts : Nat) (m_shut : Nat) (m_here : Nat) (i_steps : Int32) (i_done : Int32) (i_at : Int32) (i_gone : Int32) (m_was : Nat) (m_came : Nat) (m_seenAt : Nat) (m_rowWorth : Nat) (m_farBy : Nat) (m_used : Nat) (i_everywhere : Int32) (i_again0 : Int32) (i_d0 : Int32) (i_never : Int32) (i_firstCame : Int32) (i_longRun : Int32) (i_moved : Int32) (i_crowd : Int32) (i_l0 : Int32) (i_fitMany : Int32) (i_fitLeast : Int32) (i_fitMost : Int32) (m_fitPost : Nat) (m_fitEnd : Nat) (m_keptPosts : Nat) (i_x0 : Int32) (f_all : Nat → Int32) (w_ : Int32) (hL : zML f_all i_z0 i_crossings) (hVR : zVR (fun j => f_all (i_z0.toInt.toNat + j))) : zMi l T yX12_loops cX12_loops 6 (some .int) 4 0 0 [.ref mo, .int w_] [[zO11 mo m_all m_has i_size i_next i_where i_token i_number i_word i_wrong i_farCrossing m_read i_z0 i_crossings i_inns m_posts m_shut m_here i_steps i_done i_at i_gone m_was m_came m_seenAt m_rowWorth m_farBy m_used i_everywhere i_again0 i_d0 i_never i_firstCame i_longRun i_moved i_crowd i_l0 i_fitMany i_fitLeast i_fitMost m_fitPost m_fitEnd m_keptPosts i_x0], [zAr T 0 m_all 3952 f_all]] (fun (r : Int32) bs => bs = [[zO11 mo m_all m_has i_size i_next i_where i_token i_number i_word i_wrong i_farCrossing m_read i_z0 i_crossings i_inns m_posts m_shut m_here i_steps i_done i_at i_gone m_was m_came m_seenAt m_rowWorth m_farBy m_used i_everywhere i_again0 i_d0 i_never i_firstCame i_longRun i_moved i_crowd i_l0 i_fitMany i_fitLeast i_fitMost m_fitPost m_fitEnd m_keptPosts i_x0], [zAr T 0 m_all 3952 f_all]] ∧ r = (if w_ = 0 then rLo (zWo f_all i_z0 i_inns) (zLo f_all i_z0) i_crossings.toInt.toNat else rDo (zWo f_all i_z0 i_inns) (zLo f_all i_z0) i_crossings.toInt.toNat)) := by
  refine zMi_of (own := RX12) (by decide) rfl (Nat.le_of_ble_eq_true rfl) ?_
  intro p e s m args below meth c A ls C hr hlocks hnm hAe G hl
  refine zHide (fun Qz_ hQz_ => ?_)
  have hx := C.1
  have hb := C.2.1
  have hl : lv_has ls 6 [(0, .ref mo), (1, .int w_)] := hl
  have hz := hL.1
  have hcr := hL.cr
  have hO9 := qOk (n := i_inns) hL hVR
  refine lv_iconst (v := 0) hx hb dX12_loops_0 (by decide) ?_
  refine lv_istore_n (lv' := [(2, .int 0), (0, .ref mo), (1, .int w_)]) hx hb dX12_loops_1 rfl hl (by decide) (zLvf_h rfl) (fun ls hl => ?_)
  refine lv_iconst (v := 0) hx hb dX12_loops_2 (by decide) ?_
  refine lv_istore_n (lv' := [(3, .int 0), (2, .int 0), (0, .ref mo), (1, .int w_)]) hx hb dX12_loops_3 rfl hl (by decide) (zLvf_h rfl) (fun ls hl => ?_)
  refine z_lp2 (T := T) 4 (fun (i : Nat) (u : Int32) => [[zO11 mo m_all m_has i_size i_next i_where i_token i_number i_word i_wrong i_farCrossing m_read i_z0 i_crossings i_inns m_posts m_shut m_here i_steps i_done i_at i_gone m_was m_came m_seenAt m_rowWorth m_farBy m_used i_everywhere i_again0 i_d0 i_never i_firstCame i_longRun i_moved i_crowd i_l0 i_fitMany i_fitLeast i_fitMost m_fitPost m_fitEnd m_keptPosts i_x0], [zAr T 0 m_all 3952 f_all]]) (fun (i : Nat) (u : Int32) => [(3, .int (nI i)), (2, .int u), (0, .ref mo), (1, .int w_)]) (fun (i : Nat) (u : Int32) => i ≤ 7 ∧ (i : Int) ≤ i_crossings.toInt ∧ u = (if w_ = 0 then rLo (zWo f_all i_z0 i_inns) (zLo f_all i_z0) i else rDo (zWo f_all i_z0 i_inns) (zLo f_all i_z0) i)) (fun (i : Nat) (u : Int32) => 7 - i) ?_ 0 0 (show 0 ≤ 7 ∧ (0 : Int) ≤ i_crossings.toInt ∧ 0 = (if w_ = 0 then rLo (zWo f_all i_z0 i_inns) (zLo f_all i_z0) 0 else rDo (zWo f_all i_z0 i_inns) (zLo f_all i_z0) 0) from ⟨by omega, by omega, (by split <;> rfl)⟩) G (lv_sub hl [0, 1, 2, 3] rfl)
  intro i u hI9 ih_4 H locs ls G hl
  replace hI9 : i ≤ 7 ∧ (i : Int) ≤ i_crossings.toInt ∧ u = (if w_ = 0 then rLo (zWo f_all i_z0 i_inns) (zLo f_all i_z0) i else rDo (zWo f_all i_z0 i_inns) (zLo f_all i_z0) i) := hI9
  refine zAn3 hI9 ?_
  intro hi hic hu
  clear hI9
  replace G : zS T A s.heap s [[zO11 mo m_all m_has i_size i_next i_where i_token i_number i_word i_wrong i_farCrossing m_read i_z0 i_crossings i_inns m_posts m_shut m_here i_steps i_done i_at i_gone m_was m_came m_seenAt m_rowWorth m_farBy m_used i_everywhere i_again0 i_d0 i_never i_firstCame i_longRun i_moved i_crowd i_l0 i_fitMany i_fitLeast i_fitMost m_fitPost m_fitEnd m_keptPosts i_x0], [zAr T 0 m_all 3952 f_all]] _ _ := G
  replace hl : lv_has ls 6 [(3, .int (nI i)), (2, .int u), (0, .ref mo), (1, .int w_)] := hl
  refine lv_iload_n hx hb dX12_loops_4 rfl (lv_at hl 0 rfl) ?_
  refine lv_aload_n hx hb dX12_loops_5 rfl (lv_at hl 2 rfl) ?_
  refine z_get C G clX12 0 rfl 12 (by decide) m_fl_RX12_169 rfl dX12_loops_6 ?_
  refine lv_icmp_ge (tgt := 105) hx hb dX12_loops_9 (by decide) (fun c_1 => ?_) (fun c_1 => ?_)
  · have c_1n : i_crossings.toInt ≤ (i : Int) := by have q := (fa_le _ _).mp c_1; rw [nI_toInt (n := i) (by omega)] at q; exact q
    refine lv_iload_n hx hb dX12_loops_105 rfl (lv_at hl 1 rfl) ?_
    exact z_back hQz_ (z_iret C hr hlocks G (Nat.le_of_ble_eq_true rfl) (Nat.le_of_ble_eq_true rfl) dX12_loops_106 ⟨rfl, (by rw [show i = i_crossings.toInt.toNat by omega] at hu; exact hu)⟩)
  · have c_1n : ¬ i_crossings.toInt ≤ (i : Int) := fun q => c_1 ((fa_le _ _).mpr (by rw [nI_toInt (n := i) (by omega)]; exact q))
    have hw9 := hO9.2.1 i (by omega)
    refine lv_iconst (v := 0) hx hb dX12_loops_12 (by decide) ?_
    refine lv_istore (lv' := [(4, .int 0), (3, .int (nI i)), (2, .int u), (0, .ref mo), (1, .int w_)]) hx hb dX12_loops_13 hl (by decide) (zLvf_h rfl) (fun ls hl => ?_)
    refine z_lp2 (T := T) 15 (fun (k : Nat) (v : Int32) => [[zO11 mo m_all m_has i_size i_next i_where i_token i_number i_word i_wrong i_farCrossing m_read i_z0 i_crossings i_inns m_posts m_shut m_here i_steps i_done i_at i_gone m_was m_came m_seenAt m_rowWorth m_farBy m_used i_everywhere i_again0 i_d0 i_never i_firstCame i_longRun i_moved i_crowd i_l0 i_fitMany i_fitLeast i_fitMost m_fitPost m_fitEnd m_keptPosts i_x0], [zAr T 0 m_all 3952 f_all]]) (fun (k : Nat) (v : Int32) => [(4, .int (nI k)), (3, .int (nI i)), (2, .int v), (0, .ref mo), (1, .int w_)]) (fun (k : Nat) (v : Int32) => k ≤ 4 ∧ (k : Int) ≤ ((zWo f_all i_z0 i_inns) i).toInt ∧ v = u + nI (if w_ = 0 then rHr (zLo f_all i_z0) i (nI i) k else rDr (zLo f_all i_z0) i k)) (fun (k : Nat) (v : Int32) => 4 - k) ?_ 0 u (show 0 ≤ 4 ∧ (0 : Int) ≤ ((zWo f_all i_z0 i_inns) i).toInt ∧ u = u + nI (if w_ = 0 then rHr (zLo f_all i_z0) i (nI i) 0 else rDr (zLo f_all i_z0) i 0) from ⟨by omega, by omega, rQ_0⟩) G (lv_sub hl [0, 1, 2, 3, 4] rfl)
    intro k v hI9 ih_15 H locs ls G hl
    replace hI9 : k ≤ 4 ∧ (k : Int) ≤ ((zWo f_all i_z0 i_inns) i).toInt ∧ v = u + nI (if w_ = 0 then rHr (zLo f_all i_z0) i (nI i) k else rDr (zLo f_all i_z0) i k) := hI9
    refine zAn3 hI9 ?_
    intro hk hkw hv
    clear hI9
    replace G : zS T A s.heap s [[zO11 mo m_all m_has i_size i_next i_where i_token i_number i_word i_wrong i_farCrossing m_read i_z0 i_crossings i_inns m_posts m_shut m_here i_steps i_done i_at i_gone m_was m_came m_seenAt m_rowWorth m_farBy m_used i_everywhere i_again0 i_d0 i_never i_firstCame i_longRun i_moved i_crowd i_l0 i_fitMany i_fitLeast i_fitMost m_fitPost m_fitEnd m_keptPosts i_x0], [zAr T 0 m_all 3952 f_all]] _ _ := G
    replace hl : lv_has ls 6 [(4, .int (nI k)), (3, .int (nI i)), (2, .int v), (0, .ref mo), (1, .int w_)] := hl
    refine lv_iload hx hb dX12_loops_15 (lv_at hl 0 rfl) ?_
    refine lv_aload_n hx hb dX12_loops_17 rfl (lv_at hl 3 rfl) ?_
    refine lv_iload_n hx hb dX12_loops_18 rfl (lv_at hl 1 rfl) ?_
    have ti_2 : (nI i).toInt = ((i : Nat) : Int) := nI_toInt (by omega)
    refine z_Vi (bc := [[zO11 mo m_all m_has i_size i_next i_where i_token i_number i_word i_wrong i_farCrossing m_read i_z0 i_crossings i_inns m_posts m_shut m_here i_steps i_done i_at i_gone m_was m_came m_seenAt m_rowWorth m_farBy m_used i_everywhere i_again0 i_d0 i_never i_firstCame i_longRun i_moved i_crowd i_l0 i_fitMany i_fitLeast i_fitMost m_fitPost m_fitEnd m_keptPosts i_x0], [zAr T 0 m_all 3952 f_all]]) (br := []) (As := [.int (nI i)]) (rest := [.int (nI k)]) C G (c_fm_roads5 l T mo m_all m_has i_size i_next i_where i_token i_number i_word i_wrong i_farCrossing m_read i_z0 i_crossings i_inns m_posts m_shut m_here i_steps i_done i_at i_gone m_was m_came m_seenAt m_rowWorth m_farBy m_used i_everywhere i_again0 i_d0 i_never i_firstCame i_longRun i_moved i_crowd i_l0 i_fitMany i_fitLeast i_fitMost m_fitPost m_fitEnd m_keptPosts i_x0 f_all (nI i) (by first | with_reducible assumption | with_reducible rfl | omega | assumption | rfl | decide) (by first | with_reducible assumption | with_reducible rfl | omega | assumption | rfl | decide) (by first | with_reducible assumption | with_reducible rfl | omega | assumption | rfl | decide)) (kV_RX12_255 C.2.2.2.2 (Nat.le_of_ble_eq_true rfl) (Nat.le_of_ble_eq_true rfl)) [0, 1] [0, 0] rfl rfl (ci := 11) (qc := (RX12, TX12, 43)) rfl rfl (List.mem_flatten.mpr ⟨_, List.mem_of_getElem? (i := 0) rfl, List.mem_cons_self⟩) rfl rfl hl.1 dX12_loops_19 (Nat.le_of_ble_eq_true rfl) (Nat.le_of_ble_eq_true rfl) (fun r_6 b1 H locs hw G => ?_)
    refine zAn4 hw ?_
    intro hbs9 h_3 h_4 h_5
    clear hw
    subst hbs9
    have G : zS T A s.heap s [[zO11 mo m_all m_has i_size i_next i_where i_token i_number i_word i_wrong i_farCrossing m_read i_z0 i_crossings i_inns m_posts m_shut m_here i_steps i_done i_at i_gone m_was m_came m_seenAt m_rowWorth m_farBy m_used i_everywhere i_again0 i_d0 i_never i_firstCame i_longRun i_moved i_crowd i_l0 i_fitMany i_fitLeast i_fitMost m_fitPost m_fitEnd m_keptPosts i_x0], [zAr T 0 m_all 3952 f_all]] _ _ := G
    rw [nI_n9 (by omega)] at h_5
    have hr5 : r_6.toInt = ((zWo f_all i_z0 i_inns) i).toInt := congrArg Int32.toInt h_5
    refine lv_icmp_ge (tgt := 99) hx hb dX12_loops_22 (by decide) (fun c_7 => ?_) (fun c_7 => ?_)
    · have c_7n : r_6.toInt ≤ (k : Int) := by have q := (fa_le _ _).mp c_7; rw [nI_toInt (n := k) (by omega)] at q; exact q
      refine lv_iinc (v := nI (i + 1)) (lv' := [(3, .int (nI (i + 1))), (4, .int (nI k)), (2, .int v), (0, .ref mo), (1, .int w_)]) hx hb dX12_loops_99 hl (k := 1) rfl (z_inc i 1) (by decide) (zLvf_h rfl) (fun ls hl => ?_)
      refine lv_goto (tgt := 4) hx hb dX12_loops_102 (by decide) ?_
      exact ih_4 (i + 1) v (show (i + 1) ≤ 7 ∧ ((i + 1) : Int) ≤ i_crossings.toInt ∧ v = (if w_ = 0 then rLo (zWo f_all i_z0 i_inns) (zLo f_all i_z0) (i + 1) else rDo (zWo f_all i_z0 i_inns) (zLo f_all i_z0) (i + 1)) from ⟨by omega, by omega, (rQ_d hu hv (by omega))⟩) (show 7 - (i + 1) < 7 - i from by omega) _ _ ls G (lv_sub hl [0, 2, 3, 4] rfl)
    · have c_7n : ¬ r_6.toInt ≤ (k : Int) := fun q => c_7 ((fa_le _ _).mpr (by rw [nI_toInt (n := k) (by omega)]; exact q))
      refine lv_iload_n hx hb dX12_loops_25 rfl (lv_at hl 2 rfl) ?_
      refine lv_iload_n hx hb dX12_loops_26 rfl (lv_at hl 4 rfl) ?_
      refine lv_if_ne (tgt := 45) hx hb dX12_loops_27 (by decide) (fun c_8 => ?_) (fun c_8 => ?_)
      · have c_8n : ¬ w_.toInt = (0 : Int) := fun q => c_8 ((fa_eq _ _).mpr q)
        refine lv_iconst (v := 0) hx hb dX12_loops_45 (by decide) ?_
        refine lv_iadd hx hb dX12_loops_46 ?_
        refine lv_istore_n (lv' := [(2, .int (v + 0)), (4, .int (nI k)), (3, .int (nI i)), (0, .ref mo), (1, .int w_)]) hx hb dX12_loops_47 rfl hl (by decide) (zLvf_h rfl) (fun ls hl => ?_)
        refine lv_iconst (v := 0) hx hb dX12_loops_48 (by decide) ?_
        refine lv_istore (lv' := [(5, .int 0), (2, .int (v + 0)), (4, .int (nI k)), (3, .int (nI i)), (0, .ref mo), (1, .int w_)]) hx hb dX12_loops_49 hl (by decide) (zLvf_h rfl) (fun ls hl => ?_)
        refine z_lp2 (T := T) 51 (fun (t : Nat) (v2 : Int32) => [[zO11 mo m_all m_has i_size i_next i_where i_token i_number i_word i_wrong i_farCrossing m_read i_z0 i_crossings i_inns m_posts m_shut m_here i_steps i_done i_at i_gone m_was m_came m_seenAt m_rowWorth m_farBy m_used i_everywhere i_again0 i_d0 i_never i_firstCame i_longRun i_moved i_crowd i_l0 i_fitMany i_fitLeast i_fitMost m_fitPost m_fitEnd m_keptPosts i_x0], [zAr T 0 m_all 3952 f_all]]) (fun (t : Nat) (v2 : Int32) => [(5, .int (nI t)), (2, .int v2), (4, .int (nI k)), (3, .int (nI i)), (0, .ref mo), (1, .int w_)]) (fun (t : Nat) (v2 : Int32) => t ≤ 4 ∧ t ≤ k ∧ v2 = u + nI (if w_ = 0 then rHr (zLo f_all i_z0) i (nI i) (k + 1) else rDr (zLo f_all i_z0) i k + rPr (zLo f_all i_z0) i k t)) (fun (t : Nat) (v2 : Int32) => 4 - t) ?_ 0 (v + 0) (show 0 ≤ 4 ∧ 0 ≤ k ∧ (v + 0) = u + nI (if w_ = 0 then rHr (zLo f_all i_z0) i (nI i) (k + 1) else rDr (zLo f_all i_z0) i k + rPr (zLo f_all i_z0) i k 0) from ⟨by omega, by omega, (by first | exact (rQ_a hv (zLe_o (f := f_all) (z := i_z0) (c := i) (k := k) (by omega) (by omega))).2.1 (by first | with_reducible assumption | assumption) (by first | with_reducible assumption | assumption) | exact (rQ_a (x := zLo f_all i_z0 (4 * i + k)) hv rfl).2.2 (by first | with_reducible assumption | assumption))⟩) G (lv_sub hl [0, 1, 2, 3, 4, 5] rfl)
        intro t v2 hI9 ih_51 H locs ls G hl
        replace hI9 : t ≤ 4 ∧ t ≤ k ∧ v2 = u + nI (if w_ = 0 then rHr (zLo f_all i_z0) i (nI i) (k + 1) else rDr (zLo f_all i_z0) i k + rPr (zLo f_all i_z0) i k t) := hI9
        refine zAn3 hI9 ?_
        intro ht htk hv2
        clear hI9
        replace G : zS T A s.heap s [[zO11 mo m_all m_has i_size i_next i_where i_token i_number i_word i_wrong i_farCrossing m_read i_z0 i_crossings i_inns m_posts m_shut m_here i_steps i_done i_at i_gone m_was m_came m_seenAt m_rowWorth m_farBy m_used i_everywhere i_again0 i_d0 i_never i_firstCame i_longRun i_moved i_crowd i_l0 i_fitMany i_fitLeast i_fitMost m_fitPost m_fitEnd m_keptPosts i_x0], [zAr T 0 m_all 3952 f_all]] _ _ := G
        replace hl : lv_has ls 6 [(5, .int (nI t)), (2, .int v2), (4, .int (nI k)), (3, .int (nI i)), (0, .ref mo), (1, .int w_)] := hl
        refine lv_iload hx hb dX12_loops_51 (lv_at hl 0 rfl) ?_
        refine lv_iload hx hb dX12_loops_53 (lv_at hl 2 rfl) ?_
        refine lv_icmp_ge (tgt := 93) hx hb dX12_loops_55 (by decide) (fun c_9 => ?_) (fun c_9 => ?_)
        · have c_9n : k ≤ t := (nI_leI (a := k) (b := t) (by omega) (by omega)).mp c_9
          refine lv_iinc (v := nI (k + 1)) (lv' := [(4, .int (nI (k + 1))), (5, .int (nI t)), (2, .int v2), (3, .int (nI i)), (0, .ref mo), (1, .int w_)]) hx hb dX12_loops_93 hl (k := 2) rfl (z_inc k 1) (by decide) (zLvf_h rfl) (fun ls hl => ?_)
          refine lv_goto (tgt := 15) hx hb dX12_loops_96 (by decide) ?_
          exact ih_15 (k + 1) v2 (show (k + 1) ≤ 4 ∧ ((k + 1) : Int) ≤ ((zWo f_all i_z0 i_inns) i).toInt ∧ v2 = u + nI (if w_ = 0 then rHr (zLo f_all i_z0) i (nI i) (k + 1) else rDr (zLo f_all i_z0) i (k + 1)) from ⟨by omega, by omega, (rQ_c hv2 (by omega))⟩) (show 4 - (k + 1) < 4 - k from by omega) _ _ ls G (lv_sub hl [0, 3, 2, 4, 5] rfl)
        · have c_9n : ¬ k ≤ t := fun q => c_9 ((nI_leI (a := k) (b := t) (by omega) (by omega)).mpr q)
          refine lv_iload_n hx hb dX12_loops_58 rfl (lv_at hl 1 rfl) ?_
          refine lv_iload_n hx hb dX12_loops_59 rfl (lv_at hl 5 rfl) ?_
          refine lv_if_eq (tgt := 84) hx hb dX12_loops_60 (by decide) (fun c_10 => ?_) (fun c_10 => ?_)
          · have c_10n : w_.toInt = (0 : Int) := (fa_eq _ _).mp c_10
            refine lv_iconst (v := 0) hx hb dX12_loops_84 (by decide) ?_
            refine lv_iadd hx hb dX12_loops_85 ?_
            refine lv_istore_n (lv' := [(2, .int (v2 + 0)), (5, .int (nI t)), (4, .int (nI k)), (3, .int (nI i)), (0, .ref mo), (1, .int w_)]) hx hb dX12_loops_86 rfl hl (by decide) (zLvf_h rfl) (fun ls hl => ?_)
            refine lv_iinc (v := nI (t + 1)) (lv' := [(5, .int (nI (t + 1))), (2, .int (v2 + 0)), (4, .int (nI k)), (3, .int (nI i)), (0, .ref mo), (1, .int w_)]) hx hb dX12_loops_87 hl (k := 1) rfl (z_inc t 1) (by decide) (zLvf_h rfl) (fun ls hl => ?_)
            refine lv_goto (tgt := 51) hx hb dX12_loops_90 (by decide) ?_
            exact ih_51 (t + 1) (v2 + 0) (show (t + 1) ≤ 4 ∧ (t + 1) ≤ k ∧ (v2 + 0) = u + nI (if w_ = 0 then rHr (zLo f_all i_z0) i (nI i) (k + 1) else rDr (zLo f_all i_z0) i k + rPr (zLo f_all i_z0) i k (t + 1)) from ⟨by omega, by omega, (by first | exact (rQ_b hv2 (zLe_o (f := f_all) (z := i_z0) (c := i) (k := k) (by omega) (by omega)) (zLe_o (f := f_all) (z := i_z0) (c := i) (k := t) (by omega) (by omega))).2.1 (by first | with_reducible assumption | assumption) (by first | with_reducible assumption | assumption) | exact (rQ_b (x := zLo f_all i_z0 (4 * i + k)) (y := zLo f_all i_z0 (4 * i + t)) hv2 rfl rfl).2.2 (by first | with_reducible assumption | assumption))⟩) (show 4 - (t + 1) < 4 - t from by omega) _ _ ls G (lv_sub hl [0, 1, 2, 3, 4, 5] rfl)
          · have c_10n : ¬ w_.toInt = (0 : Int) := fun q => c_10 ((fa_eq _ _).mpr q)
            refine lv_aload_n hx hb dX12_loops_63 rfl (lv_at hl 4 rfl) ?_
            refine lv_iload_n hx hb dX12_loops_64 rfl (lv_at hl 3 rfl) ?_
            refine lv_iload hx hb dX12_loops_65 (lv_at hl 2 rfl) ?_
            have ti_11 : (nI i).toInt = ((i : Nat) : Int) := nI_toInt (by omega)
            have ti_12 : (nI k).toInt = ((k : Nat) : Int) := nI_toInt (by omega)
            refine z_Vi (bc := [[zO11 mo m_all m_has i_size i_next i_where i_token i_number i_word i_wrong i_farCrossing m_read i_z0 i_crossings i_inns m_posts m_shut m_here i_steps i_done i_at i_gone m_was m_came m_seenAt m_rowWorth m_farBy m_used i_everywhere i_again0 i_d0 i_never i_firstCame i_longRun i_moved i_crowd i_l0 i_fitMany i_fitLeast i_fitMost m_fitPost m_fitEnd m_keptPosts i_x0], [zAr T 0 m_all 3952 f_all]]) (br := []) (As := [.int (nI i), .int (nI k)]) (rest := [.int v2]) C G (c_m_leadsTo l T mo m_all m_has i_size i_next i_where i_token i_number i_word i_wrong i_farCrossing m_read i_z0 i_crossings i_inns m_posts m_shut m_here i_steps i_done i_at i_gone m_was m_came m_seenAt m_rowWorth m_farBy m_used i_everywhere i_again0 i_d0 i_never i_firstCame i_longRun i_moved i_crowd i_l0 i_fitMany i_fitLeast i_fitMost m_fitPost m_fitEnd m_keptPosts i_x0 f_all (nI i) (nI k) (by first | with_reducible assumption | with_reducible rfl | omega | assumption | rfl | decide) (by first | with_reducible assumption | with_reducible rfl | omega | assumption | rfl | decide) (by first | with_reducible assumption | with_reducible rfl | omega | assumption | rfl | decide) (by first | with_reducible assumption | with_reducible rfl | omega | assumption | rfl | decide) (by first | with_reducible assumption | with_reducible rfl | omega | assumption | rfl | decide)) (kV_RX12_190 C.2.2.2.2 (Nat.le_of_ble_eq_true rfl) (Nat.le_of_ble_eq_true rfl)) [0, 1] [0, 0] rfl rfl (ci := 11) (qc := (RX12, TX12, 43)) rfl rfl (List.mem_flatten.mpr ⟨_, List.mem_of_getElem? (i := 0) rfl, List.mem_cons_self⟩) rfl rfl hl.1 dX12_loops_67 (Nat.le_of_ble_eq_true rfl) (Nat.le_of_ble_eq_true rfl) (fun r_16 b1 H locs hw G => ?_)
            refine zAn4 hw ?_
            intro hbs9 h_13 h_14 h_15
            clear hw
            subst hbs9
            have G : zS T A s.heap s [[zO11 mo m_all m_has i_size i_next i_where i_token i_number i_word i_wrong i_farCrossing m_read i_z0 i_crossings i_inns m_posts m_shut m_here i_steps i_done i_at i_gone m_was m_came m_seenAt m_rowWorth m_farBy m_used i_everywhere i_again0 i_d0 i_never i_firstCame i_longRun i_moved i_crowd i_l0 i_fitMany i_fitLeast i_fitMost m_fitPost m_fitEnd m_keptPosts i_x0], [zAr T 0 m_all 3952 f_all]] _ _ := G
            subst h_13
            refine lv_aload_n hx hb dX12_loops_70 rfl (lv_at hl 4 rfl) ?_
            refine lv_iload_n hx hb dX12_loops_71 rfl (lv_at hl 3 rfl) ?_
            refine lv_iload hx hb dX12_loops_72 (lv_at hl 0 rfl) ?_
            have ti_17 : (nI i).toInt = ((i : Nat) : Int) := nI_toInt (by omega)
            have ti_18 : (nI t).toInt = ((t : Nat) : Int) := nI_toInt (by omega)
            refine z_Vi (bc := [[zO11 mo m_all m_has i_size i_next i_where i_token i_number i_word i_wrong i_farCrossing m_read i_z0 i_crossings i_inns m_posts m_shut m_here i_steps i_done i_at i_gone m_was m_came m_seenAt m_rowWorth m_farBy m_used i_everywhere i_again0 i_d0 i_never i_firstCame i_longRun i_moved i_crowd i_l0 i_fitMany i_fitLeast i_fitMost m_fitPost m_fitEnd m_keptPosts i_x0], [zAr T 0 m_all 3952 f_all]]) (br := []) (As := [.int (nI i), .int (nI t)]) (rest := [.int (zLe f_all i_z0 (nI i) (nI k)), .int v2]) C G (c_m_leadsTo l T mo m_all m_has i_size i_next i_where i_token i_number i_word i_wrong i_farCrossing m_read i_z0 i_crossings i_inns m_posts m_shut m_here i_steps i_done i_at i_gone m_was m_came m_seenAt m_rowWorth m_farBy m_used i_everywhere i_again0 i_d0 i_never i_firstCame i_longRun i_moved i_crowd i_l0 i_fitMany i_fitLeast i_fitMost m_fitPost m_fitEnd m_keptPosts i_x0 f_all (nI i) (nI t) (by first | with_reducible assumption | with_reducible rfl | omega | assumption | rfl | decide) (by first | with_reducible assumption | with_reducible rfl | omega | assumption | rfl | decide) (by first | with_reducible assumption | with_reducible rfl | omega | assumption | rfl | decide) (by first | with_reducible assumption | with_reducible rfl | omega | assumption | rfl | decide) (by first | with_reducible assumption | with_reducible rfl | omega | assumption | rfl | decide)) (kV_RX12_190 C.2.2.2.2 (Nat.le_of_ble_eq_true rfl) (Nat.le_of_ble_eq_true rfl)) [0, 1] [0, 0] rfl rfl (ci := 11) (qc := (RX12, TX12, 43)) rfl rfl (List.mem_flatten.mpr ⟨_, List.mem_of_getElem? (i := 0) rfl, List.mem_cons_self⟩) rfl rfl hl.1 dX12_loops_74 (Nat.le_of_ble_eq_true rfl) (Nat.le_of_ble_eq_true rfl) (fun r_22 b1 H locs hw G => ?_)
            refine zAn4 hw ?_
            intro hbs9 h_19 h_20 h_21
            clear hw
            subst hbs9
            have G : zS T A s.heap s [[zO11 mo m_all m_has i_size i_next i_where i_token i_number i_word i_wrong i_farCrossing m_read i_z0 i_crossings i_inns m_posts m_shut m_here i_steps i_done i_at i_gone m_was m_came m_seenAt m_rowWorth m_farBy m_used i_everywhere i_again0 i_d0 i_never i_firstCame i_longRun i_moved i_crowd i_l0 i_fitMany i_fitLeast i_fitMost m_fitPost m_fitEnd m_keptPosts i_x0], [zAr T 0 m_all 3952 f_all]] _ _ := G
            subst h_19
            refine lv_icmp_ne (tgt := 84) hx hb dX12_loops_77 (by decide) (fun c_23 => ?_) (fun c_23 => ?_)
            · have c_23n : ¬ (zLe f_all i_z0 (nI i) (nI k)).toInt = (zLe f_all i_z0 (nI i) (nI t)).toInt := fun q => c_23 ((fa_eq _ _).mpr q)
              refine lv_iconst (v := 0) hx hb dX12_loops_84 (by decide) ?_
              refine lv_iadd hx hb dX12_loops_85 ?_
              refine lv_istore_n (lv' := [(2, .int (v2 + 0)), (5, .int (nI t)), (4, .int (nI k)), (3, .int (nI i)), (0, .ref mo), (1, .int w_)]) hx hb dX12_loops_86 rfl hl (by decide) (zLvf_h rfl) (fun ls hl => ?_)
              refine lv_iinc (v := nI (t + 1)) (lv' := [(5, .int (nI (t + 1))), (2, .int (v2 + 0)), (4, .int (nI k)), (3, .int (nI i)), (0, .ref mo), (1, .int w_)]) hx hb dX12_loops_87 hl (k := 1) rfl (z_inc t 1) (by decide) (zLvf_h rfl) (fun ls hl => ?_)
              refine lv_goto (tgt := 51) hx hb dX12_loops_90 (by decide) ?_
              exact ih_51 (t + 1) (v2 + 0) (show (t + 1) ≤ 4 ∧ (t + 1) ≤ k ∧ (v2 + 0) = u + nI (if w_ = 0 then rHr (zLo f_all i_z0) i (nI i) (k + 1) else rDr (zLo f_all i_z0) i k + rPr (zLo f_all i_z0) i k (t + 1)) from ⟨by omega, by omega, (by first | exact (rQ_b hv2 (zLe_o (f := f_all) (z := i_z0) (c := i) (k := k) (by omega) (by omega)) (zLe_o (f := f_all) (z := i_z0) (c := i) (k := t) (by omega) (by omega))).2.1 (by first | with_reducible assumption | assumption) (by first | with_reducible assumption | assumption) | exact (rQ_b (x := zLo f_all i_z0 (4 * i + k)) (y := zLo f_all i_z0 (4 * i + t)) hv2 rfl rfl).2.2 (by first | with_reducible assumption | assumption))⟩) (show 4 - (t + 1) < 4 - t from by omega) _ _ ls G (lv_sub hl [0, 1, 2, 3, 4, 5] rfl)
            · have c_23n : (zLe f_all i_z0 (nI i) (nI k)).toInt = (zLe f_all i_z0 (nI i) (nI t)).toInt := (fa_eq _ _).mp c_23
              refine lv_iconst (v := 1) hx hb dX12_loops_80 (by decide) ?_
              refine lv_goto (tgt := 85) hx hb dX12_loops_81 (by decide) ?_
              refine lv_iadd hx hb dX12_loops_85 ?_
              refine lv_istore_n (lv' := [(2, .int (v2 + 1)), (5, .int (nI t)), (4, .int (nI k)), (3, .int (nI i)), (0, .ref mo), (1, .int w_)]) hx hb dX12_loops_86 rfl hl (by decide) (zLvf_h rfl) (fun ls hl => ?_)
              refine lv_iinc (v := nI (t + 1)) (lv' := [(5, .int (nI (t + 1))), (2, .int (v2 + 1)), (4, .int (nI k)), (3, .int (nI i)), (0, .ref mo), (1, .int w_)]) hx hb dX12_loops_87 hl (k := 1) rfl (z_inc t 1) (by decide) (zLvf_h rfl) (fun ls hl => ?_)
              refine lv_goto (tgt := 51) hx hb dX12_loops_90 (by decide) ?_
              exact ih_51 (t + 1) (v2 + 1) (show (t + 1) ≤ 4 ∧ (t + 1) ≤ k ∧ (v2 + 1) = u + nI (if w_ = 0 then rHr (zLo f_all i_z0) i (nI i) (k + 1) else rDr (zLo f_all i_z0) i k + rPr (zLo f_all i_z0) i k (t + 1)) from ⟨by omega, by omega, ((rQ_b hv2 (zLe_o (f := f_all) (z := i_z0) (c := i) (k := k) (by omega) (by omega)) (zLe_o (f := f_all) (z := i_z0) (c := i) (k := t) (by omega) (by omega))).1 (by first | with_reducible assumption | assumption) (by first | with_reducible assumption | assumption))⟩) (show 4 - (t + 1) < 4 - t from by omega) _ _ ls G (lv_sub hl [0, 1, 2, 3, 4, 5] rfl)
      · have c_8n : w_.toInt = (0 : Int) := (fa_eq _ _).mp c_8
        refine lv_aload_n hx hb dX12_loops_30 rfl (lv_at hl 3 rfl) ?_
        refine lv_iload_n hx hb dX12_loops_31 rfl (lv_at hl 1 rfl) ?_
        refine lv_iload hx hb dX12_loops_32 (lv_at hl 0 rfl) ?_
        have ti_24 : (nI i).toInt = ((i : Nat) : Int) := nI_toInt (by omega)
        have ti_25 : (nI k).toInt = ((k : Nat) : Int) := nI_toInt (by omega)
        refine z_Vi (bc := [[zO11 mo m_all m_has i_size i_next i_where i_token i_number i_word i_wrong i_farCrossing m_read i_z0 i_crossings i_inns m_posts m_shut m_here i_steps i_done i_at i_gone m_was m_came m_seenAt m_rowWorth m_farBy m_used i_everywhere i_again0 i_d0 i_never i_firstCame i_longRun i_moved i_crowd i_l0 i_fitMany i_fitLeast i_fitMost m_fitPost m_fitEnd m_keptPosts i_x0], [zAr T 0 m_all 3952 f_all]]) (br := []) (As := [.int (nI i), .int (nI k)]) (rest := [.int v]) C G (c_m_leadsTo l T mo m_all m_has i_size i_next i_where i_token i_number i_word i_wrong i_farCrossing m_read i_z0 i_crossings i_inns m_posts m_shut m_here i_steps i_done i_at i_gone m_was m_came m_seenAt m_rowWorth m_farBy m_used i_everywhere i_again0 i_d0 i_never i_firstCame i_longRun i_moved i_crowd i_l0 i_fitMany i_fitLeast i_fitMost m_fitPost m_fitEnd m_keptPosts i_x0 f_all (nI i) (nI k) (by first | with_reducible assumption | with_reducible rfl | omega | assumption | rfl | decide) (by first | with_reducible assumption | with_reducible rfl | omega | assumption | rfl | decide) (by first | with_reducible assumption | with_reducible rfl | omega | assumption | rfl | decide) (by first | with_reducible assumption | with_reducible rfl | omega | assumption | rfl | decide) (by first | with_reducible assumption | with_reducible rfl | omega | assumption | rfl | decide)) (kV_RX12_190 C.2.2.2.2 (Nat.le_of_ble_eq_true rfl) (Nat.le_of_ble_eq_true rfl)) [0, 1] [0, 0] rfl rfl (ci := 11) (qc := (RX12, TX12, 43)) rfl rfl (List.mem_flatten.mpr ⟨_, List.mem_of_getElem? (i := 0) rfl, List.mem_cons_self⟩) rfl rfl hl.1 dX12_loops_34 (Nat.le_of_ble_eq_true rfl) (Nat.le_of_ble_eq_true rfl) (fun r_29 b1 H locs hw G => ?_)
        refine zAn4 hw ?_
        intro hbs9 h_26 h_27 h_28
        clear hw
        subst hbs9
        have G : zS T A s.heap s [[zO11 mo m_all m_has i_size i_next i_where i_token i_number i_word i_wrong i_farCrossing m_read i_z0 i_crossings i_inns m_posts m_shut m_here i_steps i_done i_at i_gone m_was m_came m_seenAt m_rowWorth m_farBy m_used i_everywhere i_again0 i_d0 i_never i_firstCame i_longRun i_moved i_crowd i_l0 i_fitMany i_fitLeast i_fitMost m_fitPost m_fitEnd m_keptPosts i_x0], [zAr T 0 m_all 3952 f_all]] _ _ := G
        subst h_26
        refine lv_iload_n hx hb dX12_loops_37 rfl (lv_at hl 1 rfl) ?_
        refine lv_icmp_ne (tgt := 45) hx hb dX12_loops_38 (by decide) (fun c_30 => ?_) (fun c_30 => ?_)
        · have c_30n : ¬ (zLe f_all i_z0 (nI i) (nI k)).toInt = (i : Int) := fun q => c_30 ((fa_eq _ _).mpr (by rw [nI_toInt (n := i) (by omega)]; exact q))
          refine lv_iconst (v := 0) hx hb dX12_loops_45 (by decide) ?_
          refine lv_iadd hx hb dX12_loops_46 ?_
          refine lv_istore_n (lv' := [(2, .int (v + 0)), (4, .int (nI k)), (3, .int (nI i)), (0, .ref mo), (1, .int w_)]) hx hb dX12_loops_47 rfl hl (by decide) (zLvf_h rfl) (fun ls hl => ?_)
          refine lv_iconst (v := 0) hx hb dX12_loops_48 (by decide) ?_
          refine lv_istore (lv' := [(5, .int 0), (2, .int (v + 0)), (4, .int (nI k)), (3, .int (nI i)), (0, .ref mo), (1, .int w_)]) hx hb dX12_loops_49 hl (by decide) (zLvf_h rfl) (fun ls hl => ?_)
          refine z_lp2 (T := T) 51 (fun (t : Nat) (v2 : Int32) => [[zO11 mo m_all m_has i_size i_next i_where i_token i_number i_word i_wrong i_farCrossing m_read i_z0 i_crossings i_inns m_posts m_shut m_here i_steps i_done i_at i_gone m_was m_came m_seenAt m_rowWorth m_farBy m_used i_everywhere i_again0 i_d0 i_never i_firstCame i_longRun i_moved i_crowd i_l0 i_fitMany i_fitLeast i_fitMost m_fitPost m_fitEnd m_keptPosts i_x0], [zAr T 0 m_all 3952 f_all]]) (fun (t : Nat) (v2 : Int32) => [(5, .int (nI t)), (2, .int v2), (4, .int (nI k)), (3, .int (nI i)), (0, .ref mo), (1, .int w_)]) (fun (t : Nat) (v2 : Int32) => t ≤ 4 ∧ t ≤ k ∧ v2 = u + nI (if w_ = 0 then rHr (zLo f_all i_z0) i (nI i) (k + 1) else rDr (zLo f_all i_z0) i k + rPr (zLo f_all i_z0) i k t)) (fun (t : Nat) (v2 : Int32) => 4 - t) ?_ 0 (v + 0) (show 0 ≤ 4 ∧ 0 ≤ k ∧ (v + 0) = u + nI (if w_ = 0 then rHr (zLo f_all i_z0) i (nI i) (k + 1) else rDr (zLo f_all i_z0) i k + rPr (zLo f_all i_z0) i k 0) from ⟨by omega, by omega, (by first | exact (rQ_a hv (zLe_o (f := f_all) (z := i_z0) (c := i) (k := k) (by omega) (by omega))).2.1 (by first | with_reducible assumption | assumption) (by first | with_reducible assumption | assumption) | exact (rQ_a (x := zLo f_all i_z0 (4 * i + k)) hv rfl).2.2 (by first | with_reducible assumption | assumption))⟩) G (lv_sub hl [0, 1, 2, 3, 4, 5] rfl)
          intro t v2 hI9 ih_51 H locs ls G hl
          replace hI9 : t ≤ 4 ∧ t ≤ k ∧ v2 = u + nI (if w_ = 0 then rHr (zLo f_all i_z0) i (nI i) (k + 1) else rDr (zLo f_all i_z0) i k + rPr (zLo f_all i_z0) i k t) := hI9
          refine zAn3 hI9 ?_
          intro ht htk hv2
          clear hI9
          replace G : zS T A s.heap s [[zO11 mo m_all m_has i_size i_next i_where i_token i_number i_word i_wrong i_farCrossing m_read i_z0 i_crossings i_inns m_posts m_shut m_here i_steps i_done i_at i_gone m_was m_came m_seenAt m_rowWorth m_farBy m_used i_everywhere i_again0 i_d0 i_never i_firstCame i_longRun i_moved i_crowd i_l0 i_fitMany i_fitLeast i_fitMost m_fitPost m_fitEnd m_keptPosts i_x0], [zAr T 0 m_all 3952 f_all]] _ _ := G
          replace hl : lv_has ls 6 [(5, .int (nI t)), (2, .int v2), (4, .int (nI k)), (3, .int (nI i)), (0, .ref mo), (1, .int w_)] := hl
          refine lv_iload hx hb dX12_loops_51 (lv_at hl 0 rfl) ?_
          refine lv_iload hx hb dX12_loops_53 (lv_at hl 2 rfl) ?_
          refine lv_icmp_ge (tgt := 93) hx hb dX12_loops_55 (by decide) (fun c_31 => ?_) (fun c_31 => ?_)
          · have c_31n : k ≤ t := (nI_leI (a := k) (b := t) (by omega) (by omega)).mp c_31
            refine lv_iinc (v := nI (k + 1)) (lv' := [(4, .int (nI (k + 1))), (5, .int (nI t)), (2, .int v2), (3, .int (nI i)), (0, .ref mo), (1, .int w_)]) hx hb dX12_loops_93 hl (k := 2) rfl (z_inc k 1) (by decide) (zLvf_h rfl) (fun ls hl => ?_)
            refine lv_goto (tgt := 15) hx hb dX12_loops_96 (by decide) ?_
            exact ih_15 (k + 1) v2 (show (k + 1) ≤ 4 ∧ ((k + 1) : Int) ≤ ((zWo f_all i_z0 i_inns) i).toInt ∧ v2 = u + nI (if w_ = 0 then rHr (zLo f_all i_z0) i (nI i) (k + 1) else rDr (zLo f_all i_z0) i (k + 1)) from ⟨by omega, by omega, (rQ_c hv2 (by omega))⟩) (show 4 - (k + 1) < 4 - k from by omega) _ _ ls G (lv_sub hl [0, 3, 2, 4, 5] rfl)
          · have c_31n : ¬ k ≤ t := fun q => c_31 ((nI_leI (a := k) (b := t) (by omega) (by omega)).mpr q)
            refine lv_iload_n hx hb dX12_loops_58 rfl (lv_at hl 1 rfl) ?_
            refine lv_iload_n hx hb dX12_loops_59 rfl (lv_at hl 5 rfl) ?_
            refine lv_if_eq (tgt := 84) hx hb dX12_loops_60 (by decide) (fun c_32 => ?_) (fun c_32 => ?_)
            · have c_32n : w_.toInt = (0 : Int) := (fa_eq _ _).mp c_32
              refine lv_iconst (v := 0) hx hb dX12_loops_84 (by decide) ?_
              refine lv_iadd hx hb dX12_loops_85 ?_
              refine lv_istore_n (lv' := [(2, .int (v2 + 0)), (5, .int (nI t)), (4, .int (nI k)), (3, .int (nI i)), (0, .ref mo), (1, .int w_)]) hx hb dX12_loops_86 rfl hl (by decide) (zLvf_h rfl) (fun ls hl => ?_)
              refine lv_iinc (v := nI (t + 1)) (lv' := [(5, .int (nI (t + 1))), (2, .int (v2 + 0)), (4, .int (nI k)), (3, .int (nI i)), (0, .ref mo), (1, .int w_)]) hx hb dX12_loops_87 hl (k := 1) rfl (z_inc t 1) (by decide) (zLvf_h rfl) (fun ls hl => ?_)
              refine lv_goto (tgt := 51) hx hb dX12_loops_90 (by decide) ?_
              exact ih_51 (t + 1) (v2 + 0) (show (t + 1) ≤ 4 ∧ (t + 1) ≤ k ∧ (v2 + 0) = u + nI (if w_ = 0 then rHr (zLo f_all i_z0) i (nI i) (k + 1) else rDr (zLo f_all i_z0) i k + rPr (zLo f_all i_z0) i k (t + 1)) from ⟨by omega, by omega, (by first | exact (rQ_b hv2 (zLe_o (f := f_all) (z := i_z0) (c := i) (k := k) (by omega) (by omega)) (zLe_o (f := f_all) (z := i_z0) (c := i) (k := t) (by omega) (by omega))).2.1 (by first | with_reducible assumption | assumption) (by first | with_reducible assumption | assumption) | exact (rQ_b (x := zLo f_all i_z0 (4 * i + k)) (y := zLo f_all i_z0 (4 * i + t)) hv2 rfl rfl).2.2 (by first | with_reducible assumption | assumption))⟩) (show 4 - (t + 1) < 4 - t from by omega) _ _ ls G (lv_sub hl [0, 1, 2, 3, 4, 5] rfl)
            · have c_32n : ¬ w_.toInt = (0 : Int) := fun q => c_32 ((fa_eq _ _).mpr q)
              refine lv_aload_n hx hb dX12_loops_63 rfl (lv_at hl 4 rfl) ?_
              refine lv_iload_n hx hb dX12_loops_64 rfl (lv_at hl 3 rfl) ?_
              refine lv_iload hx hb dX12_loops_65 (lv_at hl 2 rfl) ?_
              have ti_33 : (nI i).toInt = ((i : Nat) : Int) := nI_toInt (by omega)
              have ti_34 : (nI k).toInt = ((k : Nat) : Int) := nI_toInt (by omega)
              refine z_Vi (bc := [[zO11 mo m_all m_has i_size i_next i_where i_token i_number i_word i_wrong i_farCrossing m_read i_z0 i_crossings i_inns m_posts m_shut m_here i_steps i_done i_at i_gone m_was m_came m_seenAt m_rowWorth m_farBy m_used i_everywhere i_again0 i_d0 i_never i_firstCame i_longRun i_moved i_crowd i_l0 i_fitMany i_fitLeast i_fitMost m_fitPost m_fitEnd m_keptPosts i_x0], [zAr T 0 m_all 3952 f_all]]) (br := []) (As := [.int (nI i), .int (nI k)]) (rest := [.int v2]) C G (c_m_leadsTo l T mo m_all m_has i_size i_next i_where i_token i_number i_word i_wrong i_farCrossing m_read i_z0 i_crossings i_inns m_posts m_shut m_here i_steps i_done i_at i_gone m_was m_came m_seenAt m_rowWorth m_farBy m_used i_everywhere i_again0 i_d0 i_never i_firstCame i_longRun i_moved i_crowd i_l0 i_fitMany i_fitLeast i_fitMost m_fitPost m_fitEnd m_keptPosts i_x0 f_all (nI i) (nI k) (by first | with_reducible assumption | with_reducible rfl | omega | assumption | rfl | decide) (by first | with_reducible assumption | with_reducible rfl | omega | assumption | rfl | decide) (by first | with_reducible assumption | with_reducible rfl | omega | assumption | rfl | decide) (by first | with_reducible assumption | with_reducible rfl | omega | assumption | rfl | decide) (by first | with_reducible assumption | with_reducible rfl | omega | assumption | rfl | decide)) (kV_RX12_190 C.2.2.2.2 (Nat.le_of_ble_eq_true rfl) (Nat.le_of_ble_eq_true rfl)) [0, 1] [0, 0] rfl rfl (ci := 11) (qc := (RX12, TX12, 43)) rfl rfl (List.mem_flatten.mpr ⟨_, List.mem_of_getElem? (i := 0) rfl, List.mem_cons_self⟩) rfl rfl hl.1 dX12_loops_67 (Nat.le_of_ble_eq_true rfl) (Nat.le_of_ble_eq_true rfl) (fun r_38 b1 H locs hw G => ?_)
              refine zAn4 hw ?_
              intro hbs9 h_35 h_36 h_37
              clear hw
              subst hbs9
              have G : zS T A s.heap s [[zO11 mo m_all m_has i_size i_next i_where i_token i_number i_word i_wrong i_farCrossing m_read i_z0 i_crossings i_inns m_posts m_shut m_here i_steps i_done i_at i_gone m_was m_came m_seenAt m_rowWorth m_farBy m_used i_everywhere i_again0 i_d0 i_never i_firstCame i_longRun i_moved i_crowd i_l0 i_fitMany i_fitLeast i_fitMost m_fitPost m_fitEnd m_keptPosts i_x0], [zAr T 0 m_all 3952 f_all]] _ _ := G
              subst h_35
              refine lv_aload_n hx hb dX12_loops_70 rfl (lv_at hl 4 rfl) ?_
              refine lv_iload_n hx hb dX12_loops_71 rfl (lv_at hl 3 rfl) ?_
              refine lv_iload hx hb dX12_loops_72 (lv_at hl 0 rfl) ?_
              have ti_39 : (nI i).toInt = ((i : Nat) : Int) := nI_toInt (by omega)
              have ti_40 : (nI t).toInt = ((t : Nat) : Int) := nI_toInt (by omega)
              refine z_Vi (bc := [[zO11 mo m_all m_has i_size i_next i_where i_token i_number i_word i_wrong i_farCrossing m_read i_z0 i_crossings i_inns m_posts m_shut m_here i_steps i_done i_at i_gone m_was m_came m_seenAt m_rowWorth m_farBy m_used i_everywhere i_again0 i_d0 i_never i_firstCame i_longRun i_moved i_crowd i_l0 i_fitMany i_fitLeast i_fitMost m_fitPost m_fitEnd m_keptPosts i_x0], [zAr T 0 m_all 3952 f_all]]) (br := []) (As := [.int (nI i), .int (nI t)]) (rest := [.int (zLe f_all i_z0 (nI i) (nI k)), .int v2]) C G (c_m_leadsTo l T mo m_all m_has i_size i_next i_where i_token i_number i_word i_wrong i_farCrossing m_read i_z0 i_crossings i_inns m_posts m_shut m_here i_steps i_done i_at i_gone m_was m_came m_seenAt m_rowWorth m_farBy m_used i_everywhere i_again0 i_d0 i_never i_firstCame i_longRun i_moved i_crowd i_l0 i_fitMany i_fitLeast i_fitMost m_fitPost m_fitEnd m_keptPosts i_x0 f_all (nI i) (nI t) (by first | with_reducible assumption | with_reducible rfl | omega | assumption | rfl | decide) (by first | with_reducible assumption | with_reducible rfl | omega | assumption | rfl | decide) (by first | with_reducible assumption | with_reducible rfl | omega | assumption | rfl | decide) (by first | with_reducible assumption | with_reducible rfl | omega | assumption | rfl | decide) (by first | with_reducible assumption | with_reducible rfl | omega | assumption | rfl | decide)) (kV_RX12_190 C.2.2.2.2 (Nat.le_of_ble_eq_true rfl) (Nat.le_of_ble_eq_true rfl)) [0, 1] [0, 0] rfl rfl (ci := 11) (qc := (RX12, TX12, 43)) rfl rfl (List.mem_flatten.mpr ⟨_, List.mem_of_getElem? (i := 0) rfl, List.mem_cons_self⟩) rfl rfl hl.1 dX12_loops_74 (Nat.le_of_ble_eq_true rfl) (Nat.le_of_ble_eq_true rfl) (fun r_44 b1 H locs hw G => ?_)
              refine zAn4 hw ?_
              intro hbs9 h_41 h_42 h_43
              clear hw
              subst hbs9
              have G : zS T A s.heap s [[zO11 mo m_all m_has i_size i_next i_where i_token i_number i_word i_wrong i_farCrossing m_read i_z0 i_crossings i_inns m_posts m_shut m_here i_steps i_done i_at i_gone m_was m_came m_seenAt m_rowWorth m_farBy m_used i_everywhere i_again0 i_d0 i_never i_firstCame i_longRun i_moved i_crowd i_l0 i_fitMany i_fitLeast i_fitMost m_fitPost m_fitEnd m_keptPosts i_x0], [zAr T 0 m_all 3952 f_all]] _ _ := G
              subst h_41
              refine lv_icmp_ne (tgt := 84) hx hb dX12_loops_77 (by decide) (fun c_45 => ?_) (fun c_45 => ?_)
              · have c_45n : ¬ (zLe f_all i_z0 (nI i) (nI k)).toInt = (zLe f_all i_z0 (nI i) (nI t)).toInt := fun q => c_45 ((fa_eq _ _).mpr q)
                refine lv_iconst (v := 0) hx hb dX12_loops_84 (by decide) ?_
                refine lv_iadd hx hb dX12_loops_85 ?_
                refine lv_istore_n (lv' := [(2, .int (v2 + 0)), (5, .int (nI t)), (4, .int (nI k)), (3, .int (nI i)), (0, .ref mo), (1, .int w_)]) hx hb dX12_loops_86 rfl hl (by decide) (zLvf_h rfl) (fun ls hl => ?_)
                refine lv_iinc (v := nI (t + 1)) (lv' := [(5, .int (nI (t + 1))), (2, .int (v2 + 0)), (4, .int (nI k)), (3, .int (nI i)), (0, .ref mo), (1, .int w_)]) hx hb dX12_loops_87 hl (k := 1) rfl (z_inc t 1) (by decide) (zLvf_h rfl) (fun ls hl => ?_)
                refine lv_goto (tgt := 51) hx hb dX12_loops_90 (by decide) ?_
                exact ih_51 (t + 1) (v2 + 0) (show (t + 1) ≤ 4 ∧ (t + 1) ≤ k ∧ (v2 + 0) = u + nI (if w_ = 0 then rHr (zLo f_all i_z0) i (nI i) (k + 1) else rDr (zLo f_all i_z0) i k + rPr (zLo f_all i_z0) i k (t + 1)) from ⟨by omega, by omega, (by first | exact (rQ_b hv2 (zLe_o (f := f_all) (z := i_z0) (c := i) (k := k) (by omega) (by omega)) (zLe_o (f := f_all) (z := i_z0) (c := i) (k := t) (by omega) (by omega))).2.1 (by first | with_reducible assumption | assumption) (by first | with_reducible assumption | assumption) | exact (rQ_b (x := zLo f_all i_z0 (4 * i + k)) (y := zLo f_all i_z0 (4 * i + t)) hv2 rfl rfl).2.2 (by first | with_reducible assumption | assumption))⟩) (show 4 - (t + 1) < 4 - t from by omega) _ _ ls G (lv_sub hl [0, 1, 2, 3, 4, 5] rfl)
              · have c_45n : (zLe f_all i_z0 (nI i) (nI k)).toInt = (zLe f_all i_z0 (nI i) (nI t)).toInt := (fa_eq _ _).mp c_45
                refine lv_iconst (v := 1) hx hb dX12_loops_80 (by decide) ?_
                refine lv_goto (tgt := 85) hx hb dX12_loops_81 (by decide) ?_
                refine lv_iadd hx hb dX12_loops_85 ?_
                refine lv_istore_n (lv' := [(2, .int (v2 + 1)), (5, .int (nI t)), (4, .int (nI k)), (3, .int (nI i)), (0, .ref mo), (1, .int w_)]) hx hb dX12_loops_86 rfl hl (by decide) (zLvf_h rfl) (fun ls hl => ?_)
                refine lv_iinc (v := nI (t + 1)) (lv' := [(5, .int (nI (t + 1))), (2, .int (v2 + 1)), (4, .int (nI k)), (3, .int (nI i)), (0, .ref mo), (1, .int w_)]) hx hb dX12_loops_87 hl (k := 1) rfl (z_inc t 1) (by decide) (zLvf_h rfl) (fun ls hl => ?_)
                refine lv_goto (tgt := 51) hx hb dX12_loops_90 (by decide) ?_
                exact ih_51 (t + 1) (v2 + 1) (show (t + 1) ≤ 4 ∧ (t + 1) ≤ k ∧ (v2 + 1) = u + nI (if w_ = 0 then rHr (zLo f_all i_z0) i (nI i) (k + 1) else rDr (zLo f_all i_z0) i k + rPr (zLo f_all i_z0) i k (t + 1)) from ⟨by omega, by omega, ((rQ_b hv2 (zLe_o (f := f_all) (z := i_z0) (c := i) (k := k) (by omega) (by omega)) (zLe_o (f := f_all) (z := i_z0) (c := i) (k := t) (by omega) (by omega))).1 (by first | with_reducible assumption | assumption) (by first | with_reducible assumption | assumption))⟩) (show 4 - (t + 1) < 4 - t from by omega) _ _ ls G (lv_sub hl [0, 1, 2, 3, 4, 5] rfl)
        · have c_30n : (zLe f_all i_z0 (nI i) (nI k)).toInt = (i : Int) := by have q := (fa_eq _ _).mp c_30; rw [nI_toInt (n := i) (by omega)] at q; exact q
          refine lv_iconst (v := 1) hx hb dX12_loops_41 (by decide) ?_
          refine lv_goto (tgt := 46) hx hb dX12_loops_42 (by decide) ?_
          refine lv_iadd hx hb dX12_loops_46 ?_
          refine lv_istore_n (lv' := [(2, .int (v + 1)), (4, .int (nI k)), (3, .int (nI i)), (0, .ref mo), (1, .int w_)]) hx hb dX12_loops_47 rfl hl (by decide) (zLvf_h rfl) (fun ls hl => ?_)
          refine lv_iconst (v := 0) hx hb dX12_loops_48 (by decide) ?_
          refine lv_istore (lv' := [(5, .int 0), (2, .int (v + 1)), (4, .int (nI k)), (3, .int (nI i)), (0, .ref mo), (1, .int w_)]) hx hb dX12_loops_49 hl (by decide) (zLvf_h rfl) (fun ls hl => ?_)
          refine z_lp2 (T := T) 51 (fun (t : Nat) (v2 : Int32) => [[zO11 mo m_all m_has i_size i_next i_where i_token i_number i_word i_wrong i_farCrossing m_read i_z0 i_crossings i_inns m_posts m_shut m_here i_steps i_done i_at i_gone m_was m_came m_seenAt m_rowWorth m_farBy m_used i_everywhere i_again0 i_d0 i_never i_firstCame i_longRun i_moved i_crowd i_l0 i_fitMany i_fitLeast i_fitMost m_fitPost m_fitEnd m_keptPosts i_x0], [zAr T 0 m_all 3952 f_all]]) (fun (t : Nat) (v2 : Int32) => [(5, .int (nI t)), (2, .int v2), (4, .int (nI k)), (3, .int (nI i)), (0, .ref mo), (1, .int w_)]) (fun (t : Nat) (v2 : Int32) => t ≤ 4 ∧ t ≤ k ∧ v2 = u + nI (if w_ = 0 then rHr (zLo f_all i_z0) i (nI i) (k + 1) else rDr (zLo f_all i_z0) i k + rPr (zLo f_all i_z0) i k t)) (fun (t : Nat) (v2 : Int32) => 4 - t) ?_ 0 (v + 1) (show 0 ≤ 4 ∧ 0 ≤ k ∧ (v + 1) = u + nI (if w_ = 0 then rHr (zLo f_all i_z0) i (nI i) (k + 1) else rDr (zLo f_all i_z0) i k + rPr (zLo f_all i_z0) i k 0) from ⟨by omega, by omega, ((rQ_a hv (zLe_o (f := f_all) (z := i_z0) (c := i) (k := k) (by omega) (by omega))).1 (by first | with_reducible assumption | assumption) (by first | with_reducible assumption | assumption))⟩) G (lv_sub hl [0, 1, 2, 3, 4, 5] rfl)
          intro t v2 hI9 ih_51 H locs ls G hl
          replace hI9 : t ≤ 4 ∧ t ≤ k ∧ v2 = u + nI (if w_ = 0 then rHr (zLo f_all i_z0) i (nI i) (k + 1) else rDr (zLo f_all i_z0) i k + rPr (zLo f_all i_z0) i k t) := hI9
          refine zAn3 hI9 ?_
          intro ht htk hv2
          clear hI9
          replace G : zS T A s.heap s [[zO11 mo m_all m_has i_size i_next i_where i_token i_number i_word i_wrong i_farCrossing m_read i_z0 i_crossings i_inns m_posts m_shut m_here i_steps i_done i_at i_gone m_was m_came m_seenAt m_rowWorth m_farBy m_used i_everywhere i_again0 i_d0 i_never i_firstCame i_longRun i_moved i_crowd i_l0 i_fitMany i_fitLeast i_fitMost m_fitPost m_fitEnd m_keptPosts i_x0], [zAr T 0 m_all 3952 f_all]] _ _ := G
          replace hl : lv_has ls 6 [(5, .int (nI t)), (2, .int v2), (4, .int (nI k)), (3, .int (nI i)), (0, .ref mo), (1, .int w_)] := hl
          refine lv_iload hx hb dX12_loops_51 (lv_at hl 0 rfl) ?_
          refine lv_iload hx hb dX12_loops_53 (lv_at hl 2 rfl) ?_
          refine lv_icmp_ge (tgt := 93) hx hb dX12_loops_55 (by decide) (fun c_46 => ?_) (fun c_46 => ?_)
          · have c_46n : k ≤ t := (nI_leI (a := k) (b := t) (by omega) (by omega)).mp c_46
            refine lv_iinc (v := nI (k + 1)) (lv' := [(4, .int (nI (k + 1))), (5, .int (nI t)), (2, .int v2), (3, .int (nI i)), (0, .ref mo), (1, .int w_)]) hx hb dX12_loops_93 hl (k := 2) rfl (z_inc k 1) (by decide) (zLvf_h rfl) (fun ls hl => ?_)
            refine lv_goto (tgt := 15) hx hb dX12_loops_96 (by decide) ?_
            exact ih_15 (k + 1) v2 (show (k + 1) ≤ 4 ∧ ((k + 1) : Int) ≤ ((zWo f_all i_z0 i_inns) i).toInt ∧ v2 = u + nI (if w_ = 0 then rHr (zLo f_all i_z0) i (nI i) (k + 1) else rDr (zLo f_all i_z0) i (k + 1)) from ⟨by omega, by omega, (rQ_c hv2 (by omega))⟩) (show 4 - (k + 1) < 4 - k from by omega) _ _ ls G (lv_sub hl [0, 3, 2, 4, 5] rfl)
          · have c_46n : ¬ k ≤ t := fun q => c_46 ((nI_leI (a := k) (b := t) (by omega) (by omega)).mpr q)
            refine lv_iload_n hx hb dX12_loops_58 rfl (lv_at hl 1 rfl) ?_
            refine lv_iload_n hx hb dX12_loops_59 rfl (lv_at hl 5 rfl) ?_
            refine lv_if_eq (tgt := 84) hx hb dX12_loops_60 (by decide) (fun c_47 => ?_) (fun c_47 => ?_)
            · have c_47n : w_.toInt = (0 : Int) := (fa_eq _ _).mp c_47
              refine lv_iconst (v := 0) hx hb dX12_loops_84 (by decide) ?_
              refine lv_iadd hx hb dX12_loops_85 ?_
              refine lv_istore_n (lv' := [(2, .int (v2 + 0)), (5, .int (nI t)), (4, .int (nI k)), (3, .int (nI i)), (0, .ref mo), (1, .int w_)]) hx hb dX12_loops_86 rfl hl (by decide) (zLvf_h rfl) (fun ls hl => ?_)
              refine lv_iinc (v := nI (t + 1)) (lv' := [(5, .int (nI (t + 1))), (2, .int (v2 + 0)), (4, .int (nI k)), (3, .int (nI i)), (0, .ref mo), (1, .int w_)]) hx hb dX12_loops_87 hl (k := 1) rfl (z_inc t 1) (by decide) (zLvf_h rfl) (fun ls hl => ?_)
              refine lv_goto (tgt := 51) hx hb dX12_loops_90 (by decide) ?_
              exact ih_51 (t + 1) (v2 + 0) (show (t + 1) ≤ 4 ∧ (t + 1) ≤ k ∧ (v2 + 0) = u + nI (if w_ = 0 then rHr (zLo f_all i_z0) i (nI i) (k + 1) else rDr (zLo f_all i_z0) i k + rPr (zLo f_all i_z0) i k (t + 1)) from ⟨by omega, by omega, (by first | exact (rQ_b hv2 (zLe_o (f := f_all) (z := i_z0) (c := i) (k := k) (by omega) (by omega)) (zLe_o (f := f_all) (z := i_z0) (c := i) (k := t) (by omega) (by omega))).2.1 (by first | with_reducible assumption | assumption) (by first | with_reducible assumption | assumption) | exact (rQ_b (x := zLo f_all i_z0 (4 * i + k)) (y := zLo f_all i_z0 (4 * i + t)) hv2 rfl rfl).2.2 (by first | with_reducible assumption | assumption))⟩) (show 4 - (t + 1) < 4 - t from by omega) _ _ ls G (lv_sub hl [0, 1, 2, 3, 4, 5] rfl)
            · have c_47n : ¬ w_.toInt = (0 : Int) := fun q => c_47 ((fa_eq _ _).mpr q)
              refine lv_aload_n hx hb dX12_loops_63 rfl (lv_at hl 4 rfl) ?_
              refine lv_iload_n hx hb dX12_loops_64 rfl (lv_at hl 3 rfl) ?_
              refine lv_iload hx hb dX12_loops_65 (lv_at hl 2 rfl) ?_
              have ti_48 : (nI i).toInt = ((i : Nat) : Int) := nI_toInt (by omega)
              have ti_49 : (nI k).toInt = ((k : Nat) : Int) := nI_toInt (by omega)
              refine z_Vi (bc := [[zO11 mo m_all m_has i_size i_next i_where i_token i_number i_word i_wrong i_farCrossing m_read i_z0 i_crossings i_inns m_posts m_shut m_here i_steps i_done i_at i_gone m_was m_came m_seenAt m_rowWorth m_farBy m_used i_everywhere i_again0 i_d0 i_never i_firstCame i_longRun i_moved i_crowd i_l0 i_fitMany i_fitLeast i_fitMost m_fitPost m_fitEnd m_keptPosts i_x0], [zAr T 0 m_all 3952 f_all]]) (br := []) (As := [.int (nI i), .int (nI k)]) (rest := [.int v2]) C G (c_m_leadsTo l T mo m_all m_has i_size i_next i_where i_token i_number i_word i_wrong i_farCrossing m_read i_z0 i_crossings i_inns m_posts m_shut m_here i_steps i_done i_at i_gone m_was m_came m_seenAt m_rowWorth m_farBy m_used i_everywhere i_again0 i_d0 i_never i_firstCame i_longRun i_moved i_crowd i_l0 i_fitMany i_fitLeast i_fitMost m_fitPost m_fitEnd m_keptPosts i_x0 f_all (nI i) (nI k) (by first | with_reducible assumption | with_reducible rfl | omega | assumption | rfl | decide) (by first | with_reducible assumption | with_reducible rfl | omega | assumption | rfl | decide) (by first | with_reducible assumption | with_reducible rfl | omega | assumption | rfl | decide) (by first | with_reducible assumption | with_reducible rfl | omega | assumption | rfl | decide) (by first | with_reducible assumption | with_reducible rfl | omega | assumption | rfl | decide)) (kV_RX12_190 C.2.2.2.2 (Nat.le_of_ble_eq_true rfl) (Nat.le_of_ble_eq_true rfl)) [0, 1] [0, 0] rfl rfl (ci := 11) (qc := (RX12, TX12, 43)) rfl rfl (List.mem_flatten.mpr ⟨_, List.mem_of_getElem? (i := 0) rfl, List.mem_cons_self⟩) rfl rfl hl.1 dX12_loops_67 (Nat.le_of_ble_eq_true rfl) (Nat.le_of_ble_eq_true rfl) (fun r_53 b1 H locs hw G => ?_)
              refine zAn4 hw ?_
              intro hbs9 h_50 h_51 h_52
              clear hw
              subst hbs9
              have G : zS T A s.heap s [[zO11 mo m_all m_has i_size i_next i_where i_token i_number i_word i_wrong i_farCrossing m_read i_z0 i_crossings i_inns m_posts m_shut m_here i_steps i_done i_at i_gone m_was m_came m_seenAt m_rowWorth m_farBy m_used i_everywhere i_again0 i_d0 i_never i_firstCame i_longRun i_moved i_crowd i_l0 i_fitMany i_fitLeast i_fitMost m_fitPost m_fitEnd m_keptPosts i_x0], [zAr T 0 m_all 3952 f_all]] _ _ := G
              subst h_50
              refine lv_aload_n hx hb dX12_loops_70 rfl (lv_at hl 4 rfl) ?_
              refine lv_iload_n hx hb dX12_loops_71 rfl (lv_at hl 3 rfl) ?_
              refine lv_iload hx hb dX12_loops_72 (lv_at hl 0 rfl) ?_
              have ti_54 : (nI i).toInt = ((i : Nat) : Int) := nI_toInt (by omega)
              have ti_55 : (nI t).toInt = ((t : Nat) : Int) := nI_toInt (by omega)
              refine z_Vi (bc := [[zO11 mo m_all m_has i_size i_next i_where i_token i_number i_word i_wrong i_farCrossing m_read i_z0 i_crossings i_inns m_posts m_shut m_here i_steps i_done i_at i_gone m_was m_came m_seenAt m_rowWorth m_farBy m_used i_everywhere i_again0 i_d0 i_never i_firstCame i_longRun i_moved i_crowd i_l0 i_fitMany i_fitLeast i_fitMost m_fitPost m_fitEnd m_keptPosts i_x0], [zAr T 0 m_all 3952 f_all]]) (br := []) (As := [.int (nI i), .int (nI t)]) (rest := [.int (zLe f_all i_z0 (nI i) (nI k)), .int v2]) C G (c_m_leadsTo l T mo m_all m_has i_size i_next i_where i_token i_number i_word i_wrong i_farCrossing m_read i_z0 i_crossings i_inns m_posts m_shut m_here i_steps i_done i_at i_gone m_was m_came m_seenAt m_rowWorth m_farBy m_used i_everywhere i_again0 i_d0 i_never i_firstCame i_longRun i_moved i_crowd i_l0 i_fitMany i_fitLeast i_fitMost m_fitPost m_fitEnd m_keptPosts i_x0 f_all (nI i) (nI t) (by first | with_reducible assumption | with_reducible rfl | omega | assumption | rfl | decide) (by first | with_reducible assumption | with_reducible rfl | omega | assumption | rfl | decide) (by first | with_reducible assumption | with_reducible rfl | omega | assumption | rfl | decide) (by first | with_reducible assumption | with_reducible rfl | omega | assumption | rfl | decide) (by first | with_reducible assumption | with_reducible rfl | omega | assumption | rfl | decide)) (kV_RX12_190 C.2.2.2.2 (Nat.le_of_ble_eq_true rfl) (Nat.le_of_ble_eq_true rfl)) [0, 1] [0, 0] rfl rfl (ci := 11) (qc := (RX12, TX12, 43)) rfl rfl (List.mem_flatten.mpr ⟨_, List.mem_of_getElem? (i := 0) rfl, List.mem_cons_self⟩) rfl rfl hl.1 dX12_loops_74 (Nat.le_of_ble_eq_true rfl) (Nat.le_of_ble_eq_true rfl) (fun r_59 b1 H locs hw G => ?_)
              refine zAn4 hw ?_
              intro hbs9 h_56 h_57 h_58
              clear hw
              subst hbs9
              have G : zS T A s.heap s [[zO11 mo m_all m_has i_size i_next i_where i_token i_number i_word i_wrong i_farCrossing m_read i_z0 i_crossings i_inns m_posts m_shut m_here i_steps i_done i_at i_gone m_was m_came m_seenAt m_rowWorth m_farBy m_used i_everywhere i_again0 i_d0 i_never i_firstCame i_longRun i_moved i_crowd i_l0 i_fitMany i_fitLeast i_fitMost m_fitPost m_fitEnd m_keptPosts i_x0], [zAr T 0 m_all 3952 f_all]] _ _ := G
              subst h_56
              refine lv_icmp_ne (tgt := 84) hx hb dX12_loops_77 (by decide) (fun c_60 => ?_) (fun c_60 => ?_)
              · have c_60n : ¬ (zLe f_all i_z0 (nI i) (nI k)).toInt = (zLe f_all i_z0 (nI i) (nI t)).toInt := fun q => c_60 ((fa_eq _ _).mpr q)
                refine lv_iconst (v := 0) hx hb dX12_loops_84 (by decide) ?_
                refine lv_iadd hx hb dX12_loops_85 ?_
                refine lv_istore_n (lv' := [(2, .int (v2 + 0)), (5, .int (nI t)), (4, .int (nI k)), (3, .int (nI i)), (0, .ref mo), (1, .int w_)]) hx hb dX12_loops_86 rfl hl (by decide) (zLvf_h rfl) (fun ls hl => ?_)
                refine lv_iinc (v := nI (t + 1)) (lv' := [(5, .int (nI (t + 1))), (2, .int (v2 + 0)), (4, .int (nI k)), (3, .int (nI i)), (0, .ref mo), (1, .int w_)]) hx hb dX12_loops_87 hl (k := 1) rfl (z_inc t 1) (by decide) (zLvf_h rfl) (fun ls hl => ?_)
                refine lv_goto (tgt := 51) hx hb dX12_loops_90 (by decide) ?_
                exact ih_51 (t + 1) (v2 + 0) (show (t + 1) ≤ 4 ∧ (t + 1) ≤ k ∧ (v2 + 0) = u + nI (if w_ = 0 then rHr (zLo f_all i_z0) i (nI i) (k + 1) else rDr (zLo f_all i_z0) i k + rPr (zLo f_all i_z0) i k (t + 1)) from ⟨by omega, by omega, (by first | exact (rQ_b hv2 (zLe_o (f := f_all) (z := i_z0) (c := i) (k := k) (by omega) (by omega)) (zLe_o (f := f_all) (z := i_z0) (c := i) (k := t) (by omega) (by omega))).2.1 (by first | with_reducible assumption | assumption) (by first | with_reducible assumption | assumption) | exact (rQ_b (x := zLo f_all i_z0 (4 * i + k)) (y := zLo f_all i_z0 (4 * i + t)) hv2 rfl rfl).2.2 (by first | with_reducible assumption | assumption))⟩) (show 4 - (t + 1) < 4 - t from by omega) _ _ ls G (lv_sub hl [0, 1, 2, 3, 4, 5] rfl)
              · have c_60n : (zLe f_all i_z0 (nI i) (nI k)).toInt = (zLe f_all i_z0 (nI i) (nI t)).toInt := (fa_eq _ _).mp c_60
                refine lv_iconst (v := 1) hx hb dX12_loops_80 (by decide) ?_
                refine lv_goto (tgt := 85) hx hb dX12_loops_81 (by decide) ?_
                refine lv_iadd hx hb dX12_loops_85 ?_
                refine lv_istore_n (lv' := [(2, .int (v2 + 1)), (5, .int (nI t)), (4, .int (nI k)), (3, .int (nI i)), (0, .ref mo), (1, .int w_)]) hx hb dX12_loops_86 rfl hl (by decide) (zLvf_h rfl) (fun ls hl => ?_)
                refine lv_iinc (v := nI (t + 1)) (lv' := [(5, .int (nI (t + 1))), (2, .int (v2 + 1)), (4, .int (nI k)), (3, .int (nI i)), (0, .ref mo), (1, .int w_)]) hx hb dX12_loops_87 hl (k := 1) rfl (z_inc t 1) (by decide) (zLvf_h rfl) (fun ls hl => ?_)
                refine lv_goto (tgt := 51) hx hb dX12_loops_90 (by decide) ?_
                exact ih_51 (t + 1) (v2 + 1) (show (t + 1) ≤ 4 ∧ (t + 1) ≤ k ∧ (v2 + 1) = u + nI (if w_ = 0 then rHr (zLo f_all i_z0) i (nI i) (k + 1) else rDr (zLo f_all i_z0) i k + rPr (zLo f_all i_z0) i k (t + 1)) from ⟨by omega, by omega, ((rQ_b hv2 (zLe_o (f := f_all) (z := i_z0) (c := i) (k := k) (by omega) (by omega)) (zLe_o (f := f_all) (z := i_z0) (c := i) (k := t) (by omega) (by omega))).1 (by first | with_reducible assumption | assumption) (by first | with_reducible assumption | assumption))⟩) (show 4 - (t + 1) < 4 - t from by omega) _ _ ls G (lv_sub hl [0, 1, 2, 3, 4, 5] rfl)
set_option maxHeartbeats 4000000 in
set_option maxRecDepth 100000 in
/-- c_fm_busyOf -/
theorem c_fm_busyOf (l : Launch) (T : zTy) (mo : Nat) (m_all : Nat) (m_has : Nat) (i_size : Int32) (i_next : Int32) (i_where : Int32) (i_token : Int32) (i_number : Int32) (i_word : Int32) (i_wrong : Int32) (i_farCrossing : Int32) (m_read : Nat) (i_z0 : Int32) (i_crossings : Int32) (i_inns : Int32) (m_posts : Nat) (m_shut : Nat) (m_here : Nat) (i_steps : Int32) (i_done : Int32) (i_at : Int32) (i_gone : Int32) (m_was : Nat) (m_came : Nat) (m_seenAt : Nat) (m_rowWorth : Nat) (m_farBy : Nat) (m_used : Nat) (i_everywhere : Int32) (i_again0 : Int32) (i_d0 : Int32) (i_never : Int32) (i_firstCame : Int32) (i_longRun : Int32) (i_moved : Int32) (i_crowd : Int32) (i_l0 : Int32) (i_fitMany : Int32) (i_fitLeast : Int32) (i_fitMost : Int32) (m_fitPost : Nat) (m_fitEnd : Nat) (m_keptPosts : Nat) (i_x0 : Int32) (f_all : Nat → Int32) (hL : zML f_all i_z0 i_crossings) (hVR : zVR (fun j => f_all (i_z0.toInt.toNat + j))) : zMi l T yX12_busyOf cX12_busyOf 3 (some .int) 5 0 0 [.ref mo] [[zO11 mo m_all m_has i_size i_next i_where i_token i_number i_word i_wrong i_farCrossing m_read i_z0 i_crossings i_inns m_posts m_shut m_here i_steps i_done i_at i_gone m_was m_came m_seenAt m_rowWorth m_farBy m_used i_everywhere i_again0 i_d0 i_never i_firstCame i_longRun i_moved i_crowd i_l0 i_fitMany i_fitLeast i_fitMost m_fitPost m_fitEnd m_keptPosts i_x0], [zAr T 0 m_all 3952 f_all]] (fun (r : Int32) bs => bs = [[zO11 mo m_all m_has i_size i_next i_where i_token i_number i_word i_wrong i_farCrossing m_read i_z0 i_crossings i_inns m_posts m_shut m_here i_steps i_done i_at i_gone m_was m_came m_seenAt m_rowWorth m_farBy m_used i_everywhere i_again0 i_d0 i_never i_firstCame i_longRun i_moved i_crowd i_l0 i_fitMany i_fitLeast i_fitMost m_fitPost m_fitEnd m_keptPosts i_x0], [zAr T 0 m_all 3952 f_all]] ∧ r = rBz (fun c => rHt (zWo f_all i_z0 i_inns) (zLo f_all i_z0) (nI c) true i_crossings.toInt.toNat) i_crossings.toInt.toNat) := by
  refine zMi_of (own := RX12) (by decide) rfl (Nat.le_of_ble_eq_true rfl) ?_
  intro p e s m args below meth c A ls C hr hlocks hnm hAe G hl
  refine zHide (fun Qz_ hQz_ => ?_)
  have hx := C.1
  have hb := C.2.1
  have hl : lv_has ls 3 [(0, .ref mo)] := hl
  have hz := hL.1
  have hcr := hL.cr
  have hO9 := qOk (n := i_inns) hL hVR
  have hg9 : ∀ c, rHt (zWo f_all i_z0 i_inns) (zLo f_all i_z0) (nI c) true i_crossings.toInt.toNat < 1000 := fun c => by have q9 := rHt_le (W := (zWo f_all i_z0 i_inns)) (L := (zLo f_all i_z0)) (y := nI c) (own := true) (fun j hj => (hO9.2.1 j hj).2) i_crossings.toInt.toNat (by omega); omega
  refine lv_aload_n hx hb dX12_busyOf_0 rfl (lv_at hl 0 rfl) ?_
  refine z_get C G clX12 0 rfl 12 (by decide) m_fl_RX12_169 rfl dX12_busyOf_1 ?_
  refine lv_if_ne (tgt := 11) hx hb dX12_busyOf_4 (by decide) (fun c_1 => ?_) (fun c_1 => ?_)
  · have c_1n : ¬ i_crossings.toInt = (0 : Int) := fun q => c_1 ((fa_eq _ _).mpr q)
    refine lv_iconst (v := 0) hx hb dX12_busyOf_11 (by decide) ?_
    refine lv_istore_n (lv' := [(1, .int 0), (0, .ref mo)]) hx hb dX12_busyOf_12 rfl hl (by decide) (zLvf_h rfl) (fun ls hl => ?_)
    refine lv_iconst (v := 1) hx hb dX12_busyOf_13 (by decide) ?_
    refine lv_istore_n (lv' := [(2, .int 1), (1, .int 0), (0, .ref mo)]) hx hb dX12_busyOf_14 rfl hl (by decide) (zLvf_h rfl) (fun ls hl => ?_)
    refine z_lp2 (T := T) 15 (fun (i : Nat) (u : Int32) => [[zO11 mo m_all m_has i_size i_next i_where i_token i_number i_word i_wrong i_farCrossing m_read i_z0 i_crossings i_inns m_posts m_shut m_here i_steps i_done i_at i_gone m_was m_came m_seenAt m_rowWorth m_farBy m_used i_everywhere i_again0 i_d0 i_never i_firstCame i_longRun i_moved i_crowd i_l0 i_fitMany i_fitLeast i_fitMost m_fitPost m_fitEnd m_keptPosts i_x0], [zAr T 0 m_all 3952 f_all]]) (fun (i : Nat) (u : Int32) => [(2, .int (nI i)), (1, .int u), (0, .ref mo)]) (fun (i : Nat) (u : Int32) => i ≤ 7 ∧ 1 ≤ i ∧ ((i : Int) ≤ i_crossings.toInt ∨ i_crossings.toInt = 0 ∧ i = 1) ∧ (i_crossings.toInt = 0 ∧ u = -1 ∨ 0 < i_crossings.toInt ∧ u = nI (rBu (fun c => rHt (zWo f_all i_z0 i_inns) (zLo f_all i_z0) (nI c) true i_crossings.toInt.toNat) i))) (fun (i : Nat) (u : Int32) => 7 - i) ?_ 1 0 (show 1 ≤ 7 ∧ 1 ≤ 1 ∧ ((1 : Int) ≤ i_crossings.toInt ∨ i_crossings.toInt = 0 ∧ 1 = 1) ∧ (i_crossings.toInt = 0 ∧ 0 = -1 ∨ 0 < i_crossings.toInt ∧ 0 = nI (rBu (fun c => rHt (zWo f_all i_z0 i_inns) (zLo f_all i_z0) (nI c) true i_crossings.toInt.toNat) 1)) from ⟨by omega, by omega, by omega, (Or.inr ⟨by omega, rfl⟩)⟩) G (lv_sub hl [0, 1, 2] rfl)
    intro i u hI9 ih_15 H locs ls G hl
    replace hI9 : i ≤ 7 ∧ 1 ≤ i ∧ ((i : Int) ≤ i_crossings.toInt ∨ i_crossings.toInt = 0 ∧ i = 1) ∧ (i_crossings.toInt = 0 ∧ u = -1 ∨ 0 < i_crossings.toInt ∧ u = nI (rBu (fun c => rHt (zWo f_all i_z0 i_inns) (zLo f_all i_z0) (nI c) true i_crossings.toInt.toNat) i)) := hI9
    refine zAn4 hI9 ?_
    intro hi hi1 hic hu0
    clear hI9
    replace G : zS T A s.heap s [[zO11 mo m_all m_has i_size i_next i_where i_token i_number i_word i_wrong i_farCrossing m_read i_z0 i_crossings i_inns m_posts m_shut m_here i_steps i_done i_at i_gone m_was m_came m_seenAt m_rowWorth m_farBy m_used i_everywhere i_again0 i_d0 i_never i_firstCame i_longRun i_moved i_crowd i_l0 i_fitMany i_fitLeast i_fitMost m_fitPost m_fitEnd m_keptPosts i_x0], [zAr T 0 m_all 3952 f_all]] _ _ := G
    replace hl : lv_has ls 3 [(2, .int (nI i)), (1, .int u), (0, .ref mo)] := hl
    refine lv_iload_n hx hb dX12_busyOf_15 rfl (lv_at hl 0 rfl) ?_
    refine lv_aload_n hx hb dX12_busyOf_16 rfl (lv_at hl 2 rfl) ?_
    refine z_get C G clX12 0 rfl 12 (by decide) m_fl_RX12_169 rfl dX12_busyOf_17 ?_
    refine lv_icmp_ge (tgt := 50) hx hb dX12_busyOf_20 (by decide) (fun c_2 => ?_) (fun c_2 => ?_)
    · have c_2n : i_crossings.toInt ≤ (i : Int) := by have q := (fa_le _ _).mp c_2; rw [nI_toInt (n := i) (by omega)] at q; exact q
      refine lv_iload_n hx hb dX12_busyOf_50 rfl (lv_at hl 1 rfl) ?_
      exact z_back hQz_ (z_iret C hr hlocks G (Nat.le_of_ble_eq_true rfl) (Nat.le_of_ble_eq_true rfl) dX12_busyOf_51 ⟨rfl, (by unfold rBz; rcases hu0 with ⟨q1, q2⟩ | ⟨q1, q2⟩ <;> first | (rw [if_pos (by omega)]; exact q2) | (rw [if_neg (by omega), q2]; exact congrArg (fun q => nI (rBu (fun c => rHt (zWo f_all i_z0 i_inns) (zLo f_all i_z0) (nI c) true i_crossings.toInt.toNat) q)) (by omega)))⟩)
    · have c_2n : ¬ i_crossings.toInt ≤ (i : Int) := fun q => c_2 ((fa_le _ _).mpr (by rw [nI_toInt (n := i) (by omega)]; exact q))
      have hu : u = nI (rBu (fun c => rHt (zWo f_all i_z0 i_inns) (zLo f_all i_z0) (nI c) true i_crossings.toInt.toNat) i) := hu0.elim (fun q9 => absurd q9.1 (by omega)) (fun q9 => q9.2)
      refine lv_aload_n hx hb dX12_busyOf_23 rfl (lv_at hl 2 rfl) ?_
      refine lv_iload_n hx hb dX12_busyOf_24 rfl (lv_at hl 0 rfl) ?_
      refine lv_iconst (v := 1) hx hb dX12_busyOf_25 (by decide) ?_
      have ti_3 : (nI i).toInt = ((i : Nat) : Int) := nI_toInt (by omega)
      refine z_Vi (bc := [[zO11 mo m_all m_has i_size i_next i_where i_token i_number i_word i_wrong i_farCrossing m_read i_z0 i_crossings i_inns m_posts m_shut m_here i_steps i_done i_at i_gone m_was m_came m_seenAt m_rowWorth m_farBy m_used i_everywhere i_again0 i_d0 i_never i_firstCame i_longRun i_moved i_crowd i_l0 i_fitMany i_fitLeast i_fitMost m_fitPost m_fitEnd m_keptPosts i_x0], [zAr T 0 m_all 3952 f_all]]) (br := []) (As := [.int (nI i), .int 1]) (rest := []) C G (c_fm_leadHere l T mo m_all m_has i_size i_next i_where i_token i_number i_word i_wrong i_farCrossing m_read i_z0 i_crossings i_inns m_posts m_shut m_here i_steps i_done i_at i_gone m_was m_came m_seenAt m_rowWorth m_farBy m_used i_everywhere i_again0 i_d0 i_never i_firstCame i_longRun i_moved i_crowd i_l0 i_fitMany i_fitLeast i_fitMost m_fitPost m_fitEnd m_keptPosts i_x0 f_all (nI i) 1 (by first | with_reducible assumption | with_reducible rfl | omega | assumption | rfl | decide) (by first | with_reducible assumption | with_reducible rfl | omega | assumption | rfl | decide)) (kV_RX12_267 C.2.2.2.2 (Nat.le_of_ble_eq_true rfl) (Nat.le_of_ble_eq_true rfl)) [0, 1] [0, 0] rfl rfl (ci := 11) (qc := (RX12, TX12, 43)) rfl rfl (List.mem_flatten.mpr ⟨_, List.mem_of_getElem? (i := 0) rfl, List.mem_cons_self⟩) rfl rfl hl.1 dX12_busyOf_26 (Nat.le_of_ble_eq_true rfl) (Nat.le_of_ble_eq_true rfl) (fun r_5 b1 H locs hw G => ?_)
      refine zAn2 hw ?_
      intro hbs9 h_4
      clear hw
      subst hbs9
      have G : zS T A s.heap s [[zO11 mo m_all m_has i_size i_next i_where i_token i_number i_word i_wrong i_farCrossing m_read i_z0 i_crossings i_inns m_posts m_shut m_here i_steps i_done i_at i_gone m_was m_came m_seenAt m_rowWorth m_farBy m_used i_everywhere i_again0 i_d0 i_never i_firstCame i_longRun i_moved i_crowd i_l0 i_fitMany i_fitLeast i_fitMost m_fitPost m_fitEnd m_keptPosts i_x0], [zAr T 0 m_all 3952 f_all]] _ _ := G
      rw [own1] at h_4
      refine lv_aload_n hx hb dX12_busyOf_29 rfl (lv_at hl 2 rfl) ?_
      refine lv_iload_n hx hb dX12_busyOf_30 rfl (lv_at hl 1 rfl) ?_
      refine lv_iconst (v := 1) hx hb dX12_busyOf_31 (by decide) ?_
      refine z_Vi (bc := [[zO11 mo m_all m_has i_size i_next i_where i_token i_number i_word i_wrong i_farCrossing m_read i_z0 i_crossings i_inns m_posts m_shut m_here i_steps i_done i_at i_gone m_was m_came m_seenAt m_rowWorth m_farBy m_used i_everywhere i_again0 i_d0 i_never i_firstCame i_longRun i_moved i_crowd i_l0 i_fitMany i_fitLeast i_fitMost m_fitPost m_fitEnd m_keptPosts i_x0], [zAr T 0 m_all 3952 f_all]]) (br := []) (As := [.int u, .int 1]) (rest := [.int r_5]) C G (c_fm_leadHere l T mo m_all m_has i_size i_next i_where i_token i_number i_word i_wrong i_farCrossing m_read i_z0 i_crossings i_inns m_posts m_shut m_here i_steps i_done i_at i_gone m_was m_came m_seenAt m_rowWorth m_farBy m_used i_everywhere i_again0 i_d0 i_never i_firstCame i_longRun i_moved i_crowd i_l0 i_fitMany i_fitLeast i_fitMost m_fitPost m_fitEnd m_keptPosts i_x0 f_all u 1 (by first | with_reducible assumption | with_reducible rfl | omega | assumption | rfl | decide) (by first | with_reducible assumption | with_reducible rfl | omega | assumption | rfl | decide)) (kV_RX12_267 C.2.2.2.2 (Nat.le_of_ble_eq_true rfl) (Nat.le_of_ble_eq_true rfl)) [0, 1] [0, 0] rfl rfl (ci := 11) (qc := (RX12, TX12, 43)) rfl rfl (List.mem_flatten.mpr ⟨_, List.mem_of_getElem? (i := 0) rfl, List.mem_cons_self⟩) rfl rfl hl.1 dX12_busyOf_32 (Nat.le_of_ble_eq_true rfl) (Nat.le_of_ble_eq_true rfl) (fun r_7 b1 H locs hw G => ?_)
      refine zAn2 hw ?_
      intro hbs9 h_6
      clear hw
      subst hbs9
      have G : zS T A s.heap s [[zO11 mo m_all m_has i_size i_next i_where i_token i_number i_word i_wrong i_farCrossing m_read i_z0 i_crossings i_inns m_posts m_shut m_here i_steps i_done i_at i_gone m_was m_came m_seenAt m_rowWorth m_farBy m_used i_everywhere i_again0 i_d0 i_never i_firstCame i_longRun i_moved i_crowd i_l0 i_fitMany i_fitLeast i_fitMost m_fitPost m_fitEnd m_keptPosts i_x0], [zAr T 0 m_all 3952 f_all]] _ _ := G
      rw [own1, hu] at h_6
      refine lv_icmp_le (tgt := 42) hx hb dX12_busyOf_35 (by decide) (fun c_8 => ?_) (fun c_8 => ?_)
      · have c_8n : r_5.toInt ≤ r_7.toInt := (fa_le _ _).mp c_8
        refine lv_iload_n hx hb dX12_busyOf_42 rfl (lv_at hl 1 rfl) ?_
        refine lv_istore_n (lv' := [(1, .int u), (2, .int (nI i)), (0, .ref mo)]) hx hb dX12_busyOf_43 rfl hl (by decide) (zLvf_h rfl) (fun ls hl => ?_)
        refine lv_iinc (v := nI (i + 1)) (lv' := [(2, .int (nI (i + 1))), (1, .int u), (0, .ref mo)]) hx hb dX12_busyOf_44 hl (k := 1) rfl (z_inc i 1) (by decide) (zLvf_h rfl) (fun ls hl => ?_)
        refine lv_goto (tgt := 15) hx hb dX12_busyOf_47 (by decide) ?_
        exact ih_15 (i + 1) u (show (i + 1) ≤ 7 ∧ 1 ≤ (i + 1) ∧ (((i + 1) : Int) ≤ i_crossings.toInt ∨ i_crossings.toInt = 0 ∧ (i + 1) = 1) ∧ (i_crossings.toInt = 0 ∧ u = -1 ∨ 0 < i_crossings.toInt ∧ u = nI (rBu (fun c => rHt (zWo f_all i_z0 i_inns) (zLo f_all i_z0) (nI c) true i_crossings.toInt.toNat) (i + 1))) from ⟨by omega, by omega, by omega, (Or.inr ⟨by omega, ((rBu_s hg9 hi1 hu h_4 h_6).2 (fun q9 => by have q8 := (fa_lt _ _).mp q9; omega))⟩)⟩) (show 7 - (i + 1) < 7 - i from by omega) _ _ ls G (lv_sub hl [0, 1, 2] rfl)
      · have c_8n : ¬ r_5.toInt ≤ r_7.toInt := fun q => c_8 ((fa_le _ _).mpr q)
        refine lv_iload_n hx hb dX12_busyOf_38 rfl (lv_at hl 0 rfl) ?_
        refine lv_goto (tgt := 43) hx hb dX12_busyOf_39 (by decide) ?_
        refine lv_istore_n (lv' := [(1, .int (nI i)), (2, .int (nI i)), (0, .ref mo)]) hx hb dX12_busyOf_43 rfl hl (by decide) (zLvf_h rfl) (fun ls hl => ?_)
        refine lv_iinc (v := nI (i + 1)) (lv' := [(2, .int (nI (i + 1))), (1, .int (nI i)), (0, .ref mo)]) hx hb dX12_busyOf_44 hl (k := 1) rfl (z_inc i 1) (by decide) (zLvf_h rfl) (fun ls hl => ?_)
        refine lv_goto (tgt := 15) hx hb dX12_busyOf_47 (by decide) ?_
        exact ih_15 (i + 1) (nI i) (show (i + 1) ≤ 7 ∧ 1 ≤ (i + 1) ∧ (((i + 1) : Int) ≤ i_crossings.toInt ∨ i_crossings.toInt = 0 ∧ (i + 1) = 1) ∧ (i_crossings.toInt = 0 ∧ (nI i) = -1 ∨ 0 < i_crossings.toInt ∧ (nI i) = nI (rBu (fun c => rHt (zWo f_all i_z0 i_inns) (zLo f_all i_z0) (nI c) true i_crossings.toInt.toNat) (i + 1))) from ⟨by omega, by omega, by omega, (Or.inr ⟨by omega, ((rBu_s hg9 hi1 hu h_4 h_6).1 ((fa_lt _ _).mpr (by omega)))⟩)⟩) (show 7 - (i + 1) < 7 - i from by omega) _ _ ls G (lv_sub hl [0, 1, 2] rfl)
  · have c_1n : i_crossings.toInt = (0 : Int) := (fa_eq _ _).mp c_1
    refine lv_iconst (v := (-1)) hx hb dX12_busyOf_7 (by decide) ?_
    refine lv_goto (tgt := 12) hx hb dX12_busyOf_8 (by decide) ?_
    refine lv_istore_n (lv' := [(1, .int (-1)), (0, .ref mo)]) hx hb dX12_busyOf_12 rfl hl (by decide) (zLvf_h rfl) (fun ls hl => ?_)
    refine lv_iconst (v := 1) hx hb dX12_busyOf_13 (by decide) ?_
    refine lv_istore_n (lv' := [(2, .int 1), (1, .int (-1)), (0, .ref mo)]) hx hb dX12_busyOf_14 rfl hl (by decide) (zLvf_h rfl) (fun ls hl => ?_)
    refine z_lp2 (T := T) 15 (fun (i : Nat) (u : Int32) => [[zO11 mo m_all m_has i_size i_next i_where i_token i_number i_word i_wrong i_farCrossing m_read i_z0 i_crossings i_inns m_posts m_shut m_here i_steps i_done i_at i_gone m_was m_came m_seenAt m_rowWorth m_farBy m_used i_everywhere i_again0 i_d0 i_never i_firstCame i_longRun i_moved i_crowd i_l0 i_fitMany i_fitLeast i_fitMost m_fitPost m_fitEnd m_keptPosts i_x0], [zAr T 0 m_all 3952 f_all]]) (fun (i : Nat) (u : Int32) => [(2, .int (nI i)), (1, .int u), (0, .ref mo)]) (fun (i : Nat) (u : Int32) => i ≤ 7 ∧ 1 ≤ i ∧ ((i : Int) ≤ i_crossings.toInt ∨ i_crossings.toInt = 0 ∧ i = 1) ∧ (i_crossings.toInt = 0 ∧ u = -1 ∨ 0 < i_crossings.toInt ∧ u = nI (rBu (fun c => rHt (zWo f_all i_z0 i_inns) (zLo f_all i_z0) (nI c) true i_crossings.toInt.toNat) i))) (fun (i : Nat) (u : Int32) => 7 - i) ?_ 1 (-1) (show 1 ≤ 7 ∧ 1 ≤ 1 ∧ ((1 : Int) ≤ i_crossings.toInt ∨ i_crossings.toInt = 0 ∧ 1 = 1) ∧ (i_crossings.toInt = 0 ∧ (-1) = -1 ∨ 0 < i_crossings.toInt ∧ (-1) = nI (rBu (fun c => rHt (zWo f_all i_z0 i_inns) (zLo f_all i_z0) (nI c) true i_crossings.toInt.toNat) 1)) from ⟨by omega, by omega, by omega, (Or.inl ⟨by omega, rfl⟩)⟩) G (lv_sub hl [0, 1, 2] rfl)
    intro i u hI9 ih_15 H locs ls G hl
    replace hI9 : i ≤ 7 ∧ 1 ≤ i ∧ ((i : Int) ≤ i_crossings.toInt ∨ i_crossings.toInt = 0 ∧ i = 1) ∧ (i_crossings.toInt = 0 ∧ u = -1 ∨ 0 < i_crossings.toInt ∧ u = nI (rBu (fun c => rHt (zWo f_all i_z0 i_inns) (zLo f_all i_z0) (nI c) true i_crossings.toInt.toNat) i)) := hI9
    refine zAn4 hI9 ?_
    intro hi hi1 hic hu0
    clear hI9
    replace G : zS T A s.heap s [[zO11 mo m_all m_has i_size i_next i_where i_token i_number i_word i_wrong i_farCrossing m_read i_z0 i_crossings i_inns m_posts m_shut m_here i_steps i_done i_at i_gone m_was m_came m_seenAt m_rowWorth m_farBy m_used i_everywhere i_again0 i_d0 i_never i_firstCame i_longRun i_moved i_crowd i_l0 i_fitMany i_fitLeast i_fitMost m_fitPost m_fitEnd m_keptPosts i_x0], [zAr T 0 m_all 3952 f_all]] _ _ := G
    replace hl : lv_has ls 3 [(2, .int (nI i)), (1, .int u), (0, .ref mo)] := hl
    refine lv_iload_n hx hb dX12_busyOf_15 rfl (lv_at hl 0 rfl) ?_
    refine lv_aload_n hx hb dX12_busyOf_16 rfl (lv_at hl 2 rfl) ?_
    refine z_get C G clX12 0 rfl 12 (by decide) m_fl_RX12_169 rfl dX12_busyOf_17 ?_
    refine lv_icmp_ge (tgt := 50) hx hb dX12_busyOf_20 (by decide) (fun c_9 => ?_) (fun c_9 => ?_)
    · have c_9n : i_crossings.toInt ≤ (i : Int) := by have q := (fa_le _ _).mp c_9; rw [nI_toInt (n := i) (by omega)] at q; exact q
      refine lv_iload_n hx hb dX12_busyOf_50 rfl (lv_at hl 1 rfl) ?_
      exact z_back hQz_ (z_iret C hr hlocks G (Nat.le_of_ble_eq_true rfl) (Nat.le_of_ble_eq_true rfl) dX12_busyOf_51 ⟨rfl, (by unfold rBz; rcases hu0 with ⟨q1, q2⟩ | ⟨q1, q2⟩ <;> first | (rw [if_pos (by omega)]; exact q2) | (rw [if_neg (by omega), q2]; exact congrArg (fun q => nI (rBu (fun c => rHt (zWo f_all i_z0 i_inns) (zLo f_all i_z0) (nI c) true i_crossings.toInt.toNat) q)) (by omega)))⟩)
    · have c_9n : ¬ i_crossings.toInt ≤ (i : Int) := fun q => c_9 ((fa_le _ _).mpr (by rw [nI_toInt (n := i) (by omega)]; exact q))
      have hu : u = nI (rBu (fun c => rHt (zWo f_all i_z0 i_inns) (zLo f_all i_z0) (nI c) true i_crossings.toInt.toNat) i) := hu0.elim (fun q9 => absurd q9.1 (by omega)) (fun q9 => q9.2)
      refine lv_aload_n hx hb dX12_busyOf_23 rfl (lv_at hl 2 rfl) ?_
      refine lv_iload_n hx hb dX12_busyOf_24 rfl (lv_at hl 0 rfl) ?_
      refine lv_iconst (v := 1) hx hb dX12_busyOf_25 (by decide) ?_
      have ti_10 : (nI i).toInt = ((i : Nat) : Int) := nI_toInt (by omega)
      refine z_Vi (bc := [[zO11 mo m_all m_has i_size i_next i_where i_token i_number i_word i_wrong i_farCrossing m_read i_z0 i_crossings i_inns m_posts m_shut m_here i_steps i_done i_at i_gone m_was m_came m_seenAt m_rowWorth m_farBy m_used i_everywhere i_again0 i_d0 i_never i_firstCame i_longRun i_moved i_crowd i_l0 i_fitMany i_fitLeast i_fitMost m_fitPost m_fitEnd m_keptPosts i_x0], [zAr T 0 m_all 3952 f_all]]) (br := []) (As := [.int (nI i), .int 1]) (rest := []) C G (c_fm_leadHere l T mo m_all m_has i_size i_next i_where i_token i_number i_word i_wrong i_farCrossing m_read i_z0 i_crossings i_inns m_posts m_shut m_here i_steps i_done i_at i_gone m_was m_came m_seenAt m_rowWorth m_farBy m_used i_everywhere i_again0 i_d0 i_never i_firstCame i_longRun i_moved i_crowd i_l0 i_fitMany i_fitLeast i_fitMost m_fitPost m_fitEnd m_keptPosts i_x0 f_all (nI i) 1 (by first | with_reducible assumption | with_reducible rfl | omega | assumption | rfl | decide) (by first | with_reducible assumption | with_reducible rfl | omega | assumption | rfl | decide)) (kV_RX12_267 C.2.2.2.2 (Nat.le_of_ble_eq_true rfl) (Nat.le_of_ble_eq_true rfl)) [0, 1] [0, 0] rfl rfl (ci := 11) (qc := (RX12, TX12, 43)) rfl rfl (List.mem_flatten.mpr ⟨_, List.mem_of_getElem? (i := 0) rfl, List.mem_cons_self⟩) rfl rfl hl.1 dX12_busyOf_26 (Nat.le_of_ble_eq_true rfl) (Nat.le_of_ble_eq_true rfl) (fun r_12 b1 H locs hw G => ?_)
      refine zAn2 hw ?_
      intro hbs9 h_11
      clear hw
      subst hbs9
      have G : zS T A s.heap s [[zO11 mo m_all m_has i_size i_next i_where i_token i_number i_word i_wrong i_farCrossing m_read i_z0 i_crossings i_inns m_posts m_shut m_here i_steps i_done i_at i_gone m_was m_came m_seenAt m_rowWorth m_farBy m_used i_everywhere i_again0 i_d0 i_never i_firstCame i_longRun i_moved i_crowd i_l0 i_fitMany i_fitLeast i_fitMost m_fitPost m_fitEnd m_keptPosts i_x0], [zAr T 0 m_all 3952 f_all]] _ _ := G
      rw [own1] at h_11
      refine lv_aload_n hx hb dX12_busyOf_29 rfl (lv_at hl 2 rfl) ?_
      refine lv_iload_n hx hb dX12_busyOf_30 rfl (lv_at hl 1 rfl) ?_
      refine lv_iconst (v := 1) hx hb dX12_busyOf_31 (by decide) ?_
      refine z_Vi (bc := [[zO11 mo m_all m_has i_size i_next i_where i_token i_number i_word i_wrong i_farCrossing m_read i_z0 i_crossings i_inns m_posts m_shut m_here i_steps i_done i_at i_gone m_was m_came m_seenAt m_rowWorth m_farBy m_used i_everywhere i_again0 i_d0 i_never i_firstCame i_longRun i_moved i_crowd i_l0 i_fitMany i_fitLeast i_fitMost m_fitPost m_fitEnd m_keptPosts i_x0], [zAr T 0 m_all 3952 f_all]]) (br := []) (As := [.int u, .int 1]) (rest := [.int r_12]) C G (c_fm_leadHere l T mo m_all m_has i_size i_next i_where i_token i_number i_word i_wrong i_farCrossing m_read i_z0 i_crossings i_inns m_posts m_shut m_here i_steps i_done i_at i_gone m_was m_came m_seenAt m_rowWorth m_farBy m_used i_everywhere i_again0 i_d0 i_never i_firstCame i_longRun i_moved i_crowd i_l0 i_fitMany i_fitLeast i_fitMost m_fitPost m_fitEnd m_keptPosts i_x0 f_all u 1 (by first | with_reducible assumption | with_reducible rfl | omega | assumption | rfl | decide) (by first | with_reducible assumption | with_reducible rfl | omega | assumption | rfl | decide)) (kV_RX12_267 C.2.2.2.2 (Nat.le_of_ble_eq_true rfl) (Nat.le_of_ble_eq_true rfl)) [0, 1] [0, 0] rfl rfl (ci := 11) (qc := (RX12, TX12, 43)) rfl rfl (List.mem_flatten.mpr ⟨_, List.mem_of_getElem? (i := 0) rfl, List.mem_cons_self⟩) rfl rfl hl.1 dX12_busyOf_32 (Nat.le_of_ble_eq_true rfl) (Nat.le_of_ble_eq_true rfl) (fun r_14 b1 H locs hw G => ?_)
      refine zAn2 hw ?_
      intro hbs9 h_13
      clear hw
      subst hbs9
      have G : zS T A s.heap s [[zO11 mo m_all m_has i_size i_next i_where i_token i_number i_word i_wrong i_farCrossing m_read i_z0 i_crossings i_inns m_posts m_shut m_here i_steps i_done i_at i_gone m_was m_came m_seenAt m_rowWorth m_farBy m_used i_everywhere i_again0 i_d0 i_never i_firstCame i_longRun i_moved i_crowd i_l0 i_fitMany i_fitLeast i_fitMost m_fitPost m_fitEnd m_keptPosts i_x0], [zAr T 0 m_all 3952 f_all]] _ _ := G
      rw [own1, hu] at h_13
      refine lv_icmp_le (tgt := 42) hx hb dX12_busyOf_35 (by decide) (fun c_15 => ?_) (fun c_15 => ?_)
      · have c_15n : r_12.toInt ≤ r_14.toInt := (fa_le _ _).mp c_15
        refine lv_iload_n hx hb dX12_busyOf_42 rfl (lv_at hl 1 rfl) ?_
        refine lv_istore_n (lv' := [(1, .int u), (2, .int (nI i)), (0, .ref mo)]) hx hb dX12_busyOf_43 rfl hl (by decide) (zLvf_h rfl) (fun ls hl => ?_)
        refine lv_iinc (v := nI (i + 1)) (lv' := [(2, .int (nI (i + 1))), (1, .int u), (0, .ref mo)]) hx hb dX12_busyOf_44 hl (k := 1) rfl (z_inc i 1) (by decide) (zLvf_h rfl) (fun ls hl => ?_)
        refine lv_goto (tgt := 15) hx hb dX12_busyOf_47 (by decide) ?_
        exact ih_15 (i + 1) u (show (i + 1) ≤ 7 ∧ 1 ≤ (i + 1) ∧ (((i + 1) : Int) ≤ i_crossings.toInt ∨ i_crossings.toInt = 0 ∧ (i + 1) = 1) ∧ (i_crossings.toInt = 0 ∧ u = -1 ∨ 0 < i_crossings.toInt ∧ u = nI (rBu (fun c => rHt (zWo f_all i_z0 i_inns) (zLo f_all i_z0) (nI c) true i_crossings.toInt.toNat) (i + 1))) from ⟨by omega, by omega, by omega, (Or.inr ⟨by omega, ((rBu_s hg9 hi1 hu h_11 h_13).2 (fun q9 => by have q8 := (fa_lt _ _).mp q9; omega))⟩)⟩) (show 7 - (i + 1) < 7 - i from by omega) _ _ ls G (lv_sub hl [0, 1, 2] rfl)
      · have c_15n : ¬ r_12.toInt ≤ r_14.toInt := fun q => c_15 ((fa_le _ _).mpr q)
        refine lv_iload_n hx hb dX12_busyOf_38 rfl (lv_at hl 0 rfl) ?_
        refine lv_goto (tgt := 43) hx hb dX12_busyOf_39 (by decide) ?_
        refine lv_istore_n (lv' := [(1, .int (nI i)), (2, .int (nI i)), (0, .ref mo)]) hx hb dX12_busyOf_43 rfl hl (by decide) (zLvf_h rfl) (fun ls hl => ?_)
        refine lv_iinc (v := nI (i + 1)) (lv' := [(2, .int (nI (i + 1))), (1, .int (nI i)), (0, .ref mo)]) hx hb dX12_busyOf_44 hl (k := 1) rfl (z_inc i 1) (by decide) (zLvf_h rfl) (fun ls hl => ?_)
        refine lv_goto (tgt := 15) hx hb dX12_busyOf_47 (by decide) ?_
        exact ih_15 (i + 1) (nI i) (show (i + 1) ≤ 7 ∧ 1 ≤ (i + 1) ∧ (((i + 1) : Int) ≤ i_crossings.toInt ∨ i_crossings.toInt = 0 ∧ (i + 1) = 1) ∧ (i_crossings.toInt = 0 ∧ (nI i) = -1 ∨ 0 < i_crossings.toInt ∧ (nI i) = nI (rBu (fun c => rHt (zWo f_all i_z0 i_inns) (zLo f_all i_z0) (nI c) true i_crossings.toInt.toNat) (i + 1))) from ⟨by omega, by omega, by omega, (Or.inr ⟨by omega, ((rBu_s hg9 hi1 hu h_11 h_13).1 ((fa_lt _ _).mpr (by omega)))⟩)⟩) (show 7 - (i + 1) < 7 - i from by omega) _ _ ls G (lv_sub hl [0, 1, 2] rfl)
set_option maxHeartbeats 4000000 in
set_option maxRecDepth 100000 in
/-- c_fm_classes -/
theorem c_fm_classes (l : Launch) (T : zTy) (mo : Nat) (m_all : Nat) (m_has : Nat) (i_size : Int32) (i_next : Int32) (i_where : Int32) (i_token : Int32) (i_number : Int32) (i_word : Int32) (i_wrong : Int32) (i_farCrossing : Int32) (m_read : Nat) (i_z0 : Int32) (i_crossings : Int32) (i_inns : Int32) (m_posts : Nat) (m_shut : Nat) (m_here : Nat) (i_steps : Int32) (i_done : Int32) (i_at : Int32) (i_gone : Int32) (m_was : Nat) (m_came : Nat) (m_seenAt : Nat) (m_rowWorth : Nat) (m_farBy : Nat) (m_used : Nat) (i_everywhere : Int32) (i_again0 : Int32) (i_d0 : Int32) (i_never : Int32) (i_firstCame : Int32) (i_longRun : Int32) (i_moved : Int32) (i_crowd : Int32) (i_l0 : Int32) (i_fitMany : Int32) (i_fitLeast : Int32) (i_fitMost : Int32) (m_fitPost : Nat) (m_fitEnd : Nat) (m_keptPosts : Nat) (i_x0 : Int32) (f_all : Nat → Int32) (f_posts : Nat → Int32) (f_shut : Nat → Int32) (f_here : Nat → Int32) (f_farBy : Nat → Int32) (l_ : Int32) (w_ : Int32) (hB : zBI f_all) (hVA : zVA f_all) : zMi l T yX12_classes cX12_classes 3 (some .int) 6 0 0 [.ref mo, .int l_, .int w_] [[zO11 mo m_all m_has i_size i_next i_where i_token i_number i_word i_wrong i_farCrossing m_read i_z0 i_crossings i_inns m_posts m_shut m_here i_steps i_done i_at i_gone m_was m_came m_seenAt m_rowWorth m_farBy m_used i_everywhere i_again0 i_d0 i_never i_firstCame i_longRun i_moved i_crowd i_l0 i_fitMany i_fitLeast i_fitMost m_fitPost m_fitEnd m_keptPosts i_x0], [zAr T 0 m_all 3952 f_all], [zAr T 0 m_posts 7 f_posts], [zAr T 0 m_shut 7 f_shut], [zAr T 0 m_here 7 f_here], [zAr T 0 m_farBy 49 f_farBy]] (fun (r : Int32) bs => ∃ (j_z0 : Int32) (j_crossings : Int32) (j_inns : Int32) (j_steps : Int32) (j_done : Int32) (g_posts : Nat → Int32) (g_shut : Nat → Int32) (g_here : Nat → Int32) (g_farBy : Nat → Int32), bs = [[zO11 mo m_all m_has i_size i_next i_where i_token i_number i_word i_wrong i_farCrossing m_read j_z0 j_crossings j_inns m_posts m_shut m_here j_steps j_done i_at i_gone m_was m_came m_seenAt m_rowWorth m_farBy m_used i_everywhere i_again0 i_d0 i_never i_firstCame i_longRun i_moved i_crowd i_l0 i_fitMany i_fitLeast i_fitMost m_fitPost m_fitEnd m_keptPosts i_x0], [zAr T 0 m_all 3952 f_all], [zAr T 0 m_posts 7 g_posts], [zAr T 0 m_shut 7 g_shut], [zAr T 0 m_here 7 g_here], [zAr T 0 m_farBy 49 g_farBy]] ∧ ((l_.toInt < 0 ∨ (f_all 0).toInt ≤ l_.toInt) ∧ r = -2 ∨ l_.toInt = 0 ∧ 0 < (f_all 0).toInt ∧ r = pClasses f_all 610 w_ ∨ l_.toInt = 1 ∧ 1 < (f_all 0).toInt ∧ r = pClasses f_all 661 w_)) := by
  refine zMi_of (own := RX12) (by decide) rfl (Nat.le_of_ble_eq_true rfl) ?_
  intro p e s m args below meth c A ls C hr hlocks hnm hAe G hl
  refine zHide (fun Qz_ hQz_ => ?_)
  have hx := C.1
  have hb := C.2.1
  have hl : lv_has ls 3 [(0, .ref mo), (1, .int l_), (2, .int w_)] := hl
  refine lv_aload_n hx hb dX12_classes_0 rfl (lv_at hl 0 rfl) ?_
  refine lv_iload_n hx hb dX12_classes_1 rfl (lv_at hl 1 rfl) ?_
  refine z_Vi (bc := [[zO11 mo m_all m_has i_size i_next i_where i_token i_number i_word i_wrong i_farCrossing m_read i_z0 i_crossings i_inns m_posts m_shut m_here i_steps i_done i_at i_gone m_was m_came m_seenAt m_rowWorth m_farBy m_used i_everywhere i_again0 i_d0 i_never i_firstCame i_longRun i_moved i_crowd i_l0 i_fitMany i_fitLeast i_fitMost m_fitPost m_fitEnd m_keptPosts i_x0], [zAr T 0 m_all 3952 f_all], [zAr T 0 m_posts 7 f_posts], [zAr T 0 m_shut 7 f_shut], [zAr T 0 m_here 7 f_here]]) (br := [[zAr T 0 m_farBy 49 f_farBy]]) (As := [.int l_]) (rest := []) C G (c_m_isLand l T mo m_all m_has i_size i_next i_where i_token i_number i_word i_wrong i_farCrossing m_read i_z0 i_crossings i_inns m_posts m_shut m_here i_steps i_done i_at i_gone m_was m_came m_seenAt m_rowWorth m_farBy m_used i_everywhere i_again0 i_d0 i_never i_firstCame i_longRun i_moved i_crowd i_l0 i_fitMany i_fitLeast i_fitMost m_fitPost m_fitEnd m_keptPosts i_x0 f_all f_posts f_shut f_here l_ (by first | with_reducible assumption | with_reducible rfl | omega | assumption | rfl | decide)) (kV_RX12_184 C.2.2.2.2 (Nat.le_of_ble_eq_true rfl) (Nat.le_of_ble_eq_true rfl)) [0, 1, 2, 3, 4] [0, 0, 0, 0, 0] rfl rfl (ci := 11) (qc := (RX12, TX12, 43)) rfl rfl (List.mem_flatten.mpr ⟨_, List.mem_of_getElem? (i := 0) rfl, List.mem_cons_self⟩) rfl rfl hl.1 dX12_classes_2 (Nat.le_of_ble_eq_true rfl) (Nat.le_of_ble_eq_true rfl) (fun r_10 b1 H locs hw G => ?_)
  refine zEx8 hw ?_
  intro j_z0_1 j_crossings_2 j_inns_3 j_steps_4 j_done_5 g_posts_6 g_shut_7 g_here_8
  refine zCu2 ?_
  intro hbs9 hc_9
  clear hw
  subst hbs9
  have G : zS T A s.heap s [[zAr T 0 m_farBy 49 f_farBy], [zO11 mo m_all m_has i_size i_next i_where i_token i_number i_word i_wrong i_farCrossing m_read j_z0_1 j_crossings_2 j_inns_3 m_posts m_shut m_here j_steps_4 j_done_5 i_at i_gone m_was m_came m_seenAt m_rowWorth m_farBy m_used i_everywhere i_again0 i_d0 i_never i_firstCame i_longRun i_moved i_crowd i_l0 i_fitMany i_fitLeast i_fitMost m_fitPost m_fitEnd m_keptPosts i_x0], [zAr T 0 m_all 3952 f_all], [zAr T 0 m_posts 7 g_posts_6], [zAr T 0 m_shut 7 g_shut_7], [zAr T 0 m_here 7 g_here_8]] _ _ := G
  rcases hc_9 with ⟨rfl, h_11, h_12, h_13, h_14, h_15, h_16, h_17, h_18, h_19, h_20, h_21, h_22⟩ | ⟨rfl, h_23⟩
  · have h_11 : 0 ≤ l_.toInt := h_11
    have h_12 : l_.toInt ≤ 1 := h_12
    have h_13 : l_.toInt < (f_all 0).toInt := h_13
    have h_14 : j_z0_1.toInt = 610 + 51 * l_.toInt := h_14
    have h_15 : zML f_all j_z0_1 j_crossings_2 := h_15
    have h_16 : zMP g_posts_6 := h_16
    have h_17 : j_inns_3 = f_all (j_z0_1.toInt.toNat + 1) := h_17
    have h_18 : j_steps_4 = 0 := h_18
    have h_19 : j_done_5 = 0 := h_19
    have h_20 : (∀ j, j < 7 → g_posts_6 j = zPt f_all j_z0_1 (nI j)) := h_20
    have h_21 : (∀ j, j < 7 → g_shut_7 j = 0) := h_21
    have h_22 : (∀ j, j < 7 → g_here_8 j = zWk f_all j_z0_1 j) := h_22
    have hLx := h_15
    have hcr := hLx.cr
    have hzx := hLx.1
    have hPx := h_16
    have hVx : zMV (zRo f_all j_z0_1) g_posts_6 := zVA_z hVA hzx h_20
    refine lv_if_ne (tgt := 11) hx hb dX12_classes_5 (by decide) (fun _ => ?_) (fun q => absurd q (by decide))
    rcases (show l_.toInt = 0 ∨ l_.toInt = 1 from by have hq9 := hB.2.1 0 (by decide); omega) with hkk | hkk
    · obtain rfl : j_z0_1 = 610 := Int32.toInt_inj.mp (by show j_z0_1.toInt = 610; omega)
      have hcx : j_crossings_2.toInt = (f_all 610).toInt := by rw [hLx.2.1]; rfl
      have hQP : zP3 g_posts_6 (zWo f_all 610 j_inns_3) := zP3_m hLx hPx
      refine lv_iload_n hx hb dX12_classes_11 rfl (lv_at hl 2 rfl) ?_
      by_cases c_24o : w_.toInt < 0 ∨ 7 < w_.toInt
      · refine lv_tableOut (tgt := 101) hx hb dX12_classes_12 c_24o (by decide) ?_
        refine lv_bipush (v := (-2)) hx hb dX12_classes_101 (by decide) ?_
        have G := G.sub (bs' := [[zO11 mo m_all m_has i_size i_next i_where i_token i_number i_word i_wrong i_farCrossing m_read 610 j_crossings_2 j_inns_3 m_posts m_shut m_here j_steps_4 j_done_5 i_at i_gone m_was m_came m_seenAt m_rowWorth m_farBy m_used i_everywhere i_again0 i_d0 i_never i_firstCame i_longRun i_moved i_crowd i_l0 i_fitMany i_fitLeast i_fitMost m_fitPost m_fitEnd m_keptPosts i_x0], [zAr T 0 m_all 3952 f_all], [zAr T 0 m_posts 7 g_posts_6], [zAr T 0 m_shut 7 g_shut_7], [zAr T 0 m_here 7 g_here_8], [zAr T 0 m_farBy 49 f_farBy]]) [1, 2, 3, 4, 5, 0] rfl
        exact z_back hQz_ (z_iret C hr hlocks G (Nat.le_of_ble_eq_true rfl) (Nat.le_of_ble_eq_true rfl) dX12_classes_103 ⟨610, j_crossings_2, j_inns_3, j_steps_4, j_done_5, g_posts_6, g_shut_7, g_here_8, f_farBy, rfl, (Or.inr (Or.inl ⟨by first | with_reducible assumption | assumption, by omega, (by unfold pClasses rCs; rw [if_neg (by omega), if_neg (by omega), if_neg (by omega), if_neg (by omega), if_neg (by omega), if_neg (by omega), if_neg (by omega), if_neg (by omega)])⟩))⟩)
      · have c_24r : w_.toInt = 0 ∨ w_.toInt = 1 ∨ w_.toInt = 2 ∨ w_.toInt = 3 ∨ w_.toInt = 4 ∨ w_.toInt = 5 ∨ w_.toInt = 6 ∨ w_.toInt = 7 := by omega
        rcases c_24r with c_24 | c_24 | c_24 | c_24 | c_24 | c_24 | c_24 | c_24
        · refine lv_tableIn (tgt := 60) hx hb dX12_classes_12 (by first | (rw [c_24]; decide) | omega) (by first | (rw [c_24]; decide) | omega) (by rw [c_24]; rfl) (by decide) ?_
          refine lv_aload_n hx hb dX12_classes_60 rfl (lv_at hl 0 rfl) ?_
          refine lv_iload_n hx hb dX12_classes_61 rfl (lv_at hl 2 rfl) ?_
          refine lv_iconst (v := 1) hx hb dX12_classes_62 (by decide) ?_
          refine lv_icmp_ne (tgt := 70) hx hb dX12_classes_63 (by decide) (fun c_25 => ?_) (fun c_25 => ?_)
          · have c_25n : ¬ w_.toInt = (1 : Int) := fun q => c_25 ((fa_eq _ _).mpr q)
            refine lv_iconst (v := 0) hx hb dX12_classes_70 (by decide) ?_
            refine z_Vi (bc := [[zO11 mo m_all m_has i_size i_next i_where i_token i_number i_word i_wrong i_farCrossing m_read 610 j_crossings_2 j_inns_3 m_posts m_shut m_here j_steps_4 j_done_5 i_at i_gone m_was m_came m_seenAt m_rowWorth m_farBy m_used i_everywhere i_again0 i_d0 i_never i_firstCame i_longRun i_moved i_crowd i_l0 i_fitMany i_fitLeast i_fitMost m_fitPost m_fitEnd m_keptPosts i_x0], [zAr T 0 m_all 3952 f_all], [zAr T 0 m_farBy 49 f_farBy]]) (br := [[zAr T 0 m_posts 7 g_posts_6], [zAr T 0 m_shut 7 g_shut_7], [zAr T 0 m_here 7 g_here_8]]) (As := [.int 0]) (rest := []) C G (c_fm_classesOf l T mo m_all m_has i_size i_next i_where i_token i_number i_word i_wrong i_farCrossing m_read 610 j_crossings_2 j_inns_3 m_posts m_shut m_here j_steps_4 j_done_5 i_at i_gone m_was m_came m_seenAt m_rowWorth m_farBy m_used i_everywhere i_again0 i_d0 i_never i_firstCame i_longRun i_moved i_crowd i_l0 i_fitMany i_fitLeast i_fitMost m_fitPost m_fitEnd m_keptPosts i_x0 f_all f_farBy 0 (by first | with_reducible assumption | with_reducible rfl | omega | assumption | rfl | decide) (zVA_0 hVA (Or.inl rfl))) (kV_RX12_271 C.2.2.2.2 (Nat.le_of_ble_eq_true rfl) (Nat.le_of_ble_eq_true rfl)) [1, 2, 0] [0, 0, 0] rfl rfl (ci := 11) (qc := (RX12, TX12, 43)) rfl rfl (List.mem_flatten.mpr ⟨_, List.mem_of_getElem? (i := 0) rfl, List.mem_cons_self⟩) rfl rfl hl.1 dX12_classes_71 (Nat.le_of_ble_eq_true rfl) (Nat.le_of_ble_eq_true rfl) (fun r_28 b1 H locs hw G => ?_)
            refine zEx1 hw ?_
            intro g_farBy_26
            refine zCu2 ?_
            intro hbs9 h_27
            clear hw
            subst hbs9
            have G : zS T A s.heap s [[zAr T 0 m_posts 7 g_posts_6], [zAr T 0 m_shut 7 g_shut_7], [zAr T 0 m_here 7 g_here_8], [zO11 mo m_all m_has i_size i_next i_where i_token i_number i_word i_wrong i_farCrossing m_read 610 j_crossings_2 j_inns_3 m_posts m_shut m_here j_steps_4 j_done_5 i_at i_gone m_was m_came m_seenAt m_rowWorth m_farBy m_used i_everywhere i_again0 i_d0 i_never i_firstCame i_longRun i_moved i_crowd i_l0 i_fitMany i_fitLeast i_fitMost m_fitPost m_fitEnd m_keptPosts i_x0], [zAr T 0 m_all 3952 f_all], [zAr T 0 m_farBy 49 g_farBy_26]] _ _ := G
            have G := G.sub (bs' := [[zO11 mo m_all m_has i_size i_next i_where i_token i_number i_word i_wrong i_farCrossing m_read 610 j_crossings_2 j_inns_3 m_posts m_shut m_here j_steps_4 j_done_5 i_at i_gone m_was m_came m_seenAt m_rowWorth m_farBy m_used i_everywhere i_again0 i_d0 i_never i_firstCame i_longRun i_moved i_crowd i_l0 i_fitMany i_fitLeast i_fitMost m_fitPost m_fitEnd m_keptPosts i_x0], [zAr T 0 m_all 3952 f_all], [zAr T 0 m_posts 7 g_posts_6], [zAr T 0 m_shut 7 g_shut_7], [zAr T 0 m_here 7 g_here_8], [zAr T 0 m_farBy 49 g_farBy_26]]) [3, 4, 0, 1, 2, 5] rfl
            exact z_back hQz_ (z_iret C hr hlocks G (Nat.le_of_ble_eq_true rfl) (Nat.le_of_ble_eq_true rfl) dX12_classes_74 ⟨610, j_crossings_2, j_inns_3, j_steps_4, j_done_5, g_posts_6, g_shut_7, g_here_8, g_farBy_26, rfl, (Or.inr (Or.inl ⟨by first | with_reducible assumption | assumption, by omega, (by unfold pClasses; rw [show pW f_all 610 = zWo f_all 610 j_inns_3 from congrArg (zWo f_all 610) h_17.symm, ← hLx.2.1, show f_all ((610 : Int32).toInt.toNat + 1) = j_inns_3 from h_17.symm]; unfold rCs; first | (exfalso; omega) | (rw [if_pos (by omega)]; exact h_27.trans (if_pos rfl)) | (rw [if_neg (by omega), if_pos (by omega)]; exact h_27.trans (if_neg (by decide))))⟩))⟩)
          · have c_25n : w_.toInt = (1 : Int) := (fa_eq _ _).mp c_25
            refine lv_iconst (v := 1) hx hb dX12_classes_66 (by decide) ?_
            refine lv_goto (tgt := 71) hx hb dX12_classes_67 (by decide) ?_
            refine z_Vi (bc := [[zO11 mo m_all m_has i_size i_next i_where i_token i_number i_word i_wrong i_farCrossing m_read 610 j_crossings_2 j_inns_3 m_posts m_shut m_here j_steps_4 j_done_5 i_at i_gone m_was m_came m_seenAt m_rowWorth m_farBy m_used i_everywhere i_again0 i_d0 i_never i_firstCame i_longRun i_moved i_crowd i_l0 i_fitMany i_fitLeast i_fitMost m_fitPost m_fitEnd m_keptPosts i_x0], [zAr T 0 m_all 3952 f_all], [zAr T 0 m_farBy 49 f_farBy]]) (br := [[zAr T 0 m_posts 7 g_posts_6], [zAr T 0 m_shut 7 g_shut_7], [zAr T 0 m_here 7 g_here_8]]) (As := [.int 1]) (rest := []) C G (c_fm_classesOf l T mo m_all m_has i_size i_next i_where i_token i_number i_word i_wrong i_farCrossing m_read 610 j_crossings_2 j_inns_3 m_posts m_shut m_here j_steps_4 j_done_5 i_at i_gone m_was m_came m_seenAt m_rowWorth m_farBy m_used i_everywhere i_again0 i_d0 i_never i_firstCame i_longRun i_moved i_crowd i_l0 i_fitMany i_fitLeast i_fitMost m_fitPost m_fitEnd m_keptPosts i_x0 f_all f_farBy 1 (by first | with_reducible assumption | with_reducible rfl | omega | assumption | rfl | decide) (zVA_0 hVA (Or.inl rfl))) (kV_RX12_271 C.2.2.2.2 (Nat.le_of_ble_eq_true rfl) (Nat.le_of_ble_eq_true rfl)) [1, 2, 0] [0, 0, 0] rfl rfl (ci := 11) (qc := (RX12, TX12, 43)) rfl rfl (List.mem_flatten.mpr ⟨_, List.mem_of_getElem? (i := 0) rfl, List.mem_cons_self⟩) rfl rfl hl.1 dX12_classes_71 (Nat.le_of_ble_eq_true rfl) (Nat.le_of_ble_eq_true rfl) (fun r_31 b1 H locs hw G => ?_)
            refine zEx1 hw ?_
            intro g_farBy_29
            refine zCu2 ?_
            intro hbs9 h_30
            clear hw
            subst hbs9
            have G : zS T A s.heap s [[zAr T 0 m_posts 7 g_posts_6], [zAr T 0 m_shut 7 g_shut_7], [zAr T 0 m_here 7 g_here_8], [zO11 mo m_all m_has i_size i_next i_where i_token i_number i_word i_wrong i_farCrossing m_read 610 j_crossings_2 j_inns_3 m_posts m_shut m_here j_steps_4 j_done_5 i_at i_gone m_was m_came m_seenAt m_rowWorth m_farBy m_used i_everywhere i_again0 i_d0 i_never i_firstCame i_longRun i_moved i_crowd i_l0 i_fitMany i_fitLeast i_fitMost m_fitPost m_fitEnd m_keptPosts i_x0], [zAr T 0 m_all 3952 f_all], [zAr T 0 m_farBy 49 g_farBy_29]] _ _ := G
            have G := G.sub (bs' := [[zO11 mo m_all m_has i_size i_next i_where i_token i_number i_word i_wrong i_farCrossing m_read 610 j_crossings_2 j_inns_3 m_posts m_shut m_here j_steps_4 j_done_5 i_at i_gone m_was m_came m_seenAt m_rowWorth m_farBy m_used i_everywhere i_again0 i_d0 i_never i_firstCame i_longRun i_moved i_crowd i_l0 i_fitMany i_fitLeast i_fitMost m_fitPost m_fitEnd m_keptPosts i_x0], [zAr T 0 m_all 3952 f_all], [zAr T 0 m_posts 7 g_posts_6], [zAr T 0 m_shut 7 g_shut_7], [zAr T 0 m_here 7 g_here_8], [zAr T 0 m_farBy 49 g_farBy_29]]) [3, 4, 0, 1, 2, 5] rfl
            exact z_back hQz_ (z_iret C hr hlocks G (Nat.le_of_ble_eq_true rfl) (Nat.le_of_ble_eq_true rfl) dX12_classes_74 ⟨610, j_crossings_2, j_inns_3, j_steps_4, j_done_5, g_posts_6, g_shut_7, g_here_8, g_farBy_29, rfl, (Or.inr (Or.inl ⟨by first | with_reducible assumption | assumption, by omega, (by unfold pClasses; rw [show pW f_all 610 = zWo f_all 610 j_inns_3 from congrArg (zWo f_all 610) h_17.symm, ← hLx.2.1, show f_all ((610 : Int32).toInt.toNat + 1) = j_inns_3 from h_17.symm]; unfold rCs; first | (exfalso; omega) | (rw [if_pos (by omega)]; exact h_30.trans (if_pos rfl)) | (rw [if_neg (by omega), if_pos (by omega)]; exact h_30.trans (if_neg (by decide))))⟩))⟩)
        · refine lv_tableIn (tgt := 60) hx hb dX12_classes_12 (by first | (rw [c_24]; decide) | omega) (by first | (rw [c_24]; decide) | omega) (by rw [c_24]; rfl) (by decide) ?_
          refine lv_aload_n hx hb dX12_classes_60 rfl (lv_at hl 0 rfl) ?_
          refine lv_iload_n hx hb dX12_classes_61 rfl (lv_at hl 2 rfl) ?_
          refine lv_iconst (v := 1) hx hb dX12_classes_62 (by decide) ?_
          refine lv_icmp_ne (tgt := 70) hx hb dX12_classes_63 (by decide) (fun c_32 => ?_) (fun c_32 => ?_)
          · have c_32n : ¬ w_.toInt = (1 : Int) := fun q => c_32 ((fa_eq _ _).mpr q)
            refine lv_iconst (v := 0) hx hb dX12_classes_70 (by decide) ?_
            refine z_Vi (bc := [[zO11 mo m_all m_has i_size i_next i_where i_token i_number i_word i_wrong i_farCrossing m_read 610 j_crossings_2 j_inns_3 m_posts m_shut m_here j_steps_4 j_done_5 i_at i_gone m_was m_came m_seenAt m_rowWorth m_farBy m_used i_everywhere i_again0 i_d0 i_never i_firstCame i_longRun i_moved i_crowd i_l0 i_fitMany i_fitLeast i_fitMost m_fitPost m_fitEnd m_keptPosts i_x0], [zAr T 0 m_all 3952 f_all], [zAr T 0 m_farBy 49 f_farBy]]) (br := [[zAr T 0 m_posts 7 g_posts_6], [zAr T 0 m_shut 7 g_shut_7], [zAr T 0 m_here 7 g_here_8]]) (As := [.int 0]) (rest := []) C G (c_fm_classesOf l T mo m_all m_has i_size i_next i_where i_token i_number i_word i_wrong i_farCrossing m_read 610 j_crossings_2 j_inns_3 m_posts m_shut m_here j_steps_4 j_done_5 i_at i_gone m_was m_came m_seenAt m_rowWorth m_farBy m_used i_everywhere i_again0 i_d0 i_never i_firstCame i_longRun i_moved i_crowd i_l0 i_fitMany i_fitLeast i_fitMost m_fitPost m_fitEnd m_keptPosts i_x0 f_all f_farBy 0 (by first | with_reducible assumption | with_reducible rfl | omega | assumption | rfl | decide) (zVA_0 hVA (Or.inl rfl))) (kV_RX12_271 C.2.2.2.2 (Nat.le_of_ble_eq_true rfl) (Nat.le_of_ble_eq_true rfl)) [1, 2, 0] [0, 0, 0] rfl rfl (ci := 11) (qc := (RX12, TX12, 43)) rfl rfl (List.mem_flatten.mpr ⟨_, List.mem_of_getElem? (i := 0) rfl, List.mem_cons_self⟩) rfl rfl hl.1 dX12_classes_71 (Nat.le_of_ble_eq_true rfl) (Nat.le_of_ble_eq_true rfl) (fun r_35 b1 H locs hw G => ?_)
            refine zEx1 hw ?_
            intro g_farBy_33
            refine zCu2 ?_
            intro hbs9 h_34
            clear hw
            subst hbs9
            have G : zS T A s.heap s [[zAr T 0 m_posts 7 g_posts_6], [zAr T 0 m_shut 7 g_shut_7], [zAr T 0 m_here 7 g_here_8], [zO11 mo m_all m_has i_size i_next i_where i_token i_number i_word i_wrong i_farCrossing m_read 610 j_crossings_2 j_inns_3 m_posts m_shut m_here j_steps_4 j_done_5 i_at i_gone m_was m_came m_seenAt m_rowWorth m_farBy m_used i_everywhere i_again0 i_d0 i_never i_firstCame i_longRun i_moved i_crowd i_l0 i_fitMany i_fitLeast i_fitMost m_fitPost m_fitEnd m_keptPosts i_x0], [zAr T 0 m_all 3952 f_all], [zAr T 0 m_farBy 49 g_farBy_33]] _ _ := G
            have G := G.sub (bs' := [[zO11 mo m_all m_has i_size i_next i_where i_token i_number i_word i_wrong i_farCrossing m_read 610 j_crossings_2 j_inns_3 m_posts m_shut m_here j_steps_4 j_done_5 i_at i_gone m_was m_came m_seenAt m_rowWorth m_farBy m_used i_everywhere i_again0 i_d0 i_never i_firstCame i_longRun i_moved i_crowd i_l0 i_fitMany i_fitLeast i_fitMost m_fitPost m_fitEnd m_keptPosts i_x0], [zAr T 0 m_all 3952 f_all], [zAr T 0 m_posts 7 g_posts_6], [zAr T 0 m_shut 7 g_shut_7], [zAr T 0 m_here 7 g_here_8], [zAr T 0 m_farBy 49 g_farBy_33]]) [3, 4, 0, 1, 2, 5] rfl
            exact z_back hQz_ (z_iret C hr hlocks G (Nat.le_of_ble_eq_true rfl) (Nat.le_of_ble_eq_true rfl) dX12_classes_74 ⟨610, j_crossings_2, j_inns_3, j_steps_4, j_done_5, g_posts_6, g_shut_7, g_here_8, g_farBy_33, rfl, (Or.inr (Or.inl ⟨by first | with_reducible assumption | assumption, by omega, (by unfold pClasses; rw [show pW f_all 610 = zWo f_all 610 j_inns_3 from congrArg (zWo f_all 610) h_17.symm, ← hLx.2.1, show f_all ((610 : Int32).toInt.toNat + 1) = j_inns_3 from h_17.symm]; unfold rCs; first | (exfalso; omega) | (rw [if_pos (by omega)]; exact h_34.trans (if_pos rfl)) | (rw [if_neg (by omega), if_pos (by omega)]; exact h_34.trans (if_neg (by decide))))⟩))⟩)
          · have c_32n : w_.toInt = (1 : Int) := (fa_eq _ _).mp c_32
            refine lv_iconst (v := 1) hx hb dX12_classes_66 (by decide) ?_
            refine lv_goto (tgt := 71) hx hb dX12_classes_67 (by decide) ?_
            refine z_Vi (bc := [[zO11 mo m_all m_has i_size i_next i_where i_token i_number i_word i_wrong i_farCrossing m_read 610 j_crossings_2 j_inns_3 m_posts m_shut m_here j_steps_4 j_done_5 i_at i_gone m_was m_came m_seenAt m_rowWorth m_farBy m_used i_everywhere i_again0 i_d0 i_never i_firstCame i_longRun i_moved i_crowd i_l0 i_fitMany i_fitLeast i_fitMost m_fitPost m_fitEnd m_keptPosts i_x0], [zAr T 0 m_all 3952 f_all], [zAr T 0 m_farBy 49 f_farBy]]) (br := [[zAr T 0 m_posts 7 g_posts_6], [zAr T 0 m_shut 7 g_shut_7], [zAr T 0 m_here 7 g_here_8]]) (As := [.int 1]) (rest := []) C G (c_fm_classesOf l T mo m_all m_has i_size i_next i_where i_token i_number i_word i_wrong i_farCrossing m_read 610 j_crossings_2 j_inns_3 m_posts m_shut m_here j_steps_4 j_done_5 i_at i_gone m_was m_came m_seenAt m_rowWorth m_farBy m_used i_everywhere i_again0 i_d0 i_never i_firstCame i_longRun i_moved i_crowd i_l0 i_fitMany i_fitLeast i_fitMost m_fitPost m_fitEnd m_keptPosts i_x0 f_all f_farBy 1 (by first | with_reducible assumption | with_reducible rfl | omega | assumption | rfl | decide) (zVA_0 hVA (Or.inl rfl))) (kV_RX12_271 C.2.2.2.2 (Nat.le_of_ble_eq_true rfl) (Nat.le_of_ble_eq_true rfl)) [1, 2, 0] [0, 0, 0] rfl rfl (ci := 11) (qc := (RX12, TX12, 43)) rfl rfl (List.mem_flatten.mpr ⟨_, List.mem_of_getElem? (i := 0) rfl, List.mem_cons_self⟩) rfl rfl hl.1 dX12_classes_71 (Nat.le_of_ble_eq_true rfl) (Nat.le_of_ble_eq_true rfl) (fun r_38 b1 H locs hw G => ?_)
            refine zEx1 hw ?_
            intro g_farBy_36
            refine zCu2 ?_
            intro hbs9 h_37
            clear hw
            subst hbs9
            have G : zS T A s.heap s [[zAr T 0 m_posts 7 g_posts_6], [zAr T 0 m_shut 7 g_shut_7], [zAr T 0 m_here 7 g_here_8], [zO11 mo m_all m_has i_size i_next i_where i_token i_number i_word i_wrong i_farCrossing m_read 610 j_crossings_2 j_inns_3 m_posts m_shut m_here j_steps_4 j_done_5 i_at i_gone m_was m_came m_seenAt m_rowWorth m_farBy m_used i_everywhere i_again0 i_d0 i_never i_firstCame i_longRun i_moved i_crowd i_l0 i_fitMany i_fitLeast i_fitMost m_fitPost m_fitEnd m_keptPosts i_x0], [zAr T 0 m_all 3952 f_all], [zAr T 0 m_farBy 49 g_farBy_36]] _ _ := G
            have G := G.sub (bs' := [[zO11 mo m_all m_has i_size i_next i_where i_token i_number i_word i_wrong i_farCrossing m_read 610 j_crossings_2 j_inns_3 m_posts m_shut m_here j_steps_4 j_done_5 i_at i_gone m_was m_came m_seenAt m_rowWorth m_farBy m_used i_everywhere i_again0 i_d0 i_never i_firstCame i_longRun i_moved i_crowd i_l0 i_fitMany i_fitLeast i_fitMost m_fitPost m_fitEnd m_keptPosts i_x0], [zAr T 0 m_all 3952 f_all], [zAr T 0 m_posts 7 g_posts_6], [zAr T 0 m_shut 7 g_shut_7], [zAr T 0 m_here 7 g_here_8], [zAr T 0 m_farBy 49 g_farBy_36]]) [3, 4, 0, 1, 2, 5] rfl
            exact z_back hQz_ (z_iret C hr hlocks G (Nat.le_of_ble_eq_true rfl) (Nat.le_of_ble_eq_true rfl) dX12_classes_74 ⟨610, j_crossings_2, j_inns_3, j_steps_4, j_done_5, g_posts_6, g_shut_7, g_here_8, g_farBy_36, rfl, (Or.inr (Or.inl ⟨by first | with_reducible assumption | assumption, by omega, (by unfold pClasses; rw [show pW f_all 610 = zWo f_all 610 j_inns_3 from congrArg (zWo f_all 610) h_17.symm, ← hLx.2.1, show f_all ((610 : Int32).toInt.toNat + 1) = j_inns_3 from h_17.symm]; unfold rCs; first | (exfalso; omega) | (rw [if_pos (by omega)]; exact h_37.trans (if_pos rfl)) | (rw [if_neg (by omega), if_pos (by omega)]; exact h_37.trans (if_neg (by decide))))⟩))⟩)
        · refine lv_tableIn (tgt := 75) hx hb dX12_classes_12 (by first | (rw [c_24]; decide) | omega) (by first | (rw [c_24]; decide) | omega) (by rw [c_24]; rfl) (by decide) ?_
          refine lv_aload_n hx hb dX12_classes_75 rfl (lv_at hl 0 rfl) ?_
          refine lv_iload_n hx hb dX12_classes_76 rfl (lv_at hl 2 rfl) ?_
          refine z_Vi (bc := [[zO11 mo m_all m_has i_size i_next i_where i_token i_number i_word i_wrong i_farCrossing m_read 610 j_crossings_2 j_inns_3 m_posts m_shut m_here j_steps_4 j_done_5 i_at i_gone m_was m_came m_seenAt m_rowWorth m_farBy m_used i_everywhere i_again0 i_d0 i_never i_firstCame i_longRun i_moved i_crowd i_l0 i_fitMany i_fitLeast i_fitMost m_fitPost m_fitEnd m_keptPosts i_x0], [zAr T 0 m_all 3952 f_all]]) (br := [[zAr T 0 m_farBy 49 f_farBy], [zAr T 0 m_posts 7 g_posts_6], [zAr T 0 m_shut 7 g_shut_7], [zAr T 0 m_here 7 g_here_8]]) (As := [.int w_]) (rest := []) C G (c_fm_crossingsOf l T mo m_all m_has i_size i_next i_where i_token i_number i_word i_wrong i_farCrossing m_read 610 j_crossings_2 j_inns_3 m_posts m_shut m_here j_steps_4 j_done_5 i_at i_gone m_was m_came m_seenAt m_rowWorth m_farBy m_used i_everywhere i_again0 i_d0 i_never i_firstCame i_longRun i_moved i_crowd i_l0 i_fitMany i_fitLeast i_fitMost m_fitPost m_fitEnd m_keptPosts i_x0 f_all w_ (by first | with_reducible assumption | with_reducible rfl | omega | assumption | rfl | decide) (zVA_0 hVA (Or.inl rfl))) (kV_RX12_275 C.2.2.2.2 (Nat.le_of_ble_eq_true rfl) (Nat.le_of_ble_eq_true rfl)) [1, 2] [1, 0] rfl rfl (ci := 11) (qc := (RX12, TX12, 43)) rfl rfl (List.mem_flatten.mpr ⟨_, List.mem_of_getElem? (i := 0) rfl, List.mem_cons_self⟩) rfl rfl hl.1 dX12_classes_77 (Nat.le_of_ble_eq_true rfl) (Nat.le_of_ble_eq_true rfl) (fun r_40 b1 H locs hw G => ?_)
          refine zAn2 hw ?_
          intro hbs9 h_39
          clear hw
          subst hbs9
          have G : zS T A s.heap s [[zAr T 0 m_farBy 49 f_farBy], [zAr T 0 m_posts 7 g_posts_6], [zAr T 0 m_shut 7 g_shut_7], [zAr T 0 m_here 7 g_here_8], [zO11 mo m_all m_has i_size i_next i_where i_token i_number i_word i_wrong i_farCrossing m_read 610 j_crossings_2 j_inns_3 m_posts m_shut m_here j_steps_4 j_done_5 i_at i_gone m_was m_came m_seenAt m_rowWorth m_farBy m_used i_everywhere i_again0 i_d0 i_never i_firstCame i_longRun i_moved i_crowd i_l0 i_fitMany i_fitLeast i_fitMost m_fitPost m_fitEnd m_keptPosts i_x0], [zAr T 0 m_all 3952 f_all]] _ _ := G
          have G := G.sub (bs' := [[zO11 mo m_all m_has i_size i_next i_where i_token i_number i_word i_wrong i_farCrossing m_read 610 j_crossings_2 j_inns_3 m_posts m_shut m_here j_steps_4 j_done_5 i_at i_gone m_was m_came m_seenAt m_rowWorth m_farBy m_used i_everywhere i_again0 i_d0 i_never i_firstCame i_longRun i_moved i_crowd i_l0 i_fitMany i_fitLeast i_fitMost m_fitPost m_fitEnd m_keptPosts i_x0], [zAr T 0 m_all 3952 f_all], [zAr T 0 m_posts 7 g_posts_6], [zAr T 0 m_shut 7 g_shut_7], [zAr T 0 m_here 7 g_here_8], [zAr T 0 m_farBy 49 f_farBy]]) [4, 5, 1, 2, 3, 0] rfl
          exact z_back hQz_ (z_iret C hr hlocks G (Nat.le_of_ble_eq_true rfl) (Nat.le_of_ble_eq_true rfl) dX12_classes_80 ⟨610, j_crossings_2, j_inns_3, j_steps_4, j_done_5, g_posts_6, g_shut_7, g_here_8, f_farBy, rfl, (Or.inr (Or.inl ⟨by first | with_reducible assumption | assumption, by omega, (by unfold pClasses; rw [show pW f_all 610 = zWo f_all 610 j_inns_3 from congrArg (zWo f_all 610) h_17.symm, ← hLx.2.1, show f_all ((610 : Int32).toInt.toNat + 1) = j_inns_3 from h_17.symm]; unfold rCs; rcases h_39 with ⟨q1, q2⟩ | ⟨q1, q2⟩ | ⟨q1, q3, q2⟩ <;> first | (exfalso; omega) | (rw [if_neg (by omega), if_neg (by omega), if_pos (by omega)]; exact q2) | (rw [if_neg (by omega), if_neg (by omega), if_neg (by omega), if_pos (by omega)]; exact q2) | (rw [if_neg (by omega), if_neg (by omega), if_neg (by omega), if_neg (by omega), if_neg (by omega), if_neg (by omega), if_pos (by omega)]; exact q2))⟩))⟩)
        · refine lv_tableIn (tgt := 75) hx hb dX12_classes_12 (by first | (rw [c_24]; decide) | omega) (by first | (rw [c_24]; decide) | omega) (by rw [c_24]; rfl) (by decide) ?_
          refine lv_aload_n hx hb dX12_classes_75 rfl (lv_at hl 0 rfl) ?_
          refine lv_iload_n hx hb dX12_classes_76 rfl (lv_at hl 2 rfl) ?_
          refine z_Vi (bc := [[zO11 mo m_all m_has i_size i_next i_where i_token i_number i_word i_wrong i_farCrossing m_read 610 j_crossings_2 j_inns_3 m_posts m_shut m_here j_steps_4 j_done_5 i_at i_gone m_was m_came m_seenAt m_rowWorth m_farBy m_used i_everywhere i_again0 i_d0 i_never i_firstCame i_longRun i_moved i_crowd i_l0 i_fitMany i_fitLeast i_fitMost m_fitPost m_fitEnd m_keptPosts i_x0], [zAr T 0 m_all 3952 f_all]]) (br := [[zAr T 0 m_farBy 49 f_farBy], [zAr T 0 m_posts 7 g_posts_6], [zAr T 0 m_shut 7 g_shut_7], [zAr T 0 m_here 7 g_here_8]]) (As := [.int w_]) (rest := []) C G (c_fm_crossingsOf l T mo m_all m_has i_size i_next i_where i_token i_number i_word i_wrong i_farCrossing m_read 610 j_crossings_2 j_inns_3 m_posts m_shut m_here j_steps_4 j_done_5 i_at i_gone m_was m_came m_seenAt m_rowWorth m_farBy m_used i_everywhere i_again0 i_d0 i_never i_firstCame i_longRun i_moved i_crowd i_l0 i_fitMany i_fitLeast i_fitMost m_fitPost m_fitEnd m_keptPosts i_x0 f_all w_ (by first | with_reducible assumption | with_reducible rfl | omega | assumption | rfl | decide) (zVA_0 hVA (Or.inl rfl))) (kV_RX12_275 C.2.2.2.2 (Nat.le_of_ble_eq_true rfl) (Nat.le_of_ble_eq_true rfl)) [1, 2] [1, 0] rfl rfl (ci := 11) (qc := (RX12, TX12, 43)) rfl rfl (List.mem_flatten.mpr ⟨_, List.mem_of_getElem? (i := 0) rfl, List.mem_cons_self⟩) rfl rfl hl.1 dX12_classes_77 (Nat.le_of_ble_eq_true rfl) (Nat.le_of_ble_eq_true rfl) (fun r_42 b1 H locs hw G => ?_)
          refine zAn2 hw ?_
          intro hbs9 h_41
          clear hw
          subst hbs9
          have G : zS T A s.heap s [[zAr T 0 m_farBy 49 f_farBy], [zAr T 0 m_posts 7 g_posts_6], [zAr T 0 m_shut 7 g_shut_7], [zAr T 0 m_here 7 g_here_8], [zO11 mo m_all m_has i_size i_next i_where i_token i_number i_word i_wrong i_farCrossing m_read 610 j_crossings_2 j_inns_3 m_posts m_shut m_here j_steps_4 j_done_5 i_at i_gone m_was m_came m_seenAt m_rowWorth m_farBy m_used i_everywhere i_again0 i_d0 i_never i_firstCame i_longRun i_moved i_crowd i_l0 i_fitMany i_fitLeast i_fitMost m_fitPost m_fitEnd m_keptPosts i_x0], [zAr T 0 m_all 3952 f_all]] _ _ := G
          have G := G.sub (bs' := [[zO11 mo m_all m_has i_size i_next i_where i_token i_number i_word i_wrong i_farCrossing m_read 610 j_crossings_2 j_inns_3 m_posts m_shut m_here j_steps_4 j_done_5 i_at i_gone m_was m_came m_seenAt m_rowWorth m_farBy m_used i_everywhere i_again0 i_d0 i_never i_firstCame i_longRun i_moved i_crowd i_l0 i_fitMany i_fitLeast i_fitMost m_fitPost m_fitEnd m_keptPosts i_x0], [zAr T 0 m_all 3952 f_all], [zAr T 0 m_posts 7 g_posts_6], [zAr T 0 m_shut 7 g_shut_7], [zAr T 0 m_here 7 g_here_8], [zAr T 0 m_farBy 49 f_farBy]]) [4, 5, 1, 2, 3, 0] rfl
          exact z_back hQz_ (z_iret C hr hlocks G (Nat.le_of_ble_eq_true rfl) (Nat.le_of_ble_eq_true rfl) dX12_classes_80 ⟨610, j_crossings_2, j_inns_3, j_steps_4, j_done_5, g_posts_6, g_shut_7, g_here_8, f_farBy, rfl, (Or.inr (Or.inl ⟨by first | with_reducible assumption | assumption, by omega, (by unfold pClasses; rw [show pW f_all 610 = zWo f_all 610 j_inns_3 from congrArg (zWo f_all 610) h_17.symm, ← hLx.2.1, show f_all ((610 : Int32).toInt.toNat + 1) = j_inns_3 from h_17.symm]; unfold rCs; rcases h_41 with ⟨q1, q2⟩ | ⟨q1, q2⟩ | ⟨q1, q3, q2⟩ <;> first | (exfalso; omega) | (rw [if_neg (by omega), if_neg (by omega), if_pos (by omega)]; exact q2) | (rw [if_neg (by omega), if_neg (by omega), if_neg (by omega), if_pos (by omega)]; exact q2) | (rw [if_neg (by omega), if_neg (by omega), if_neg (by omega), if_neg (by omega), if_neg (by omega), if_neg (by omega), if_pos (by omega)]; exact q2))⟩))⟩)
        · refine lv_tableIn (tgt := 81) hx hb dX12_classes_12 (by first | (rw [c_24]; decide) | omega) (by first | (rw [c_24]; decide) | omega) (by rw [c_24]; rfl) (by decide) ?_
          refine lv_aload_n hx hb dX12_classes_81 rfl (lv_at hl 0 rfl) ?_
          refine lv_iload_n hx hb dX12_classes_82 rfl (lv_at hl 2 rfl) ?_
          refine lv_iconst (v := 5) hx hb dX12_classes_83 (by decide) ?_
          refine lv_icmp_ne (tgt := 91) hx hb dX12_classes_84 (by decide) (fun c_43 => ?_) (fun c_43 => ?_)
          · have c_43n : ¬ w_.toInt = (5 : Int) := fun q => c_43 ((fa_eq _ _).mpr q)
            refine lv_iconst (v := 0) hx hb dX12_classes_91 (by decide) ?_
            refine z_Vi (bc := [[zO11 mo m_all m_has i_size i_next i_where i_token i_number i_word i_wrong i_farCrossing m_read 610 j_crossings_2 j_inns_3 m_posts m_shut m_here j_steps_4 j_done_5 i_at i_gone m_was m_came m_seenAt m_rowWorth m_farBy m_used i_everywhere i_again0 i_d0 i_never i_firstCame i_longRun i_moved i_crowd i_l0 i_fitMany i_fitLeast i_fitMost m_fitPost m_fitEnd m_keptPosts i_x0], [zAr T 0 m_all 3952 f_all]]) (br := [[zAr T 0 m_farBy 49 f_farBy], [zAr T 0 m_posts 7 g_posts_6], [zAr T 0 m_shut 7 g_shut_7], [zAr T 0 m_here 7 g_here_8]]) (As := [.int 0]) (rest := []) C G (c_fm_loops l T mo m_all m_has i_size i_next i_where i_token i_number i_word i_wrong i_farCrossing m_read 610 j_crossings_2 j_inns_3 m_posts m_shut m_here j_steps_4 j_done_5 i_at i_gone m_was m_came m_seenAt m_rowWorth m_farBy m_used i_everywhere i_again0 i_d0 i_never i_firstCame i_longRun i_moved i_crowd i_l0 i_fitMany i_fitLeast i_fitMost m_fitPost m_fitEnd m_keptPosts i_x0 f_all 0 (by first | with_reducible assumption | with_reducible rfl | omega | assumption | rfl | decide) (zVA_0 hVA (Or.inl rfl))) (kV_RX12_278 C.2.2.2.2 (Nat.le_of_ble_eq_true rfl) (Nat.le_of_ble_eq_true rfl)) [1, 2] [1, 0] rfl rfl (ci := 11) (qc := (RX12, TX12, 43)) rfl rfl (List.mem_flatten.mpr ⟨_, List.mem_of_getElem? (i := 0) rfl, List.mem_cons_self⟩) rfl rfl hl.1 dX12_classes_92 (Nat.le_of_ble_eq_true rfl) (Nat.le_of_ble_eq_true rfl) (fun r_45 b1 H locs hw G => ?_)
            refine zAn2 hw ?_
            intro hbs9 h_44
            clear hw
            subst hbs9
            have G : zS T A s.heap s [[zAr T 0 m_farBy 49 f_farBy], [zAr T 0 m_posts 7 g_posts_6], [zAr T 0 m_shut 7 g_shut_7], [zAr T 0 m_here 7 g_here_8], [zO11 mo m_all m_has i_size i_next i_where i_token i_number i_word i_wrong i_farCrossing m_read 610 j_crossings_2 j_inns_3 m_posts m_shut m_here j_steps_4 j_done_5 i_at i_gone m_was m_came m_seenAt m_rowWorth m_farBy m_used i_everywhere i_again0 i_d0 i_never i_firstCame i_longRun i_moved i_crowd i_l0 i_fitMany i_fitLeast i_fitMost m_fitPost m_fitEnd m_keptPosts i_x0], [zAr T 0 m_all 3952 f_all]] _ _ := G
            have G := G.sub (bs' := [[zO11 mo m_all m_has i_size i_next i_where i_token i_number i_word i_wrong i_farCrossing m_read 610 j_crossings_2 j_inns_3 m_posts m_shut m_here j_steps_4 j_done_5 i_at i_gone m_was m_came m_seenAt m_rowWorth m_farBy m_used i_everywhere i_again0 i_d0 i_never i_firstCame i_longRun i_moved i_crowd i_l0 i_fitMany i_fitLeast i_fitMost m_fitPost m_fitEnd m_keptPosts i_x0], [zAr T 0 m_all 3952 f_all], [zAr T 0 m_posts 7 g_posts_6], [zAr T 0 m_shut 7 g_shut_7], [zAr T 0 m_here 7 g_here_8], [zAr T 0 m_farBy 49 f_farBy]]) [4, 5, 1, 2, 3, 0] rfl
            exact z_back hQz_ (z_iret C hr hlocks G (Nat.le_of_ble_eq_true rfl) (Nat.le_of_ble_eq_true rfl) dX12_classes_95 ⟨610, j_crossings_2, j_inns_3, j_steps_4, j_done_5, g_posts_6, g_shut_7, g_here_8, f_farBy, rfl, (Or.inr (Or.inl ⟨by first | with_reducible assumption | assumption, by omega, (by unfold pClasses; rw [show pW f_all 610 = zWo f_all 610 j_inns_3 from congrArg (zWo f_all 610) h_17.symm, ← hLx.2.1, show f_all ((610 : Int32).toInt.toNat + 1) = j_inns_3 from h_17.symm]; unfold rCs; first | (exfalso; omega) | (rw [if_neg (by omega), if_neg (by omega), if_neg (by omega), if_neg (by omega), if_pos (by omega)]; exact h_44.trans (if_pos rfl)) | (rw [if_neg (by omega), if_neg (by omega), if_neg (by omega), if_neg (by omega), if_neg (by omega), if_pos (by omega)]; exact h_44.trans (if_neg (by decide))))⟩))⟩)
          · have c_43n : w_.toInt = (5 : Int) := (fa_eq _ _).mp c_43
            refine lv_iconst (v := 1) hx hb dX12_classes_87 (by decide) ?_
            refine lv_goto (tgt := 92) hx hb dX12_classes_88 (by decide) ?_
            refine z_Vi (bc := [[zO11 mo m_all m_has i_size i_next i_where i_token i_number i_word i_wrong i_farCrossing m_read 610 j_crossings_2 j_inns_3 m_posts m_shut m_here j_steps_4 j_done_5 i_at i_gone m_was m_came m_seenAt m_rowWorth m_farBy m_used i_everywhere i_again0 i_d0 i_never i_firstCame i_longRun i_moved i_crowd i_l0 i_fitMany i_fitLeast i_fitMost m_fitPost m_fitEnd m_keptPosts i_x0], [zAr T 0 m_all 3952 f_all]]) (br := [[zAr T 0 m_farBy 49 f_farBy], [zAr T 0 m_posts 7 g_posts_6], [zAr T 0 m_shut 7 g_shut_7], [zAr T 0 m_here 7 g_here_8]]) (As := [.int 1]) (rest := []) C G (c_fm_loops l T mo m_all m_has i_size i_next i_where i_token i_number i_word i_wrong i_farCrossing m_read 610 j_crossings_2 j_inns_3 m_posts m_shut m_here j_steps_4 j_done_5 i_at i_gone m_was m_came m_seenAt m_rowWorth m_farBy m_used i_everywhere i_again0 i_d0 i_never i_firstCame i_longRun i_moved i_crowd i_l0 i_fitMany i_fitLeast i_fitMost m_fitPost m_fitEnd m_keptPosts i_x0 f_all 1 (by first | with_reducible assumption | with_reducible rfl | omega | assumption | rfl | decide) (zVA_0 hVA (Or.inl rfl))) (kV_RX12_278 C.2.2.2.2 (Nat.le_of_ble_eq_true rfl) (Nat.le_of_ble_eq_true rfl)) [1, 2] [1, 0] rfl rfl (ci := 11) (qc := (RX12, TX12, 43)) rfl rfl (List.mem_flatten.mpr ⟨_, List.mem_of_getElem? (i := 0) rfl, List.mem_cons_self⟩) rfl rfl hl.1 dX12_classes_92 (Nat.le_of_ble_eq_true rfl) (Nat.le_of_ble_eq_true rfl) (fun r_47 b1 H locs hw G => ?_)
            refine zAn2 hw ?_
            intro hbs9 h_46
            clear hw
            subst hbs9
            have G : zS T A s.heap s [[zAr T 0 m_farBy 49 f_farBy], [zAr T 0 m_posts 7 g_posts_6], [zAr T 0 m_shut 7 g_shut_7], [zAr T 0 m_here 7 g_here_8], [zO11 mo m_all m_has i_size i_next i_where i_token i_number i_word i_wrong i_farCrossing m_read 610 j_crossings_2 j_inns_3 m_posts m_shut m_here j_steps_4 j_done_5 i_at i_gone m_was m_came m_seenAt m_rowWorth m_farBy m_used i_everywhere i_again0 i_d0 i_never i_firstCame i_longRun i_moved i_crowd i_l0 i_fitMany i_fitLeast i_fitMost m_fitPost m_fitEnd m_keptPosts i_x0], [zAr T 0 m_all 3952 f_all]] _ _ := G
            have G := G.sub (bs' := [[zO11 mo m_all m_has i_size i_next i_where i_token i_number i_word i_wrong i_farCrossing m_read 610 j_crossings_2 j_inns_3 m_posts m_shut m_here j_steps_4 j_done_5 i_at i_gone m_was m_came m_seenAt m_rowWorth m_farBy m_used i_everywhere i_again0 i_d0 i_never i_firstCame i_longRun i_moved i_crowd i_l0 i_fitMany i_fitLeast i_fitMost m_fitPost m_fitEnd m_keptPosts i_x0], [zAr T 0 m_all 3952 f_all], [zAr T 0 m_posts 7 g_posts_6], [zAr T 0 m_shut 7 g_shut_7], [zAr T 0 m_here 7 g_here_8], [zAr T 0 m_farBy 49 f_farBy]]) [4, 5, 1, 2, 3, 0] rfl
            exact z_back hQz_ (z_iret C hr hlocks G (Nat.le_of_ble_eq_true rfl) (Nat.le_of_ble_eq_true rfl) dX12_classes_95 ⟨610, j_crossings_2, j_inns_3, j_steps_4, j_done_5, g_posts_6, g_shut_7, g_here_8, f_farBy, rfl, (Or.inr (Or.inl ⟨by first | with_reducible assumption | assumption, by omega, (by unfold pClasses; rw [show pW f_all 610 = zWo f_all 610 j_inns_3 from congrArg (zWo f_all 610) h_17.symm, ← hLx.2.1, show f_all ((610 : Int32).toInt.toNat + 1) = j_inns_3 from h_17.symm]; unfold rCs; first | (exfalso; omega) | (rw [if_neg (by omega), if_neg (by omega), if_neg (by omega), if_neg (by omega), if_pos (by omega)]; exact h_46.trans (if_pos rfl)) | (rw [if_neg (by omega), if_neg (by omega), if_neg (by omega), if_neg (by omega), if_neg (by omega), if_pos (by omega)]; exact h_46.trans (if_neg (by decide))))⟩))⟩)
        · refine lv_tableIn (tgt := 81) hx hb dX12_classes_12 (by first | (rw [c_24]; decide) | omega) (by first | (rw [c_24]; decide) | omega) (by rw [c_24]; rfl) (by decide) ?_
          refine lv_aload_n hx hb dX12_classes_81 rfl (lv_at hl 0 rfl) ?_
          refine lv_iload_n hx hb dX12_classes_82 rfl (lv_at hl 2 rfl) ?_
          refine lv_iconst (v := 5) hx hb dX12_classes_83 (by decide) ?_
          refine lv_icmp_ne (tgt := 91) hx hb dX12_classes_84 (by decide) (fun c_48 => ?_) (fun c_48 => ?_)
          · have c_48n : ¬ w_.toInt = (5 : Int) := fun q => c_48 ((fa_eq _ _).mpr q)
            refine lv_iconst (v := 0) hx hb dX12_classes_91 (by decide) ?_
            refine z_Vi (bc := [[zO11 mo m_all m_has i_size i_next i_where i_token i_number i_word i_wrong i_farCrossing m_read 610 j_crossings_2 j_inns_3 m_posts m_shut m_here j_steps_4 j_done_5 i_at i_gone m_was m_came m_seenAt m_rowWorth m_farBy m_used i_everywhere i_again0 i_d0 i_never i_firstCame i_longRun i_moved i_crowd i_l0 i_fitMany i_fitLeast i_fitMost m_fitPost m_fitEnd m_keptPosts i_x0], [zAr T 0 m_all 3952 f_all]]) (br := [[zAr T 0 m_farBy 49 f_farBy], [zAr T 0 m_posts 7 g_posts_6], [zAr T 0 m_shut 7 g_shut_7], [zAr T 0 m_here 7 g_here_8]]) (As := [.int 0]) (rest := []) C G (c_fm_loops l T mo m_all m_has i_size i_next i_where i_token i_number i_word i_wrong i_farCrossing m_read 610 j_crossings_2 j_inns_3 m_posts m_shut m_here j_steps_4 j_done_5 i_at i_gone m_was m_came m_seenAt m_rowWorth m_farBy m_used i_everywhere i_again0 i_d0 i_never i_firstCame i_longRun i_moved i_crowd i_l0 i_fitMany i_fitLeast i_fitMost m_fitPost m_fitEnd m_keptPosts i_x0 f_all 0 (by first | with_reducible assumption | with_reducible rfl | omega | assumption | rfl | decide) (zVA_0 hVA (Or.inl rfl))) (kV_RX12_278 C.2.2.2.2 (Nat.le_of_ble_eq_true rfl) (Nat.le_of_ble_eq_true rfl)) [1, 2] [1, 0] rfl rfl (ci := 11) (qc := (RX12, TX12, 43)) rfl rfl (List.mem_flatten.mpr ⟨_, List.mem_of_getElem? (i := 0) rfl, List.mem_cons_self⟩) rfl rfl hl.1 dX12_classes_92 (Nat.le_of_ble_eq_true rfl) (Nat.le_of_ble_eq_true rfl) (fun r_50 b1 H locs hw G => ?_)
            refine zAn2 hw ?_
            intro hbs9 h_49
            clear hw
            subst hbs9
            have G : zS T A s.heap s [[zAr T 0 m_farBy 49 f_farBy], [zAr T 0 m_posts 7 g_posts_6], [zAr T 0 m_shut 7 g_shut_7], [zAr T 0 m_here 7 g_here_8], [zO11 mo m_all m_has i_size i_next i_where i_token i_number i_word i_wrong i_farCrossing m_read 610 j_crossings_2 j_inns_3 m_posts m_shut m_here j_steps_4 j_done_5 i_at i_gone m_was m_came m_seenAt m_rowWorth m_farBy m_used i_everywhere i_again0 i_d0 i_never i_firstCame i_longRun i_moved i_crowd i_l0 i_fitMany i_fitLeast i_fitMost m_fitPost m_fitEnd m_keptPosts i_x0], [zAr T 0 m_all 3952 f_all]] _ _ := G
            have G := G.sub (bs' := [[zO11 mo m_all m_has i_size i_next i_where i_token i_number i_word i_wrong i_farCrossing m_read 610 j_crossings_2 j_inns_3 m_posts m_shut m_here j_steps_4 j_done_5 i_at i_gone m_was m_came m_seenAt m_rowWorth m_farBy m_used i_everywhere i_again0 i_d0 i_never i_firstCame i_longRun i_moved i_crowd i_l0 i_fitMany i_fitLeast i_fitMost m_fitPost m_fitEnd m_keptPosts i_x0], [zAr T 0 m_all 3952 f_all], [zAr T 0 m_posts 7 g_posts_6], [zAr T 0 m_shut 7 g_shut_7], [zAr T 0 m_here 7 g_here_8], [zAr T 0 m_farBy 49 f_farBy]]) [4, 5, 1, 2, 3, 0] rfl
            exact z_back hQz_ (z_iret C hr hlocks G (Nat.le_of_ble_eq_true rfl) (Nat.le_of_ble_eq_true rfl) dX12_classes_95 ⟨610, j_crossings_2, j_inns_3, j_steps_4, j_done_5, g_posts_6, g_shut_7, g_here_8, f_farBy, rfl, (Or.inr (Or.inl ⟨by first | with_reducible assumption | assumption, by omega, (by unfold pClasses; rw [show pW f_all 610 = zWo f_all 610 j_inns_3 from congrArg (zWo f_all 610) h_17.symm, ← hLx.2.1, show f_all ((610 : Int32).toInt.toNat + 1) = j_inns_3 from h_17.symm]; unfold rCs; first | (exfalso; omega) | (rw [if_neg (by omega), if_neg (by omega), if_neg (by omega), if_neg (by omega), if_pos (by omega)]; exact h_49.trans (if_pos rfl)) | (rw [if_neg (by omega), if_neg (by omega), if_neg (by omega), if_neg (by omega), if_neg (by omega), if_pos (by omega)]; exact h_49.trans (if_neg (by decide))))⟩))⟩)
          · have c_48n : w_.toInt = (5 : Int) := (fa_eq _ _).mp c_48
            refine lv_iconst (v := 1) hx hb dX12_classes_87 (by decide) ?_
            refine lv_goto (tgt := 92) hx hb dX12_classes_88 (by decide) ?_
            refine z_Vi (bc := [[zO11 mo m_all m_has i_size i_next i_where i_token i_number i_word i_wrong i_farCrossing m_read 610 j_crossings_2 j_inns_3 m_posts m_shut m_here j_steps_4 j_done_5 i_at i_gone m_was m_came m_seenAt m_rowWorth m_farBy m_used i_everywhere i_again0 i_d0 i_never i_firstCame i_longRun i_moved i_crowd i_l0 i_fitMany i_fitLeast i_fitMost m_fitPost m_fitEnd m_keptPosts i_x0], [zAr T 0 m_all 3952 f_all]]) (br := [[zAr T 0 m_farBy 49 f_farBy], [zAr T 0 m_posts 7 g_posts_6], [zAr T 0 m_shut 7 g_shut_7], [zAr T 0 m_here 7 g_here_8]]) (As := [.int 1]) (rest := []) C G (c_fm_loops l T mo m_all m_has i_size i_next i_where i_token i_number i_word i_wrong i_farCrossing m_read 610 j_crossings_2 j_inns_3 m_posts m_shut m_here j_steps_4 j_done_5 i_at i_gone m_was m_came m_seenAt m_rowWorth m_farBy m_used i_everywhere i_again0 i_d0 i_never i_firstCame i_longRun i_moved i_crowd i_l0 i_fitMany i_fitLeast i_fitMost m_fitPost m_fitEnd m_keptPosts i_x0 f_all 1 (by first | with_reducible assumption | with_reducible rfl | omega | assumption | rfl | decide) (zVA_0 hVA (Or.inl rfl))) (kV_RX12_278 C.2.2.2.2 (Nat.le_of_ble_eq_true rfl) (Nat.le_of_ble_eq_true rfl)) [1, 2] [1, 0] rfl rfl (ci := 11) (qc := (RX12, TX12, 43)) rfl rfl (List.mem_flatten.mpr ⟨_, List.mem_of_getElem? (i := 0) rfl, List.mem_cons_self⟩) rfl rfl hl.1 dX12_classes_92 (Nat.le_of_ble_eq_true rfl) (Nat.le_of_ble_eq_true rfl) (fun r_52 b1 H locs hw G => ?_)
            refine zAn2 hw ?_
            intro hbs9 h_51
            clear hw
            subst hbs9
            have G : zS T A s.heap s [[zAr T 0 m_farBy 49 f_farBy], [zAr T 0 m_posts 7 g_posts_6], [zAr T 0 m_shut 7 g_shut_7], [zAr T 0 m_here 7 g_here_8], [zO11 mo m_all m_has i_size i_next i_where i_token i_number i_word i_wrong i_farCrossing m_read 610 j_crossings_2 j_inns_3 m_posts m_shut m_here j_steps_4 j_done_5 i_at i_gone m_was m_came m_seenAt m_rowWorth m_farBy m_used i_everywhere i_again0 i_d0 i_never i_firstCame i_longRun i_moved i_crowd i_l0 i_fitMany i_fitLeast i_fitMost m_fitPost m_fitEnd m_keptPosts i_x0], [zAr T 0 m_all 3952 f_all]] _ _ := G
            have G := G.sub (bs' := [[zO11 mo m_all m_has i_size i_next i_where i_token i_number i_word i_wrong i_farCrossing m_read 610 j_crossings_2 j_inns_3 m_posts m_shut m_here j_steps_4 j_done_5 i_at i_gone m_was m_came m_seenAt m_rowWorth m_farBy m_used i_everywhere i_again0 i_d0 i_never i_firstCame i_longRun i_moved i_crowd i_l0 i_fitMany i_fitLeast i_fitMost m_fitPost m_fitEnd m_keptPosts i_x0], [zAr T 0 m_all 3952 f_all], [zAr T 0 m_posts 7 g_posts_6], [zAr T 0 m_shut 7 g_shut_7], [zAr T 0 m_here 7 g_here_8], [zAr T 0 m_farBy 49 f_farBy]]) [4, 5, 1, 2, 3, 0] rfl
            exact z_back hQz_ (z_iret C hr hlocks G (Nat.le_of_ble_eq_true rfl) (Nat.le_of_ble_eq_true rfl) dX12_classes_95 ⟨610, j_crossings_2, j_inns_3, j_steps_4, j_done_5, g_posts_6, g_shut_7, g_here_8, f_farBy, rfl, (Or.inr (Or.inl ⟨by first | with_reducible assumption | assumption, by omega, (by unfold pClasses; rw [show pW f_all 610 = zWo f_all 610 j_inns_3 from congrArg (zWo f_all 610) h_17.symm, ← hLx.2.1, show f_all ((610 : Int32).toInt.toNat + 1) = j_inns_3 from h_17.symm]; unfold rCs; first | (exfalso; omega) | (rw [if_neg (by omega), if_neg (by omega), if_neg (by omega), if_neg (by omega), if_pos (by omega)]; exact h_51.trans (if_pos rfl)) | (rw [if_neg (by omega), if_neg (by omega), if_neg (by omega), if_neg (by omega), if_neg (by omega), if_pos (by omega)]; exact h_51.trans (if_neg (by decide))))⟩))⟩)
        · refine lv_tableIn (tgt := 75) hx hb dX12_classes_12 (by first | (rw [c_24]; decide) | omega) (by first | (rw [c_24]; decide) | omega) (by rw [c_24]; rfl) (by decide) ?_
          refine lv_aload_n hx hb dX12_classes_75 rfl (lv_at hl 0 rfl) ?_
          refine lv_iload_n hx hb dX12_classes_76 rfl (lv_at hl 2 rfl) ?_
          refine z_Vi (bc := [[zO11 mo m_all m_has i_size i_next i_where i_token i_number i_word i_wrong i_farCrossing m_read 610 j_crossings_2 j_inns_3 m_posts m_shut m_here j_steps_4 j_done_5 i_at i_gone m_was m_came m_seenAt m_rowWorth m_farBy m_used i_everywhere i_again0 i_d0 i_never i_firstCame i_longRun i_moved i_crowd i_l0 i_fitMany i_fitLeast i_fitMost m_fitPost m_fitEnd m_keptPosts i_x0], [zAr T 0 m_all 3952 f_all]]) (br := [[zAr T 0 m_farBy 49 f_farBy], [zAr T 0 m_posts 7 g_posts_6], [zAr T 0 m_shut 7 g_shut_7], [zAr T 0 m_here 7 g_here_8]]) (As := [.int w_]) (rest := []) C G (c_fm_crossingsOf l T mo m_all m_has i_size i_next i_where i_token i_number i_word i_wrong i_farCrossing m_read 610 j_crossings_2 j_inns_3 m_posts m_shut m_here j_steps_4 j_done_5 i_at i_gone m_was m_came m_seenAt m_rowWorth m_farBy m_used i_everywhere i_again0 i_d0 i_never i_firstCame i_longRun i_moved i_crowd i_l0 i_fitMany i_fitLeast i_fitMost m_fitPost m_fitEnd m_keptPosts i_x0 f_all w_ (by first | with_reducible assumption | with_reducible rfl | omega | assumption | rfl | decide) (zVA_0 hVA (Or.inl rfl))) (kV_RX12_275 C.2.2.2.2 (Nat.le_of_ble_eq_true rfl) (Nat.le_of_ble_eq_true rfl)) [1, 2] [1, 0] rfl rfl (ci := 11) (qc := (RX12, TX12, 43)) rfl rfl (List.mem_flatten.mpr ⟨_, List.mem_of_getElem? (i := 0) rfl, List.mem_cons_self⟩) rfl rfl hl.1 dX12_classes_77 (Nat.le_of_ble_eq_true rfl) (Nat.le_of_ble_eq_true rfl) (fun r_54 b1 H locs hw G => ?_)
          refine zAn2 hw ?_
          intro hbs9 h_53
          clear hw
          subst hbs9
          have G : zS T A s.heap s [[zAr T 0 m_farBy 49 f_farBy], [zAr T 0 m_posts 7 g_posts_6], [zAr T 0 m_shut 7 g_shut_7], [zAr T 0 m_here 7 g_here_8], [zO11 mo m_all m_has i_size i_next i_where i_token i_number i_word i_wrong i_farCrossing m_read 610 j_crossings_2 j_inns_3 m_posts m_shut m_here j_steps_4 j_done_5 i_at i_gone m_was m_came m_seenAt m_rowWorth m_farBy m_used i_everywhere i_again0 i_d0 i_never i_firstCame i_longRun i_moved i_crowd i_l0 i_fitMany i_fitLeast i_fitMost m_fitPost m_fitEnd m_keptPosts i_x0], [zAr T 0 m_all 3952 f_all]] _ _ := G
          have G := G.sub (bs' := [[zO11 mo m_all m_has i_size i_next i_where i_token i_number i_word i_wrong i_farCrossing m_read 610 j_crossings_2 j_inns_3 m_posts m_shut m_here j_steps_4 j_done_5 i_at i_gone m_was m_came m_seenAt m_rowWorth m_farBy m_used i_everywhere i_again0 i_d0 i_never i_firstCame i_longRun i_moved i_crowd i_l0 i_fitMany i_fitLeast i_fitMost m_fitPost m_fitEnd m_keptPosts i_x0], [zAr T 0 m_all 3952 f_all], [zAr T 0 m_posts 7 g_posts_6], [zAr T 0 m_shut 7 g_shut_7], [zAr T 0 m_here 7 g_here_8], [zAr T 0 m_farBy 49 f_farBy]]) [4, 5, 1, 2, 3, 0] rfl
          exact z_back hQz_ (z_iret C hr hlocks G (Nat.le_of_ble_eq_true rfl) (Nat.le_of_ble_eq_true rfl) dX12_classes_80 ⟨610, j_crossings_2, j_inns_3, j_steps_4, j_done_5, g_posts_6, g_shut_7, g_here_8, f_farBy, rfl, (Or.inr (Or.inl ⟨by first | with_reducible assumption | assumption, by omega, (by unfold pClasses; rw [show pW f_all 610 = zWo f_all 610 j_inns_3 from congrArg (zWo f_all 610) h_17.symm, ← hLx.2.1, show f_all ((610 : Int32).toInt.toNat + 1) = j_inns_3 from h_17.symm]; unfold rCs; rcases h_53 with ⟨q1, q2⟩ | ⟨q1, q2⟩ | ⟨q1, q3, q2⟩ <;> first | (exfalso; omega) | (rw [if_neg (by omega), if_neg (by omega), if_pos (by omega)]; exact q2) | (rw [if_neg (by omega), if_neg (by omega), if_neg (by omega), if_pos (by omega)]; exact q2) | (rw [if_neg (by omega), if_neg (by omega), if_neg (by omega), if_neg (by omega), if_neg (by omega), if_neg (by omega), if_pos (by omega)]; exact q2))⟩))⟩)
        · refine lv_tableIn (tgt := 96) hx hb dX12_classes_12 (by first | (rw [c_24]; decide) | omega) (by first | (rw [c_24]; decide) | omega) (by rw [c_24]; rfl) (by decide) ?_
          refine lv_aload_n hx hb dX12_classes_96 rfl (lv_at hl 0 rfl) ?_
          refine z_Vi (bc := [[zO11 mo m_all m_has i_size i_next i_where i_token i_number i_word i_wrong i_farCrossing m_read 610 j_crossings_2 j_inns_3 m_posts m_shut m_here j_steps_4 j_done_5 i_at i_gone m_was m_came m_seenAt m_rowWorth m_farBy m_used i_everywhere i_again0 i_d0 i_never i_firstCame i_longRun i_moved i_crowd i_l0 i_fitMany i_fitLeast i_fitMost m_fitPost m_fitEnd m_keptPosts i_x0], [zAr T 0 m_all 3952 f_all]]) (br := [[zAr T 0 m_farBy 49 f_farBy], [zAr T 0 m_posts 7 g_posts_6], [zAr T 0 m_shut 7 g_shut_7], [zAr T 0 m_here 7 g_here_8]]) (As := []) (rest := []) C G (c_fm_busyOf l T mo m_all m_has i_size i_next i_where i_token i_number i_word i_wrong i_farCrossing m_read 610 j_crossings_2 j_inns_3 m_posts m_shut m_here j_steps_4 j_done_5 i_at i_gone m_was m_came m_seenAt m_rowWorth m_farBy m_used i_everywhere i_again0 i_d0 i_never i_firstCame i_longRun i_moved i_crowd i_l0 i_fitMany i_fitLeast i_fitMost m_fitPost m_fitEnd m_keptPosts i_x0 f_all (by first | with_reducible assumption | with_reducible rfl | omega | assumption | rfl | decide) (zVA_0 hVA (Or.inl rfl))) (kV_RX12_281 C.2.2.2.2 (Nat.le_of_ble_eq_true rfl) (Nat.le_of_ble_eq_true rfl)) [1, 2] [1, 0] rfl rfl (ci := 11) (qc := (RX12, TX12, 43)) rfl rfl (List.mem_flatten.mpr ⟨_, List.mem_of_getElem? (i := 0) rfl, List.mem_cons_self⟩) rfl rfl hl.1 dX12_classes_97 (Nat.le_of_ble_eq_true rfl) (Nat.le_of_ble_eq_true rfl) (fun r_56 b1 H locs hw G => ?_)
          refine zAn2 hw ?_
          intro hbs9 h_55
          clear hw
          subst hbs9
          have G : zS T A s.heap s [[zAr T 0 m_farBy 49 f_farBy], [zAr T 0 m_posts 7 g_posts_6], [zAr T 0 m_shut 7 g_shut_7], [zAr T 0 m_here 7 g_here_8], [zO11 mo m_all m_has i_size i_next i_where i_token i_number i_word i_wrong i_farCrossing m_read 610 j_crossings_2 j_inns_3 m_posts m_shut m_here j_steps_4 j_done_5 i_at i_gone m_was m_came m_seenAt m_rowWorth m_farBy m_used i_everywhere i_again0 i_d0 i_never i_firstCame i_longRun i_moved i_crowd i_l0 i_fitMany i_fitLeast i_fitMost m_fitPost m_fitEnd m_keptPosts i_x0], [zAr T 0 m_all 3952 f_all]] _ _ := G
          have G := G.sub (bs' := [[zO11 mo m_all m_has i_size i_next i_where i_token i_number i_word i_wrong i_farCrossing m_read 610 j_crossings_2 j_inns_3 m_posts m_shut m_here j_steps_4 j_done_5 i_at i_gone m_was m_came m_seenAt m_rowWorth m_farBy m_used i_everywhere i_again0 i_d0 i_never i_firstCame i_longRun i_moved i_crowd i_l0 i_fitMany i_fitLeast i_fitMost m_fitPost m_fitEnd m_keptPosts i_x0], [zAr T 0 m_all 3952 f_all], [zAr T 0 m_posts 7 g_posts_6], [zAr T 0 m_shut 7 g_shut_7], [zAr T 0 m_here 7 g_here_8], [zAr T 0 m_farBy 49 f_farBy]]) [4, 5, 1, 2, 3, 0] rfl
          exact z_back hQz_ (z_iret C hr hlocks G (Nat.le_of_ble_eq_true rfl) (Nat.le_of_ble_eq_true rfl) dX12_classes_100 ⟨610, j_crossings_2, j_inns_3, j_steps_4, j_done_5, g_posts_6, g_shut_7, g_here_8, f_farBy, rfl, (Or.inr (Or.inl ⟨by first | with_reducible assumption | assumption, by omega, (by unfold pClasses; rw [show pW f_all 610 = zWo f_all 610 j_inns_3 from congrArg (zWo f_all 610) h_17.symm, ← hLx.2.1, show f_all ((610 : Int32).toInt.toNat + 1) = j_inns_3 from h_17.symm]; unfold rCs; rw [if_neg (by omega), if_neg (by omega), if_neg (by omega), if_neg (by omega), if_neg (by omega), if_neg (by omega), if_neg (by omega), if_pos (by omega)]; exact h_55)⟩))⟩)
    · obtain rfl : j_z0_1 = 661 := Int32.toInt_inj.mp (by show j_z0_1.toInt = 661; omega)
      have hcx : j_crossings_2.toInt = (f_all 661).toInt := by rw [hLx.2.1]; rfl
      have hQP : zP3 g_posts_6 (zWo f_all 661 j_inns_3) := zP3_m hLx hPx
      refine lv_iload_n hx hb dX12_classes_11 rfl (lv_at hl 2 rfl) ?_
      by_cases c_57o : w_.toInt < 0 ∨ 7 < w_.toInt
      · refine lv_tableOut (tgt := 101) hx hb dX12_classes_12 c_57o (by decide) ?_
        refine lv_bipush (v := (-2)) hx hb dX12_classes_101 (by decide) ?_
        have G := G.sub (bs' := [[zO11 mo m_all m_has i_size i_next i_where i_token i_number i_word i_wrong i_farCrossing m_read 661 j_crossings_2 j_inns_3 m_posts m_shut m_here j_steps_4 j_done_5 i_at i_gone m_was m_came m_seenAt m_rowWorth m_farBy m_used i_everywhere i_again0 i_d0 i_never i_firstCame i_longRun i_moved i_crowd i_l0 i_fitMany i_fitLeast i_fitMost m_fitPost m_fitEnd m_keptPosts i_x0], [zAr T 0 m_all 3952 f_all], [zAr T 0 m_posts 7 g_posts_6], [zAr T 0 m_shut 7 g_shut_7], [zAr T 0 m_here 7 g_here_8], [zAr T 0 m_farBy 49 f_farBy]]) [1, 2, 3, 4, 5, 0] rfl
        exact z_back hQz_ (z_iret C hr hlocks G (Nat.le_of_ble_eq_true rfl) (Nat.le_of_ble_eq_true rfl) dX12_classes_103 ⟨661, j_crossings_2, j_inns_3, j_steps_4, j_done_5, g_posts_6, g_shut_7, g_here_8, f_farBy, rfl, (Or.inr (Or.inr ⟨by first | with_reducible assumption | assumption, by omega, (by unfold pClasses rCs; rw [if_neg (by omega), if_neg (by omega), if_neg (by omega), if_neg (by omega), if_neg (by omega), if_neg (by omega), if_neg (by omega), if_neg (by omega)])⟩))⟩)
      · have c_57r : w_.toInt = 0 ∨ w_.toInt = 1 ∨ w_.toInt = 2 ∨ w_.toInt = 3 ∨ w_.toInt = 4 ∨ w_.toInt = 5 ∨ w_.toInt = 6 ∨ w_.toInt = 7 := by omega
        rcases c_57r with c_57 | c_57 | c_57 | c_57 | c_57 | c_57 | c_57 | c_57
        · refine lv_tableIn (tgt := 60) hx hb dX12_classes_12 (by first | (rw [c_57]; decide) | omega) (by first | (rw [c_57]; decide) | omega) (by rw [c_57]; rfl) (by decide) ?_
          refine lv_aload_n hx hb dX12_classes_60 rfl (lv_at hl 0 rfl) ?_
          refine lv_iload_n hx hb dX12_classes_61 rfl (lv_at hl 2 rfl) ?_
          refine lv_iconst (v := 1) hx hb dX12_classes_62 (by decide) ?_
          refine lv_icmp_ne (tgt := 70) hx hb dX12_classes_63 (by decide) (fun c_58 => ?_) (fun c_58 => ?_)
          · have c_58n : ¬ w_.toInt = (1 : Int) := fun q => c_58 ((fa_eq _ _).mpr q)
            refine lv_iconst (v := 0) hx hb dX12_classes_70 (by decide) ?_
            refine z_Vi (bc := [[zO11 mo m_all m_has i_size i_next i_where i_token i_number i_word i_wrong i_farCrossing m_read 661 j_crossings_2 j_inns_3 m_posts m_shut m_here j_steps_4 j_done_5 i_at i_gone m_was m_came m_seenAt m_rowWorth m_farBy m_used i_everywhere i_again0 i_d0 i_never i_firstCame i_longRun i_moved i_crowd i_l0 i_fitMany i_fitLeast i_fitMost m_fitPost m_fitEnd m_keptPosts i_x0], [zAr T 0 m_all 3952 f_all], [zAr T 0 m_farBy 49 f_farBy]]) (br := [[zAr T 0 m_posts 7 g_posts_6], [zAr T 0 m_shut 7 g_shut_7], [zAr T 0 m_here 7 g_here_8]]) (As := [.int 0]) (rest := []) C G (c_fm_classesOf l T mo m_all m_has i_size i_next i_where i_token i_number i_word i_wrong i_farCrossing m_read 661 j_crossings_2 j_inns_3 m_posts m_shut m_here j_steps_4 j_done_5 i_at i_gone m_was m_came m_seenAt m_rowWorth m_farBy m_used i_everywhere i_again0 i_d0 i_never i_firstCame i_longRun i_moved i_crowd i_l0 i_fitMany i_fitLeast i_fitMost m_fitPost m_fitEnd m_keptPosts i_x0 f_all f_farBy 0 (by first | with_reducible assumption | with_reducible rfl | omega | assumption | rfl | decide) (zVA_0 hVA (Or.inr rfl))) (kV_RX12_271 C.2.2.2.2 (Nat.le_of_ble_eq_true rfl) (Nat.le_of_ble_eq_true rfl)) [1, 2, 0] [0, 0, 0] rfl rfl (ci := 11) (qc := (RX12, TX12, 43)) rfl rfl (List.mem_flatten.mpr ⟨_, List.mem_of_getElem? (i := 0) rfl, List.mem_cons_self⟩) rfl rfl hl.1 dX12_classes_71 (Nat.le_of_ble_eq_true rfl) (Nat.le_of_ble_eq_true rfl) (fun r_61 b1 H locs hw G => ?_)
            refine zEx1 hw ?_
            intro g_farBy_59
            refine zCu2 ?_
            intro hbs9 h_60
            clear hw
            subst hbs9
            have G : zS T A s.heap s [[zAr T 0 m_posts 7 g_posts_6], [zAr T 0 m_shut 7 g_shut_7], [zAr T 0 m_here 7 g_here_8], [zO11 mo m_all m_has i_size i_next i_where i_token i_number i_word i_wrong i_farCrossing m_read 661 j_crossings_2 j_inns_3 m_posts m_shut m_here j_steps_4 j_done_5 i_at i_gone m_was m_came m_seenAt m_rowWorth m_farBy m_used i_everywhere i_again0 i_d0 i_never i_firstCame i_longRun i_moved i_crowd i_l0 i_fitMany i_fitLeast i_fitMost m_fitPost m_fitEnd m_keptPosts i_x0], [zAr T 0 m_all 3952 f_all], [zAr T 0 m_farBy 49 g_farBy_59]] _ _ := G
            have G := G.sub (bs' := [[zO11 mo m_all m_has i_size i_next i_where i_token i_number i_word i_wrong i_farCrossing m_read 661 j_crossings_2 j_inns_3 m_posts m_shut m_here j_steps_4 j_done_5 i_at i_gone m_was m_came m_seenAt m_rowWorth m_farBy m_used i_everywhere i_again0 i_d0 i_never i_firstCame i_longRun i_moved i_crowd i_l0 i_fitMany i_fitLeast i_fitMost m_fitPost m_fitEnd m_keptPosts i_x0], [zAr T 0 m_all 3952 f_all], [zAr T 0 m_posts 7 g_posts_6], [zAr T 0 m_shut 7 g_shut_7], [zAr T 0 m_here 7 g_here_8], [zAr T 0 m_farBy 49 g_farBy_59]]) [3, 4, 0, 1, 2, 5] rfl
            exact z_back hQz_ (z_iret C hr hlocks G (Nat.le_of_ble_eq_true rfl) (Nat.le_of_ble_eq_true rfl) dX12_classes_74 ⟨661, j_crossings_2, j_inns_3, j_steps_4, j_done_5, g_posts_6, g_shut_7, g_here_8, g_farBy_59, rfl, (Or.inr (Or.inr ⟨by first | with_reducible assumption | assumption, by omega, (by unfold pClasses; rw [show pW f_all 661 = zWo f_all 661 j_inns_3 from congrArg (zWo f_all 661) h_17.symm, ← hLx.2.1, show f_all ((661 : Int32).toInt.toNat + 1) = j_inns_3 from h_17.symm]; unfold rCs; first | (exfalso; omega) | (rw [if_pos (by omega)]; exact h_60.trans (if_pos rfl)) | (rw [if_neg (by omega), if_pos (by omega)]; exact h_60.trans (if_neg (by decide))))⟩))⟩)
          · have c_58n : w_.toInt = (1 : Int) := (fa_eq _ _).mp c_58
            refine lv_iconst (v := 1) hx hb dX12_classes_66 (by decide) ?_
            refine lv_goto (tgt := 71) hx hb dX12_classes_67 (by decide) ?_
            refine z_Vi (bc := [[zO11 mo m_all m_has i_size i_next i_where i_token i_number i_word i_wrong i_farCrossing m_read 661 j_crossings_2 j_inns_3 m_posts m_shut m_here j_steps_4 j_done_5 i_at i_gone m_was m_came m_seenAt m_rowWorth m_farBy m_used i_everywhere i_again0 i_d0 i_never i_firstCame i_longRun i_moved i_crowd i_l0 i_fitMany i_fitLeast i_fitMost m_fitPost m_fitEnd m_keptPosts i_x0], [zAr T 0 m_all 3952 f_all], [zAr T 0 m_farBy 49 f_farBy]]) (br := [[zAr T 0 m_posts 7 g_posts_6], [zAr T 0 m_shut 7 g_shut_7], [zAr T 0 m_here 7 g_here_8]]) (As := [.int 1]) (rest := []) C G (c_fm_classesOf l T mo m_all m_has i_size i_next i_where i_token i_number i_word i_wrong i_farCrossing m_read 661 j_crossings_2 j_inns_3 m_posts m_shut m_here j_steps_4 j_done_5 i_at i_gone m_was m_came m_seenAt m_rowWorth m_farBy m_used i_everywhere i_again0 i_d0 i_never i_firstCame i_longRun i_moved i_crowd i_l0 i_fitMany i_fitLeast i_fitMost m_fitPost m_fitEnd m_keptPosts i_x0 f_all f_farBy 1 (by first | with_reducible assumption | with_reducible rfl | omega | assumption | rfl | decide) (zVA_0 hVA (Or.inr rfl))) (kV_RX12_271 C.2.2.2.2 (Nat.le_of_ble_eq_true rfl) (Nat.le_of_ble_eq_true rfl)) [1, 2, 0] [0, 0, 0] rfl rfl (ci := 11) (qc := (RX12, TX12, 43)) rfl rfl (List.mem_flatten.mpr ⟨_, List.mem_of_getElem? (i := 0) rfl, List.mem_cons_self⟩) rfl rfl hl.1 dX12_classes_71 (Nat.le_of_ble_eq_true rfl) (Nat.le_of_ble_eq_true rfl) (fun r_64 b1 H locs hw G => ?_)
            refine zEx1 hw ?_
            intro g_farBy_62
            refine zCu2 ?_
            intro hbs9 h_63
            clear hw
            subst hbs9
            have G : zS T A s.heap s [[zAr T 0 m_posts 7 g_posts_6], [zAr T 0 m_shut 7 g_shut_7], [zAr T 0 m_here 7 g_here_8], [zO11 mo m_all m_has i_size i_next i_where i_token i_number i_word i_wrong i_farCrossing m_read 661 j_crossings_2 j_inns_3 m_posts m_shut m_here j_steps_4 j_done_5 i_at i_gone m_was m_came m_seenAt m_rowWorth m_farBy m_used i_everywhere i_again0 i_d0 i_never i_firstCame i_longRun i_moved i_crowd i_l0 i_fitMany i_fitLeast i_fitMost m_fitPost m_fitEnd m_keptPosts i_x0], [zAr T 0 m_all 3952 f_all], [zAr T 0 m_farBy 49 g_farBy_62]] _ _ := G
            have G := G.sub (bs' := [[zO11 mo m_all m_has i_size i_next i_where i_token i_number i_word i_wrong i_farCrossing m_read 661 j_crossings_2 j_inns_3 m_posts m_shut m_here j_steps_4 j_done_5 i_at i_gone m_was m_came m_seenAt m_rowWorth m_farBy m_used i_everywhere i_again0 i_d0 i_never i_firstCame i_longRun i_moved i_crowd i_l0 i_fitMany i_fitLeast i_fitMost m_fitPost m_fitEnd m_keptPosts i_x0], [zAr T 0 m_all 3952 f_all], [zAr T 0 m_posts 7 g_posts_6], [zAr T 0 m_shut 7 g_shut_7], [zAr T 0 m_here 7 g_here_8], [zAr T 0 m_farBy 49 g_farBy_62]]) [3, 4, 0, 1, 2, 5] rfl
            exact z_back hQz_ (z_iret C hr hlocks G (Nat.le_of_ble_eq_true rfl) (Nat.le_of_ble_eq_true rfl) dX12_classes_74 ⟨661, j_crossings_2, j_inns_3, j_steps_4, j_done_5, g_posts_6, g_shut_7, g_here_8, g_farBy_62, rfl, (Or.inr (Or.inr ⟨by first | with_reducible assumption | assumption, by omega, (by unfold pClasses; rw [show pW f_all 661 = zWo f_all 661 j_inns_3 from congrArg (zWo f_all 661) h_17.symm, ← hLx.2.1, show f_all ((661 : Int32).toInt.toNat + 1) = j_inns_3 from h_17.symm]; unfold rCs; first | (exfalso; omega) | (rw [if_pos (by omega)]; exact h_63.trans (if_pos rfl)) | (rw [if_neg (by omega), if_pos (by omega)]; exact h_63.trans (if_neg (by decide))))⟩))⟩)
        · refine lv_tableIn (tgt := 60) hx hb dX12_classes_12 (by first | (rw [c_57]; decide) | omega) (by first | (rw [c_57]; decide) | omega) (by rw [c_57]; rfl) (by decide) ?_
          refine lv_aload_n hx hb dX12_classes_60 rfl (lv_at hl 0 rfl) ?_
          refine lv_iload_n hx hb dX12_classes_61 rfl (lv_at hl 2 rfl) ?_
          refine lv_iconst (v := 1) hx hb dX12_classes_62 (by decide) ?_
          refine lv_icmp_ne (tgt := 70) hx hb dX12_classes_63 (by decide) (fun c_65 => ?_) (fun c_65 => ?_)
          · have c_65n : ¬ w_.toInt = (1 : Int) := fun q => c_65 ((fa_eq _ _).mpr q)
            refine lv_iconst (v := 0) hx hb dX12_classes_70 (by decide) ?_
            refine z_Vi (bc := [[zO11 mo m_all m_has i_size i_next i_where i_token i_number i_word i_wrong i_farCrossing m_read 661 j_crossings_2 j_inns_3 m_posts m_shut m_here j_steps_4 j_done_5 i_at i_gone m_was m_came m_seenAt m_rowWorth m_farBy m_used i_everywhere i_again0 i_d0 i_never i_firstCame i_longRun i_moved i_crowd i_l0 i_fitMany i_fitLeast i_fitMost m_fitPost m_fitEnd m_keptPosts i_x0], [zAr T 0 m_all 3952 f_all], [zAr T 0 m_farBy 49 f_farBy]]) (br := [[zAr T 0 m_posts 7 g_posts_6], [zAr T 0 m_shut 7 g_shut_7], [zAr T 0 m_here 7 g_here_8]]) (As := [.int 0]) (rest := []) C G (c_fm_classesOf l T mo m_all m_has i_size i_next i_where i_token i_number i_word i_wrong i_farCrossing m_read 661 j_crossings_2 j_inns_3 m_posts m_shut m_here j_steps_4 j_done_5 i_at i_gone m_was m_came m_seenAt m_rowWorth m_farBy m_used i_everywhere i_again0 i_d0 i_never i_firstCame i_longRun i_moved i_crowd i_l0 i_fitMany i_fitLeast i_fitMost m_fitPost m_fitEnd m_keptPosts i_x0 f_all f_farBy 0 (by first | with_reducible assumption | with_reducible rfl | omega | assumption | rfl | decide) (zVA_0 hVA (Or.inr rfl))) (kV_RX12_271 C.2.2.2.2 (Nat.le_of_ble_eq_true rfl) (Nat.le_of_ble_eq_true rfl)) [1, 2, 0] [0, 0, 0] rfl rfl (ci := 11) (qc := (RX12, TX12, 43)) rfl rfl (List.mem_flatten.mpr ⟨_, List.mem_of_getElem? (i := 0) rfl, List.mem_cons_self⟩) rfl rfl hl.1 dX12_classes_71 (Nat.le_of_ble_eq_true rfl) (Nat.le_of_ble_eq_true rfl) (fun r_68 b1 H locs hw G => ?_)
            refine zEx1 hw ?_
            intro g_farBy_66
            refine zCu2 ?_
            intro hbs9 h_67
            clear hw
            subst hbs9
            have G : zS T A s.heap s [[zAr T 0 m_posts 7 g_posts_6], [zAr T 0 m_shut 7 g_shut_7], [zAr T 0 m_here 7 g_here_8], [zO11 mo m_all m_has i_size i_next i_where i_token i_number i_word i_wrong i_farCrossing m_read 661 j_crossings_2 j_inns_3 m_posts m_shut m_here j_steps_4 j_done_5 i_at i_gone m_was m_came m_seenAt m_rowWorth m_farBy m_used i_everywhere i_again0 i_d0 i_never i_firstCame i_longRun i_moved i_crowd i_l0 i_fitMany i_fitLeast i_fitMost m_fitPost m_fitEnd m_keptPosts i_x0], [zAr T 0 m_all 3952 f_all], [zAr T 0 m_farBy 49 g_farBy_66]] _ _ := G
            have G := G.sub (bs' := [[zO11 mo m_all m_has i_size i_next i_where i_token i_number i_word i_wrong i_farCrossing m_read 661 j_crossings_2 j_inns_3 m_posts m_shut m_here j_steps_4 j_done_5 i_at i_gone m_was m_came m_seenAt m_rowWorth m_farBy m_used i_everywhere i_again0 i_d0 i_never i_firstCame i_longRun i_moved i_crowd i_l0 i_fitMany i_fitLeast i_fitMost m_fitPost m_fitEnd m_keptPosts i_x0], [zAr T 0 m_all 3952 f_all], [zAr T 0 m_posts 7 g_posts_6], [zAr T 0 m_shut 7 g_shut_7], [zAr T 0 m_here 7 g_here_8], [zAr T 0 m_farBy 49 g_farBy_66]]) [3, 4, 0, 1, 2, 5] rfl
            exact z_back hQz_ (z_iret C hr hlocks G (Nat.le_of_ble_eq_true rfl) (Nat.le_of_ble_eq_true rfl) dX12_classes_74 ⟨661, j_crossings_2, j_inns_3, j_steps_4, j_done_5, g_posts_6, g_shut_7, g_here_8, g_farBy_66, rfl, (Or.inr (Or.inr ⟨by first | with_reducible assumption | assumption, by omega, (by unfold pClasses; rw [show pW f_all 661 = zWo f_all 661 j_inns_3 from congrArg (zWo f_all 661) h_17.symm, ← hLx.2.1, show f_all ((661 : Int32).toInt.toNat + 1) = j_inns_3 from h_17.symm]; unfold rCs; first | (exfalso; omega) | (rw [if_pos (by omega)]; exact h_67.trans (if_pos rfl)) | (rw [if_neg (by omega), if_pos (by omega)]; exact h_67.trans (if_neg (by decide))))⟩))⟩)
          · have c_65n : w_.toInt = (1 : Int) := (fa_eq _ _).mp c_65
            refine lv_iconst (v := 1) hx hb dX12_classes_66 (by decide) ?_
            refine lv_goto (tgt := 71) hx hb dX12_classes_67 (by decide) ?_
            refine z_Vi (bc := [[zO11 mo m_all m_has i_size i_next i_where i_token i_number i_word i_wrong i_farCrossing m_read 661 j_crossings_2 j_inns_3 m_posts m_shut m_here j_steps_4 j_done_5 i_at i_gone m_was m_came m_seenAt m_rowWorth m_farBy m_used i_everywhere i_again0 i_d0 i_never i_firstCame i_longRun i_moved i_crowd i_l0 i_fitMany i_fitLeast i_fitMost m_fitPost m_fitEnd m_keptPosts i_x0], [zAr T 0 m_all 3952 f_all], [zAr T 0 m_farBy 49 f_farBy]]) (br := [[zAr T 0 m_posts 7 g_posts_6], [zAr T 0 m_shut 7 g_shut_7], [zAr T 0 m_here 7 g_here_8]]) (As := [.int 1]) (rest := []) C G (c_fm_classesOf l T mo m_all m_has i_size i_next i_where i_token i_number i_word i_wrong i_farCrossing m_read 661 j_crossings_2 j_inns_3 m_posts m_shut m_here j_steps_4 j_done_5 i_at i_gone m_was m_came m_seenAt m_rowWorth m_farBy m_used i_everywhere i_again0 i_d0 i_never i_firstCame i_longRun i_moved i_crowd i_l0 i_fitMany i_fitLeast i_fitMost m_fitPost m_fitEnd m_keptPosts i_x0 f_all f_farBy 1 (by first | with_reducible assumption | with_reducible rfl | omega | assumption | rfl | decide) (zVA_0 hVA (Or.inr rfl))) (kV_RX12_271 C.2.2.2.2 (Nat.le_of_ble_eq_true rfl) (Nat.le_of_ble_eq_true rfl)) [1, 2, 0] [0, 0, 0] rfl rfl (ci := 11) (qc := (RX12, TX12, 43)) rfl rfl (List.mem_flatten.mpr ⟨_, List.mem_of_getElem? (i := 0) rfl, List.mem_cons_self⟩) rfl rfl hl.1 dX12_classes_71 (Nat.le_of_ble_eq_true rfl) (Nat.le_of_ble_eq_true rfl) (fun r_71 b1 H locs hw G => ?_)
            refine zEx1 hw ?_
            intro g_farBy_69
            refine zCu2 ?_
            intro hbs9 h_70
            clear hw
            subst hbs9
            have G : zS T A s.heap s [[zAr T 0 m_posts 7 g_posts_6], [zAr T 0 m_shut 7 g_shut_7], [zAr T 0 m_here 7 g_here_8], [zO11 mo m_all m_has i_size i_next i_where i_token i_number i_word i_wrong i_farCrossing m_read 661 j_crossings_2 j_inns_3 m_posts m_shut m_here j_steps_4 j_done_5 i_at i_gone m_was m_came m_seenAt m_rowWorth m_farBy m_used i_everywhere i_again0 i_d0 i_never i_firstCame i_longRun i_moved i_crowd i_l0 i_fitMany i_fitLeast i_fitMost m_fitPost m_fitEnd m_keptPosts i_x0], [zAr T 0 m_all 3952 f_all], [zAr T 0 m_farBy 49 g_farBy_69]] _ _ := G
            have G := G.sub (bs' := [[zO11 mo m_all m_has i_size i_next i_where i_token i_number i_word i_wrong i_farCrossing m_read 661 j_crossings_2 j_inns_3 m_posts m_shut m_here j_steps_4 j_done_5 i_at i_gone m_was m_came m_seenAt m_rowWorth m_farBy m_used i_everywhere i_again0 i_d0 i_never i_firstCame i_longRun i_moved i_crowd i_l0 i_fitMany i_fitLeast i_fitMost m_fitPost m_fitEnd m_keptPosts i_x0], [zAr T 0 m_all 3952 f_all], [zAr T 0 m_posts 7 g_posts_6], [zAr T 0 m_shut 7 g_shut_7], [zAr T 0 m_here 7 g_here_8], [zAr T 0 m_farBy 49 g_farBy_69]]) [3, 4, 0, 1, 2, 5] rfl
            exact z_back hQz_ (z_iret C hr hlocks G (Nat.le_of_ble_eq_true rfl) (Nat.le_of_ble_eq_true rfl) dX12_classes_74 ⟨661, j_crossings_2, j_inns_3, j_steps_4, j_done_5, g_posts_6, g_shut_7, g_here_8, g_farBy_69, rfl, (Or.inr (Or.inr ⟨by first | with_reducible assumption | assumption, by omega, (by unfold pClasses; rw [show pW f_all 661 = zWo f_all 661 j_inns_3 from congrArg (zWo f_all 661) h_17.symm, ← hLx.2.1, show f_all ((661 : Int32).toInt.toNat + 1) = j_inns_3 from h_17.symm]; unfold rCs; first | (exfalso; omega) | (rw [if_pos (by omega)]; exact h_70.trans (if_pos rfl)) | (rw [if_neg (by omega), if_pos (by omega)]; exact h_70.trans (if_neg (by decide))))⟩))⟩)
        · refine lv_tableIn (tgt := 75) hx hb dX12_classes_12 (by first | (rw [c_57]; decide) | omega) (by first | (rw [c_57]; decide) | omega) (by rw [c_57]; rfl) (by decide) ?_
          refine lv_aload_n hx hb dX12_classes_75 rfl (lv_at hl 0 rfl) ?_
          refine lv_iload_n hx hb dX12_classes_76 rfl (lv_at hl 2 rfl) ?_
          refine z_Vi (bc := [[zO11 mo m_all m_has i_size i_next i_where i_token i_number i_word i_wrong i_farCrossing m_read 661 j_crossings_2 j_inns_3 m_posts m_shut m_here j_steps_4 j_done_5 i_at i_gone m_was m_came m_seenAt m_rowWorth m_farBy m_used i_everywhere i_again0 i_d0 i_never i_firstCame i_longRun i_moved i_crowd i_l0 i_fitMany i_fitLeast i_fitMost m_fitPost m_fitEnd m_keptPosts i_x0], [zAr T 0 m_all 3952 f_all]]) (br := [[zAr T 0 m_farBy 49 f_farBy], [zAr T 0 m_posts 7 g_posts_6], [zAr T 0 m_shut 7 g_shut_7], [zAr T 0 m_here 7 g_here_8]]) (As := [.int w_]) (rest := []) C G (c_fm_crossingsOf l T mo m_all m_has i_size i_next i_where i_token i_number i_word i_wrong i_farCrossing m_read 661 j_crossings_2 j_inns_3 m_posts m_shut m_here j_steps_4 j_done_5 i_at i_gone m_was m_came m_seenAt m_rowWorth m_farBy m_used i_everywhere i_again0 i_d0 i_never i_firstCame i_longRun i_moved i_crowd i_l0 i_fitMany i_fitLeast i_fitMost m_fitPost m_fitEnd m_keptPosts i_x0 f_all w_ (by first | with_reducible assumption | with_reducible rfl | omega | assumption | rfl | decide) (zVA_0 hVA (Or.inr rfl))) (kV_RX12_275 C.2.2.2.2 (Nat.le_of_ble_eq_true rfl) (Nat.le_of_ble_eq_true rfl)) [1, 2] [1, 0] rfl rfl (ci := 11) (qc := (RX12, TX12, 43)) rfl rfl (List.mem_flatten.mpr ⟨_, List.mem_of_getElem? (i := 0) rfl, List.mem_cons_self⟩) rfl rfl hl.1 dX12_classes_77 (Nat.le_of_ble_eq_true rfl) (Nat.le_of_ble_eq_true rfl) (fun r_73 b1 H locs hw G => ?_)
          refine zAn2 hw ?_
          intro hbs9 h_72
          clear hw
          subst hbs9
          have G : zS T A s.heap s [[zAr T 0 m_farBy 49 f_farBy], [zAr T 0 m_posts 7 g_posts_6], [zAr T 0 m_shut 7 g_shut_7], [zAr T 0 m_here 7 g_here_8], [zO11 mo m_all m_has i_size i_next i_where i_token i_number i_word i_wrong i_farCrossing m_read 661 j_crossings_2 j_inns_3 m_posts m_shut m_here j_steps_4 j_done_5 i_at i_gone m_was m_came m_seenAt m_rowWorth m_farBy m_used i_everywhere i_again0 i_d0 i_never i_firstCame i_longRun i_moved i_crowd i_l0 i_fitMany i_fitLeast i_fitMost m_fitPost m_fitEnd m_keptPosts i_x0], [zAr T 0 m_all 3952 f_all]] _ _ := G
          have G := G.sub (bs' := [[zO11 mo m_all m_has i_size i_next i_where i_token i_number i_word i_wrong i_farCrossing m_read 661 j_crossings_2 j_inns_3 m_posts m_shut m_here j_steps_4 j_done_5 i_at i_gone m_was m_came m_seenAt m_rowWorth m_farBy m_used i_everywhere i_again0 i_d0 i_never i_firstCame i_longRun i_moved i_crowd i_l0 i_fitMany i_fitLeast i_fitMost m_fitPost m_fitEnd m_keptPosts i_x0], [zAr T 0 m_all 3952 f_all], [zAr T 0 m_posts 7 g_posts_6], [zAr T 0 m_shut 7 g_shut_7], [zAr T 0 m_here 7 g_here_8], [zAr T 0 m_farBy 49 f_farBy]]) [4, 5, 1, 2, 3, 0] rfl
          exact z_back hQz_ (z_iret C hr hlocks G (Nat.le_of_ble_eq_true rfl) (Nat.le_of_ble_eq_true rfl) dX12_classes_80 ⟨661, j_crossings_2, j_inns_3, j_steps_4, j_done_5, g_posts_6, g_shut_7, g_here_8, f_farBy, rfl, (Or.inr (Or.inr ⟨by first | with_reducible assumption | assumption, by omega, (by unfold pClasses; rw [show pW f_all 661 = zWo f_all 661 j_inns_3 from congrArg (zWo f_all 661) h_17.symm, ← hLx.2.1, show f_all ((661 : Int32).toInt.toNat + 1) = j_inns_3 from h_17.symm]; unfold rCs; rcases h_72 with ⟨q1, q2⟩ | ⟨q1, q2⟩ | ⟨q1, q3, q2⟩ <;> first | (exfalso; omega) | (rw [if_neg (by omega), if_neg (by omega), if_pos (by omega)]; exact q2) | (rw [if_neg (by omega), if_neg (by omega), if_neg (by omega), if_pos (by omega)]; exact q2) | (rw [if_neg (by omega), if_neg (by omega), if_neg (by omega), if_neg (by omega), if_neg (by omega), if_neg (by omega), if_pos (by omega)]; exact q2))⟩))⟩)
        · refine lv_tableIn (tgt := 75) hx hb dX12_classes_12 (by first | (rw [c_57]; decide) | omega) (by first | (rw [c_57]; decide) | omega) (by rw [c_57]; rfl) (by decide) ?_
          refine lv_aload_n hx hb dX12_classes_75 rfl (lv_at hl 0 rfl) ?_
          refine lv_iload_n hx hb dX12_classes_76 rfl (lv_at hl 2 rfl) ?_
          refine z_Vi (bc := [[zO11 mo m_all m_has i_size i_next i_where i_token i_number i_word i_wrong i_farCrossing m_read 661 j_crossings_2 j_inns_3 m_posts m_shut m_here j_steps_4 j_done_5 i_at i_gone m_was m_came m_seenAt m_rowWorth m_farBy m_used i_everywhere i_again0 i_d0 i_never i_firstCame i_longRun i_moved i_crowd i_l0 i_fitMany i_fitLeast i_fitMost m_fitPost m_fitEnd m_keptPosts i_x0], [zAr T 0 m_all 3952 f_all]]) (br := [[zAr T 0 m_farBy 49 f_farBy], [zAr T 0 m_posts 7 g_posts_6], [zAr T 0 m_shut 7 g_shut_7], [zAr T 0 m_here 7 g_here_8]]) (As := [.int w_]) (rest := []) C G (c_fm_crossingsOf l T mo m_all m_has i_size i_next i_where i_token i_number i_word i_wrong i_farCrossing m_read 661 j_crossings_2 j_inns_3 m_posts m_shut m_here j_steps_4 j_done_5 i_at i_gone m_was m_came m_seenAt m_rowWorth m_farBy m_used i_everywhere i_again0 i_d0 i_never i_firstCame i_longRun i_moved i_crowd i_l0 i_fitMany i_fitLeast i_fitMost m_fitPost m_fitEnd m_keptPosts i_x0 f_all w_ (by first | with_reducible assumption | with_reducible rfl | omega | assumption | rfl | decide) (zVA_0 hVA (Or.inr rfl))) (kV_RX12_275 C.2.2.2.2 (Nat.le_of_ble_eq_true rfl) (Nat.le_of_ble_eq_true rfl)) [1, 2] [1, 0] rfl rfl (ci := 11) (qc := (RX12, TX12, 43)) rfl rfl (List.mem_flatten.mpr ⟨_, List.mem_of_getElem? (i := 0) rfl, List.mem_cons_self⟩) rfl rfl hl.1 dX12_classes_77 (Nat.le_of_ble_eq_true rfl) (Nat.le_of_ble_eq_true rfl) (fun r_75 b1 H locs hw G => ?_)
          refine zAn2 hw ?_
          intro hbs9 h_74
          clear hw
          subst hbs9
          have G : zS T A s.heap s [[zAr T 0 m_farBy 49 f_farBy], [zAr T 0 m_posts 7 g_posts_6], [zAr T 0 m_shut 7 g_shut_7], [zAr T 0 m_here 7 g_here_8], [zO11 mo m_all m_has i_size i_next i_where i_token i_number i_word i_wrong i_farCrossing m_read 661 j_crossings_2 j_inns_3 m_posts m_shut m_here j_steps_4 j_done_5 i_at i_gone m_was m_came m_seenAt m_rowWorth m_farBy m_used i_everywhere i_again0 i_d0 i_never i_firstCame i_longRun i_moved i_crowd i_l0 i_fitMany i_fitLeast i_fitMost m_fitPost m_fitEnd m_keptPosts i_x0], [zAr T 0 m_all 3952 f_all]] _ _ := G
          have G := G.sub (bs' := [[zO11 mo m_all m_has i_size i_next i_where i_token i_number i_word i_wrong i_farCrossing m_read 661 j_crossings_2 j_inns_3 m_posts m_shut m_here j_steps_4 j_done_5 i_at i_gone m_was m_came m_seenAt m_rowWorth m_farBy m_used i_everywhere i_again0 i_d0 i_never i_firstCame i_longRun i_moved i_crowd i_l0 i_fitMany i_fitLeast i_fitMost m_fitPost m_fitEnd m_keptPosts i_x0], [zAr T 0 m_all 3952 f_all], [zAr T 0 m_posts 7 g_posts_6], [zAr T 0 m_shut 7 g_shut_7], [zAr T 0 m_here 7 g_here_8], [zAr T 0 m_farBy 49 f_farBy]]) [4, 5, 1, 2, 3, 0] rfl
          exact z_back hQz_ (z_iret C hr hlocks G (Nat.le_of_ble_eq_true rfl) (Nat.le_of_ble_eq_true rfl) dX12_classes_80 ⟨661, j_crossings_2, j_inns_3, j_steps_4, j_done_5, g_posts_6, g_shut_7, g_here_8, f_farBy, rfl, (Or.inr (Or.inr ⟨by first | with_reducible assumption | assumption, by omega, (by unfold pClasses; rw [show pW f_all 661 = zWo f_all 661 j_inns_3 from congrArg (zWo f_all 661) h_17.symm, ← hLx.2.1, show f_all ((661 : Int32).toInt.toNat + 1) = j_inns_3 from h_17.symm]; unfold rCs; rcases h_74 with ⟨q1, q2⟩ | ⟨q1, q2⟩ | ⟨q1, q3, q2⟩ <;> first | (exfalso; omega) | (rw [if_neg (by omega), if_neg (by omega), if_pos (by omega)]; exact q2) | (rw [if_neg (by omega), if_neg (by omega), if_neg (by omega), if_pos (by omega)]; exact q2) | (rw [if_neg (by omega), if_neg (by omega), if_neg (by omega), if_neg (by omega), if_neg (by omega), if_neg (by omega), if_pos (by omega)]; exact q2))⟩))⟩)
        · refine lv_tableIn (tgt := 81) hx hb dX12_classes_12 (by first | (rw [c_57]; decide) | omega) (by first | (rw [c_57]; decide) | omega) (by rw [c_57]; rfl) (by decide) ?_
          refine lv_aload_n hx hb dX12_classes_81 rfl (lv_at hl 0 rfl) ?_
          refine lv_iload_n hx hb dX12_classes_82 rfl (lv_at hl 2 rfl) ?_
          refine lv_iconst (v := 5) hx hb dX12_classes_83 (by decide) ?_
          refine lv_icmp_ne (tgt := 91) hx hb dX12_classes_84 (by decide) (fun c_76 => ?_) (fun c_76 => ?_)
          · have c_76n : ¬ w_.toInt = (5 : Int) := fun q => c_76 ((fa_eq _ _).mpr q)
            refine lv_iconst (v := 0) hx hb dX12_classes_91 (by decide) ?_
            refine z_Vi (bc := [[zO11 mo m_all m_has i_size i_next i_where i_token i_number i_word i_wrong i_farCrossing m_read 661 j_crossings_2 j_inns_3 m_posts m_shut m_here j_steps_4 j_done_5 i_at i_gone m_was m_came m_seenAt m_rowWorth m_farBy m_used i_everywhere i_again0 i_d0 i_never i_firstCame i_longRun i_moved i_crowd i_l0 i_fitMany i_fitLeast i_fitMost m_fitPost m_fitEnd m_keptPosts i_x0], [zAr T 0 m_all 3952 f_all]]) (br := [[zAr T 0 m_farBy 49 f_farBy], [zAr T 0 m_posts 7 g_posts_6], [zAr T 0 m_shut 7 g_shut_7], [zAr T 0 m_here 7 g_here_8]]) (As := [.int 0]) (rest := []) C G (c_fm_loops l T mo m_all m_has i_size i_next i_where i_token i_number i_word i_wrong i_farCrossing m_read 661 j_crossings_2 j_inns_3 m_posts m_shut m_here j_steps_4 j_done_5 i_at i_gone m_was m_came m_seenAt m_rowWorth m_farBy m_used i_everywhere i_again0 i_d0 i_never i_firstCame i_longRun i_moved i_crowd i_l0 i_fitMany i_fitLeast i_fitMost m_fitPost m_fitEnd m_keptPosts i_x0 f_all 0 (by first | with_reducible assumption | with_reducible rfl | omega | assumption | rfl | decide) (zVA_0 hVA (Or.inr rfl))) (kV_RX12_278 C.2.2.2.2 (Nat.le_of_ble_eq_true rfl) (Nat.le_of_ble_eq_true rfl)) [1, 2] [1, 0] rfl rfl (ci := 11) (qc := (RX12, TX12, 43)) rfl rfl (List.mem_flatten.mpr ⟨_, List.mem_of_getElem? (i := 0) rfl, List.mem_cons_self⟩) rfl rfl hl.1 dX12_classes_92 (Nat.le_of_ble_eq_true rfl) (Nat.le_of_ble_eq_true rfl) (fun r_78 b1 H locs hw G => ?_)
            refine zAn2 hw ?_
            intro hbs9 h_77
            clear hw
            subst hbs9
            have G : zS T A s.heap s [[zAr T 0 m_farBy 49 f_farBy], [zAr T 0 m_posts 7 g_posts_6], [zAr T 0 m_shut 7 g_shut_7], [zAr T 0 m_here 7 g_here_8], [zO11 mo m_all m_has i_size i_next i_where i_token i_number i_word i_wrong i_farCrossing m_read 661 j_crossings_2 j_inns_3 m_posts m_shut m_here j_steps_4 j_done_5 i_at i_gone m_was m_came m_seenAt m_rowWorth m_farBy m_used i_everywhere i_again0 i_d0 i_never i_firstCame i_longRun i_moved i_crowd i_l0 i_fitMany i_fitLeast i_fitMost m_fitPost m_fitEnd m_keptPosts i_x0], [zAr T 0 m_all 3952 f_all]] _ _ := G
            have G := G.sub (bs' := [[zO11 mo m_all m_has i_size i_next i_where i_token i_number i_word i_wrong i_farCrossing m_read 661 j_crossings_2 j_inns_3 m_posts m_shut m_here j_steps_4 j_done_5 i_at i_gone m_was m_came m_seenAt m_rowWorth m_farBy m_used i_everywhere i_again0 i_d0 i_never i_firstCame i_longRun i_moved i_crowd i_l0 i_fitMany i_fitLeast i_fitMost m_fitPost m_fitEnd m_keptPosts i_x0], [zAr T 0 m_all 3952 f_all], [zAr T 0 m_posts 7 g_posts_6], [zAr T 0 m_shut 7 g_shut_7], [zAr T 0 m_here 7 g_here_8], [zAr T 0 m_farBy 49 f_farBy]]) [4, 5, 1, 2, 3, 0] rfl
            exact z_back hQz_ (z_iret C hr hlocks G (Nat.le_of_ble_eq_true rfl) (Nat.le_of_ble_eq_true rfl) dX12_classes_95 ⟨661, j_crossings_2, j_inns_3, j_steps_4, j_done_5, g_posts_6, g_shut_7, g_here_8, f_farBy, rfl, (Or.inr (Or.inr ⟨by first | with_reducible assumption | assumption, by omega, (by unfold pClasses; rw [show pW f_all 661 = zWo f_all 661 j_inns_3 from congrArg (zWo f_all 661) h_17.symm, ← hLx.2.1, show f_all ((661 : Int32).toInt.toNat + 1) = j_inns_3 from h_17.symm]; unfold rCs; first | (exfalso; omega) | (rw [if_neg (by omega), if_neg (by omega), if_neg (by omega), if_neg (by omega), if_pos (by omega)]; exact h_77.trans (if_pos rfl)) | (rw [if_neg (by omega), if_neg (by omega), if_neg (by omega), if_neg (by omega), if_neg (by omega), if_pos (by omega)]; exact h_77.trans (if_neg (by decide))))⟩))⟩)
          · have c_76n : w_.toInt = (5 : Int) := (fa_eq _ _).mp c_76
            refine lv_iconst (v := 1) hx hb dX12_classes_87 (by decide) ?_
            refine lv_goto (tgt := 92) hx hb dX12_classes_88 (by decide) ?_
            refine z_Vi (bc := [[zO11 mo m_all m_has i_size i_next i_where i_token i_number i_word i_wrong i_farCrossing m_read 661 j_crossings_2 j_inns_3 m_posts m_shut m_here j_steps_4 j_done_5 i_at i_gone m_was m_came m_seenAt m_rowWorth m_farBy m_used i_everywhere i_again0 i_d0 i_never i_firstCame i_longRun i_moved i_crowd i_l0 i_fitMany i_fitLeast i_fitMost m_fitPost m_fitEnd m_keptPosts i_x0], [zAr T 0 m_all 3952 f_all]]) (br := [[zAr T 0 m_farBy 49 f_farBy], [zAr T 0 m_posts 7 g_posts_6], [zAr T 0 m_shut 7 g_shut_7], [zAr T 0 m_here 7 g_here_8]]) (As := [.int 1]) (rest := []) C G (c_fm_loops l T mo m_all m_has i_size i_next i_where i_token i_number i_word i_wrong i_farCrossing m_read 661 j_crossings_2 j_inns_3 m_posts m_shut m_here j_steps_4 j_done_5 i_at i_gone m_was m_came m_seenAt m_rowWorth m_farBy m_used i_everywhere i_again0 i_d0 i_never i_firstCame i_longRun i_moved i_crowd i_l0 i_fitMany i_fitLeast i_fitMost m_fitPost m_fitEnd m_keptPosts i_x0 f_all 1 (by first | with_reducible assumption | with_reducible rfl | omega | assumption | rfl | decide) (zVA_0 hVA (Or.inr rfl))) (kV_RX12_278 C.2.2.2.2 (Nat.le_of_ble_eq_true rfl) (Nat.le_of_ble_eq_true rfl)) [1, 2] [1, 0] rfl rfl (ci := 11) (qc := (RX12, TX12, 43)) rfl rfl (List.mem_flatten.mpr ⟨_, List.mem_of_getElem? (i := 0) rfl, List.mem_cons_self⟩) rfl rfl hl.1 dX12_classes_92 (Nat.le_of_ble_eq_true rfl) (Nat.le_of_ble_eq_true rfl) (fun r_80 b1 H locs hw G => ?_)
            refine zAn2 hw ?_
            intro hbs9 h_79
            clear hw
            subst hbs9
            have G : zS T A s.heap s [[zAr T 0 m_farBy 49 f_farBy], [zAr T 0 m_posts 7 g_posts_6], [zAr T 0 m_shut 7 g_shut_7], [zAr T 0 m_here 7 g_here_8], [zO11 mo m_all m_has i_size i_next i_where i_token i_number i_word i_wrong i_farCrossing m_read 661 j_crossings_2 j_inns_3 m_posts m_shut m_here j_steps_4 j_done_5 i_at i_gone m_was m_came m_seenAt m_rowWorth m_farBy m_used i_everywhere i_again0 i_d0 i_never i_firstCame i_longRun i_moved i_crowd i_l0 i_fitMany i_fitLeast i_fitMost m_fitPost m_fitEnd m_keptPosts i_x0], [zAr T 0 m_all 3952 f_all]] _ _ := G
            have G := G.sub (bs' := [[zO11 mo m_all m_has i_size i_next i_where i_token i_number i_word i_wrong i_farCrossing m_read 661 j_crossings_2 j_inns_3 m_posts m_shut m_here j_steps_4 j_done_5 i_at i_gone m_was m_came m_seenAt m_rowWorth m_farBy m_used i_everywhere i_again0 i_d0 i_never i_firstCame i_longRun i_moved i_crowd i_l0 i_fitMany i_fitLeast i_fitMost m_fitPost m_fitEnd m_keptPosts i_x0], [zAr T 0 m_all 3952 f_all], [zAr T 0 m_posts 7 g_posts_6], [zAr T 0 m_shut 7 g_shut_7], [zAr T 0 m_here 7 g_here_8], [zAr T 0 m_farBy 49 f_farBy]]) [4, 5, 1, 2, 3, 0] rfl
            exact z_back hQz_ (z_iret C hr hlocks G (Nat.le_of_ble_eq_true rfl) (Nat.le_of_ble_eq_true rfl) dX12_classes_95 ⟨661, j_crossings_2, j_inns_3, j_steps_4, j_done_5, g_posts_6, g_shut_7, g_here_8, f_farBy, rfl, (Or.inr (Or.inr ⟨by first | with_reducible assumption | assumption, by omega, (by unfold pClasses; rw [show pW f_all 661 = zWo f_all 661 j_inns_3 from congrArg (zWo f_all 661) h_17.symm, ← hLx.2.1, show f_all ((661 : Int32).toInt.toNat + 1) = j_inns_3 from h_17.symm]; unfold rCs; first | (exfalso; omega) | (rw [if_neg (by omega), if_neg (by omega), if_neg (by omega), if_neg (by omega), if_pos (by omega)]; exact h_79.trans (if_pos rfl)) | (rw [if_neg (by omega), if_neg (by omega), if_neg (by omega), if_neg (by omega), if_neg (by omega), if_pos (by omega)]; exact h_79.trans (if_neg (by decide))))⟩))⟩)
        · refine lv_tableIn (tgt := 81) hx hb dX12_classes_12 (by first | (rw [c_57]; decide) | omega) (by first | (rw [c_57]; decide) | omega) (by rw [c_57]; rfl) (by decide) ?_
          refine lv_aload_n hx hb dX12_classes_81 rfl (lv_at hl 0 rfl) ?_
          refine lv_iload_n hx hb dX12_classes_82 rfl (lv_at hl 2 rfl) ?_
          refine lv_iconst (v := 5) hx hb dX12_classes_83 (by decide) ?_
          refine lv_icmp_ne (tgt := 91) hx hb dX12_classes_84 (by decide) (fun c_81 => ?_) (fun c_81 => ?_)
          · have c_81n : ¬ w_.toInt = (5 : Int) := fun q => c_81 ((fa_eq _ _).mpr q)
            refine lv_iconst (v := 0) hx hb dX12_classes_91 (by decide) ?_
            refine z_Vi (bc := [[zO11 mo m_all m_has i_size i_next i_where i_token i_number i_word i_wrong i_farCrossing m_read 661 j_crossings_2 j_inns_3 m_posts m_shut m_here j_steps_4 j_done_5 i_at i_gone m_was m_came m_seenAt m_rowWorth m_farBy m_used i_everywhere i_again0 i_d0 i_never i_firstCame i_longRun i_moved i_crowd i_l0 i_fitMany i_fitLeast i_fitMost m_fitPost m_fitEnd m_keptPosts i_x0], [zAr T 0 m_all 3952 f_all]]) (br := [[zAr T 0 m_farBy 49 f_farBy], [zAr T 0 m_posts 7 g_posts_6], [zAr T 0 m_shut 7 g_shut_7], [zAr T 0 m_here 7 g_here_8]]) (As := [.int 0]) (rest := []) C G (c_fm_loops l T mo m_all m_has i_size i_next i_where i_token i_number i_word i_wrong i_farCrossing m_read 661 j_crossings_2 j_inns_3 m_posts m_shut m_here j_steps_4 j_done_5 i_at i_gone m_was m_came m_seenAt m_rowWorth m_farBy m_used i_everywhere i_again0 i_d0 i_never i_firstCame i_longRun i_moved i_crowd i_l0 i_fitMany i_fitLeast i_fitMost m_fitPost m_fitEnd m_keptPosts i_x0 f_all 0 (by first | with_reducible assumption | with_reducible rfl | omega | assumption | rfl | decide) (zVA_0 hVA (Or.inr rfl))) (kV_RX12_278 C.2.2.2.2 (Nat.le_of_ble_eq_true rfl) (Nat.le_of_ble_eq_true rfl)) [1, 2] [1, 0] rfl rfl (ci := 11) (qc := (RX12, TX12, 43)) rfl rfl (List.mem_flatten.mpr ⟨_, List.mem_of_getElem? (i := 0) rfl, List.mem_cons_self⟩) rfl rfl hl.1 dX12_classes_92 (Nat.le_of_ble_eq_true rfl) (Nat.le_of_ble_eq_true rfl) (fun r_83 b1 H locs hw G => ?_)
            refine zAn2 hw ?_
            intro hbs9 h_82
            clear hw
            subst hbs9
            have G : zS T A s.heap s [[zAr T 0 m_farBy 49 f_farBy], [zAr T 0 m_posts 7 g_posts_6], [zAr T 0 m_shut 7 g_shut_7], [zAr T 0 m_here 7 g_here_8], [zO11 mo m_all m_has i_size i_next i_where i_token i_number i_word i_wrong i_farCrossing m_read 661 j_crossings_2 j_inns_3 m_posts m_shut m_here j_steps_4 j_done_5 i_at i_gone m_was m_came m_seenAt m_rowWorth m_farBy m_used i_everywhere i_again0 i_d0 i_never i_firstCame i_longRun i_moved i_crowd i_l0 i_fitMany i_fitLeast i_fitMost m_fitPost m_fitEnd m_keptPosts i_x0], [zAr T 0 m_all 3952 f_all]] _ _ := G
            have G := G.sub (bs' := [[zO11 mo m_all m_has i_size i_next i_where i_token i_number i_word i_wrong i_farCrossing m_read 661 j_crossings_2 j_inns_3 m_posts m_shut m_here j_steps_4 j_done_5 i_at i_gone m_was m_came m_seenAt m_rowWorth m_farBy m_used i_everywhere i_again0 i_d0 i_never i_firstCame i_longRun i_moved i_crowd i_l0 i_fitMany i_fitLeast i_fitMost m_fitPost m_fitEnd m_keptPosts i_x0], [zAr T 0 m_all 3952 f_all], [zAr T 0 m_posts 7 g_posts_6], [zAr T 0 m_shut 7 g_shut_7], [zAr T 0 m_here 7 g_here_8], [zAr T 0 m_farBy 49 f_farBy]]) [4, 5, 1, 2, 3, 0] rfl
            exact z_back hQz_ (z_iret C hr hlocks G (Nat.le_of_ble_eq_true rfl) (Nat.le_of_ble_eq_true rfl) dX12_classes_95 ⟨661, j_crossings_2, j_inns_3, j_steps_4, j_done_5, g_posts_6, g_shut_7, g_here_8, f_farBy, rfl, (Or.inr (Or.inr ⟨by first | with_reducible assumption | assumption, by omega, (by unfold pClasses; rw [show pW f_all 661 = zWo f_all 661 j_inns_3 from congrArg (zWo f_all 661) h_17.symm, ← hLx.2.1, show f_all ((661 : Int32).toInt.toNat + 1) = j_inns_3 from h_17.symm]; unfold rCs; first | (exfalso; omega) | (rw [if_neg (by omega), if_neg (by omega), if_neg (by omega), if_neg (by omega), if_pos (by omega)]; exact h_82.trans (if_pos rfl)) | (rw [if_neg (by omega), if_neg (by omega), if_neg (by omega), if_neg (by omega), if_neg (by omega), if_pos (by omega)]; exact h_82.trans (if_neg (by decide))))⟩))⟩)
          · have c_81n : w_.toInt = (5 : Int) := (fa_eq _ _).mp c_81
            refine lv_iconst (v := 1) hx hb dX12_classes_87 (by decide) ?_
            refine lv_goto (tgt := 92) hx hb dX12_classes_88 (by decide) ?_
            refine z_Vi (bc := [[zO11 mo m_all m_has i_size i_next i_where i_token i_number i_word i_wrong i_farCrossing m_read 661 j_crossings_2 j_inns_3 m_posts m_shut m_here j_steps_4 j_done_5 i_at i_gone m_was m_came m_seenAt m_rowWorth m_farBy m_used i_everywhere i_again0 i_d0 i_never i_firstCame i_longRun i_moved i_crowd i_l0 i_fitMany i_fitLeast i_fitMost m_fitPost m_fitEnd m_keptPosts i_x0], [zAr T 0 m_all 3952 f_all]]) (br := [[zAr T 0 m_farBy 49 f_farBy], [zAr T 0 m_posts 7 g_posts_6], [zAr T 0 m_shut 7 g_shut_7], [zAr T 0 m_here 7 g_here_8]]) (As := [.int 1]) (rest := []) C G (c_fm_loops l T mo m_all m_has i_size i_next i_where i_token i_number i_word i_wrong i_farCrossing m_read 661 j_crossings_2 j_inns_3 m_posts m_shut m_here j_steps_4 j_done_5 i_at i_gone m_was m_came m_seenAt m_rowWorth m_farBy m_used i_everywhere i_again0 i_d0 i_never i_firstCame i_longRun i_moved i_crowd i_l0 i_fitMany i_fitLeast i_fitMost m_fitPost m_fitEnd m_keptPosts i_x0 f_all 1 (by first | with_reducible assumption | with_reducible rfl | omega | assumption | rfl | decide) (zVA_0 hVA (Or.inr rfl))) (kV_RX12_278 C.2.2.2.2 (Nat.le_of_ble_eq_true rfl) (Nat.le_of_ble_eq_true rfl)) [1, 2] [1, 0] rfl rfl (ci := 11) (qc := (RX12, TX12, 43)) rfl rfl (List.mem_flatten.mpr ⟨_, List.mem_of_getElem? (i := 0) rfl, List.mem_cons_self⟩) rfl rfl hl.1 dX12_classes_92 (Nat.le_of_ble_eq_true rfl) (Nat.le_of_ble_eq_true rfl) (fun r_85 b1 H locs hw G => ?_)
            refine zAn2 hw ?_
            intro hbs9 h_84
            clear hw
            subst hbs9
            have G : zS T A s.heap s [[zAr T 0 m_farBy 49 f_farBy], [zAr T 0 m_posts 7 g_posts_6], [zAr T 0 m_shut 7 g_shut_7], [zAr T 0 m_here 7 g_here_8], [zO11 mo m_all m_has i_size i_next i_where i_token i_number i_word i_wrong i_farCrossing m_read 661 j_crossings_2 j_inns_3 m_posts m_shut m_here j_steps_4 j_done_5 i_at i_gone m_was m_came m_seenAt m_rowWorth m_farBy m_used i_everywhere i_again0 i_d0 i_never i_firstCame i_longRun i_moved i_crowd i_l0 i_fitMany i_fitLeast i_fitMost m_fitPost m_fitEnd m_keptPosts i_x0], [zAr T 0 m_all 3952 f_all]] _ _ := G
            have G := G.sub (bs' := [[zO11 mo m_all m_has i_size i_next i_where i_token i_number i_word i_wrong i_farCrossing m_read 661 j_crossings_2 j_inns_3 m_posts m_shut m_here j_steps_4 j_done_5 i_at i_gone m_was m_came m_seenAt m_rowWorth m_farBy m_used i_everywhere i_again0 i_d0 i_never i_firstCame i_longRun i_moved i_crowd i_l0 i_fitMany i_fitLeast i_fitMost m_fitPost m_fitEnd m_keptPosts i_x0], [zAr T 0 m_all 3952 f_all], [zAr T 0 m_posts 7 g_posts_6], [zAr T 0 m_shut 7 g_shut_7], [zAr T 0 m_here 7 g_here_8], [zAr T 0 m_farBy 49 f_farBy]]) [4, 5, 1, 2, 3, 0] rfl
            exact z_back hQz_ (z_iret C hr hlocks G (Nat.le_of_ble_eq_true rfl) (Nat.le_of_ble_eq_true rfl) dX12_classes_95 ⟨661, j_crossings_2, j_inns_3, j_steps_4, j_done_5, g_posts_6, g_shut_7, g_here_8, f_farBy, rfl, (Or.inr (Or.inr ⟨by first | with_reducible assumption | assumption, by omega, (by unfold pClasses; rw [show pW f_all 661 = zWo f_all 661 j_inns_3 from congrArg (zWo f_all 661) h_17.symm, ← hLx.2.1, show f_all ((661 : Int32).toInt.toNat + 1) = j_inns_3 from h_17.symm]; unfold rCs; first | (exfalso; omega) | (rw [if_neg (by omega), if_neg (by omega), if_neg (by omega), if_neg (by omega), if_pos (by omega)]; exact h_84.trans (if_pos rfl)) | (rw [if_neg (by omega), if_neg (by omega), if_neg (by omega), if_neg (by omega), if_neg (by omega), if_pos (by omega)]; exact h_84.trans (if_neg (by decide))))⟩))⟩)
        · refine lv_tableIn (tgt := 75) hx hb dX12_classes_12 (by first | (rw [c_57]; decide) | omega) (by first | (rw [c_57]; decide) | omega) (by rw [c_57]; rfl) (by decide) ?_
          refine lv_aload_n hx hb dX12_classes_75 rfl (lv_at hl 0 rfl) ?_
          refine lv_iload_n hx hb dX12_classes_76 rfl (lv_at hl 2 rfl) ?_
          refine z_Vi (bc := [[zO11 mo m_all m_has i_size i_next i_where i_token i_number i_word i_wrong i_farCrossing m_read 661 j_crossings_2 j_inns_3 m_posts m_shut m_here j_steps_4 j_done_5 i_at i_gone m_was m_came m_seenAt m_rowWorth m_farBy m_used i_everywhere i_again0 i_d0 i_never i_firstCame i_longRun i_moved i_crowd i_l0 i_fitMany i_fitLeast i_fitMost m_fitPost m_fitEnd m_keptPosts i_x0], [zAr T 0 m_all 3952 f_all]]) (br := [[zAr T 0 m_farBy 49 f_farBy], [zAr T 0 m_posts 7 g_posts_6], [zAr T 0 m_shut 7 g_shut_7], [zAr T 0 m_here 7 g_here_8]]) (As := [.int w_]) (rest := []) C G (c_fm_crossingsOf l T mo m_all m_has i_size i_next i_where i_token i_number i_word i_wrong i_farCrossing m_read 661 j_crossings_2 j_inns_3 m_posts m_shut m_here j_steps_4 j_done_5 i_at i_gone m_was m_came m_seenAt m_rowWorth m_farBy m_used i_everywhere i_again0 i_d0 i_never i_firstCame i_longRun i_moved i_crowd i_l0 i_fitMany i_fitLeast i_fitMost m_fitPost m_fitEnd m_keptPosts i_x0 f_all w_ (by first | with_reducible assumption | with_reducible rfl | omega | assumption | rfl | decide) (zVA_0 hVA (Or.inr rfl))) (kV_RX12_275 C.2.2.2.2 (Nat.le_of_ble_eq_true rfl) (Nat.le_of_ble_eq_true rfl)) [1, 2] [1, 0] rfl rfl (ci := 11) (qc := (RX12, TX12, 43)) rfl rfl (List.mem_flatten.mpr ⟨_, List.mem_of_getElem? (i := 0) rfl, List.mem_cons_self⟩) rfl rfl hl.1 dX12_classes_77 (Nat.le_of_ble_eq_true rfl) (Nat.le_of_ble_eq_true rfl) (fun r_87 b1 H locs hw G => ?_)
          refine zAn2 hw ?_
          intro hbs9 h_86
          clear hw
          subst hbs9
          have G : zS T A s.heap s [[zAr T 0 m_farBy 49 f_farBy], [zAr T 0 m_posts 7 g_posts_6], [zAr T 0 m_shut 7 g_shut_7], [zAr T 0 m_here 7 g_here_8], [zO11 mo m_all m_has i_size i_next i_where i_token i_number i_word i_wrong i_farCrossing m_read 661 j_crossings_2 j_inns_3 m_posts m_shut m_here j_steps_4 j_done_5 i_at i_gone m_was m_came m_seenAt m_rowWorth m_farBy m_used i_everywhere i_again0 i_d0 i_never i_firstCame i_longRun i_moved i_crowd i_l0 i_fitMany i_fitLeast i_fitMost m_fitPost m_fitEnd m_keptPosts i_x0], [zAr T 0 m_all 3952 f_all]] _ _ := G
          have G := G.sub (bs' := [[zO11 mo m_all m_has i_size i_next i_where i_token i_number i_word i_wrong i_farCrossing m_read 661 j_crossings_2 j_inns_3 m_posts m_shut m_here j_steps_4 j_done_5 i_at i_gone m_was m_came m_seenAt m_rowWorth m_farBy m_used i_everywhere i_again0 i_d0 i_never i_firstCame i_longRun i_moved i_crowd i_l0 i_fitMany i_fitLeast i_fitMost m_fitPost m_fitEnd m_keptPosts i_x0], [zAr T 0 m_all 3952 f_all], [zAr T 0 m_posts 7 g_posts_6], [zAr T 0 m_shut 7 g_shut_7], [zAr T 0 m_here 7 g_here_8], [zAr T 0 m_farBy 49 f_farBy]]) [4, 5, 1, 2, 3, 0] rfl
          exact z_back hQz_ (z_iret C hr hlocks G (Nat.le_of_ble_eq_true rfl) (Nat.le_of_ble_eq_true rfl) dX12_classes_80 ⟨661, j_crossings_2, j_inns_3, j_steps_4, j_done_5, g_posts_6, g_shut_7, g_here_8, f_farBy, rfl, (Or.inr (Or.inr ⟨by first | with_reducible assumption | assumption, by omega, (by unfold pClasses; rw [show pW f_all 661 = zWo f_all 661 j_inns_3 from congrArg (zWo f_all 661) h_17.symm, ← hLx.2.1, show f_all ((661 : Int32).toInt.toNat + 1) = j_inns_3 from h_17.symm]; unfold rCs; rcases h_86 with ⟨q1, q2⟩ | ⟨q1, q2⟩ | ⟨q1, q3, q2⟩ <;> first | (exfalso; omega) | (rw [if_neg (by omega), if_neg (by omega), if_pos (by omega)]; exact q2) | (rw [if_neg (by omega), if_neg (by omega), if_neg (by omega), if_pos (by omega)]; exact q2) | (rw [if_neg (by omega), if_neg (by omega), if_neg (by omega), if_neg (by omega), if_neg (by omega), if_neg (by omega), if_pos (by omega)]; exact q2))⟩))⟩)
        · refine lv_tableIn (tgt := 96) hx hb dX12_classes_12 (by first | (rw [c_57]; decide) | omega) (by first | (rw [c_57]; decide) | omega) (by rw [c_57]; rfl) (by decide) ?_
          refine lv_aload_n hx hb dX12_classes_96 rfl (lv_at hl 0 rfl) ?_
          refine z_Vi (bc := [[zO11 mo m_all m_has i_size i_next i_where i_token i_number i_word i_wrong i_farCrossing m_read 661 j_crossings_2 j_inns_3 m_posts m_shut m_here j_steps_4 j_done_5 i_at i_gone m_was m_came m_seenAt m_rowWorth m_farBy m_used i_everywhere i_again0 i_d0 i_never i_firstCame i_longRun i_moved i_crowd i_l0 i_fitMany i_fitLeast i_fitMost m_fitPost m_fitEnd m_keptPosts i_x0], [zAr T 0 m_all 3952 f_all]]) (br := [[zAr T 0 m_farBy 49 f_farBy], [zAr T 0 m_posts 7 g_posts_6], [zAr T 0 m_shut 7 g_shut_7], [zAr T 0 m_here 7 g_here_8]]) (As := []) (rest := []) C G (c_fm_busyOf l T mo m_all m_has i_size i_next i_where i_token i_number i_word i_wrong i_farCrossing m_read 661 j_crossings_2 j_inns_3 m_posts m_shut m_here j_steps_4 j_done_5 i_at i_gone m_was m_came m_seenAt m_rowWorth m_farBy m_used i_everywhere i_again0 i_d0 i_never i_firstCame i_longRun i_moved i_crowd i_l0 i_fitMany i_fitLeast i_fitMost m_fitPost m_fitEnd m_keptPosts i_x0 f_all (by first | with_reducible assumption | with_reducible rfl | omega | assumption | rfl | decide) (zVA_0 hVA (Or.inr rfl))) (kV_RX12_281 C.2.2.2.2 (Nat.le_of_ble_eq_true rfl) (Nat.le_of_ble_eq_true rfl)) [1, 2] [1, 0] rfl rfl (ci := 11) (qc := (RX12, TX12, 43)) rfl rfl (List.mem_flatten.mpr ⟨_, List.mem_of_getElem? (i := 0) rfl, List.mem_cons_self⟩) rfl rfl hl.1 dX12_classes_97 (Nat.le_of_ble_eq_true rfl) (Nat.le_of_ble_eq_true rfl) (fun r_89 b1 H locs hw G => ?_)
          refine zAn2 hw ?_
          intro hbs9 h_88
          clear hw
          subst hbs9
          have G : zS T A s.heap s [[zAr T 0 m_farBy 49 f_farBy], [zAr T 0 m_posts 7 g_posts_6], [zAr T 0 m_shut 7 g_shut_7], [zAr T 0 m_here 7 g_here_8], [zO11 mo m_all m_has i_size i_next i_where i_token i_number i_word i_wrong i_farCrossing m_read 661 j_crossings_2 j_inns_3 m_posts m_shut m_here j_steps_4 j_done_5 i_at i_gone m_was m_came m_seenAt m_rowWorth m_farBy m_used i_everywhere i_again0 i_d0 i_never i_firstCame i_longRun i_moved i_crowd i_l0 i_fitMany i_fitLeast i_fitMost m_fitPost m_fitEnd m_keptPosts i_x0], [zAr T 0 m_all 3952 f_all]] _ _ := G
          have G := G.sub (bs' := [[zO11 mo m_all m_has i_size i_next i_where i_token i_number i_word i_wrong i_farCrossing m_read 661 j_crossings_2 j_inns_3 m_posts m_shut m_here j_steps_4 j_done_5 i_at i_gone m_was m_came m_seenAt m_rowWorth m_farBy m_used i_everywhere i_again0 i_d0 i_never i_firstCame i_longRun i_moved i_crowd i_l0 i_fitMany i_fitLeast i_fitMost m_fitPost m_fitEnd m_keptPosts i_x0], [zAr T 0 m_all 3952 f_all], [zAr T 0 m_posts 7 g_posts_6], [zAr T 0 m_shut 7 g_shut_7], [zAr T 0 m_here 7 g_here_8], [zAr T 0 m_farBy 49 f_farBy]]) [4, 5, 1, 2, 3, 0] rfl
          exact z_back hQz_ (z_iret C hr hlocks G (Nat.le_of_ble_eq_true rfl) (Nat.le_of_ble_eq_true rfl) dX12_classes_100 ⟨661, j_crossings_2, j_inns_3, j_steps_4, j_done_5, g_posts_6, g_shut_7, g_here_8, f_farBy, rfl, (Or.inr (Or.inr ⟨by first | with_reducible assumption | assumption, by omega, (by unfold pClasses; rw [show pW f_all 661 = zWo f_all 661 j_inns_3 from congrArg (zWo f_all 661) h_17.symm, ← hLx.2.1, show f_all ((661 : Int32).toInt.toNat + 1) = j_inns_3 from h_17.symm]; unfold rCs; rw [if_neg (by omega), if_neg (by omega), if_neg (by omega), if_neg (by omega), if_neg (by omega), if_neg (by omega), if_neg (by omega), if_pos (by omega)]; exact h_88)⟩))⟩)
  · have h_23 : (l_.toInt < 0 ∨ (f_all 0).toInt ≤ l_.toInt) := h_23
    refine lv_if_ne (tgt := 11) hx hb dX12_classes_5 (by decide) (fun q => absurd (by decide) q) (fun _ => ?_)
    refine lv_bipush (v := (-2)) hx hb dX12_classes_8 (by decide) ?_
    have G := G.sub (bs' := [[zO11 mo m_all m_has i_size i_next i_where i_token i_number i_word i_wrong i_farCrossing m_read j_z0_1 j_crossings_2 j_inns_3 m_posts m_shut m_here j_steps_4 j_done_5 i_at i_gone m_was m_came m_seenAt m_rowWorth m_farBy m_used i_everywhere i_again0 i_d0 i_never i_firstCame i_longRun i_moved i_crowd i_l0 i_fitMany i_fitLeast i_fitMost m_fitPost m_fitEnd m_keptPosts i_x0], [zAr T 0 m_all 3952 f_all], [zAr T 0 m_posts 7 g_posts_6], [zAr T 0 m_shut 7 g_shut_7], [zAr T 0 m_here 7 g_here_8], [zAr T 0 m_farBy 49 f_farBy]]) [1, 2, 3, 4, 5, 0] rfl
    exact z_back hQz_ (z_iret C hr hlocks G (Nat.le_of_ble_eq_true rfl) (Nat.le_of_ble_eq_true rfl) dX12_classes_10 ⟨j_z0_1, j_crossings_2, j_inns_3, j_steps_4, j_done_5, g_posts_6, g_shut_7, g_here_8, f_farBy, rfl, (Or.inl ⟨by first | with_reducible assumption | assumption, rfl⟩)⟩)


-- ===== the words that every method may take with it =====
def zT : List Cond := lw_tbl.filter goodWord
theorem zmem {w : Cond} (i : Nat) (h : lw_tbl[i]? = some w) (hg : goodWord w = true) : w ∈ zT := List.mem_filter.mpr ⟨List.mem_of_getElem? h, hg⟩
-- ===== worlds as lists of blocks: a block is one cell, or a part of the world that stays closed =====
abbrev zTy : Type := va_G × (Nat → ClassId)
abbrev zTys (T : zTy) : List (ClassId × FieldType) := [(T.2 0, .int), (T.2 1, .byte), (T.2 2, .boolean), (T.2 3, .object "TurnedPosts$Land"), (T.2 4, .object "TurnedPosts$Day"), (T.2 5, .object "TurnedPosts$Log"), (T.2 6, .object "TurnedPosts$Told")]
def zNst : List (String × Nat × MethodName × String) := [(RX11, 9, yX9_init, RX11), (RX11, 26, yX7_init, RX11), (RX11, 33, yX6_init, RX11), (RX11, 40, yX1_init, RX11), (RX11, 47, yX10_init, RX11), (RX11, 54, yX0_init, RX11), (RX11, 64, yX3_init, RX11), (RX0, 13, yX4_init, RX11), (RX1, 11, yX6_init, RX11), (RX1, 24, yX4_init, RX11), (RX6, 11, yX4_init, RX11), (RX7, 11, yX4_init, RX11), (RX7, 20, yX2_init, RX11), (RX7, 27, yX5_init, RX11), (RX9, 25, yX4_init, RX11), (RX9, 32, yX2_init, RX11), (RX9, 39, yX5_init, RX11), (RX10, 11, yX6_init, RX11)]
def zAOs : List String := ["TurnedPosts$Land", "TurnedPosts$Day", "TurnedPosts$Log", "TurnedPosts$Told"]
def zX (U : State) : Prop := (∀ q ∈ zNst, va_Nw (.methodLinkNest q.1 q.2.1 q.2.2.1 q.2.2.2) U) ∧ ∀ C ∈ zAOs, va_AO C U
theorem zX.warm {s U : State} (hW : s.WarmedH U.vm) (h : zX s) : zX U := ⟨fun q hq => va_Nw.warmM hW (h.1 q hq), fun C hC => va_AO.moved hW.alike (h.2 C hC)⟩
theorem zX.same {s U : State} (e : s.vm = U.vm) (h : zX s) : zX U := ⟨fun q hq => va_Nw.same rfl e (h.1 q hq), fun C hC => va_AO.moved (by rw [e]; exact Vm.Alike.refl _) (h.2 C hC)⟩
-- ===== constants: strings, the drawn deeds' table, two statics of the JDK's =====
def zLen : List Nat := [5, 4, 7, 3, 4, 5, 2, 3, 4, 3, 4, 4]
def zByt : List (List Int32) := [[99, 114, 111, 115, 115], [112, 111, 115, 116], [119, 97, 108, 107, 101, 114, 115], [105, 110, 110], [99, 97, 109, 101], [110, 101, 118, 101, 114], [103, 111], [114, 117, 110], [116, 117, 114, 110], [97, 100, 100], [115, 104, 117, 116], [111, 112, 101, 110]]
def zTx : List String := ["cross", "post", "walkers", "inn", "came", "never", "go", "run", "turn", "add", "shut", "open"]
def zKp : List Nat := [160, 166, 167, 168, 170, 172, 174, 176, 178, 180, 181, 183]
def zDD : List Int32 := [0, 0, 0, 0, 1, 2, 3, 3, 4, 5]
def zU (T : zTy) (A : Nat → Prop) (U : State) (H : Heap) : Prop :=
  vk_S 12 zLen zByt (fun i => T.2 (100 + i)) (fun i => T.2 (200 + i)) A U H ∧ va_Z "TurnedPosts" "DRAWN_DEEDS" "[I" (.ref (T.2 300)) A U H ∧ va_T .int (T.2 300) 10 (fun i => .int (zDD.getD i 0)) A U H ∧ va_Z "java/lang/String" "COMPACT_STRINGS" "Z" (.int 1) A U H ∧ va_Zq "jdk/internal/util/Preconditions" "SIOOBE_FORMATTER" "Ljava/util/function/BiFunction;" A U H ∧ (∀ i : Nat, i < 12 → vk_R "TurnedPosts$Reader" (zKp.getD i 0) (zTx.getD i "") (T.2 (100 + i)) U) ∧ va_Nw (.fieldLinkNest "TurnedPosts$Course" 81 "TurnedPosts" "DRAWN_DEEDS" "[I" "TurnedPosts") U
theorem zU.kn {T : zTy} {A B : Nat → Prop} {U : State} {H H1 : Heap} (h : zU T A U H) (hq : ∀ a : Nat, a < H.size → ¬ A a → H1[a]? = H[a]?) (hAB : ∀ q, B q → A q) : zU T B U H1 :=
  ⟨(h.1.kept hq).narrow hAB, (h.2.1.kept hq).narrow hAB, (h.2.2.1.kept hq).narrow hAB, (h.2.2.2.1.kept hq).narrow hAB, (h.2.2.2.2.1.kept hq).narrow hAB, h.2.2.2.2.2⟩
theorem zU.warm {T : zTy} {A : Nat → Prop} {s U : State} {H : Heap} (hW : s.WarmedH U.vm) (h : zU T A s H) : zU T A U H :=
  ⟨h.1.moved hW.alike, h.2.1.moved hW.alike, h.2.2.1.moved hW.alike, h.2.2.2.1.moved hW.alike, h.2.2.2.2.1.moved hW.alike, fun i hi => (h.2.2.2.2.2.1 i hi).warm hW, va_Nw.warmF hW h.2.2.2.2.2.2⟩
theorem zU.same {T : zTy} {A : Nat → Prop} {s U : State} {H : Heap} (e : s.vm = U.vm) (h : zU T A s H) : zU T A U H :=
  have a : s.vm.Alike U.vm := by rw [e]; exact Vm.Alike.refl _
  ⟨h.1.moved a, h.2.1.moved a, h.2.2.1.moved a, h.2.2.2.1.moved a, h.2.2.2.2.1.moved a, fun i hi => (h.2.2.2.2.2.1 i hi).same e.symm, va_Nw.same rfl e h.2.2.2.2.2.2⟩
theorem zZq {C n d : String} {A : Nat → Prop} {U : State} {H : Heap} (h : va_Zq C n d A U H) : ∃ q : Option Nat, va_Z C n d (va_rf q) A U H := by
  rcases h with h | ⟨t, h⟩
  · exact ⟨none, h⟩
  · exact ⟨some t, h⟩
def zS (T : zTy) (A : Nat → Prop) (H0 : Heap) (s : State) (bs : List va_W) (H : Heap) (locs : List Loc) : Prop :=
  va_K T.1 vwCl (zTys T) s ∧ va_P T.1 vwCl bs.flatten H ∧ va_D A bs.flatten ∧ va_S A H0 H locs ∧ (∀ q, H0.size ≤ q → A q) ∧ zX s ∧ zU T A s H0
theorem zfl : ∀ {bs : List va_W} {i : Nat} {c : Nat × va_E}, bs[i]? = some [c] → ∃ k, bs.flatten[k]? = some c ∧ ∀ c', (bs.set i [c']).flatten = bs.flatten.set k c'
  | [], i, c, h => by simp at h
  | b :: bs, 0, c, h => by
    simp at h
    subst h
    exact ⟨0, by simp, fun c' => by simp⟩
  | b :: bs, i + 1, c, h => by
    rw [List.getElem?_cons_succ] at h
    obtain ⟨k, h1, h2⟩ := zfl h
    refine ⟨b.length + k, ?_, fun c' => ?_⟩
    · rw [List.flatten_cons, List.getElem?_append_right (by omega)]
      simpa using h1
    · rw [List.set_cons_succ, List.flatten_cons, List.flatten_cons, h2, List.set_append, if_neg (by omega)]
      simp
theorem zP_mem {D : va_G} {cl : List vw_C} {ws : va_W} {H : Heap} : va_P D cl ws H ↔ ∀ q ∈ ws, va_at D cl q H :=
  ⟨fun h q hq => by
    obtain ⟨k, hk⟩ := List.getElem?_of_mem hq
    exact h k q hk, fun h k q hk => h q (List.mem_of_getElem? hk)⟩
theorem zD_iff {A : Nat → Prop} {ws : va_W} : va_D A ws ↔ ws.Pairwise (fun p q => p.1 ≠ q.1) ∧ ∀ q ∈ ws, A q.1 := by
  constructor
  · intro h
    refine ⟨List.pairwise_iff_getElem.mpr (fun i j hi hj hij e => ?_), fun q hq => ?_⟩
    · exact absurd (h.1 i j _ _ (List.getElem?_eq_getElem hi) (List.getElem?_eq_getElem hj) e) (by omega)
    · obtain ⟨k, hk⟩ := List.getElem?_of_mem hq
      exact h.2 k q hk
  · intro h
    refine ⟨fun i j p q hi hj e => ?_, fun k q hk => h.2 q (List.mem_of_getElem? hk)⟩
    obtain ⟨hi1, hi2⟩ := List.getElem?_eq_some_iff.mp hi
    obtain ⟨hj1, hj2⟩ := List.getElem?_eq_some_iff.mp hj
    have hp := List.pairwise_iff_getElem.mp h.1
    rcases Nat.lt_trichotomy i j with g | g | g
    · exact absurd (by rw [hi2, hj2]; exact e) (hp i j hi1 hj1 g)
    · exact g
    · exact absurd (by rw [hi2, hj2]; exact e.symm) (hp j i hj1 hi1 g)
/-- blocks of a world, each at most once -/
theorem zP_sub {D : va_G} {cl : List vw_C} {bs bs' : List va_W} {H : Heap} (h : va_P D cl bs.flatten H) (is : List Nat) (hs : is.map (fun i => bs[i]?) = bs'.map some) : va_P D cl bs'.flatten H := by
  rw [zP_mem] at h ⊢
  intro q hq
  obtain ⟨b, hb, hqb⟩ := List.mem_flatten.mp hq
  have h1 : some b ∈ bs'.map some := List.mem_map.mpr ⟨b, hb, rfl⟩
  rw [← hs] at h1
  obtain ⟨i, -, hi⟩ := List.mem_map.mp h1
  exact h q (List.mem_flatten.mpr ⟨b, List.mem_of_getElem? hi, hqb⟩)
theorem zat {bs bs' : List va_W} {is : List Nat} (hs : is.map (fun i => bs[i]?) = bs'.map some) (k : Nat) (b : va_W) (hb : bs'[k]? = some b) : ∃ i, is[k]? = some i ∧ bs[i]? = some b := by
  have h1 : (is.map (fun i => bs[i]?))[k]? = some (some b) := by rw [hs, List.getElem?_map, hb]; rfl
  rw [List.getElem?_map] at h1
  cases hi : is[k]? with
  | none => rw [hi] at h1; cases h1
  | some i => rw [hi] at h1; exact ⟨i, rfl, Option.some.inj h1⟩
theorem zD_ne {A : Nat → Prop} {bs : List va_W} (h : va_D A bs.flatten) {i j : Nat} {a b : va_W} (hi : bs[i]? = some a) (hj : bs[j]? = some b) (hne : i ≠ j) : ∀ x ∈ a, ∀ y ∈ b, x.1 ≠ y.1 := by
  have h2 := (List.pairwise_flatten.mp (zD_iff.mp h).1).2
  obtain ⟨hi1, hi2⟩ := List.getElem?_eq_some_iff.mp hi
  obtain ⟨hj1, hj2⟩ := List.getElem?_eq_some_iff.mp hj
  have hp := List.pairwise_iff_getElem.mp h2
  intro x hx y hy
  rcases Nat.lt_or_gt_of_ne hne with g | g
  · exact hp i j hi1 hj1 g x (by rw [hi2]; exact hx) y (by rw [hj2]; exact hy)
  · exact Ne.symm (hp j i hj1 hi1 g y (by rw [hj2]; exact hy) x (by rw [hi2]; exact hx))
theorem zD_sub {A : Nat → Prop} {bs bs' : List va_W} (h : va_D A bs.flatten) (is : List Nat) (hn : va_nd is = true) (hs : is.map (fun i => bs[i]?) = bs'.map some) : va_D A bs'.flatten := by
  have h0 := zD_iff.mp h
  refine zD_iff.mpr ⟨List.pairwise_flatten.mpr ⟨fun b hb => ?_, List.pairwise_iff_getElem.mpr (fun i j hi hj hij x hx y hy => ?_)⟩, fun q hq => ?_⟩
  · obtain ⟨k, hk⟩ := List.getElem?_of_mem hb
    obtain ⟨i, -, hi⟩ := zat hs k b hk
    exact (List.pairwise_flatten.mp h0.1).1 b (List.mem_of_getElem? hi)
  · obtain ⟨a, a1, a2⟩ := zat hs i _ (List.getElem?_eq_getElem hi)
    obtain ⟨b, b1, b2⟩ := zat hs j _ (List.getElem?_eq_getElem hj)
    refine zD_ne h a2 b2 (fun e => ?_) x hx y hy
    subst e
    exact absurd (va_nd_inj is hn i j a a1 b1) (by omega)
  · obtain ⟨b, hb, hqb⟩ := List.mem_flatten.mp hq
    obtain ⟨k, hk⟩ := List.getElem?_of_mem hb
    obtain ⟨i, -, hi⟩ := zat hs k b hk
    exact h0.2 q (List.mem_flatten.mpr ⟨b, List.mem_of_getElem? hi, hqb⟩)
/-- places named once at most, by the bits of a number -/
def zk : Nat → List Nat → Bool
  | _, [] => true
  | m, i :: l => cond (Nat.testBit m i) false (zk (m ||| 2 ^ i) l)
theorem zk_nd : ∀ (l : List Nat) (m : Nat), zk m l = true → va_nd l = true ∧ ∀ i ∈ l, m.testBit i = false
  | [], m, _ => ⟨rfl, fun i h => absurd h List.not_mem_nil⟩
  | a :: l, m, h => by
    unfold zk at h
    cases hb : Nat.testBit m a with
    | true => rw [hb] at h; exact absurd (show false = true from h) (by decide)
    | false =>
      rw [hb] at h
      have h : zk (m ||| 2 ^ a) l = true := h
      obtain ⟨h1, h2⟩ := zk_nd l _ h
      have h3 : ∀ i ∈ l, m.testBit i = false ∧ ¬ i = a := fun i hi => by
        have q := h2 i hi
        rw [Nat.testBit_or, Bool.or_eq_false_iff] at q
        refine ⟨q.1, fun e => ?_⟩
        rw [e, Nat.testBit_two_pow_self] at q
        exact absurd q.2 (by decide)
      refine ⟨?_, fun i hi => ?_⟩
      · show (decide (a ∉ l) && va_nd l) = true
        rw [h1, Bool.and_true]
        exact decide_eq_true (fun q => (h3 a q).2 rfl)
      · rcases List.mem_cons.mp hi with e | e
        · rw [e]; exact hb
        · exact (h3 i e).1
/-- what is left of a row where single places are taken out: so many kept, one taken, so many kept, one taken .. -/
def zGp : List Nat → List va_W → List va_W
  | [], bs => bs
  | _ :: _, [] => []
  | 0 :: gs, _ :: bs => zGp gs bs
  | (g + 1) :: gs, b :: bs => b :: zGp (g :: gs) bs
def zDr : List Nat → Nat → List Nat
  | [], _ => []
  | g :: gs, k => (k + g) :: zDr gs (k + g + 1)
def zCk (isC gs : List Nat) : Bool := zk 0 isC && isC.all (fun i => (zDr gs 0).elem i)
theorem zDr_ge : ∀ (gs : List Nat) (k i : Nat), i ∈ zDr gs k → k ≤ i
  | [], _, _, h => absurd h List.not_mem_nil
  | g :: gs, k, i, h => by
    rcases List.mem_cons.mp h with e | e
    · omega
    · have := zDr_ge gs _ i e; omega
theorem zDr_s : ∀ (gs : List Nat) (k i : Nat), i + 1 ∈ zDr gs (k + 1) → i ∈ zDr gs k
  | [], _, _, h => absurd h List.not_mem_nil
  | g :: gs, k, i, h => by
    rcases List.mem_cons.mp h with e | e
    · exact List.mem_cons.mpr (Or.inl (by omega))
    · rw [show k + 1 + g + 1 = (k + g + 1) + 1 by omega] at e
      exact List.mem_cons.mpr (Or.inr (zDr_s gs (k + g + 1) i e))
theorem va_nd_s : ∀ (l : List Nat), va_nd l = true → va_nd (l.map (· + 1)) = true
  | [], _ => rfl
  | a :: l, h => by
    have h : (decide (a ∉ l) && va_nd l) = true := h
    rw [Bool.and_eq_true, decide_eq_true_eq] at h
    show (decide (a + 1 ∉ l.map (· + 1)) && va_nd (l.map (· + 1))) = true
    rw [va_nd_s l h.2, Bool.and_true]
    refine decide_eq_true (fun q => ?_)
    obtain ⟨x, hx, e⟩ := List.mem_map.mp q
    have e : x + 1 = a + 1 := e
    exact h.1 (by rw [show a = x by omega]; exact hx)
theorem va_nd_0 (l : List Nat) (h : va_nd l = true) : va_nd (0 :: l.map (· + 1)) = true := by
  show (decide (0 ∉ l.map (· + 1)) && va_nd (l.map (· + 1))) = true
  rw [va_nd_s l h, Bool.and_true]
  refine decide_eq_true (fun q => ?_)
  obtain ⟨x, _, e⟩ := List.mem_map.mp q
  have e : x + 1 = 0 := e
  omega
theorem zGp_at {b : va_W} {bs rs : List va_W} {is : List Nat} (h : is.map (fun i => bs[i]?) = rs.map some) : (is.map (· + 1)).map (fun i => (b :: bs)[i]?) = rs.map some := by
  rw [← h, List.map_map]
  exact List.map_congr_left (fun i _ => rfl)
theorem zGp_is : ∀ (bs : List va_W) (gs : List Nat), ∃ is : List Nat, va_nd is = true ∧ is.map (fun i => bs[i]?) = (zGp gs bs).map some ∧ ∀ i ∈ is, i ∉ zDr gs 0
  | [], gs => ⟨[], rfl, by cases gs <;> rfl, fun i h => absurd h List.not_mem_nil⟩
  | b :: bs, [] => by
    obtain ⟨is, h1, h2, _⟩ := zGp_is bs []
    have h2 : is.map (fun i => bs[i]?) = bs.map some := by cases bs <;> exact h2
    exact ⟨0 :: is.map (· + 1), va_nd_0 is h1, congrArg (some b :: ·) (zGp_at (b := b) h2), fun i _ h => absurd h List.not_mem_nil⟩
  | b :: bs, 0 :: gs => by
    obtain ⟨is, h1, h2, h3⟩ := zGp_is bs gs
    refine ⟨is.map (· + 1), va_nd_s is h1, zGp_at (b := b) h2, fun i hi h => ?_⟩
    obtain ⟨x, hx, e⟩ := List.mem_map.mp hi
    have e : x + 1 = i := e
    rcases List.mem_cons.mp h with q | q
    · omega
    · rw [← e] at q; exact h3 x hx (zDr_s gs 0 x q)
  | b :: bs, (g + 1) :: gs => by
    obtain ⟨is, h1, h2, h3⟩ := zGp_is bs (g :: gs)
    refine ⟨0 :: is.map (· + 1), va_nd_0 is h1, congrArg (some b :: ·) (zGp_at (b := b) h2), fun i hi h => ?_⟩
    rcases List.mem_cons.mp hi with e | e
    · rcases List.mem_cons.mp h with q | q
      · omega
      · have := zDr_ge gs _ i q; omega
    · obtain ⟨x, hx, e⟩ := List.mem_map.mp e
      have e : x + 1 = i := e
      rw [← e] at h
      refine h3 x hx ?_
      rcases List.mem_cons.mp h with q | q
      · exact List.mem_cons.mpr (Or.inl (by omega))
      · rw [show 0 + (g + 1) + 1 = (0 + g + 1) + 1 by omega] at q
        exact List.mem_cons.mpr (Or.inr (zDr_s gs (0 + g + 1) x q))
theorem zCk_s {isC gs : List Nat} (h : zCk isC gs = true) : va_nd isC = true ∧ ∀ i ∈ isC, i ∈ zDr gs 0 := by
  unfold zCk at h
  rw [Bool.and_eq_true] at h
  exact ⟨(zk_nd isC 0 h.1).1, fun i hi => List.elem_iff.mp (List.all_eq_true.mp h.2 i hi)⟩
theorem zS.sub {T : zTy} {A : Nat → Prop} {H0 : Heap} {s : State} {bs bs' : List va_W} {H : Heap} {locs : List Loc} (h : zS T A H0 s bs H locs) (is : List Nat) (hs : is.map (fun i => bs[i]?) = bs'.map some) (hn : zk 0 is = true := by decide +kernel) : zS T A H0 s bs' H locs :=
  ⟨h.1, zP_sub h.2.1 is hs, zD_sub h.2.2.1 is (zk_nd is 0 hn).1 hs, h.2.2.2⟩
/-- the same cells, cut into other blocks -/
theorem zS.re {T : zTy} {A : Nat → Prop} {H0 : Heap} {s : State} {bs bs' : List va_W} {H : Heap} {locs : List Loc} (h : zS T A H0 s bs H locs) (e : bs.flatten = bs'.flatten) : zS T A H0 s bs' H locs :=
  ⟨h.1, by rw [← e]; exact h.2.1, by rw [← e]; exact h.2.2.1, h.2.2.2⟩
-- ===== a method's contract =====
def zW (y : MethodName) (b : ByteArray) (n : Nat) (ret : Option FieldType) : List Cond := .code y b n ret :: zT
def zPre (T : zTy) (av : List Value) (bs : List va_W) (sz : Nat) : Array Value → State → Prop := va_Pc av (fun U => U.heap.size = sz ∧ va_P T.1 vwCl bs.flatten U.heap ∧ va_K T.1 vwCl (zTys T) U ∧ va_D (fun _ => True) bs.flatten ∧ zX U ∧ zU T (va_A bs.flatten sz) U U.heap)
def zB (T : zTy) (A : Nat → Prop) (bs : List va_W) (t : State) : Prop := va_P T.1 vwCl bs.flatten t.heap ∧ va_K T.1 vwCl (zTys T) t ∧ va_D A bs.flatten
abbrev zR (d mc ms : Nat) : Room := { frames := d, cells := mc, slots := ms, locals := 40 * d }
def zMi (l : Launch) (T : zTy) (y : MethodName) (b : ByteArray) (n : Nat) (ret : Option FieldType) (d mc ms : Nat) (av : List Value) (bs : List va_W) (post : Int32 → List va_W → Prop) : Prop :=
  ∀ sz : Nat, Met l y (zW y b n ret) (zR d mc ms) (zPre T av bs sz) (va_Qi post (zB T (va_A bs.flatten sz)) (va_A bs.flatten sz)) mc ms (va_A bs.flatten sz)
def zMv (l : Launch) (T : zTy) (y : MethodName) (b : ByteArray) (n : Nat) (d mc ms : Nat) (av : List Value) (bs : List va_W) (post : List va_W → Prop) : Prop :=
  ∀ sz : Nat, Met l y (zW y b n none) (zR d mc ms) (zPre T av bs sz) (va_Qv post (zB T (va_A bs.flatten sz)) (va_A bs.flatten sz)) mc ms (va_A bs.flatten sz)
def zMq (l : Launch) (T : zTy) (y : MethodName) (b : ByteArray) (n : Nat) (ret : Option FieldType) (d mc ms : Nat) (av : List Value) (bs : List va_W) (post : Option Nat → List va_W → Prop) : Prop :=
  ∀ sz : Nat, Met l y (zW y b n ret) (zR d mc ms) (zPre T av bs sz) (va_Qq post (zB T (va_A bs.flatten sz)) (va_A bs.flatten sz)) mc ms (va_A bs.flatten sz)
/-- a method's body from its entry -/
abbrev zBody (l : Launch) (T : zTy) (y : MethodName) (own : String) (b : ByteArray) (n : Nat) (ret : Option FieldType) (d mc ms : Nat) (av : List Value) (bs : List va_W) (Qc : (Nat → Prop) → Array Value → State → Outcome → State → Prop) : Prop :=
  ∀ (p : Program) (e : Env) (s : State) (m : MethodId) (args : Array Value) (below : List Frame) (meth : Method) (c : Code) (A : Nat → Prop) (ls : Array Slot), CallFix p m c b n s args zT own → meth.sig.returnType = ret → meth.locks = false → meth.name = y.name →
    A = va_A bs.flatten s.heap.size → zS T A s.heap s bs s.heap [] → lv_has ls n (lv_args 0 av) → W p l e (zR d mc ms) s m args below meth c s.heap [] 0 0 (MQ below (Qc A) args s mc ms A) (F0 m 0 ls [])
theorem z_body {l : Launch} {T : zTy} {y : MethodName} {own : String} {b : ByteArray} {n : Nat} {ret : Option FieldType} {d mc ms : Nat} {av : List Value} {bs : List va_W} {Qc : (Nat → Prop) → Array Value → State → Outcome → State → Prop} (hy : plainName y.cls = true) (ho : y.cls = own) (hlen : (lg_sl av).length ≤ n)
    (k : zBody l T y own b n ret d mc ms av bs Qc) : ∀ sz : Nat, Met l y (zW y b n ret) (zR d mc ms) (zPre T av bs sz) (Qc (va_A bs.flatten sz)) mc ms (va_A bs.flatten sz) := by
  intro sz
  refine Met.ofW (cc := b) (maxL := n) (ret := ret) hy rfl ?_
  intro p e s m args below meth c s₁ B hml hv
  obtain ⟨rfl, hsz, hP, hK, hD0, hX, hU⟩ := hv
  subst hsz
  have hl := lv_entry av (n := n) hlen
  rw [lg_entry_eq]
  refine k p e s m _ below meth c _ _ ⟨B.exec, B.bytes, hml, ?_, fun w hw => atoms_spec (ws := zW y b n ret) B.pre w (List.mem_cons_of_mem _ hw)⟩ B.returns B.notSynchronized (name_of_methodNamed B.named B.method).1 rfl ?_ hl
  · rw [← ho]
    exact findClass_of_methodNamed B.named
  · exact ⟨hK, hP, hD0.self, va_S.rf, fun q h => Or.inr h, hX, hU⟩
-- ===== the rows, over blocks =====
section ZR
variable {p : Program} {l : Launch} {e : Env} {R : Room} {s : State} {m : MethodId} {args : Array Value} {below : List Frame} {meth : Method} {c : Code} {H : Heap} {locs : List Loc} {cells slots : Nat} {Q : State → Prop}
variable {cc : ByteArray} {nL pc : Nat} {ls : Array Slot} {rest : List Value} {T : zTy} {A : Nat → Prop} {a : Nat} {bs : List va_W} {H0 : Heap} {own : String}
/-- what is known of a class: its number, name, fields -/
def zCl (ci : Nat) (Cn : String) (Tt : u_T) (N : Nat) (ty : Nat → FieldType) : Prop := vwCl[ci]? = some (Cn, Tt, N) ∧ (∀ w ∈ u_ws Cn Tt N, w ∈ zT) ∧ (∀ k, k < N → parseFieldDescriptor (Tt k).2.2.1 = some (ty k)) ∧ (∀ a, a < N → ∀ b, b < N → a ≠ b → (Tt a).2.1 ≠ (Tt b).2.1)
theorem z_get (C : CallFix p m c cc nL s args zT own) (G : zS T A H0 s bs H locs) {Cn : String} {Tt : u_T} {ty : Nat → FieldType} {N ci index : Nat} (hz : zCl ci Cn Tt N ty) (i : Nat) {fs : List Value} (he : bs[i]? = some [(a, .inr (ci, fs))]) (k : Nat) (hk : k < N) (hlink : Cond.fieldLink own index (Tt k).1 (Tt k).2.1 (Tt k).2.2.1 ∈ zT) {v : Value} (hv : fs[k]? = some v) (hdg : decode cc pc = .ok (.getfield index, 3))
    (kk : W p l e R s m args below meth c H locs cells slots Q (F0 m (pc + 3) ls (v :: rest))) : W p l e R s m args below meth c H locs cells slots Q (F0 m pc ls (.ref a :: rest)) := by
  obtain ⟨j, hj, -⟩ := zfl he
  exact va_get (D := T.1) (ci := ci) C.1 C.2.1 C.2.2.2.2 hz.2.1 C.2.2.2.1 G.1 G.2.1 j hj hz.1 k hk (C.2.2.2.2 _ hlink) (fun _ h => h) hv hdg kk
theorem z_put (C : CallFix p m c cc nL s args zT own) (G : zS T A H0 s bs H locs) {Cn : String} {Tt : u_T} {ty : Nat → FieldType} {N ci index : Nat} (hz : zCl ci Cn Tt N ty) (i : Nat) {fs : List Value} (he : bs[i]? = some [(a, .inr (ci, fs))]) (k : Nat) (hk : k < N) (hlink : Cond.fieldLink own index (Tt k).1 (Tt k).2.1 (Tt k).2.2.1 ∈ zT) (hfin : (Tt k).2.2.2 = false) {v : Value} (hn : narrow (ty k) v = v) (hfit : fits (ty k) v = true) (hl : k < fs.length) (hdg : decode cc pc = .ok (.putfield index, 3))
    (kk : ∀ (H1 : Heap) (locs1 : List Loc), zS T A H0 s (bs.set i [(a, .inr (ci, fs.set k v))]) H1 locs1 → W p l e R s m args below meth c H1 locs1 cells slots Q (F0 m (pc + 3) ls rest)) : W p l e R s m args below meth c H locs cells slots Q (F0 m pc ls (v :: .ref a :: rest)) := by
  obtain ⟨j, hj, hset⟩ := zfl he
  refine va_put (D := T.1) (ci := ci) C.1 C.2.1 C.2.2.2.2 hz.2.1 ty hz.2.2.1 hz.2.2.2 C.2.2.2.1 G.1 G.2.1 G.2.2.1 G.2.2.2.1 j hj hz.1 k hk (C.2.2.2.2 _ hlink) (fun _ h => h) hfin (hz.2.2.1 k hk) hn hfit hl hdg (fun H1 locs1 hP hD hS => kk H1 locs1 ⟨G.1, ?_, ?_, hS, G.2.2.2.2⟩)
  · rw [hset]; exact hP
  · rw [hset]; exact hD
theorem z_putF (C : CallFix p m c cc nL s args zT own) (G : zS T A H0 s bs H locs) (hin : meth.name = "<init>") {Cn : String} {Tt : u_T} {ty : Nat → FieldType} {N ci index : Nat} (hz : zCl ci Cn Tt N ty) (i : Nat) {fs : List Value} (he : bs[i]? = some [(a, .inr (ci, fs))]) (k : Nat) (hk : k < N) (hlink : Cond.fieldLink own index (Tt k).1 (Tt k).2.1 (Tt k).2.2.1 ∈ zT) (hfin : (Tt k).2.2.2 = true) (hdecl : (Tt k).1 = own) {v : Value} (hn : narrow (ty k) v = v) (hfit : fits (ty k) v = true) (hl : k < fs.length) (hdg : decode cc pc = .ok (.putfield index, 3))
    (kk : ∀ (H1 : Heap) (locs1 : List Loc), zS T A H0 s (bs.set i [(a, .inr (ci, fs.set k v))]) H1 locs1 → W p l e R s m args below meth c H1 locs1 cells slots Q (F0 m (pc + 3) ls rest)) : W p l e R s m args below meth c H locs cells slots Q (F0 m pc ls (v :: .ref a :: rest)) := by
  obtain ⟨j, hj, hset⟩ := zfl he
  refine va_putF (D := T.1) (ci := ci) C.1 C.2.1 C.2.2.2.2 hz.2.1 ty hz.2.2.1 hz.2.2.2 C.2.2.2.1 G.1 G.2.1 G.2.2.1 G.2.2.2.1 j hj hz.1 k hk (C.2.2.2.2 _ hlink) (fun _ h => h) hfin hin hdecl (hz.2.2.1 k hk) hn hfit hl hdg (fun H1 locs1 hP hD hS => kk H1 locs1 ⟨G.1, ?_, ?_, hS, G.2.2.2.2⟩)
  · rw [hset]; exact hP
  · rw [hset]; exact hD
theorem z_new (C : CallFix p m c cc nL s args zT own) (G : zS T A H0 s bs H locs) {Cn : String} {Tt : u_T} {ty : Nat → FieldType} {N ci index : Nat} (hz : zCl ci Cn Tt N ty) (hcl : Cond.classLink own index Cn ∈ zT) (hinst : Cond.instantiable Cn N ∈ zT) (hini : Cond.initialized Cn ∈ zT) {fs : List Value} (hfs : ∀ j, j < N → defaultValue (ty j) = vp_V fs j) (hcells : cells + 1 ≤ R.cells) (hslots : slots + N ≤ R.slots) (hdg : decode cc pc = .ok (.new index, 3))
    (kk : ∀ (q : Nat) (H1 : Heap), zS T A H0 s (bs ++ [[(q, .inr (ci, fs))]]) H1 locs → W p l e R s m args below meth c H1 locs (cells + 1) (slots + N) Q (F0 m (pc + 3) ls (.ref q :: rest))) : W p l e R s m args below meth c H locs cells slots Q (F0 m pc ls rest) := by
  refine va_new (D := T.1) (ci := ci) C.1 C.2.1 C.2.2.2.2 hz.2.1 ty hz.2.2.1 C.2.2.2.1 (C.2.2.2.2 _ hcl) (C.2.2.2.2 _ hinst) (C.2.2.2.2 _ hini) G.1 G.2.1 G.2.2.1 G.2.2.2.1 G.2.2.2.2.1 hz.1 hfs hcells hslots hdg (fun q H1 hP hD hS => kk q H1 ⟨G.1, ?_, ?_, hS, G.2.2.2.2⟩)
  · rw [List.flatten_append]; exact hP
  · rw [List.flatten_append]; exact hD
theorem z_ild (C : CallFix p m c cc nL s args zT own) (G : zS T A H0 s bs H locs) (i : Nat) {n : Nat} {f : Nat → Int32} (ha : bs[i]? = some [(a, .inl (T.2 0, n, .inl f))]) {x : Int32} (hin : vp_in x n) (hdg : decode cc pc = .ok (.iaload, 1))
    (kk : W p l e R s m args below meth c H locs cells slots Q (F0 m (pc + 1) ls (.int (f x.toNatClampNeg) :: rest))) : W p l e R s m args below meth c H locs cells slots Q (F0 m pc ls (.int x :: .ref a :: rest)) := by
  obtain ⟨j, hj, -⟩ := zfl ha
  exact va_iald C.1 C.2.1 G.1 G.2.1 j 0 hj rfl hin hdg kk
theorem z_bld (C : CallFix p m c cc nL s args zT own) (G : zS T A H0 s bs H locs) (i : Nat) {n : Nat} {f : Nat → Int32} (ha : bs[i]? = some [(a, .inl (T.2 1, n, .inl f))]) {x : Int32} (hin : vp_in x n) (hdg : decode cc pc = .ok (.baload, 1))
    (kk : W p l e R s m args below meth c H locs cells slots Q (F0 m (pc + 1) ls (.int (f x.toNatClampNeg) :: rest))) : W p l e R s m args below meth c H locs cells slots Q (F0 m pc ls (.int x :: .ref a :: rest)) := by
  obtain ⟨j, hj, -⟩ := zfl ha
  exact va_bald C.1 C.2.1 G.1 G.2.1 j 1 hj rfl hin hdg kk
theorem z_zld (C : CallFix p m c cc nL s args zT own) (G : zS T A H0 s bs H locs) (i : Nat) {n : Nat} {f : Nat → Int32} (ha : bs[i]? = some [(a, .inl (T.2 2, n, .inl f))]) {x : Int32} (hin : vp_in x n) (hdg : decode cc pc = .ok (.baload, 1))
    (kk : W p l e R s m args below meth c H locs cells slots Q (F0 m (pc + 1) ls (.int (f x.toNatClampNeg) :: rest))) : W p l e R s m args below meth c H locs cells slots Q (F0 m pc ls (.int x :: .ref a :: rest)) := by
  obtain ⟨j, hj, -⟩ := zfl ha
  exact va_zald C.1 C.2.1 G.1 G.2.1 j 2 hj rfl hin hdg kk
theorem z_ist (C : CallFix p m c cc nL s args zT own) (G : zS T A H0 s bs H locs) (i : Nat) {n : Nat} {f : Nat → Int32} (ha : bs[i]? = some [(a, .inl (T.2 0, n, .inl f))]) {x v : Int32} (hin : vp_in x n) (hdg : decode cc pc = .ok (.iastore, 1))
    (kk : ∀ (H1 : Heap) (locs1 : List Loc), zS T A H0 s (bs.set i [(a, .inl (T.2 0, n, .inl (upd f x.toNatClampNeg v)))]) H1 locs1 → W p l e R s m args below meth c H1 locs1 cells slots Q (F0 m (pc + 1) ls rest)) : W p l e R s m args below meth c H locs cells slots Q (F0 m pc ls (.int v :: .int x :: .ref a :: rest)) := by
  obtain ⟨j, hj, hset⟩ := zfl ha
  refine va_iast C.1 C.2.1 G.1 G.2.1 G.2.2.1 G.2.2.2.1 j 0 hj rfl hin hdg (fun H1 locs1 hP hD hS => kk H1 locs1 ⟨G.1, ?_, ?_, hS, G.2.2.2.2⟩)
  · rw [hset]; exact hP
  · rw [hset]; exact hD
theorem z_bst (C : CallFix p m c cc nL s args zT own) (G : zS T A H0 s bs H locs) (i : Nat) {n : Nat} {f : Nat → Int32} (ha : bs[i]? = some [(a, .inl (T.2 1, n, .inl f))]) {x v : Int32} (hin : vp_in x n) (hdg : decode cc pc = .ok (.bastore, 1))
    (kk : ∀ (H1 : Heap) (locs1 : List Loc), zS T A H0 s (bs.set i [(a, .inl (T.2 1, n, .inl (upd f x.toNatClampNeg (vp_nar .byte v))))]) H1 locs1 → W p l e R s m args below meth c H1 locs1 cells slots Q (F0 m (pc + 1) ls rest)) : W p l e R s m args below meth c H locs cells slots Q (F0 m pc ls (.int v :: .int x :: .ref a :: rest)) := by
  obtain ⟨j, hj, hset⟩ := zfl ha
  refine va_bast C.1 C.2.1 G.1 G.2.1 G.2.2.1 G.2.2.2.1 j 1 hj rfl hin hdg (fun H1 locs1 hP hD hS => kk H1 locs1 ⟨G.1, ?_, ?_, hS, G.2.2.2.2⟩)
  · rw [hset]; exact hP
  · rw [hset]; exact hD
theorem z_zst (C : CallFix p m c cc nL s args zT own) (G : zS T A H0 s bs H locs) (i : Nat) {n : Nat} {f : Nat → Int32} (ha : bs[i]? = some [(a, .inl (T.2 2, n, .inl f))]) {x v : Int32} (hin : vp_in x n) (hdg : decode cc pc = .ok (.bastore, 1))
    (kk : ∀ (H1 : Heap) (locs1 : List Loc), zS T A H0 s (bs.set i [(a, .inl (T.2 2, n, .inl (upd f x.toNatClampNeg (vp_nar .boolean v))))]) H1 locs1 → W p l e R s m args below meth c H1 locs1 cells slots Q (F0 m (pc + 1) ls rest)) : W p l e R s m args below meth c H locs cells slots Q (F0 m pc ls (.int v :: .int x :: .ref a :: rest)) := by
  obtain ⟨j, hj, hset⟩ := zfl ha
  refine va_zast C.1 C.2.1 G.1 G.2.1 G.2.2.1 G.2.2.2.1 j 2 hj rfl hin hdg (fun H1 locs1 hP hD hS => kk H1 locs1 ⟨G.1, ?_, ?_, hS, G.2.2.2.2⟩)
  · rw [hset]; exact hP
  · rw [hset]; exact hD
theorem z_istN (C : CallFix p m c cc nL s args zT own) (G : zS T A H0 s bs H locs) (i : Nat) {n : Nat} {f : Nat → Int32} (ha : bs[i]? = some [(a, .inl (T.2 0, n, .inl f))]) {x v : Int32} (hin : vp_in x n) {k : Nat} (hk : x.toNatClampNeg = k) (hdg : decode cc pc = .ok (.iastore, 1))
    (kk : ∀ (H1 : Heap) (locs1 : List Loc), zS T A H0 s (bs.set i [(a, .inl (T.2 0, n, .inl (upd f k v)))]) H1 locs1 → W p l e R s m args below meth c H1 locs1 cells slots Q (F0 m (pc + 1) ls rest)) : W p l e R s m args below meth c H locs cells slots Q (F0 m pc ls (.int v :: .int x :: .ref a :: rest)) := by
  subst hk
  exact z_ist C G i ha hin hdg kk
theorem z_bstN (C : CallFix p m c cc nL s args zT own) (G : zS T A H0 s bs H locs) (i : Nat) {n : Nat} {f : Nat → Int32} (ha : bs[i]? = some [(a, .inl (T.2 1, n, .inl f))]) {x v : Int32} (hin : vp_in x n) {k : Nat} (hk : x.toNatClampNeg = k) (hdg : decode cc pc = .ok (.bastore, 1))
    (kk : ∀ (H1 : Heap) (locs1 : List Loc), zS T A H0 s (bs.set i [(a, .inl (T.2 1, n, .inl (upd f k (vp_nar .byte v))))]) H1 locs1 → W p l e R s m args below meth c H1 locs1 cells slots Q (F0 m (pc + 1) ls rest)) : W p l e R s m args below meth c H locs cells slots Q (F0 m pc ls (.int v :: .int x :: .ref a :: rest)) := by
  subst hk
  exact z_bst C G i ha hin hdg kk
theorem z_zstN (C : CallFix p m c cc nL s args zT own) (G : zS T A H0 s bs H locs) (i : Nat) {n : Nat} {f : Nat → Int32} (ha : bs[i]? = some [(a, .inl (T.2 2, n, .inl f))]) {x v : Int32} (hin : vp_in x n) {k : Nat} (hk : x.toNatClampNeg = k) (hdg : decode cc pc = .ok (.bastore, 1))
    (kk : ∀ (H1 : Heap) (locs1 : List Loc), zS T A H0 s (bs.set i [(a, .inl (T.2 2, n, .inl (upd f k (vp_nar .boolean v))))]) H1 locs1 → W p l e R s m args below meth c H1 locs1 cells slots Q (F0 m (pc + 1) ls rest)) : W p l e R s m args below meth c H locs cells slots Q (F0 m pc ls (.int v :: .int x :: .ref a :: rest)) := by
  subst hk
  exact z_zst C G i ha hin hdg kk
theorem z_alen (C : CallFix p m c cc nL s args zT own) (G : zS T A H0 s bs H locs) (i t : Nat) {ty : FieldType} {cA : ClassId} (ht : (zTys T)[t]? = some (cA, ty)) {x : vp_A} (ha : bs[i]? = some [(a, .inl (cA, x))]) {v : Int32} (hv : Int32.ofNat x.1 = v) (hdg : decode cc pc = .ok (.arraylength, 1))
    (kk : W p l e R s m args below meth c H locs cells slots Q (F0 m (pc + 1) ls (.int v :: rest))) : W p l e R s m args below meth c H locs cells slots Q (F0 m pc ls (.ref a :: rest)) := by
  obtain ⟨j, hj, -⟩ := zfl ha
  exact va_alen C.1 C.2.1 G.1 G.2.1 j t hj ht hv hdg kk
theorem z_ald (C : CallFix p m c cc nL s args zT own) (G : zS T A H0 s bs H locs) (i t : Nat) {Cn : String} {cA : ClassId} (ht : (zTys T)[t]? = some (cA, .object Cn)) {n : Nat} {f : Nat → Option Nat} (ha : bs[i]? = some [(a, .inl (cA, n, .inr (.inr (.inr (.inr f)))))]) {x : Int32} (hin : vp_in x n) (hdg : decode cc pc = .ok (.aaload, 1))
    (kk : W p l e R s m args below meth c H locs cells slots Q (F0 m (pc + 1) ls (va_rf (f x.toNatClampNeg) :: rest))) : W p l e R s m args below meth c H locs cells slots Q (F0 m pc ls (.int x :: .ref a :: rest)) := by
  obtain ⟨j, hj, -⟩ := zfl ha
  exact va_aldq C.1 C.2.1 G.1 G.2.1 j t hj ht hin hdg kk
theorem z_ast (C : CallFix p m c cc nL s args zT own) (G : zS T A H0 s bs H locs) (i t : Nat) {r : vw_C} {cA : ClassId} (ht : (zTys T)[t]? = some (cA, .object r.1)) {n v ci : Nat} {vs : List Value} {f : Nat → Option Nat} (ha : bs[i]? = some [(a, .inl (cA, n, .inr (.inr (.inr (.inr f)))))]) (hm : (v, .inr (ci, vs)) ∈ bs.flatten) (hc : vwCl[ci]? = some r) {x : Int32} (hin : vp_in x n) (hdg : decode cc pc = .ok (.aastore, 1))
    (kk : ∀ (H1 : Heap) (locs1 : List Loc), zS T A H0 s (bs.set i [(a, .inl (cA, n, .inr (.inr (.inr (.inr (va_up f x.toNatClampNeg (some v)))))))]) H1 locs1 → W p l e R s m args below meth c H1 locs1 cells slots Q (F0 m (pc + 1) ls rest)) : W p l e R s m args below meth c H locs cells slots Q (F0 m pc ls (.ref v :: .int x :: .ref a :: rest)) := by
  obtain ⟨j, hj, hset⟩ := zfl ha
  obtain ⟨k, hk⟩ := List.getElem?_of_mem hm
  refine va_astq C.1 C.2.1 G.1 G.2.1 G.2.2.1 G.2.2.2.1 j t k ci hj ht hk hc hin hdg (fun H1 locs1 hP hD hS => kk H1 locs1 ⟨G.1, ?_, ?_, hS, G.2.2.2.2⟩)
  · rw [hset]; exact hP
  · rw [hset]; exact hD
theorem z_newa (C : CallFix p m c cc nL s args zT own) (G : zS T A H0 s bs H locs) {atype : ArrayType} {ty : FieldType} (t : Nat) {cA : ClassId} (ht : (zTys T)[t]? = some (cA, ty)) (hu : ∀ x y : ClassId, va_RA s x ty → va_RA s y ty → x = y) (harr : Cond.arrayClass ty ∈ zT) (hty : newarray.typeOf atype = ty) {n : Int32} {N' : Nat} {a0 : vp_A} (h0 : ∀ cB : ClassId, vp_cell cB a0 = arrV cB N' (fun _ => defaultValue ty)) (hn : ¬ n < 0) (hN : n.toNatClampNeg = N') (hbytes : N' * componentBytes ty ≤ 536870912) (hcells : cells + 1 ≤ R.cells) (hslots : slots + N' ≤ R.slots) (hdg : decode cc pc = .ok (.newarray atype, 2))
    (kk : ∀ (q : Nat) (H1 : Heap), zS T A H0 s (bs ++ [[(q, .inl (cA, a0))]]) H1 locs → W p l e R s m args below meth c H1 locs (cells + 1) (slots + N') Q (F0 m (pc + 2) ls (.ref q :: rest))) : W p l e R s m args below meth c H locs cells slots Q (F0 m pc ls (.int n :: rest)) := by
  subst hty
  refine va_newa (D := T.1) C.1 C.2.1 (C.2.2.2.2 _ harr) rfl G.1 G.2.1 G.2.2.1 G.2.2.2.1 G.2.2.2.2.1 h0 hn hN hbytes hcells hslots hdg (fun q cB H1 hK hP hD hS => ?_)
  have e1 := (hK.2 (zTys T).length (cB, newarray.typeOf atype) (by simp)).2
  have e2 := (G.1.2 t _ ht).2
  have e3 : cB = cA := hu _ _ e1 e2
  subst e3
  refine kk q H1 ⟨G.1, ?_, ?_, hS, G.2.2.2.2⟩
  · rw [List.flatten_append]; exact hP
  · rw [List.flatten_append]; exact hD
theorem z_newq (C : CallFix p m c cc nL s args zT own) (G : zS T A H0 s bs H locs) {Cn : String} {index : Nat} (t : Nat) {cA : ClassId} (ht : (zTys T)[t]? = some (cA, .object Cn)) (hclink : Cond.classLink own index Cn ∈ zT) (hover : Cn ∈ zAOs) {n : Int32} {N' : Nat} (hn : ¬ n < 0) (hN : n.toNatClampNeg = N') (hbytes : N' * 4 ≤ 536870912) (hcells : cells + 1 ≤ R.cells) (hslots : slots + N' ≤ R.slots) (hdg : decode cc pc = .ok (.anewarray index, 3))
    (kk : ∀ (q : Nat) (H1 : Heap), zS T A H0 s (bs ++ [[(q, .inl (cA, N', .inr (.inr (.inr (.inr (fun _ => none))))))]]) H1 locs → W p l e R s m args below meth c H1 locs (cells + 1) (slots + N') Q (F0 m (pc + 3) ls (.ref q :: rest))) : W p l e R s m args below meth c H locs cells slots Q (F0 m pc ls (.int n :: rest)) := by
  refine va_newq (D := T.1) C.1 C.2.1 C.2.2.2.1 (C.2.2.2.2 _ hclink) (G.2.2.2.2.2.1.2 Cn hover) G.1 G.2.1 G.2.2.1 G.2.2.2.1 G.2.2.2.2.1 hn hN hbytes hcells hslots hdg (fun q cB H1 hK hP hD hS => ?_)
  have e1 := (hK.2 (zTys T).length (cB, .object Cn) (by simp)).2
  have e2 := (G.1.2 t _ ht).2
  obtain ⟨-, -, -, -, -, e3⟩ := e1
  obtain ⟨-, -, -, -, -, e4⟩ := e2
  have e5 : cB = cA := Option.some.inj (e3.symm.trans e4)
  subst e5
  refine kk q H1 ⟨G.1, ?_, ?_, hS, G.2.2.2.2⟩
  · rw [List.flatten_append]; exact hP
  · rw [List.flatten_append]; exact hD
theorem z_ldcS (C : CallFix p m c cc nL s args zT own) (G : zS T A H0 s bs H locs) (ho : own = "TurnedPosts$Reader") (i : Nat) (hi : i < 12) {index : Nat} (hk : zKp.getD i 0 = index) (hdg : decode cc pc = .ok (.ldc index, 2))
    (k : W p l e R s m args below meth c H locs cells slots Q (F0 m (pc + 2) ls (.ref (T.2 (100 + i)) :: rest))) : W p l e R s m args below meth c H locs cells slots Q (F0 m pc ls rest) := by
  subst hk
  subst ho
  exact va_ldcS C.1 C.2.1 C.2.2.2.1 (G.2.2.2.2.2.2.2.2.2.2.2.1 i hi) hdg k
end ZR
section ZR0
variable {p : Program} {l : Launch} {e : Env} {R : Room} {s : State} {m : MethodId} {args : Array Value} {below : List Frame} {meth : Method} {c : Code} {H : Heap} {locs : List Loc} {cells slots : Nat} {Q : State → Prop}
variable {cc : ByteArray} {nL pc : Nat} {ls : Array Slot} {rest : List Value} {T : zTy} {A : Nat → Prop} {bs : List va_W} {own : String}
theorem z_gst (C : CallFix p m c cc nL s args zT own) (G : zS T A s.heap s bs H locs) {Cn n d : String} {v : Value} {index : Nat} (hZ : va_Z Cn n d v A s s.heap) (hlink : Cond.fieldLink own index Cn n d ∈ zT) (hdg : decode cc pc = .ok (.getstatic index, 3))
    (kk : W p l e R s m args below meth c H locs cells slots Q (F0 m (pc + 3) ls (v :: rest))) : W p l e R s m args below meth c H locs cells slots Q (F0 m pc ls rest) :=
  va_gets C.1 C.2.1 hZ G.2.2.2.1 C.2.2.2.1 (C.2.2.2.2 _ hlink) (fun _ h => h) hdg kk
theorem z_gstN (C : CallFix p m c cc nL s args zT own) (G : zS T A s.heap s bs H locs) {Cn n d host : String} {v : Value} {index : Nat} (hZ : va_Z Cn n d v A s s.heap) (hlink : (Cond.fieldLinkNest own index Cn n d host).before args s = true) (hdg : decode cc pc = .ok (.getstatic index, 3))
    (kk : W p l e R s m args below meth c H locs cells slots Q (F0 m (pc + 3) ls (v :: rest))) : W p l e R s m args below meth c H locs cells slots Q (F0 m pc ls rest) :=
  va_getsN C.1 C.2.1 hZ G.2.2.2.1 C.2.2.2.1 hlink (fun _ h => h) hdg kk
theorem z_sval (C : CallFix p m c cc nL s args zT own) (G : zS T A s.heap s bs H locs) {i : Nat} (hi : i < 12) {index : Nat} (hlink : Cond.fieldLink own index "java/lang/String" "value" "[B" ∈ zT) (hdg : decode cc pc = .ok (.getfield index, 3))
    (kk : W p l e R s m args below meth c H locs cells slots Q (F0 m (pc + 3) ls (.ref (T.2 (200 + i)) :: rest))) : W p l e R s m args below meth c H locs cells slots Q (F0 m pc ls (.ref (T.2 (100 + i)) :: rest)) :=
  vk_getf C.1 C.2.1 (G.2.2.2.2.2.2.1.1 i hi).2.2.1 G.2.2.2.1 C.2.2.2.1 (C.2.2.2.2 _ hlink) (fun _ h => h) hdg kk
theorem z_scod (C : CallFix p m c cc nL s args zT own) (G : zS T A s.heap s bs H locs) {i : Nat} (hi : i < 12) {index : Nat} (hlink : Cond.fieldLink own index "java/lang/String" "coder" "B" ∈ zT) (hdg : decode cc pc = .ok (.getfield index, 3))
    (kk : W p l e R s m args below meth c H locs cells slots Q (F0 m (pc + 3) ls (.int 0 :: rest))) : W p l e R s m args below meth c H locs cells slots Q (F0 m pc ls (.ref (T.2 (100 + i)) :: rest)) :=
  vk_getf C.1 C.2.1 (G.2.2.2.2.2.2.1.1 i hi).2.1 G.2.2.2.1 C.2.2.2.1 (C.2.2.2.2 _ hlink) (fun _ h => h) hdg kk
theorem z_sbl (C : CallFix p m c cc nL s args zT own) (G : zS T A s.heap s bs H locs) {i : Nat} (hi : i < 12) (hdg : decode cc pc = .ok (.arraylength, 1))
    (kk : W p l e R s m args below meth c H locs cells slots Q (F0 m (pc + 1) ls (.int (nI (zLen.getD i 0)) :: rest))) : W p l e R s m args below meth c H locs cells slots Q (F0 m pc ls (.ref (T.2 (200 + i)) :: rest)) :=
  va_tlen C.1 C.2.1 (G.2.2.2.2.2.2.1.1 i hi).2.2.2 G.2.2.2.1 rfl hdg kk
theorem z_sbb (C : CallFix p m c cc nL s args zT own) (G : zS T A s.heap s bs H locs) {i : Nat} (hi : i < 12) {x : Int32} (hin : vp_in x (zLen.getD i 0)) (hdg : decode cc pc = .ok (.baload, 1))
    (kk : W p l e R s m args below meth c H locs cells slots Q (F0 m (pc + 1) ls (.int ((zByt.getD i []).getD x.toNatClampNeg 0) :: rest))) : W p l e R s m args below meth c H locs cells slots Q (F0 m pc ls (.int x :: .ref (T.2 (200 + i)) :: rest)) :=
  va_tb C.1 C.2.1 (G.2.2.2.2.2.2.1.1 i hi).2.2.2 G.2.2.2.1 hin rfl hdg kk
theorem z_ddl (C : CallFix p m c cc nL s args zT own) (G : zS T A s.heap s bs H locs) (hdg : decode cc pc = .ok (.arraylength, 1))
    (kk : W p l e R s m args below meth c H locs cells slots Q (F0 m (pc + 1) ls (.int 10 :: rest))) : W p l e R s m args below meth c H locs cells slots Q (F0 m pc ls (.ref (T.2 300) :: rest)) :=
  va_tlen C.1 C.2.1 G.2.2.2.2.2.2.2.2.1 G.2.2.2.1 rfl hdg kk
theorem z_ddi (C : CallFix p m c cc nL s args zT own) (G : zS T A s.heap s bs H locs) {x : Int32} (hin : vp_in x 10) (hdg : decode cc pc = .ok (.iaload, 1))
    (kk : W p l e R s m args below meth c H locs cells slots Q (F0 m (pc + 1) ls (.int (zDD.getD x.toNatClampNeg 0) :: rest))) : W p l e R s m args below meth c H locs cells slots Q (F0 m pc ls (.int x :: .ref (T.2 300) :: rest)) :=
  va_ti C.1 C.2.1 G.2.2.2.2.2.2.2.2.1 G.2.2.2.1 hin rfl hdg kk
theorem z_srecv (G : zS T A s.heap s bs H locs) {i : Nat} (hi : i < 12) : ∃ cell : Cell, H[T.2 (100 + i)]? = some cell ∧ cell.vm.isStatics = false ∧ s.vm.findClass "java/lang/String" = some cell.cls :=
  vk_recv (i := i) (adK := fun i => T.2 (100 + i)) G.2.2.2.2.2.2.1 hi G.2.2.2.1
end ZR0
abbrev zO0 (a : Nat) (x0 : Int32) (x1 : Int32) (x2 : Nat) (x3 : Int32) (x4 : Nat) (x5 : Nat) (x6 : Nat) (x7 : Nat) (x8 : Nat) (x9 : Nat) : Nat × va_E := (a, .inr (0, [.int x0, .int x1, .ref x2, .int x3, .ref x4, .ref x5, .ref x6, .ref x7, .ref x8, .ref x9]))
abbrev zO1 (a : Nat) (x0 : Nat) (x1 : Nat) (x2 : Int32) (x3 : Nat) (x4 : Int32) (x5 : Int32) (x6 : Int32) (x7 : Int32) (x8 : Int32) (x9 : Int32) (x10 : Int32) : Nat × va_E := (a, .inr (1, [.ref x0, .ref x1, .int x2, .ref x3, .int x4, .int x5, .int x6, .int x7, .int x8, .int x9, .int x10]))
abbrev zO3 (a : Nat) (x0 : Int32) (x1 : Int32) (x2 : Int32) (x3 : Int32) (x4 : Int32) (x5 : Int32) (x6 : Nat) (x7 : Nat) : Nat × va_E := (a, .inr (3, [.int x0, .int x1, .int x2, .int x3, .int x4, .int x5, .ref x6, .ref x7]))
abbrev zO4 (a : Nat) (x0 : Int32) (x1 : Int32) (x2 : Nat) (x3 : Nat) (x4 : Nat) (x5 : Nat) : Nat × va_E := (a, .inr (4, [.int x0, .int x1, .ref x2, .ref x3, .ref x4, .ref x5]))
abbrev zO6 (a : Nat) (x0 : Nat) (x1 : Nat) (x2 : Nat) (x3 : Int32) (x4 : Int32) (x5 : Nat) : Nat × va_E := (a, .inr (6, [.ref x0, .ref x1, .ref x2, .int x3, .int x4, .ref x5]))
abbrev zO7 (a : Nat) (x0 : Nat) (x1 : Nat) (x2 : Nat) (x3 : Int32) (x4 : Int32) (x5 : Nat) (x6 : Int32) (x7 : Int32) (x8 : Int32) (x9 : Int32) (x10 : Int32) (x11 : Int32) (x12 : Int32) : Nat × va_E := (a, .inr (7, [.ref x0, .ref x1, .ref x2, .int x3, .int x4, .ref x5, .int x6, .int x7, .int x8, .int x9, .int x10, .int x11, .int x12]))
abbrev zO8 (a : Nat) (x0 : Nat) (x1 : Int32) (x2 : Int32) (x3 : Int32) (x4 : Nat) (x5 : Nat) (x6 : Nat) (x7 : Nat) : Nat × va_E := (a, .inr (8, [.ref x0, .int x1, .int x2, .int x3, .ref x4, .ref x5, .ref x6, .ref x7]))
abbrev zO9 (a : Nat) (x0 : Nat) (x1 : Nat) (x2 : Nat) (x3 : Int32) (x4 : Int32) (x5 : Int32) (x6 : Int32) (x7 : Int32) : Nat × va_E := (a, .inr (9, [.ref x0, .ref x1, .ref x2, .int x3, .int x4, .int x5, .int x6, .int x7]))
abbrev zO10 (a : Nat) (x0 : Nat) (x1 : Nat) (x2 : Nat) (x3 : Nat) (x4 : Nat) (x5 : Nat) (x6 : Nat) (x7 : Nat) (x8 : Nat) (x9 : Nat) (x10 : Nat) : Nat × va_E := (a, .inr (10, [.ref x0, .ref x1, .ref x2, .ref x3, .ref x4, .ref x5, .ref x6, .ref x7, .ref x8, .ref x9, .ref x10]))
abbrev zO11 (a : Nat) (x0 : Nat) (x1 : Nat) (x2 : Int32) (x3 : Int32) (x4 : Int32) (x5 : Int32) (x6 : Int32) (x7 : Int32) (x8 : Int32) (x9 : Int32) (x10 : Nat) (x11 : Int32) (x12 : Int32) (x13 : Int32) (x14 : Nat) (x15 : Nat) (x16 : Nat) (x17 : Int32) (x18 : Int32) (x19 : Int32) (x20 : Int32) (x21 : Nat) (x22 : Nat) (x23 : Nat) (x24 : Nat) (x25 : Nat) (x26 : Nat) (x27 : Int32) (x28 : Int32) (x29 : Int32) (x30 : Int32) (x31 : Int32) (x32 : Int32) (x33 : Int32) (x34 : Int32) (x35 : Int32) (x36 : Int32) (x37 : Int32) (x38 : Int32) (x39 : Nat) (x40 : Nat) (x41 : Nat) (x42 : Int32) : Nat × va_E := (a, .inr (11, [.ref x0, .ref x1, .int x2, .int x3, .int x4, .int x5, .int x6, .int x7, .int x8, .int x9, .ref x10, .int x11, .int x12, .int x13, .ref x14, .ref x15, .ref x16, .int x17, .int x18, .int x19, .int x20, .ref x21, .ref x22, .ref x23, .ref x24, .ref x25, .ref x26, .int x27, .int x28, .int x29, .int x30, .int x31, .int x32, .int x33, .int x34, .int x35, .int x36, .int x37, .int x38, .ref x39, .ref x40, .ref x41, .int x42]))
abbrev zAr (T : zTy) (t a n : Nat) (f : Nat → Int32) : Nat × va_E := (a, .inl (T.2 t, n, .inl f))
abbrev zArq (T : zTy) (t a n : Nat) (f : Nat → Option Nat) : Nat × va_E := (a, .inl (T.2 t, n, .inr (.inr (.inr (.inr f)))))
section ZC
variable {p : Program} {l : Launch} {e : Env} {R : Room} {s : State} {m : MethodId} {args : Array Value} {below : List Frame} {meth : Method} {c : Code} {H : Heap} {locs : List Loc} {cells slots : Nat} {Q : State → Prop}
variable {cc : ByteArray} {nL pc : Nat} {ls : Array Slot} {rest st0 : List Value} {T : zTy} {A : Nat → Prop} {a : Nat} {bs bc br : List va_W} {H0 : Heap} {own host Cn : String}
variable {y : MethodName} {bytes : ByteArray} {maxL index n d mc ms : Nat} {ret : Option FieldType} {As : List Value}
theorem z_freeF (G : zS T A H0 s bs H locs) (isC : List Nat) (hC : isC.map (fun i => bs[i]?) = bc.map some) (hn : va_nd isC = true) : ∀ q, va_A bc.flatten H.size q → A q := by
  intro q h
  rcases h with ⟨k, e, h⟩ | h
  · exact (zD_sub G.2.2.1 isC hn hC).2 k _ h
  · exact G.2.2.2.2.1 q (Nat.le_trans G.2.2.2.1.1 h)
theorem z_pre (G : zS T A H0 s bs H locs) (isC : List Nat) (hC : isC.map (fun i => bs[i]?) = bc.map some) (hn : va_nd isC = true) (av : List Value) : FrameBlind (zPre T av bc H.size) ∧ ∀ U : State, U.heap = H → s.WarmedH U.vm → zPre T av bc H.size av.toArray U :=
  ⟨fun a U g mk q => by
    obtain ⟨q0, q1, qP, qK, qD, qX, qU⟩ := q
    exact ⟨q0, q1, qP, va_K.moved (u := U) (U := U.calling g mk a) (Vm.Alike.refl U.vm) qK, qD, zX.same (s := U) (U := U.calling g mk a) rfl qX, zU.same (s := U) (U := U.calling g mk a) rfl qU⟩,
  fun U hU hW => ⟨rfl, by rw [hU], by rw [hU]; exact zP_sub G.2.1 isC hC, va_K.moved hW.alike G.1, (zD_sub G.2.2.1 isC hn hC).weaken (fun _ _ _ _ => trivial), G.2.2.2.2.2.1.warm hW, by rw [hU]; exact ((G.2.2.2.2.2.2.kn G.2.2.2.1.2.1 (z_freeF G isC hC hn)).warm hW)⟩⟩
theorem z_recv {ci : Nat} {q : vw_C} {fs : List Value} (G : zS T A H0 s bs H locs) (isC : List Nat) (hC : isC.map (fun i => bs[i]?) = bc.map some) (hc : vwCl[ci]? = some q) (hm : (a, .inr (ci, fs)) ∈ bc.flatten) : ∃ cell : Cell, H[a]? = some cell ∧ cell.vm.isStatics = false ∧ s.vm.findClass q.1 = some cell.cls := by
  obtain ⟨k, hk⟩ := List.getElem?_of_mem hm
  exact va_recv G.1 (zP_sub G.2.1 isC hC) hc hk
theorem z_join {b1 : List va_W} {H1 : Heap} {locs1 : List Loc} (G : zS T A H0 s bs H locs) (isC isR : List Nat) (hC : isC.map (fun i => bs[i]?) = bc.map some) (hR : isR.map (fun i => bs[i]?) = br.map some) (hnC : va_nd isC = true) (hnR : va_nd isR = true) (hdis : ∀ i ∈ isR, i ∉ isC)
    (hk : ∀ q : Nat, q < H.size → ¬ va_A bc.flatten H.size q → H1[q]? = H[q]?) (hP1 : va_P T.1 vwCl b1.flatten H1) (hD1 : va_D (va_A bc.flatten H.size) b1.flatten) (hS1 : va_S A H0 H1 locs1) : zS T A H0 s (br ++ b1) H1 locs1 := by
  have hPR := zP_sub G.2.1 isR hR
  have hDR := zD_sub G.2.2.1 isR hnR hR
  have hF := z_freeF G isC hC hnC
  have apart : ∀ x ∈ br.flatten, x.1 < H.size ∧ ¬ va_A bc.flatten H.size x.1 := by
    intro x hx
    have hl := (zP_mem.mp hPR x hx).lt
    refine ⟨hl, fun h => ?_⟩
    rcases h with ⟨k, e, h⟩ | h
    · obtain ⟨b, hb, hxb⟩ := List.mem_flatten.mp hx
      obtain ⟨i, hi⟩ := List.getElem?_of_mem hb
      obtain ⟨i', i1, i2⟩ := zat hR i b hi
      obtain ⟨b2, hb2, hxb2⟩ := List.mem_flatten.mp (List.mem_of_getElem? h)
      obtain ⟨j, hj⟩ := List.getElem?_of_mem hb2
      obtain ⟨j', j1, j2⟩ := zat hC j b2 hj
      refine zD_ne G.2.2.1 i2 j2 (fun e => ?_) x hxb _ hxb2 rfl
      subst e
      exact hdis i' (List.mem_of_getElem? i1) (List.mem_of_getElem? j1)
    · omega
  refine ⟨G.1, ?_, ?_, hS1, G.2.2.2.2⟩
  · rw [List.flatten_append]
    refine va_P.app ?_ hP1
    rw [zP_mem] at hPR ⊢
    exact fun x hx => (hPR x hx).kept (hk x.1 (apart x hx).1 (apart x hx).2)
  · rw [List.flatten_append]
    have h1 := zD_iff.mp hDR
    have h2 := zD_iff.mp hD1
    refine zD_iff.mpr ⟨List.pairwise_append.mpr ⟨h1.1, h2.1, fun x hx z hz e => (apart x hx).2 (by rw [e]; exact h2.2 z hz)⟩, fun q hq => ?_⟩
    rcases List.mem_append.mp hq with h | h
    · exact h1.2 q h
    · exact hF _ (h2.2 q h)

theorem z_Vi (C : CallFix p m c cc nL s args zT own) (G : zS T A H0 s bs H locs) {post : Int32 → List va_W → Prop} (hM : zMi l T y bytes maxL ret d mc ms (.ref a :: As) bc post) (cw : CallW R s args own Cn index y bytes maxL ret (zW y bytes maxL ret) (zR d mc ms) mc ms n) (isC gs : List Nat) (hC : isC.map (fun i => bs[i]?) = bc.map some) (hR9 : zGp gs bs = br) {ci : Nat} {qc : vw_C} {fs : List Value} (hc : vwCl[ci]? = some qc) (hq : qc.1 = Cn) (hm : (a, .inr (ci, fs)) ∈ bc.flatten) (hn : As.length = n) (hst : st0 = As.reverse ++ .ref a :: rest) (hls : ls.size = nL) (hdg : decode cc pc = .ok (.invokevirtual index, 3)) (hf1 : cells + mc ≤ R.cells) (hf2 : slots + ms ≤ R.slots)
    (kk : ∀ (r : Int32) (b1 : List va_W) (H1 : Heap) (locs1 : List Loc), post r b1 → zS T A H0 s (br ++ b1) H1 locs1 → W p l e R s m args below meth c H1 locs1 (cells + mc) (slots + ms) Q (F0 m (pc + 3) ls (.int r :: rest)))
    (hW : (rest.map fun v => v.category).sum ≤ 8 := by exact Nat.le_of_ble_eq_true rfl) (hk9 : zCk isC gs = true := by decide +kernel) : W p l e R s m args below meth c H locs cells slots Q (F0 m pc ls st0) := by
  subst hst
  obtain ⟨hnC, hck⟩ := zCk_s hk9
  obtain ⟨isR, hnR, hR, hds⟩ := zGp_is bs gs
  rw [hR9] at hR
  have hdis : ∀ i ∈ isR, i ∉ isC := fun i h1 h2 => hds i h1 (hck i h2)
  subst hq
  refine va_calli (va_runV (As := As) (rest := rest) ⟨C.1, C.2.1, C.2.2.1, C.2.2.2.1, C.2.2.2.2⟩ (hM H.size) cw ⟨(z_pre G isC hC hnC (.ref a :: As)).1, z_recv G isC hC hc hm, (z_pre G isC hC hnC (.ref a :: As)).2⟩ rfl hn hls rfl (lv_room hW) hdg ⟨hf1, hf2⟩) G.2.2.2.1 (fun q _ h => z_freeF G isC hC hnC q h) (z_freeF G isC hC hnC) (fun r b1 t H1 locs1 ht hvm hp hB hz hk hS => ?_)
  obtain ⟨hP1, hK1, hD1⟩ := hB
  rw [ht] at hP1
  exact kk r b1 H1 locs1 hp (z_join G isC isR hC hR hnC hnR hdis hk hP1 hD1 hS)
theorem z_Vv (C : CallFix p m c cc nL s args zT own) (G : zS T A H0 s bs H locs) {post : List va_W → Prop} (hM : zMv l T y bytes maxL d mc ms (.ref a :: As) bc post) (cw : CallW R s args own Cn index y bytes maxL none (zW y bytes maxL none) (zR d mc ms) mc ms n) (isC gs : List Nat) (hC : isC.map (fun i => bs[i]?) = bc.map some) (hR9 : zGp gs bs = br) {ci : Nat} {qc : vw_C} {fs : List Value} (hc : vwCl[ci]? = some qc) (hq : qc.1 = Cn) (hm : (a, .inr (ci, fs)) ∈ bc.flatten) (hn : As.length = n) (hst : st0 = As.reverse ++ .ref a :: rest) (hls : ls.size = nL) (hdg : decode cc pc = .ok (.invokevirtual index, 3)) (hf1 : cells + mc ≤ R.cells) (hf2 : slots + ms ≤ R.slots)
    (kk : ∀ (b1 : List va_W) (H1 : Heap) (locs1 : List Loc), post  b1 → zS T A H0 s (br ++ b1) H1 locs1 → W p l e R s m args below meth c H1 locs1 (cells + mc) (slots + ms) Q (F0 m (pc + 3) ls (rest)))
    (hW : (rest.map fun v => v.category).sum ≤ 8 := by exact Nat.le_of_ble_eq_true rfl) (hk9 : zCk isC gs = true := by decide +kernel) : W p l e R s m args below meth c H locs cells slots Q (F0 m pc ls st0) := by
  subst hst
  obtain ⟨hnC, hck⟩ := zCk_s hk9
  obtain ⟨isR, hnR, hR, hds⟩ := zGp_is bs gs
  rw [hR9] at hR
  have hdis : ∀ i ∈ isR, i ∉ isC := fun i h1 h2 => hds i h1 (hck i h2)
  subst hq
  refine va_callv (va_runV (As := As) (rest := rest) ⟨C.1, C.2.1, C.2.2.1, C.2.2.2.1, C.2.2.2.2⟩ (hM H.size) cw ⟨(z_pre G isC hC hnC (.ref a :: As)).1, z_recv G isC hC hc hm, (z_pre G isC hC hnC (.ref a :: As)).2⟩ rfl hn hls rfl (lv_room hW) hdg ⟨hf1, hf2⟩) G.2.2.2.1 (fun q _ h => z_freeF G isC hC hnC q h) (z_freeF G isC hC hnC) (fun b1 t H1 locs1 ht hvm hp hB hz hk hS => ?_)
  obtain ⟨hP1, hK1, hD1⟩ := hB
  rw [ht] at hP1
  exact kk b1 H1 locs1 hp (z_join G isC isR hC hR hnC hnR hdis hk hP1 hD1 hS)
theorem z_Vq (C : CallFix p m c cc nL s args zT own) (G : zS T A H0 s bs H locs) {post : Option Nat → List va_W → Prop} (hM : zMq l T y bytes maxL ret d mc ms (.ref a :: As) bc post) (cw : CallW R s args own Cn index y bytes maxL ret (zW y bytes maxL ret) (zR d mc ms) mc ms n) (isC gs : List Nat) (hC : isC.map (fun i => bs[i]?) = bc.map some) (hR9 : zGp gs bs = br) {ci : Nat} {qc : vw_C} {fs : List Value} (hc : vwCl[ci]? = some qc) (hq : qc.1 = Cn) (hm : (a, .inr (ci, fs)) ∈ bc.flatten) (hn : As.length = n) (hst : st0 = As.reverse ++ .ref a :: rest) (hls : ls.size = nL) (hdg : decode cc pc = .ok (.invokevirtual index, 3)) (hf1 : cells + mc ≤ R.cells) (hf2 : slots + ms ≤ R.slots)
    (kk : ∀ (r : Option Nat) (b1 : List va_W) (H1 : Heap) (locs1 : List Loc), post r b1 → zS T A H0 s (br ++ b1) H1 locs1 → W p l e R s m args below meth c H1 locs1 (cells + mc) (slots + ms) Q (F0 m (pc + 3) ls (va_rf r :: rest)))
    (hW : (rest.map fun v => v.category).sum ≤ 8 := by exact Nat.le_of_ble_eq_true rfl) (hk9 : zCk isC gs = true := by decide +kernel) : W p l e R s m args below meth c H locs cells slots Q (F0 m pc ls st0) := by
  subst hst
  obtain ⟨hnC, hck⟩ := zCk_s hk9
  obtain ⟨isR, hnR, hR, hds⟩ := zGp_is bs gs
  rw [hR9] at hR
  have hdis : ∀ i ∈ isR, i ∉ isC := fun i h1 h2 => hds i h1 (hck i h2)
  subst hq
  refine va_callq (va_runV (As := As) (rest := rest) ⟨C.1, C.2.1, C.2.2.1, C.2.2.2.1, C.2.2.2.2⟩ (hM H.size) cw ⟨(z_pre G isC hC hnC (.ref a :: As)).1, z_recv G isC hC hc hm, (z_pre G isC hC hnC (.ref a :: As)).2⟩ rfl hn hls rfl (lv_room hW) hdg ⟨hf1, hf2⟩) G.2.2.2.1 (fun q _ h => z_freeF G isC hC hnC q h) (z_freeF G isC hC hnC) (fun r b1 t H1 locs1 ht hvm hp hB hz hk hS => ?_)
  obtain ⟨hP1, hK1, hD1⟩ := hB
  rw [ht] at hP1
  exact kk r b1 H1 locs1 hp (z_join G isC isR hC hR hnC hnR hdis hk hP1 hD1 hS)
theorem z_Ni (C : CallFix p m c cc nL s args zT own) (G : zS T A H0 s bs H locs) {post : Int32 → List va_W → Prop} (hM : zMi l T y bytes maxL ret d mc ms (.ref a :: As) bc post) (cw : va_CN R s args own index y host bytes maxL ret (zW y bytes maxL ret) (zR d mc ms) mc ms n ∧ (Cond.instanceMethod y).before args s = true ∧ (Cond.selects Cn y y).before args s = true) (isC gs : List Nat) (hC : isC.map (fun i => bs[i]?) = bc.map some) (hR9 : zGp gs bs = br) {ci : Nat} {qc : vw_C} {fs : List Value} (hc : vwCl[ci]? = some qc) (hq : qc.1 = Cn) (hm : (a, .inr (ci, fs)) ∈ bc.flatten) (hn : As.length = n) (hst : st0 = As.reverse ++ .ref a :: rest) (hls : ls.size = nL) (hdg : decode cc pc = .ok (.invokevirtual index, 3)) (hf1 : cells + mc ≤ R.cells) (hf2 : slots + ms ≤ R.slots)
    (kk : ∀ (r : Int32) (b1 : List va_W) (H1 : Heap) (locs1 : List Loc), post r b1 → zS T A H0 s (br ++ b1) H1 locs1 → W p l e R s m args below meth c H1 locs1 (cells + mc) (slots + ms) Q (F0 m (pc + 3) ls (.int r :: rest)))
    (hW : (rest.map fun v => v.category).sum ≤ 8 := by exact Nat.le_of_ble_eq_true rfl) (hk9 : zCk isC gs = true := by decide +kernel) : W p l e R s m args below meth c H locs cells slots Q (F0 m pc ls st0) := by
  subst hst
  obtain ⟨hnC, hck⟩ := zCk_s hk9
  obtain ⟨isR, hnR, hR, hds⟩ := zGp_is bs gs
  rw [hR9] at hR
  have hdis : ∀ i ∈ isR, i ∉ isC := fun i h1 h2 => hds i h1 (hck i h2)
  subst hq
  refine va_calli (va_runVN (As := As) (rest := rest) ⟨C.1, C.2.1, C.2.2.1, C.2.2.2.1, C.2.2.2.2⟩ (hM H.size) cw ⟨(z_pre G isC hC hnC (.ref a :: As)).1, z_recv G isC hC hc hm, (z_pre G isC hC hnC (.ref a :: As)).2⟩ rfl hn hls rfl (lv_room hW) hdg ⟨hf1, hf2⟩) G.2.2.2.1 (fun q _ h => z_freeF G isC hC hnC q h) (z_freeF G isC hC hnC) (fun r b1 t H1 locs1 ht hvm hp hB hz hk hS => ?_)
  obtain ⟨hP1, hK1, hD1⟩ := hB
  rw [ht] at hP1
  exact kk r b1 H1 locs1 hp (z_join G isC isR hC hR hnC hnR hdis hk hP1 hD1 hS)
theorem z_Nv (C : CallFix p m c cc nL s args zT own) (G : zS T A H0 s bs H locs) {post : List va_W → Prop} (hM : zMv l T y bytes maxL d mc ms (.ref a :: As) bc post) (cw : va_CN R s args own index y host bytes maxL none (zW y bytes maxL none) (zR d mc ms) mc ms n ∧ (Cond.instanceMethod y).before args s = true ∧ (Cond.selects Cn y y).before args s = true) (isC gs : List Nat) (hC : isC.map (fun i => bs[i]?) = bc.map some) (hR9 : zGp gs bs = br) {ci : Nat} {qc : vw_C} {fs : List Value} (hc : vwCl[ci]? = some qc) (hq : qc.1 = Cn) (hm : (a, .inr (ci, fs)) ∈ bc.flatten) (hn : As.length = n) (hst : st0 = As.reverse ++ .ref a :: rest) (hls : ls.size = nL) (hdg : decode cc pc = .ok (.invokevirtual index, 3)) (hf1 : cells + mc ≤ R.cells) (hf2 : slots + ms ≤ R.slots)
    (kk : ∀ (b1 : List va_W) (H1 : Heap) (locs1 : List Loc), post  b1 → zS T A H0 s (br ++ b1) H1 locs1 → W p l e R s m args below meth c H1 locs1 (cells + mc) (slots + ms) Q (F0 m (pc + 3) ls (rest)))
    (hW : (rest.map fun v => v.category).sum ≤ 8 := by exact Nat.le_of_ble_eq_true rfl) (hk9 : zCk isC gs = true := by decide +kernel) : W p l e R s m args below meth c H locs cells slots Q (F0 m pc ls st0) := by
  subst hst
  obtain ⟨hnC, hck⟩ := zCk_s hk9
  obtain ⟨isR, hnR, hR, hds⟩ := zGp_is bs gs
  rw [hR9] at hR
  have hdis : ∀ i ∈ isR, i ∉ isC := fun i h1 h2 => hds i h1 (hck i h2)
  subst hq
  refine va_callv (va_runVN (As := As) (rest := rest) ⟨C.1, C.2.1, C.2.2.1, C.2.2.2.1, C.2.2.2.2⟩ (hM H.size) cw ⟨(z_pre G isC hC hnC (.ref a :: As)).1, z_recv G isC hC hc hm, (z_pre G isC hC hnC (.ref a :: As)).2⟩ rfl hn hls rfl (lv_room hW) hdg ⟨hf1, hf2⟩) G.2.2.2.1 (fun q _ h => z_freeF G isC hC hnC q h) (z_freeF G isC hC hnC) (fun b1 t H1 locs1 ht hvm hp hB hz hk hS => ?_)
  obtain ⟨hP1, hK1, hD1⟩ := hB
  rw [ht] at hP1
  exact kk b1 H1 locs1 hp (z_join G isC isR hC hR hnC hnR hdis hk hP1 hD1 hS)
theorem z_Nq (C : CallFix p m c cc nL s args zT own) (G : zS T A H0 s bs H locs) {post : Option Nat → List va_W → Prop} (hM : zMq l T y bytes maxL ret d mc ms (.ref a :: As) bc post) (cw : va_CN R s args own index y host bytes maxL ret (zW y bytes maxL ret) (zR d mc ms) mc ms n ∧ (Cond.instanceMethod y).before args s = true ∧ (Cond.selects Cn y y).before args s = true) (isC gs : List Nat) (hC : isC.map (fun i => bs[i]?) = bc.map some) (hR9 : zGp gs bs = br) {ci : Nat} {qc : vw_C} {fs : List Value} (hc : vwCl[ci]? = some qc) (hq : qc.1 = Cn) (hm : (a, .inr (ci, fs)) ∈ bc.flatten) (hn : As.length = n) (hst : st0 = As.reverse ++ .ref a :: rest) (hls : ls.size = nL) (hdg : decode cc pc = .ok (.invokevirtual index, 3)) (hf1 : cells + mc ≤ R.cells) (hf2 : slots + ms ≤ R.slots)
    (kk : ∀ (r : Option Nat) (b1 : List va_W) (H1 : Heap) (locs1 : List Loc), post r b1 → zS T A H0 s (br ++ b1) H1 locs1 → W p l e R s m args below meth c H1 locs1 (cells + mc) (slots + ms) Q (F0 m (pc + 3) ls (va_rf r :: rest)))
    (hW : (rest.map fun v => v.category).sum ≤ 8 := by exact Nat.le_of_ble_eq_true rfl) (hk9 : zCk isC gs = true := by decide +kernel) : W p l e R s m args below meth c H locs cells slots Q (F0 m pc ls st0) := by
  subst hst
  obtain ⟨hnC, hck⟩ := zCk_s hk9
  obtain ⟨isR, hnR, hR, hds⟩ := zGp_is bs gs
  rw [hR9] at hR
  have hdis : ∀ i ∈ isR, i ∉ isC := fun i h1 h2 => hds i h1 (hck i h2)
  subst hq
  refine va_callq (va_runVN (As := As) (rest := rest) ⟨C.1, C.2.1, C.2.2.1, C.2.2.2.1, C.2.2.2.2⟩ (hM H.size) cw ⟨(z_pre G isC hC hnC (.ref a :: As)).1, z_recv G isC hC hc hm, (z_pre G isC hC hnC (.ref a :: As)).2⟩ rfl hn hls rfl (lv_room hW) hdg ⟨hf1, hf2⟩) G.2.2.2.1 (fun q _ h => z_freeF G isC hC hnC q h) (z_freeF G isC hC hnC) (fun r b1 t H1 locs1 ht hvm hp hB hz hk hS => ?_)
  obtain ⟨hP1, hK1, hD1⟩ := hB
  rw [ht] at hP1
  exact kk r b1 H1 locs1 hp (z_join G isC isR hC hR hnC hnR hdis hk hP1 hD1 hS)
theorem z_Si (C : CallFix p m c cc nL s args zT own) (G : zS T A H0 s bs H locs) {post : Int32 → List va_W → Prop} (hM : zMi l T y bytes maxL ret d mc ms As bc post) (cw : CallB R s args own index y bytes maxL ret (zW y bytes maxL ret) (zR d mc ms) mc ms n ∧ (Cond.static y).before args s = true) (isC gs : List Nat) (hC : isC.map (fun i => bs[i]?) = bc.map some) (hR9 : zGp gs bs = br) (hn : As.length = n) (hst : st0 = As.reverse ++ rest) (hls : ls.size = nL) (hdg : decode cc pc = .ok (.invokestatic index, 3)) (hf1 : cells + mc ≤ R.cells) (hf2 : slots + ms ≤ R.slots)
    (kk : ∀ (r : Int32) (b1 : List va_W) (H1 : Heap) (locs1 : List Loc), post r b1 → zS T A H0 s (br ++ b1) H1 locs1 → W p l e R s m args below meth c H1 locs1 (cells + mc) (slots + ms) Q (F0 m (pc + 3) ls (.int r :: rest)))
    (hW : (rest.map fun v => v.category).sum ≤ 8 := by exact Nat.le_of_ble_eq_true rfl) (hk9 : zCk isC gs = true := by decide +kernel) : W p l e R s m args below meth c H locs cells slots Q (F0 m pc ls st0) := by
  subst hst
  obtain ⟨hnC, hck⟩ := zCk_s hk9
  obtain ⟨isR, hnR, hR, hds⟩ := zGp_is bs gs
  rw [hR9] at hR
  have hdis : ∀ i ∈ isR, i ∉ isC := fun i h1 h2 => hds i h1 (hck i h2)
  refine va_calli (va_runS (As := As) (rest := rest) ⟨C.1, C.2.1, C.2.2.1, C.2.2.2.1, C.2.2.2.2⟩ (hM H.size) cw (z_pre G isC hC hnC As) rfl hn hls rfl (lv_room hW) hdg ⟨hf1, hf2⟩) G.2.2.2.1 (fun q _ h => z_freeF G isC hC hnC q h) (z_freeF G isC hC hnC) (fun r b1 t H1 locs1 ht hvm hp hB hz hk hS => ?_)
  obtain ⟨hP1, hK1, hD1⟩ := hB
  rw [ht] at hP1
  exact kk r b1 H1 locs1 hp (z_join G isC isR hC hR hnC hnR hdis hk hP1 hD1 hS)
theorem z_Sv (C : CallFix p m c cc nL s args zT own) (G : zS T A H0 s bs H locs) {post : List va_W → Prop} (hM : zMv l T y bytes maxL d mc ms As bc post) (cw : CallB R s args own index y bytes maxL none (zW y bytes maxL none) (zR d mc ms) mc ms n ∧ (Cond.static y).before args s = true) (isC gs : List Nat) (hC : isC.map (fun i => bs[i]?) = bc.map some) (hR9 : zGp gs bs = br) (hn : As.length = n) (hst : st0 = As.reverse ++ rest) (hls : ls.size = nL) (hdg : decode cc pc = .ok (.invokestatic index, 3)) (hf1 : cells + mc ≤ R.cells) (hf2 : slots + ms ≤ R.slots)
    (kk : ∀ (b1 : List va_W) (H1 : Heap) (locs1 : List Loc), post  b1 → zS T A H0 s (br ++ b1) H1 locs1 → W p l e R s m args below meth c H1 locs1 (cells + mc) (slots + ms) Q (F0 m (pc + 3) ls (rest)))
    (hW : (rest.map fun v => v.category).sum ≤ 8 := by exact Nat.le_of_ble_eq_true rfl) (hk9 : zCk isC gs = true := by decide +kernel) : W p l e R s m args below meth c H locs cells slots Q (F0 m pc ls st0) := by
  subst hst
  obtain ⟨hnC, hck⟩ := zCk_s hk9
  obtain ⟨isR, hnR, hR, hds⟩ := zGp_is bs gs
  rw [hR9] at hR
  have hdis : ∀ i ∈ isR, i ∉ isC := fun i h1 h2 => hds i h1 (hck i h2)
  refine va_callv (va_runS (As := As) (rest := rest) ⟨C.1, C.2.1, C.2.2.1, C.2.2.2.1, C.2.2.2.2⟩ (hM H.size) cw (z_pre G isC hC hnC As) rfl hn hls rfl (lv_room hW) hdg ⟨hf1, hf2⟩) G.2.2.2.1 (fun q _ h => z_freeF G isC hC hnC q h) (z_freeF G isC hC hnC) (fun b1 t H1 locs1 ht hvm hp hB hz hk hS => ?_)
  obtain ⟨hP1, hK1, hD1⟩ := hB
  rw [ht] at hP1
  exact kk b1 H1 locs1 hp (z_join G isC isR hC hR hnC hnR hdis hk hP1 hD1 hS)
theorem z_Sq (C : CallFix p m c cc nL s args zT own) (G : zS T A H0 s bs H locs) {post : Option Nat → List va_W → Prop} (hM : zMq l T y bytes maxL ret d mc ms As bc post) (cw : CallB R s args own index y bytes maxL ret (zW y bytes maxL ret) (zR d mc ms) mc ms n ∧ (Cond.static y).before args s = true) (isC gs : List Nat) (hC : isC.map (fun i => bs[i]?) = bc.map some) (hR9 : zGp gs bs = br) (hn : As.length = n) (hst : st0 = As.reverse ++ rest) (hls : ls.size = nL) (hdg : decode cc pc = .ok (.invokestatic index, 3)) (hf1 : cells + mc ≤ R.cells) (hf2 : slots + ms ≤ R.slots)
    (kk : ∀ (r : Option Nat) (b1 : List va_W) (H1 : Heap) (locs1 : List Loc), post r b1 → zS T A H0 s (br ++ b1) H1 locs1 → W p l e R s m args below meth c H1 locs1 (cells + mc) (slots + ms) Q (F0 m (pc + 3) ls (va_rf r :: rest)))
    (hW : (rest.map fun v => v.category).sum ≤ 8 := by exact Nat.le_of_ble_eq_true rfl) (hk9 : zCk isC gs = true := by decide +kernel) : W p l e R s m args below meth c H locs cells slots Q (F0 m pc ls st0) := by
  subst hst
  obtain ⟨hnC, hck⟩ := zCk_s hk9
  obtain ⟨isR, hnR, hR, hds⟩ := zGp_is bs gs
  rw [hR9] at hR
  have hdis : ∀ i ∈ isR, i ∉ isC := fun i h1 h2 => hds i h1 (hck i h2)
  refine va_callq (va_runS (As := As) (rest := rest) ⟨C.1, C.2.1, C.2.2.1, C.2.2.2.1, C.2.2.2.2⟩ (hM H.size) cw (z_pre G isC hC hnC As) rfl hn hls rfl (lv_room hW) hdg ⟨hf1, hf2⟩) G.2.2.2.1 (fun q _ h => z_freeF G isC hC hnC q h) (z_freeF G isC hC hnC) (fun r b1 t H1 locs1 ht hvm hp hB hz hk hS => ?_)
  obtain ⟨hP1, hK1, hD1⟩ := hB
  rw [ht] at hP1
  exact kk r b1 H1 locs1 hp (z_join G isC isR hC hR hnC hnR hdis hk hP1 hD1 hS)
theorem z_Wi (C : CallFix p m c cc nL s args zT own) (G : zS T A H0 s bs H locs) {post : Int32 → List va_W → Prop} (hM : zMi l T y bytes maxL ret d mc ms (.ref a :: As) bc post) (cw : CallW R s args own Cn index y bytes maxL ret (zW y bytes maxL ret) (zR d mc ms) mc ms n) (isC gs : List Nat) (hC : isC.map (fun i => bs[i]?) = bc.map some) (hR9 : zGp gs bs = br) (hr : ∃ cell : Cell, H[a]? = some cell ∧ cell.vm.isStatics = false ∧ s.vm.findClass Cn = some cell.cls) (hn : As.length = n) (hst : st0 = As.reverse ++ .ref a :: rest) (hls : ls.size = nL) (hdg : decode cc pc = .ok (.invokevirtual index, 3)) (hf1 : cells + mc ≤ R.cells) (hf2 : slots + ms ≤ R.slots)
    (kk : ∀ (r : Int32) (b1 : List va_W) (H1 : Heap) (locs1 : List Loc), post r b1 → zS T A H0 s (br ++ b1) H1 locs1 → W p l e R s m args below meth c H1 locs1 (cells + mc) (slots + ms) Q (F0 m (pc + 3) ls (.int r :: rest)))
    (hW : (rest.map fun v => v.category).sum ≤ 8 := by exact Nat.le_of_ble_eq_true rfl) (hk9 : zCk isC gs = true := by decide +kernel) : W p l e R s m args below meth c H locs cells slots Q (F0 m pc ls st0) := by
  subst hst
  obtain ⟨hnC, hck⟩ := zCk_s hk9
  obtain ⟨isR, hnR, hR, hds⟩ := zGp_is bs gs
  rw [hR9] at hR
  have hdis : ∀ i ∈ isR, i ∉ isC := fun i h1 h2 => hds i h1 (hck i h2)
  refine va_calli (va_runV (As := As) (rest := rest) ⟨C.1, C.2.1, C.2.2.1, C.2.2.2.1, C.2.2.2.2⟩ (hM H.size) cw ⟨(z_pre G isC hC hnC (.ref a :: As)).1, hr, (z_pre G isC hC hnC (.ref a :: As)).2⟩ rfl hn hls rfl (lv_room hW) hdg ⟨hf1, hf2⟩) G.2.2.2.1 (fun q _ h => z_freeF G isC hC hnC q h) (z_freeF G isC hC hnC) (fun r b1 t H1 locs1 ht hvm hp hB hz hk hS => ?_)
  obtain ⟨hP1, hK1, hD1⟩ := hB
  rw [ht] at hP1
  exact kk r b1 H1 locs1 hp (z_join G isC isR hC hR hnC hnR hdis hk hP1 hD1 hS)
theorem z_Wv (C : CallFix p m c cc nL s args zT own) (G : zS T A H0 s bs H locs) {post : List va_W → Prop} (hM : zMv l T y bytes maxL d mc ms (.ref a :: As) bc post) (cw : CallW R s args own Cn index y bytes maxL none (zW y bytes maxL none) (zR d mc ms) mc ms n) (isC gs : List Nat) (hC : isC.map (fun i => bs[i]?) = bc.map some) (hR9 : zGp gs bs = br) (hr : ∃ cell : Cell, H[a]? = some cell ∧ cell.vm.isStatics = false ∧ s.vm.findClass Cn = some cell.cls) (hn : As.length = n) (hst : st0 = As.reverse ++ .ref a :: rest) (hls : ls.size = nL) (hdg : decode cc pc = .ok (.invokevirtual index, 3)) (hf1 : cells + mc ≤ R.cells) (hf2 : slots + ms ≤ R.slots)
    (kk : ∀ (b1 : List va_W) (H1 : Heap) (locs1 : List Loc), post  b1 → zS T A H0 s (br ++ b1) H1 locs1 → W p l e R s m args below meth c H1 locs1 (cells + mc) (slots + ms) Q (F0 m (pc + 3) ls (rest)))
    (hW : (rest.map fun v => v.category).sum ≤ 8 := by exact Nat.le_of_ble_eq_true rfl) (hk9 : zCk isC gs = true := by decide +kernel) : W p l e R s m args below meth c H locs cells slots Q (F0 m pc ls st0) := by
  subst hst
  obtain ⟨hnC, hck⟩ := zCk_s hk9
  obtain ⟨isR, hnR, hR, hds⟩ := zGp_is bs gs
  rw [hR9] at hR
  have hdis : ∀ i ∈ isR, i ∉ isC := fun i h1 h2 => hds i h1 (hck i h2)
  refine va_callv (va_runV (As := As) (rest := rest) ⟨C.1, C.2.1, C.2.2.1, C.2.2.2.1, C.2.2.2.2⟩ (hM H.size) cw ⟨(z_pre G isC hC hnC (.ref a :: As)).1, hr, (z_pre G isC hC hnC (.ref a :: As)).2⟩ rfl hn hls rfl (lv_room hW) hdg ⟨hf1, hf2⟩) G.2.2.2.1 (fun q _ h => z_freeF G isC hC hnC q h) (z_freeF G isC hC hnC) (fun b1 t H1 locs1 ht hvm hp hB hz hk hS => ?_)
  obtain ⟨hP1, hK1, hD1⟩ := hB
  rw [ht] at hP1
  exact kk b1 H1 locs1 hp (z_join G isC isR hC hR hnC hnR hdis hk hP1 hD1 hS)
theorem z_Wq (C : CallFix p m c cc nL s args zT own) (G : zS T A H0 s bs H locs) {post : Option Nat → List va_W → Prop} (hM : zMq l T y bytes maxL ret d mc ms (.ref a :: As) bc post) (cw : CallW R s args own Cn index y bytes maxL ret (zW y bytes maxL ret) (zR d mc ms) mc ms n) (isC gs : List Nat) (hC : isC.map (fun i => bs[i]?) = bc.map some) (hR9 : zGp gs bs = br) (hr : ∃ cell : Cell, H[a]? = some cell ∧ cell.vm.isStatics = false ∧ s.vm.findClass Cn = some cell.cls) (hn : As.length = n) (hst : st0 = As.reverse ++ .ref a :: rest) (hls : ls.size = nL) (hdg : decode cc pc = .ok (.invokevirtual index, 3)) (hf1 : cells + mc ≤ R.cells) (hf2 : slots + ms ≤ R.slots)
    (kk : ∀ (r : Option Nat) (b1 : List va_W) (H1 : Heap) (locs1 : List Loc), post r b1 → zS T A H0 s (br ++ b1) H1 locs1 → W p l e R s m args below meth c H1 locs1 (cells + mc) (slots + ms) Q (F0 m (pc + 3) ls (va_rf r :: rest)))
    (hW : (rest.map fun v => v.category).sum ≤ 8 := by exact Nat.le_of_ble_eq_true rfl) (hk9 : zCk isC gs = true := by decide +kernel) : W p l e R s m args below meth c H locs cells slots Q (F0 m pc ls st0) := by
  subst hst
  obtain ⟨hnC, hck⟩ := zCk_s hk9
  obtain ⟨isR, hnR, hR, hds⟩ := zGp_is bs gs
  rw [hR9] at hR
  have hdis : ∀ i ∈ isR, i ∉ isC := fun i h1 h2 => hds i h1 (hck i h2)
  refine va_callq (va_runV (As := As) (rest := rest) ⟨C.1, C.2.1, C.2.2.1, C.2.2.2.1, C.2.2.2.2⟩ (hM H.size) cw ⟨(z_pre G isC hC hnC (.ref a :: As)).1, hr, (z_pre G isC hC hnC (.ref a :: As)).2⟩ rfl hn hls rfl (lv_room hW) hdg ⟨hf1, hf2⟩) G.2.2.2.1 (fun q _ h => z_freeF G isC hC hnC q h) (z_freeF G isC hC hnC) (fun r b1 t H1 locs1 ht hvm hp hB hz hk hS => ?_)
  obtain ⟨hP1, hK1, hD1⟩ := hB
  rw [ht] at hP1
  exact kk r b1 H1 locs1 hp (z_join G isC isR hC hR hnC hnR hdis hk hP1 hD1 hS)
theorem z_Iv (C : CallFix p m c cc nL s args zT own) (G : zS T A H0 s bs H locs) {post : List va_W → Prop} (hM : zMv l T y bytes maxL d mc ms (.ref a :: As) bc post) (cw : CallB R s args own index y bytes maxL none (zW y bytes maxL none) (zR d mc ms) mc ms n ∧ y.name = "<init>" ∧ (Cond.instanceMethod y).before args s = true) (isC gs : List Nat) (hC : isC.map (fun i => bs[i]?) = bc.map some) (hR9 : zGp gs bs = br) (hn : As.length = n) (hst : st0 = As.reverse ++ .ref a :: rest) (hls : ls.size = nL) (hdg : decode cc pc = .ok (.invokespecial index, 3)) (hf1 : cells + mc ≤ R.cells) (hf2 : slots + ms ≤ R.slots)
    (kk : ∀ (b1 : List va_W) (H1 : Heap) (locs1 : List Loc), post  b1 → zS T A H0 s (br ++ b1) H1 locs1 → W p l e R s m args below meth c H1 locs1 (cells + mc) (slots + ms) Q (F0 m (pc + 3) ls (rest)))
    (hW : (rest.map fun v => v.category).sum ≤ 8 := by exact Nat.le_of_ble_eq_true rfl) (hk9 : zCk isC gs = true := by decide +kernel) : W p l e R s m args below meth c H locs cells slots Q (F0 m pc ls st0) := by
  subst hst
  obtain ⟨hnC, hck⟩ := zCk_s hk9
  obtain ⟨isR, hnR, hR, hds⟩ := zGp_is bs gs
  rw [hR9] at hR
  have hdis : ∀ i ∈ isR, i ∉ isC := fun i h1 h2 => hds i h1 (hck i h2)
  refine va_callv (va_runI (As := As) (rest := rest) ⟨C.1, C.2.1, C.2.2.1, C.2.2.2.1, C.2.2.2.2⟩ (hM H.size) cw (z_pre G isC hC hnC (.ref a :: As)) rfl hn hls rfl (lv_room hW) hdg ⟨hf1, hf2⟩) G.2.2.2.1 (fun q _ h => z_freeF G isC hC hnC q h) (z_freeF G isC hC hnC) (fun b1 t H1 locs1 ht hvm hp hB hz hk hS => ?_)
  obtain ⟨hP1, hK1, hD1⟩ := hB
  rw [ht] at hP1
  exact kk b1 H1 locs1 hp (z_join G isC isR hC hR hnC hnR hdis hk hP1 hD1 hS)
theorem z_Jv (C : CallFix p m c cc nL s args zT own) (G : zS T A H0 s bs H locs) {post : List va_W → Prop} (hM : zMv l T y bytes maxL d mc ms (.ref a :: As) bc post) (cw : va_CN R s args own index y host bytes maxL none (zW y bytes maxL none) (zR d mc ms) mc ms n ∧ y.name = "<init>" ∧ (Cond.instanceMethod y).before args s = true) (isC gs : List Nat) (hC : isC.map (fun i => bs[i]?) = bc.map some) (hR9 : zGp gs bs = br) (hn : As.length = n) (hst : st0 = As.reverse ++ .ref a :: rest) (hls : ls.size = nL) (hdg : decode cc pc = .ok (.invokespecial index, 3)) (hf1 : cells + mc ≤ R.cells) (hf2 : slots + ms ≤ R.slots)
    (kk : ∀ (b1 : List va_W) (H1 : Heap) (locs1 : List Loc), post  b1 → zS T A H0 s (br ++ b1) H1 locs1 → W p l e R s m args below meth c H1 locs1 (cells + mc) (slots + ms) Q (F0 m (pc + 3) ls (rest)))
    (hW : (rest.map fun v => v.category).sum ≤ 8 := by exact Nat.le_of_ble_eq_true rfl) (hk9 : zCk isC gs = true := by decide +kernel) : W p l e R s m args below meth c H locs cells slots Q (F0 m pc ls st0) := by
  subst hst
  obtain ⟨hnC, hck⟩ := zCk_s hk9
  obtain ⟨isR, hnR, hR, hds⟩ := zGp_is bs gs
  rw [hR9] at hR
  have hdis : ∀ i ∈ isR, i ∉ isC := fun i h1 h2 => hds i h1 (hck i h2)
  refine va_callv (va_runIN (As := As) (rest := rest) ⟨C.1, C.2.1, C.2.2.1, C.2.2.2.1, C.2.2.2.2⟩ (hM H.size) cw (z_pre G isC hC hnC (.ref a :: As)) rfl hn hls rfl (lv_room hW) hdg ⟨hf1, hf2⟩) G.2.2.2.1 (fun q _ h => z_freeF G isC hC hnC q h) (z_freeF G isC hC hnC) (fun b1 t H1 locs1 ht hvm hp hB hz hk hS => ?_)
  obtain ⟨hP1, hK1, hD1⟩ := hB
  rw [ht] at hP1
  exact kk b1 H1 locs1 hp (z_join G isC isR hC hR hnC hnR hdis hk hP1 hD1 hS)
end ZC
section ZG
theorem zgood : zT.all goodWord = true := List.all_eq_true.mpr (fun w h => (List.mem_filter.mp h).2)
theorem goodIn_app {big a b : List Cond} (ha : GoodIn big a) (hb : GoodIn big b) : GoodIn big (a ++ b) := fun w h => (List.mem_append.mp h).elim (ha w) (hb w)
theorem zIn {y : MethodName} {b : ByteArray} {n : Nat} {ret : Option FieldType} (hc : Cond.code y b n ret ∈ zT) : GoodIn zT (zW y b n ret) := by
  intro w hw
  have hm : w ∈ zT := by
    rcases List.mem_cons.mp hw with h | h
    · rw [h]; exact hc
    · exact h
  exact ⟨hm, good_of_word (List.all_eq_true.mp zgood w hm)⟩
theorem zIns {ws : List Cond} (h : ∀ w ∈ ws, w ∈ zT) : GoodIn zT ws := fun w hw => ⟨h w hw, good_of_word (List.all_eq_true.mp zgood w (h w hw))⟩
variable {R : Room} {s : State} {args : Array Value} {own host : String} {index n maxL d mc ms : Nat} {y : MethodName} {b : ByteArray} {ret : Option FieldType}
theorem z_cwV (hts : ∀ w ∈ zT, w.before args s = true) (hc : Cond.code y b maxL ret ∈ zT) (hl : Cond.methodLink own index y ∈ zT) (hi : Cond.instanceMethod y ∈ zT) (hs : Cond.selects y.cls y y ∈ zT) (hini : Cond.initialized y.cls ∈ zT) (hd : y.cls ≠ "java/lang/invoke/MethodHandle" ∧ y.cls ≠ "java/lang/invoke/VarHandle" ∧ (parseMethodDescriptor y.desc).map (fun d => d.parameters.length) = some n) (h1 : d + 1 ≤ R.frames) (h2 : 8 + (maxL + 11) + 40 * d ≤ R.locals) : CallW R s args own y.cls index y b maxL ret (zW y b maxL ret) (zR d mc ms) mc ms n :=
  cwV n hts (goodIn_app (zIns (by intro w hw; simp only [List.mem_cons, List.not_mem_nil, or_false] at hw; rcases hw with rfl | rfl | rfl | rfl <;> assumption)) (zIn hc)) rfl rfl rfl ⟨rfl, hd⟩ ⟨h1, h2⟩
theorem z_cwS (hts : ∀ w ∈ zT, w.before args s = true) (hc : Cond.code y b maxL ret ∈ zT) (hl : Cond.methodLink own index y ∈ zT) (hi : Cond.static y ∈ zT) (hini : Cond.initialized y.cls ∈ zT) (hd : y.cls ≠ "java/lang/invoke/MethodHandle" ∧ y.cls ≠ "java/lang/invoke/VarHandle" ∧ (parseMethodDescriptor y.desc).map (fun d => d.parameters.length) = some n) (h1 : d + 1 ≤ R.frames) (h2 : 8 + (maxL + 11) + 40 * d ≤ R.locals) : CallB R s args own index y b maxL ret (zW y b maxL ret) (zR d mc ms) mc ms n ∧ (Cond.static y).before args s = true :=
  va_cwS n hts (goodIn_app (zIns (by intro w hw; simp only [List.mem_cons, List.not_mem_nil, or_false] at hw; rcases hw with rfl | rfl | rfl <;> assumption)) (zIn hc)) rfl rfl rfl hd ⟨h1, h2⟩
theorem z_cwI (hts : ∀ w ∈ zT, w.before args s = true) (hc : Cond.code y b maxL none ∈ zT) (hl : Cond.methodLink own index y ∈ zT) (hi : Cond.instanceMethod y ∈ zT) (hini : Cond.initialized y.cls ∈ zT) (hnm : y.name = "<init>") (hd : y.cls ≠ "java/lang/invoke/MethodHandle" ∧ y.cls ≠ "java/lang/invoke/VarHandle" ∧ (parseMethodDescriptor y.desc).map (fun d => d.parameters.length) = some n) (h1 : d + 1 ≤ R.frames) (h2 : 8 + (maxL + 11) + 40 * d ≤ R.locals) : CallB R s args own index y b maxL none (zW y b maxL none) (zR d mc ms) mc ms n ∧ y.name = "<init>" ∧ (Cond.instanceMethod y).before args s = true :=
  cwI n hts (zIn hc) rfl rfl rfl (hts _ hini) (hts _ hl) (hts _ hi) hnm hd ⟨h1, h2⟩
theorem z_cwJ (hts : ∀ w ∈ zT, w.before args s = true) (hc : Cond.code y b maxL none ∈ zT) (hl : va_Nw (.methodLinkNest own index y host) s) (hi : Cond.instanceMethod y ∈ zT) (hini : Cond.initialized y.cls ∈ zT) (hnm : y.name = "<init>") (hd : y.cls ≠ "java/lang/invoke/MethodHandle" ∧ y.cls ≠ "java/lang/invoke/VarHandle" ∧ (parseMethodDescriptor y.desc).map (fun d => d.parameters.length) = some n) (h1 : d + 1 ≤ R.frames) (h2 : 8 + (maxL + 11) + 40 * d ≤ R.locals) : va_CN R s args own index y host b maxL none (zW y b maxL none) (zR d mc ms) mc ms n ∧ y.name = "<init>" ∧ (Cond.instanceMethod y).before args s = true :=
  ⟨va_cnB n hts (zIn hc) rfl rfl rfl hl (hts _ hini) hd ⟨h1, h2⟩, hnm, hts _ hi⟩
end ZG
section ZE
variable {p : Program} {l : Launch} {e : Env} {s : State} {m : MethodId} {args : Array Value} {below : List Frame} {meth : Method} {c : Code} {H : Heap} {locs : List Loc} {cells slots mc ms : Nat} {R : Room}
variable {cc : ByteArray} {nL pc : Nat} {ls : Array Slot} {T : zTy} {A : Nat → Prop} {bs : List va_W} {own : String}
theorem z_iret {post : Int32 → List va_W → Prop} {v : Int32} (C : CallFix p m c cc nL s args zT own) (hr : meth.sig.returnType = some .int) (hlocks : meth.locks = false) (G : zS T A s.heap s bs H locs) (h1 : cells ≤ mc) (h2 : slots ≤ ms) (hdg : decode cc pc = .ok (.ireturn, 1)) (hp : post v bs) : W p l e R s m args below meth c H locs cells slots (MQ below (va_Qi post (zB T A) A) args s mc ms A) (F0 m pc ls [.int v]) :=
  W.widen h1 h2 (W.iret C.1 C.2.1 hr (fun t ht hW => ⟨⟨v, bs, rfl, hp, by rw [ht]; exact G.2.1, va_K.moved hW.alike G.1, G.2.2.1⟩, G.2.2.2.1.F ht⟩) G.2.2.2.1.2.2 hdg hlocks)
theorem z_zret {ty : FieldType} {post : Int32 → List va_W → Prop} {v : Int32} (C : CallFix p m c cc nL s args zT own) (hr : meth.sig.returnType = some ty) (hlocks : meth.locks = false) (G : zS T A s.heap s bs H locs) (h1 : cells ≤ mc) (h2 : slots ≤ ms) (hdg : decode cc pc = .ok (.ireturn, 1)) (hn : narrow ty (.int v) = .int v) (hp : post v bs) : W p l e R s m args below meth c H locs cells slots (MQ below (va_Qi post (zB T A) A) args s mc ms A) (F0 m pc ls [.int v]) :=
  W.widen h1 h2 (W.zret C.1 C.2.1 hr hn (fun t ht hW => ⟨⟨v, bs, rfl, hp, by rw [ht]; exact G.2.1, va_K.moved hW.alike G.1, G.2.2.1⟩, G.2.2.2.1.F ht⟩) G.2.2.2.1.2.2 hdg hlocks)
theorem z_vret {post : List va_W → Prop} (C : CallFix p m c cc nL s args zT own) (hr : meth.sig.returnType = none) (hlocks : meth.locks = false) (G : zS T A s.heap s bs H locs) (h1 : cells ≤ mc) (h2 : slots ≤ ms) (hdg : decode cc pc = .ok (.return_, 1)) (hp : post bs) : W p l e R s m args below meth c H locs cells slots (MQ below (va_Qv post (zB T A) A) args s mc ms A) (F0 m pc ls []) :=
  W.widen h1 h2 (W.vret C.1 C.2.1 hr (fun t ht hW => ⟨⟨bs, rfl, hp, by rw [ht]; exact G.2.1, va_K.moved hW.alike G.1, G.2.2.1⟩, G.2.2.2.1.F ht⟩) G.2.2.2.1.2.2 hdg hlocks)
theorem z_aret {post : Option Nat → List va_W → Prop} {r : Option Nat} {rt : FieldType} (C : CallFix p m c cc nL s args zT own) (hr : meth.sig.returnType = some rt) (hrt : (∃ n, rt = .object n) ∨ ∃ t, rt = .array t) (hlocks : meth.locks = false) (G : zS T A s.heap s bs H locs) (h1 : cells ≤ mc) (h2 : slots ≤ ms) (hdg : decode cc pc = .ok (.areturn, 1)) (hp : post r bs) : W p l e R s m args below meth c H locs cells slots (MQ below (va_Qq post (zB T A) A) args s mc ms A) (F0 m pc ls [va_rf r]) :=
  W.widen h1 h2 (W.aret C.1 C.2.1 hr hrt (va_rf_or r) (fun t ht hW => ⟨⟨r, bs, rfl, hp, by rw [ht]; exact G.2.1, va_K.moved hW.alike G.1, G.2.2.1⟩, G.2.2.2.1.F ht⟩) G.2.2.2.1.2.2 hdg hlocks)
theorem zMi_of {y : MethodName} {b : ByteArray} {n : Nat} {ret : Option FieldType} {d : Nat} {av : List Value} {post : Int32 → List va_W → Prop} (hy : plainName y.cls = true) (ho : y.cls = own) (hlen : (lg_sl av).length ≤ n) (k : zBody l T y own b n ret d mc ms av bs (fun A => va_Qi post (zB T A) A)) : zMi l T y b n ret d mc ms av bs post := z_body (Qc := fun A => va_Qi post (zB T A) A) hy ho hlen k
theorem zMv_of {y : MethodName} {b : ByteArray} {n : Nat} {d : Nat} {av : List Value} {post : List va_W → Prop} (hy : plainName y.cls = true) (ho : y.cls = own) (hlen : (lg_sl av).length ≤ n) (k : zBody l T y own b n none d mc ms av bs (fun A => va_Qv post (zB T A) A)) : zMv l T y b n d mc ms av bs post := z_body (Qc := fun A => va_Qv post (zB T A) A) hy ho hlen k
theorem zMq_of {y : MethodName} {b : ByteArray} {n : Nat} {ret : Option FieldType} {d : Nat} {av : List Value} {post : Option Nat → List va_W → Prop} (hy : plainName y.cls = true) (ho : y.cls = own) (hlen : (lg_sl av).length ≤ n) (k : zBody l T y own b n ret d mc ms av bs (fun A => va_Qq post (zB T A) A)) : zMq l T y b n ret d mc ms av bs post := z_body (Qc := fun A => va_Qq post (zB T A) A) hy ho hlen k
end ZE

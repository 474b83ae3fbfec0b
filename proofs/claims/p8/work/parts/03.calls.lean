section ZC
variable {p : Program} {l : Launch} {e : Env} {R : Room} {s : State} {m : MethodId} {args : Array Value} {below : List Frame} {meth : Method} {c : Code} {H : Heap} {locs : List Loc} {cells slots : Nat} {Q : State → Prop}
variable {cc : ByteArray} {nL pc : Nat} {ls : Array Slot} {rest st0 : List Value} {T : zTy} {A : Nat → Prop} {a : Nat} {bs bc br : List va_W} {H0 : Heap} {own host Cn : String}
variable {y : MethodName} {bytes : ByteArray} {maxL index n d mc ms : Nat} {ret : Option FieldType} {As : List Value}
theorem z_freeF (G : zS T A H0 s bs H locs) (isC : List Nat) (hC : isC.map (fun i => bs[i]?) = bc.map some) (hn : va_nd isC = true) : ∀ q, va_A bc.flatten H.size q → A q := by
  intro q h
  rcases h with ⟨k, e, h⟩ | h
  · exact (zD_sub G.2.2.1 isC hn hC).2 k _ h
  · exact G.2.2.2.2.1 q (Nat.le_trans G.2.2.2.1.1 h)
theorem z_pre (G : zS T A H0 s bs H locs) (isC : List Nat) (hC : isC.map (fun i => bs[i]?) = bc.map some) (hn : va_nd isC = true) (av : List Value) : FrameBlind (zPre T av bc H.size) ∧ ∀ U : State, U.heap = H → s.WarmedH U.vm → zPre T av bc H.size av.toArray U :=
  ⟨fun a U g mk q => by
    obtain ⟨q0, q1, qP, qK, qD, qX, qU⟩ := q
    exact ⟨q0, q1, qP, va_K.moved (u := U) (U := U.calling g mk a) (Vm.Alike.refl U.vm) qK, qD, zX.same (s := U) (U := U.calling g mk a) rfl qX, zU.same (s := U) (U := U.calling g mk a) rfl qU⟩,
  fun U hU hW => ⟨rfl, by rw [hU], by rw [hU]; exact zP_sub G.2.1 isC hC, va_K.moved hW.alike G.1, (zD_sub G.2.2.1 isC hn hC).weaken (fun _ _ _ _ => trivial), G.2.2.2.2.2.1.warm hW, by rw [hU]; exact ((G.2.2.2.2.2.2.kn G.2.2.2.1.2.1 (z_freeF G isC hC hn)).warm hW)⟩⟩
theorem z_recv {ci : Nat} {q : vw_C} {fs : List Value} (G : zS T A H0 s bs H locs) (isC : List Nat) (hC : isC.map (fun i => bs[i]?) = bc.map some) (hc : vwCl[ci]? = some q) (hm : (a, .inr (ci, fs)) ∈ bc.flatten) : ∃ cell : Cell, H[a]? = some cell ∧ cell.vm.isStatics = false ∧ s.vm.findClass q.1 = some cell.cls := by
  obtain ⟨k, hk⟩ := List.getElem?_of_mem hm
  exact va_recv G.1 (zP_sub G.2.1 isC hC) hc hk
theorem z_join {b1 : List va_W} {H1 : Heap} {locs1 : List Loc} (G : zS T A H0 s bs H locs) (isC isR : List Nat) (hC : isC.map (fun i => bs[i]?) = bc.map some) (hR : isR.map (fun i => bs[i]?) = br.map some) (hnC : va_nd isC = true) (hnR : va_nd isR = true) (hdis : ∀ i ∈ isR, i ∉ isC)
    (hk : ∀ q : Nat, q < H.size → ¬ va_A bc.flatten H.size q → H1[q]? = H[q]?) (hP1 : va_P T.1 vwCl b1.flatten H1) (hD1 : va_D (va_A bc.flatten H.size) b1.flatten) (hS1 : va_S A H0 H1 locs1) : zS T A H0 s (br ++ b1) H1 locs1 := by
  have hPR := zP_sub G.2.1 isR hR
  have hDR := zD_sub G.2.2.1 isR hnR hR
  have hF := z_freeF G isC hC hnC
  have apart : ∀ x ∈ br.flatten, x.1 < H.size ∧ ¬ va_A bc.flatten H.size x.1 := by
    intro x hx
    have hl := (zP_mem.mp hPR x hx).lt
    refine ⟨hl, fun h => ?_⟩
    rcases h with ⟨k, e, h⟩ | h
    · obtain ⟨b, hb, hxb⟩ := List.mem_flatten.mp hx
      obtain ⟨i, hi⟩ := List.getElem?_of_mem hb
      obtain ⟨i', i1, i2⟩ := zat hR i b hi
      obtain ⟨b2, hb2, hxb2⟩ := List.mem_flatten.mp (List.mem_of_getElem? h)
      obtain ⟨j, hj⟩ := List.getElem?_of_mem hb2
      obtain ⟨j', j1, j2⟩ := zat hC j b2 hj
      refine zD_ne G.2.2.1 i2 j2 (fun e => ?_) x hxb _ hxb2 rfl
      subst e
      exact hdis i' (List.mem_of_getElem? i1) (List.mem_of_getElem? j1)
    · omega
  refine ⟨G.1, ?_, ?_, hS1, G.2.2.2.2⟩
  · rw [List.flatten_append]
    refine va_P.app ?_ hP1
    rw [zP_mem] at hPR ⊢
    exact fun x hx => (hPR x hx).kept (hk x.1 (apart x hx).1 (apart x hx).2)
  · rw [List.flatten_append]
    have h1 := zD_iff.mp hDR
    have h2 := zD_iff.mp hD1
    refine zD_iff.mpr ⟨List.pairwise_append.mpr ⟨h1.1, h2.1, fun x hx z hz e => (apart x hx).2 (by rw [e]; exact h2.2 z hz)⟩, fun q hq => ?_⟩
    rcases List.mem_append.mp hq with h | h
    · exact h1.2 q h
    · exact hF _ (h2.2 q h)

theorem z_Vi (C : CallFix p m c cc nL s args zT own) (G : zS T A H0 s bs H locs) {post : Int32 → List va_W → Prop} (hM : zMi l T y bytes maxL ret d mc ms (.ref a :: As) bc post) (cw : CallW R s args own Cn index y bytes maxL ret (zW y bytes maxL ret) (zR d mc ms) mc ms n) (isC isR : List Nat) (hC : isC.map (fun i => bs[i]?) = bc.map some) (hR : isR.map (fun i => bs[i]?) = br.map some) {ci : Nat} {qc : vw_C} {fs : List Value} (hc : vwCl[ci]? = some qc) (hq : qc.1 = Cn) (hm : (a, .inr (ci, fs)) ∈ bc.flatten) (hn : As.length = n) (hst : st0 = As.reverse ++ .ref a :: rest) (hls : ls.size = nL) (hdg : decode cc pc = .ok (.invokevirtual index, 3)) (hf1 : cells + mc ≤ R.cells) (hf2 : slots + ms ≤ R.slots)
    (kk : ∀ (r : Int32) (b1 : List va_W) (H1 : Heap) (locs1 : List Loc), post r b1 → zS T A H0 s (br ++ b1) H1 locs1 → W p l e R s m args below meth c H1 locs1 (cells + mc) (slots + ms) Q (F0 m (pc + 3) ls (.int r :: rest)))
    (hW : (rest.map fun v => v.category).sum ≤ 8 := by exact Nat.le_of_ble_eq_true rfl) (hnC : va_nd isC = true := by decide) (hnR : va_nd isR = true := by decide) (hdis : ∀ i ∈ isR, i ∉ isC := by decide) : W p l e R s m args below meth c H locs cells slots Q (F0 m pc ls st0) := by
  subst hst
  subst hq
  refine va_calli (va_runV (As := As) (rest := rest) ⟨C.1, C.2.1, C.2.2.1, C.2.2.2.1, C.2.2.2.2⟩ (hM H.size) cw ⟨(z_pre G isC hC hnC (.ref a :: As)).1, z_recv G isC hC hc hm, (z_pre G isC hC hnC (.ref a :: As)).2⟩ rfl hn hls rfl (lv_room hW) hdg ⟨hf1, hf2⟩) G.2.2.2.1 (fun q _ h => z_freeF G isC hC hnC q h) (z_freeF G isC hC hnC) (fun r b1 t H1 locs1 ht hvm hp hB hz hk hS => ?_)
  obtain ⟨hP1, hK1, hD1⟩ := hB
  rw [ht] at hP1
  exact kk r b1 H1 locs1 hp (z_join G isC isR hC hR hnC hnR hdis hk hP1 hD1 hS)
theorem z_Vv (C : CallFix p m c cc nL s args zT own) (G : zS T A H0 s bs H locs) {post : List va_W → Prop} (hM : zMv l T y bytes maxL d mc ms (.ref a :: As) bc post) (cw : CallW R s args own Cn index y bytes maxL none (zW y bytes maxL none) (zR d mc ms) mc ms n) (isC isR : List Nat) (hC : isC.map (fun i => bs[i]?) = bc.map some) (hR : isR.map (fun i => bs[i]?) = br.map some) {ci : Nat} {qc : vw_C} {fs : List Value} (hc : vwCl[ci]? = some qc) (hq : qc.1 = Cn) (hm : (a, .inr (ci, fs)) ∈ bc.flatten) (hn : As.length = n) (hst : st0 = As.reverse ++ .ref a :: rest) (hls : ls.size = nL) (hdg : decode cc pc = .ok (.invokevirtual index, 3)) (hf1 : cells + mc ≤ R.cells) (hf2 : slots + ms ≤ R.slots)
    (kk : ∀ (b1 : List va_W) (H1 : Heap) (locs1 : List Loc), post  b1 → zS T A H0 s (br ++ b1) H1 locs1 → W p l e R s m args below meth c H1 locs1 (cells + mc) (slots + ms) Q (F0 m (pc + 3) ls (rest)))
    (hW : (rest.map fun v => v.category).sum ≤ 8 := by exact Nat.le_of_ble_eq_true rfl) (hnC : va_nd isC = true := by decide) (hnR : va_nd isR = true := by decide) (hdis : ∀ i ∈ isR, i ∉ isC := by decide) : W p l e R s m args below meth c H locs cells slots Q (F0 m pc ls st0) := by
  subst hst
  subst hq
  refine va_callv (va_runV (As := As) (rest := rest) ⟨C.1, C.2.1, C.2.2.1, C.2.2.2.1, C.2.2.2.2⟩ (hM H.size) cw ⟨(z_pre G isC hC hnC (.ref a :: As)).1, z_recv G isC hC hc hm, (z_pre G isC hC hnC (.ref a :: As)).2⟩ rfl hn hls rfl (lv_room hW) hdg ⟨hf1, hf2⟩) G.2.2.2.1 (fun q _ h => z_freeF G isC hC hnC q h) (z_freeF G isC hC hnC) (fun b1 t H1 locs1 ht hvm hp hB hz hk hS => ?_)
  obtain ⟨hP1, hK1, hD1⟩ := hB
  rw [ht] at hP1
  exact kk b1 H1 locs1 hp (z_join G isC isR hC hR hnC hnR hdis hk hP1 hD1 hS)
theorem z_Vq (C : CallFix p m c cc nL s args zT own) (G : zS T A H0 s bs H locs) {post : Option Nat → List va_W → Prop} (hM : zMq l T y bytes maxL ret d mc ms (.ref a :: As) bc post) (cw : CallW R s args own Cn index y bytes maxL ret (zW y bytes maxL ret) (zR d mc ms) mc ms n) (isC isR : List Nat) (hC : isC.map (fun i => bs[i]?) = bc.map some) (hR : isR.map (fun i => bs[i]?) = br.map some) {ci : Nat} {qc : vw_C} {fs : List Value} (hc : vwCl[ci]? = some qc) (hq : qc.1 = Cn) (hm : (a, .inr (ci, fs)) ∈ bc.flatten) (hn : As.length = n) (hst : st0 = As.reverse ++ .ref a :: rest) (hls : ls.size = nL) (hdg : decode cc pc = .ok (.invokevirtual index, 3)) (hf1 : cells + mc ≤ R.cells) (hf2 : slots + ms ≤ R.slots)
    (kk : ∀ (r : Option Nat) (b1 : List va_W) (H1 : Heap) (locs1 : List Loc), post r b1 → zS T A H0 s (br ++ b1) H1 locs1 → W p l e R s m args below meth c H1 locs1 (cells + mc) (slots + ms) Q (F0 m (pc + 3) ls (va_rf r :: rest)))
    (hW : (rest.map fun v => v.category).sum ≤ 8 := by exact Nat.le_of_ble_eq_true rfl) (hnC : va_nd isC = true := by decide) (hnR : va_nd isR = true := by decide) (hdis : ∀ i ∈ isR, i ∉ isC := by decide) : W p l e R s m args below meth c H locs cells slots Q (F0 m pc ls st0) := by
  subst hst
  subst hq
  refine va_callq (va_runV (As := As) (rest := rest) ⟨C.1, C.2.1, C.2.2.1, C.2.2.2.1, C.2.2.2.2⟩ (hM H.size) cw ⟨(z_pre G isC hC hnC (.ref a :: As)).1, z_recv G isC hC hc hm, (z_pre G isC hC hnC (.ref a :: As)).2⟩ rfl hn hls rfl (lv_room hW) hdg ⟨hf1, hf2⟩) G.2.2.2.1 (fun q _ h => z_freeF G isC hC hnC q h) (z_freeF G isC hC hnC) (fun r b1 t H1 locs1 ht hvm hp hB hz hk hS => ?_)
  obtain ⟨hP1, hK1, hD1⟩ := hB
  rw [ht] at hP1
  exact kk r b1 H1 locs1 hp (z_join G isC isR hC hR hnC hnR hdis hk hP1 hD1 hS)
theorem z_Ni (C : CallFix p m c cc nL s args zT own) (G : zS T A H0 s bs H locs) {post : Int32 → List va_W → Prop} (hM : zMi l T y bytes maxL ret d mc ms (.ref a :: As) bc post) (cw : va_CN R s args own index y host bytes maxL ret (zW y bytes maxL ret) (zR d mc ms) mc ms n ∧ (Cond.instanceMethod y).before args s = true ∧ (Cond.selects Cn y y).before args s = true) (isC isR : List Nat) (hC : isC.map (fun i => bs[i]?) = bc.map some) (hR : isR.map (fun i => bs[i]?) = br.map some) {ci : Nat} {qc : vw_C} {fs : List Value} (hc : vwCl[ci]? = some qc) (hq : qc.1 = Cn) (hm : (a, .inr (ci, fs)) ∈ bc.flatten) (hn : As.length = n) (hst : st0 = As.reverse ++ .ref a :: rest) (hls : ls.size = nL) (hdg : decode cc pc = .ok (.invokevirtual index, 3)) (hf1 : cells + mc ≤ R.cells) (hf2 : slots + ms ≤ R.slots)
    (kk : ∀ (r : Int32) (b1 : List va_W) (H1 : Heap) (locs1 : List Loc), post r b1 → zS T A H0 s (br ++ b1) H1 locs1 → W p l e R s m args below meth c H1 locs1 (cells + mc) (slots + ms) Q (F0 m (pc + 3) ls (.int r :: rest)))
    (hW : (rest.map fun v => v.category).sum ≤ 8 := by exact Nat.le_of_ble_eq_true rfl) (hnC : va_nd isC = true := by decide) (hnR : va_nd isR = true := by decide) (hdis : ∀ i ∈ isR, i ∉ isC := by decide) : W p l e R s m args below meth c H locs cells slots Q (F0 m pc ls st0) := by
  subst hst
  subst hq
  refine va_calli (va_runVN (As := As) (rest := rest) ⟨C.1, C.2.1, C.2.2.1, C.2.2.2.1, C.2.2.2.2⟩ (hM H.size) cw ⟨(z_pre G isC hC hnC (.ref a :: As)).1, z_recv G isC hC hc hm, (z_pre G isC hC hnC (.ref a :: As)).2⟩ rfl hn hls rfl (lv_room hW) hdg ⟨hf1, hf2⟩) G.2.2.2.1 (fun q _ h => z_freeF G isC hC hnC q h) (z_freeF G isC hC hnC) (fun r b1 t H1 locs1 ht hvm hp hB hz hk hS => ?_)
  obtain ⟨hP1, hK1, hD1⟩ := hB
  rw [ht] at hP1
  exact kk r b1 H1 locs1 hp (z_join G isC isR hC hR hnC hnR hdis hk hP1 hD1 hS)
theorem z_Nv (C : CallFix p m c cc nL s args zT own) (G : zS T A H0 s bs H locs) {post : List va_W → Prop} (hM : zMv l T y bytes maxL d mc ms (.ref a :: As) bc post) (cw : va_CN R s args own index y host bytes maxL none (zW y bytes maxL none) (zR d mc ms) mc ms n ∧ (Cond.instanceMethod y).before args s = true ∧ (Cond.selects Cn y y).before args s = true) (isC isR : List Nat) (hC : isC.map (fun i => bs[i]?) = bc.map some) (hR : isR.map (fun i => bs[i]?) = br.map some) {ci : Nat} {qc : vw_C} {fs : List Value} (hc : vwCl[ci]? = some qc) (hq : qc.1 = Cn) (hm : (a, .inr (ci, fs)) ∈ bc.flatten) (hn : As.length = n) (hst : st0 = As.reverse ++ .ref a :: rest) (hls : ls.size = nL) (hdg : decode cc pc = .ok (.invokevirtual index, 3)) (hf1 : cells + mc ≤ R.cells) (hf2 : slots + ms ≤ R.slots)
    (kk : ∀ (b1 : List va_W) (H1 : Heap) (locs1 : List Loc), post  b1 → zS T A H0 s (br ++ b1) H1 locs1 → W p l e R s m args below meth c H1 locs1 (cells + mc) (slots + ms) Q (F0 m (pc + 3) ls (rest)))
    (hW : (rest.map fun v => v.category).sum ≤ 8 := by exact Nat.le_of_ble_eq_true rfl) (hnC : va_nd isC = true := by decide) (hnR : va_nd isR = true := by decide) (hdis : ∀ i ∈ isR, i ∉ isC := by decide) : W p l e R s m args below meth c H locs cells slots Q (F0 m pc ls st0) := by
  subst hst
  subst hq
  refine va_callv (va_runVN (As := As) (rest := rest) ⟨C.1, C.2.1, C.2.2.1, C.2.2.2.1, C.2.2.2.2⟩ (hM H.size) cw ⟨(z_pre G isC hC hnC (.ref a :: As)).1, z_recv G isC hC hc hm, (z_pre G isC hC hnC (.ref a :: As)).2⟩ rfl hn hls rfl (lv_room hW) hdg ⟨hf1, hf2⟩) G.2.2.2.1 (fun q _ h => z_freeF G isC hC hnC q h) (z_freeF G isC hC hnC) (fun b1 t H1 locs1 ht hvm hp hB hz hk hS => ?_)
  obtain ⟨hP1, hK1, hD1⟩ := hB
  rw [ht] at hP1
  exact kk b1 H1 locs1 hp (z_join G isC isR hC hR hnC hnR hdis hk hP1 hD1 hS)
theorem z_Nq (C : CallFix p m c cc nL s args zT own) (G : zS T A H0 s bs H locs) {post : Option Nat → List va_W → Prop} (hM : zMq l T y bytes maxL ret d mc ms (.ref a :: As) bc post) (cw : va_CN R s args own index y host bytes maxL ret (zW y bytes maxL ret) (zR d mc ms) mc ms n ∧ (Cond.instanceMethod y).before args s = true ∧ (Cond.selects Cn y y).before args s = true) (isC isR : List Nat) (hC : isC.map (fun i => bs[i]?) = bc.map some) (hR : isR.map (fun i => bs[i]?) = br.map some) {ci : Nat} {qc : vw_C} {fs : List Value} (hc : vwCl[ci]? = some qc) (hq : qc.1 = Cn) (hm : (a, .inr (ci, fs)) ∈ bc.flatten) (hn : As.length = n) (hst : st0 = As.reverse ++ .ref a :: rest) (hls : ls.size = nL) (hdg : decode cc pc = .ok (.invokevirtual index, 3)) (hf1 : cells + mc ≤ R.cells) (hf2 : slots + ms ≤ R.slots)
    (kk : ∀ (r : Option Nat) (b1 : List va_W) (H1 : Heap) (locs1 : List Loc), post r b1 → zS T A H0 s (br ++ b1) H1 locs1 → W p l e R s m args below meth c H1 locs1 (cells + mc) (slots + ms) Q (F0 m (pc + 3) ls (va_rf r :: rest)))
    (hW : (rest.map fun v => v.category).sum ≤ 8 := by exact Nat.le_of_ble_eq_true rfl) (hnC : va_nd isC = true := by decide) (hnR : va_nd isR = true := by decide) (hdis : ∀ i ∈ isR, i ∉ isC := by decide) : W p l e R s m args below meth c H locs cells slots Q (F0 m pc ls st0) := by
  subst hst
  subst hq
  refine va_callq (va_runVN (As := As) (rest := rest) ⟨C.1, C.2.1, C.2.2.1, C.2.2.2.1, C.2.2.2.2⟩ (hM H.size) cw ⟨(z_pre G isC hC hnC (.ref a :: As)).1, z_recv G isC hC hc hm, (z_pre G isC hC hnC (.ref a :: As)).2⟩ rfl hn hls rfl (lv_room hW) hdg ⟨hf1, hf2⟩) G.2.2.2.1 (fun q _ h => z_freeF G isC hC hnC q h) (z_freeF G isC hC hnC) (fun r b1 t H1 locs1 ht hvm hp hB hz hk hS => ?_)
  obtain ⟨hP1, hK1, hD1⟩ := hB
  rw [ht] at hP1
  exact kk r b1 H1 locs1 hp (z_join G isC isR hC hR hnC hnR hdis hk hP1 hD1 hS)
theorem z_Si (C : CallFix p m c cc nL s args zT own) (G : zS T A H0 s bs H locs) {post : Int32 → List va_W → Prop} (hM : zMi l T y bytes maxL ret d mc ms As bc post) (cw : CallB R s args own index y bytes maxL ret (zW y bytes maxL ret) (zR d mc ms) mc ms n ∧ (Cond.static y).before args s = true) (isC isR : List Nat) (hC : isC.map (fun i => bs[i]?) = bc.map some) (hR : isR.map (fun i => bs[i]?) = br.map some) (hn : As.length = n) (hst : st0 = As.reverse ++ rest) (hls : ls.size = nL) (hdg : decode cc pc = .ok (.invokestatic index, 3)) (hf1 : cells + mc ≤ R.cells) (hf2 : slots + ms ≤ R.slots)
    (kk : ∀ (r : Int32) (b1 : List va_W) (H1 : Heap) (locs1 : List Loc), post r b1 → zS T A H0 s (br ++ b1) H1 locs1 → W p l e R s m args below meth c H1 locs1 (cells + mc) (slots + ms) Q (F0 m (pc + 3) ls (.int r :: rest)))
    (hW : (rest.map fun v => v.category).sum ≤ 8 := by exact Nat.le_of_ble_eq_true rfl) (hnC : va_nd isC = true := by decide) (hnR : va_nd isR = true := by decide) (hdis : ∀ i ∈ isR, i ∉ isC := by decide) : W p l e R s m args below meth c H locs cells slots Q (F0 m pc ls st0) := by
  subst hst
  refine va_calli (va_runS (As := As) (rest := rest) ⟨C.1, C.2.1, C.2.2.1, C.2.2.2.1, C.2.2.2.2⟩ (hM H.size) cw (z_pre G isC hC hnC As) rfl hn hls rfl (lv_room hW) hdg ⟨hf1, hf2⟩) G.2.2.2.1 (fun q _ h => z_freeF G isC hC hnC q h) (z_freeF G isC hC hnC) (fun r b1 t H1 locs1 ht hvm hp hB hz hk hS => ?_)
  obtain ⟨hP1, hK1, hD1⟩ := hB
  rw [ht] at hP1
  exact kk r b1 H1 locs1 hp (z_join G isC isR hC hR hnC hnR hdis hk hP1 hD1 hS)
theorem z_Sv (C : CallFix p m c cc nL s args zT own) (G : zS T A H0 s bs H locs) {post : List va_W → Prop} (hM : zMv l T y bytes maxL d mc ms As bc post) (cw : CallB R s args own index y bytes maxL none (zW y bytes maxL none) (zR d mc ms) mc ms n ∧ (Cond.static y).before args s = true) (isC isR : List Nat) (hC : isC.map (fun i => bs[i]?) = bc.map some) (hR : isR.map (fun i => bs[i]?) = br.map some) (hn : As.length = n) (hst : st0 = As.reverse ++ rest) (hls : ls.size = nL) (hdg : decode cc pc = .ok (.invokestatic index, 3)) (hf1 : cells + mc ≤ R.cells) (hf2 : slots + ms ≤ R.slots)
    (kk : ∀ (b1 : List va_W) (H1 : Heap) (locs1 : List Loc), post  b1 → zS T A H0 s (br ++ b1) H1 locs1 → W p l e R s m args below meth c H1 locs1 (cells + mc) (slots + ms) Q (F0 m (pc + 3) ls (rest)))
    (hW : (rest.map fun v => v.category).sum ≤ 8 := by exact Nat.le_of_ble_eq_true rfl) (hnC : va_nd isC = true := by decide) (hnR : va_nd isR = true := by decide) (hdis : ∀ i ∈ isR, i ∉ isC := by decide) : W p l e R s m args below meth c H locs cells slots Q (F0 m pc ls st0) := by
  subst hst
  refine va_callv (va_runS (As := As) (rest := rest) ⟨C.1, C.2.1, C.2.2.1, C.2.2.2.1, C.2.2.2.2⟩ (hM H.size) cw (z_pre G isC hC hnC As) rfl hn hls rfl (lv_room hW) hdg ⟨hf1, hf2⟩) G.2.2.2.1 (fun q _ h => z_freeF G isC hC hnC q h) (z_freeF G isC hC hnC) (fun b1 t H1 locs1 ht hvm hp hB hz hk hS => ?_)
  obtain ⟨hP1, hK1, hD1⟩ := hB
  rw [ht] at hP1
  exact kk b1 H1 locs1 hp (z_join G isC isR hC hR hnC hnR hdis hk hP1 hD1 hS)
theorem z_Sq (C : CallFix p m c cc nL s args zT own) (G : zS T A H0 s bs H locs) {post : Option Nat → List va_W → Prop} (hM : zMq l T y bytes maxL ret d mc ms As bc post) (cw : CallB R s args own index y bytes maxL ret (zW y bytes maxL ret) (zR d mc ms) mc ms n ∧ (Cond.static y).before args s = true) (isC isR : List Nat) (hC : isC.map (fun i => bs[i]?) = bc.map some) (hR : isR.map (fun i => bs[i]?) = br.map some) (hn : As.length = n) (hst : st0 = As.reverse ++ rest) (hls : ls.size = nL) (hdg : decode cc pc = .ok (.invokestatic index, 3)) (hf1 : cells + mc ≤ R.cells) (hf2 : slots + ms ≤ R.slots)
    (kk : ∀ (r : Option Nat) (b1 : List va_W) (H1 : Heap) (locs1 : List Loc), post r b1 → zS T A H0 s (br ++ b1) H1 locs1 → W p l e R s m args below meth c H1 locs1 (cells + mc) (slots + ms) Q (F0 m (pc + 3) ls (va_rf r :: rest)))
    (hW : (rest.map fun v => v.category).sum ≤ 8 := by exact Nat.le_of_ble_eq_true rfl) (hnC : va_nd isC = true := by decide) (hnR : va_nd isR = true := by decide) (hdis : ∀ i ∈ isR, i ∉ isC := by decide) : W p l e R s m args below meth c H locs cells slots Q (F0 m pc ls st0) := by
  subst hst
  refine va_callq (va_runS (As := As) (rest := rest) ⟨C.1, C.2.1, C.2.2.1, C.2.2.2.1, C.2.2.2.2⟩ (hM H.size) cw (z_pre G isC hC hnC As) rfl hn hls rfl (lv_room hW) hdg ⟨hf1, hf2⟩) G.2.2.2.1 (fun q _ h => z_freeF G isC hC hnC q h) (z_freeF G isC hC hnC) (fun r b1 t H1 locs1 ht hvm hp hB hz hk hS => ?_)
  obtain ⟨hP1, hK1, hD1⟩ := hB
  rw [ht] at hP1
  exact kk r b1 H1 locs1 hp (z_join G isC isR hC hR hnC hnR hdis hk hP1 hD1 hS)
theorem z_Wi (C : CallFix p m c cc nL s args zT own) (G : zS T A H0 s bs H locs) {post : Int32 → List va_W → Prop} (hM : zMi l T y bytes maxL ret d mc ms (.ref a :: As) bc post) (cw : CallW R s args own Cn index y bytes maxL ret (zW y bytes maxL ret) (zR d mc ms) mc ms n) (isC isR : List Nat) (hC : isC.map (fun i => bs[i]?) = bc.map some) (hR : isR.map (fun i => bs[i]?) = br.map some) (hr : ∃ cell : Cell, H[a]? = some cell ∧ cell.vm.isStatics = false ∧ s.vm.findClass Cn = some cell.cls) (hn : As.length = n) (hst : st0 = As.reverse ++ .ref a :: rest) (hls : ls.size = nL) (hdg : decode cc pc = .ok (.invokevirtual index, 3)) (hf1 : cells + mc ≤ R.cells) (hf2 : slots + ms ≤ R.slots)
    (kk : ∀ (r : Int32) (b1 : List va_W) (H1 : Heap) (locs1 : List Loc), post r b1 → zS T A H0 s (br ++ b1) H1 locs1 → W p l e R s m args below meth c H1 locs1 (cells + mc) (slots + ms) Q (F0 m (pc + 3) ls (.int r :: rest)))
    (hW : (rest.map fun v => v.category).sum ≤ 8 := by exact Nat.le_of_ble_eq_true rfl) (hnC : va_nd isC = true := by decide) (hnR : va_nd isR = true := by decide) (hdis : ∀ i ∈ isR, i ∉ isC := by decide) : W p l e R s m args below meth c H locs cells slots Q (F0 m pc ls st0) := by
  subst hst
  refine va_calli (va_runV (As := As) (rest := rest) ⟨C.1, C.2.1, C.2.2.1, C.2.2.2.1, C.2.2.2.2⟩ (hM H.size) cw ⟨(z_pre G isC hC hnC (.ref a :: As)).1, hr, (z_pre G isC hC hnC (.ref a :: As)).2⟩ rfl hn hls rfl (lv_room hW) hdg ⟨hf1, hf2⟩) G.2.2.2.1 (fun q _ h => z_freeF G isC hC hnC q h) (z_freeF G isC hC hnC) (fun r b1 t H1 locs1 ht hvm hp hB hz hk hS => ?_)
  obtain ⟨hP1, hK1, hD1⟩ := hB
  rw [ht] at hP1
  exact kk r b1 H1 locs1 hp (z_join G isC isR hC hR hnC hnR hdis hk hP1 hD1 hS)
theorem z_Wv (C : CallFix p m c cc nL s args zT own) (G : zS T A H0 s bs H locs) {post : List va_W → Prop} (hM : zMv l T y bytes maxL d mc ms (.ref a :: As) bc post) (cw : CallW R s args own Cn index y bytes maxL none (zW y bytes maxL none) (zR d mc ms) mc ms n) (isC isR : List Nat) (hC : isC.map (fun i => bs[i]?) = bc.map some) (hR : isR.map (fun i => bs[i]?) = br.map some) (hr : ∃ cell : Cell, H[a]? = some cell ∧ cell.vm.isStatics = false ∧ s.vm.findClass Cn = some cell.cls) (hn : As.length = n) (hst : st0 = As.reverse ++ .ref a :: rest) (hls : ls.size = nL) (hdg : decode cc pc = .ok (.invokevirtual index, 3)) (hf1 : cells + mc ≤ R.cells) (hf2 : slots + ms ≤ R.slots)
    (kk : ∀ (b1 : List va_W) (H1 : Heap) (locs1 : List Loc), post  b1 → zS T A H0 s (br ++ b1) H1 locs1 → W p l e R s m args below meth c H1 locs1 (cells + mc) (slots + ms) Q (F0 m (pc + 3) ls (rest)))
    (hW : (rest.map fun v => v.category).sum ≤ 8 := by exact Nat.le_of_ble_eq_true rfl) (hnC : va_nd isC = true := by decide) (hnR : va_nd isR = true := by decide) (hdis : ∀ i ∈ isR, i ∉ isC := by decide) : W p l e R s m args below meth c H locs cells slots Q (F0 m pc ls st0) := by
  subst hst
  refine va_callv (va_runV (As := As) (rest := rest) ⟨C.1, C.2.1, C.2.2.1, C.2.2.2.1, C.2.2.2.2⟩ (hM H.size) cw ⟨(z_pre G isC hC hnC (.ref a :: As)).1, hr, (z_pre G isC hC hnC (.ref a :: As)).2⟩ rfl hn hls rfl (lv_room hW) hdg ⟨hf1, hf2⟩) G.2.2.2.1 (fun q _ h => z_freeF G isC hC hnC q h) (z_freeF G isC hC hnC) (fun b1 t H1 locs1 ht hvm hp hB hz hk hS => ?_)
  obtain ⟨hP1, hK1, hD1⟩ := hB
  rw [ht] at hP1
  exact kk b1 H1 locs1 hp (z_join G isC isR hC hR hnC hnR hdis hk hP1 hD1 hS)
theorem z_Wq (C : CallFix p m c cc nL s args zT own) (G : zS T A H0 s bs H locs) {post : Option Nat → List va_W → Prop} (hM : zMq l T y bytes maxL ret d mc ms (.ref a :: As) bc post) (cw : CallW R s args own Cn index y bytes maxL ret (zW y bytes maxL ret) (zR d mc ms) mc ms n) (isC isR : List Nat) (hC : isC.map (fun i => bs[i]?) = bc.map some) (hR : isR.map (fun i => bs[i]?) = br.map some) (hr : ∃ cell : Cell, H[a]? = some cell ∧ cell.vm.isStatics = false ∧ s.vm.findClass Cn = some cell.cls) (hn : As.length = n) (hst : st0 = As.reverse ++ .ref a :: rest) (hls : ls.size = nL) (hdg : decode cc pc = .ok (.invokevirtual index, 3)) (hf1 : cells + mc ≤ R.cells) (hf2 : slots + ms ≤ R.slots)
    (kk : ∀ (r : Option Nat) (b1 : List va_W) (H1 : Heap) (locs1 : List Loc), post r b1 → zS T A H0 s (br ++ b1) H1 locs1 → W p l e R s m args below meth c H1 locs1 (cells + mc) (slots + ms) Q (F0 m (pc + 3) ls (va_rf r :: rest)))
    (hW : (rest.map fun v => v.category).sum ≤ 8 := by exact Nat.le_of_ble_eq_true rfl) (hnC : va_nd isC = true := by decide) (hnR : va_nd isR = true := by decide) (hdis : ∀ i ∈ isR, i ∉ isC := by decide) : W p l e R s m args below meth c H locs cells slots Q (F0 m pc ls st0) := by
  subst hst
  refine va_callq (va_runV (As := As) (rest := rest) ⟨C.1, C.2.1, C.2.2.1, C.2.2.2.1, C.2.2.2.2⟩ (hM H.size) cw ⟨(z_pre G isC hC hnC (.ref a :: As)).1, hr, (z_pre G isC hC hnC (.ref a :: As)).2⟩ rfl hn hls rfl (lv_room hW) hdg ⟨hf1, hf2⟩) G.2.2.2.1 (fun q _ h => z_freeF G isC hC hnC q h) (z_freeF G isC hC hnC) (fun r b1 t H1 locs1 ht hvm hp hB hz hk hS => ?_)
  obtain ⟨hP1, hK1, hD1⟩ := hB
  rw [ht] at hP1
  exact kk r b1 H1 locs1 hp (z_join G isC isR hC hR hnC hnR hdis hk hP1 hD1 hS)
theorem z_Iv (C : CallFix p m c cc nL s args zT own) (G : zS T A H0 s bs H locs) {post : List va_W → Prop} (hM : zMv l T y bytes maxL d mc ms (.ref a :: As) bc post) (cw : CallB R s args own index y bytes maxL none (zW y bytes maxL none) (zR d mc ms) mc ms n ∧ y.name = "<init>" ∧ (Cond.instanceMethod y).before args s = true) (isC isR : List Nat) (hC : isC.map (fun i => bs[i]?) = bc.map some) (hR : isR.map (fun i => bs[i]?) = br.map some) (hn : As.length = n) (hst : st0 = As.reverse ++ .ref a :: rest) (hls : ls.size = nL) (hdg : decode cc pc = .ok (.invokespecial index, 3)) (hf1 : cells + mc ≤ R.cells) (hf2 : slots + ms ≤ R.slots)
    (kk : ∀ (b1 : List va_W) (H1 : Heap) (locs1 : List Loc), post  b1 → zS T A H0 s (br ++ b1) H1 locs1 → W p l e R s m args below meth c H1 locs1 (cells + mc) (slots + ms) Q (F0 m (pc + 3) ls (rest)))
    (hW : (rest.map fun v => v.category).sum ≤ 8 := by exact Nat.le_of_ble_eq_true rfl) (hnC : va_nd isC = true := by decide) (hnR : va_nd isR = true := by decide) (hdis : ∀ i ∈ isR, i ∉ isC := by decide) : W p l e R s m args below meth c H locs cells slots Q (F0 m pc ls st0) := by
  subst hst
  refine va_callv (va_runI (As := As) (rest := rest) ⟨C.1, C.2.1, C.2.2.1, C.2.2.2.1, C.2.2.2.2⟩ (hM H.size) cw (z_pre G isC hC hnC (.ref a :: As)) rfl hn hls rfl (lv_room hW) hdg ⟨hf1, hf2⟩) G.2.2.2.1 (fun q _ h => z_freeF G isC hC hnC q h) (z_freeF G isC hC hnC) (fun b1 t H1 locs1 ht hvm hp hB hz hk hS => ?_)
  obtain ⟨hP1, hK1, hD1⟩ := hB
  rw [ht] at hP1
  exact kk b1 H1 locs1 hp (z_join G isC isR hC hR hnC hnR hdis hk hP1 hD1 hS)
theorem z_Jv (C : CallFix p m c cc nL s args zT own) (G : zS T A H0 s bs H locs) {post : List va_W → Prop} (hM : zMv l T y bytes maxL d mc ms (.ref a :: As) bc post) (cw : va_CN R s args own index y host bytes maxL none (zW y bytes maxL none) (zR d mc ms) mc ms n ∧ y.name = "<init>" ∧ (Cond.instanceMethod y).before args s = true) (isC isR : List Nat) (hC : isC.map (fun i => bs[i]?) = bc.map some) (hR : isR.map (fun i => bs[i]?) = br.map some) (hn : As.length = n) (hst : st0 = As.reverse ++ .ref a :: rest) (hls : ls.size = nL) (hdg : decode cc pc = .ok (.invokespecial index, 3)) (hf1 : cells + mc ≤ R.cells) (hf2 : slots + ms ≤ R.slots)
    (kk : ∀ (b1 : List va_W) (H1 : Heap) (locs1 : List Loc), post  b1 → zS T A H0 s (br ++ b1) H1 locs1 → W p l e R s m args below meth c H1 locs1 (cells + mc) (slots + ms) Q (F0 m (pc + 3) ls (rest)))
    (hW : (rest.map fun v => v.category).sum ≤ 8 := by exact Nat.le_of_ble_eq_true rfl) (hnC : va_nd isC = true := by decide) (hnR : va_nd isR = true := by decide) (hdis : ∀ i ∈ isR, i ∉ isC := by decide) : W p l e R s m args below meth c H locs cells slots Q (F0 m pc ls st0) := by
  subst hst
  refine va_callv (va_runIN (As := As) (rest := rest) ⟨C.1, C.2.1, C.2.2.1, C.2.2.2.1, C.2.2.2.2⟩ (hM H.size) cw (z_pre G isC hC hnC (.ref a :: As)) rfl hn hls rfl (lv_room hW) hdg ⟨hf1, hf2⟩) G.2.2.2.1 (fun q _ h => z_freeF G isC hC hnC q h) (z_freeF G isC hC hnC) (fun b1 t H1 locs1 ht hvm hp hB hz hk hS => ?_)
  obtain ⟨hP1, hK1, hD1⟩ := hB
  rw [ht] at hP1
  exact kk b1 H1 locs1 hp (z_join G isC isR hC hR hnC hnR hdis hk hP1 hD1 hS)
end ZC
section ZG
theorem zgood : zT.all goodWord = true := List.all_eq_true.mpr (fun w h => (List.mem_filter.mp h).2)
theorem goodIn_app {big a b : List Cond} (ha : GoodIn big a) (hb : GoodIn big b) : GoodIn big (a ++ b) := fun w h => (List.mem_append.mp h).elim (ha w) (hb w)
theorem zIn {y : MethodName} {b : ByteArray} {n : Nat} {ret : Option FieldType} (hc : Cond.code y b n ret ∈ zT) : GoodIn zT (zW y b n ret) := by
  intro w hw
  have hm : w ∈ zT := by
    rcases List.mem_cons.mp hw with h | h
    · rw [h]; exact hc
    · exact h
  exact ⟨hm, good_of_word (List.all_eq_true.mp zgood w hm)⟩
theorem zIns {ws : List Cond} (h : ∀ w ∈ ws, w ∈ zT) : GoodIn zT ws := fun w hw => ⟨h w hw, good_of_word (List.all_eq_true.mp zgood w (h w hw))⟩
variable {R : Room} {s : State} {args : Array Value} {own host : String} {index n maxL d mc ms : Nat} {y : MethodName} {b : ByteArray} {ret : Option FieldType}
theorem z_cwV (hts : ∀ w ∈ zT, w.before args s = true) (hc : Cond.code y b maxL ret ∈ zT) (hl : Cond.methodLink own index y ∈ zT) (hi : Cond.instanceMethod y ∈ zT) (hs : Cond.selects y.cls y y ∈ zT) (hini : Cond.initialized y.cls ∈ zT) (hd : y.cls ≠ "java/lang/invoke/MethodHandle" ∧ y.cls ≠ "java/lang/invoke/VarHandle" ∧ (parseMethodDescriptor y.desc).map (fun d => d.parameters.length) = some n) (h1 : d + 1 ≤ R.frames) (h2 : 8 + (maxL + 11) + 40 * d ≤ R.locals) : CallW R s args own y.cls index y b maxL ret (zW y b maxL ret) (zR d mc ms) mc ms n :=
  cwV n hts (goodIn_app (zIns (by intro w hw; simp only [List.mem_cons, List.not_mem_nil, or_false] at hw; rcases hw with rfl | rfl | rfl | rfl <;> assumption)) (zIn hc)) rfl rfl rfl ⟨rfl, hd⟩ ⟨h1, h2⟩
theorem z_cwS (hts : ∀ w ∈ zT, w.before args s = true) (hc : Cond.code y b maxL ret ∈ zT) (hl : Cond.methodLink own index y ∈ zT) (hi : Cond.static y ∈ zT) (hini : Cond.initialized y.cls ∈ zT) (hd : y.cls ≠ "java/lang/invoke/MethodHandle" ∧ y.cls ≠ "java/lang/invoke/VarHandle" ∧ (parseMethodDescriptor y.desc).map (fun d => d.parameters.length) = some n) (h1 : d + 1 ≤ R.frames) (h2 : 8 + (maxL + 11) + 40 * d ≤ R.locals) : CallB R s args own index y b maxL ret (zW y b maxL ret) (zR d mc ms) mc ms n ∧ (Cond.static y).before args s = true :=
  va_cwS n hts (goodIn_app (zIns (by intro w hw; simp only [List.mem_cons, List.not_mem_nil, or_false] at hw; rcases hw with rfl | rfl | rfl <;> assumption)) (zIn hc)) rfl rfl rfl hd ⟨h1, h2⟩
theorem z_cwI (hts : ∀ w ∈ zT, w.before args s = true) (hc : Cond.code y b maxL none ∈ zT) (hl : Cond.methodLink own index y ∈ zT) (hi : Cond.instanceMethod y ∈ zT) (hini : Cond.initialized y.cls ∈ zT) (hnm : y.name = "<init>") (hd : y.cls ≠ "java/lang/invoke/MethodHandle" ∧ y.cls ≠ "java/lang/invoke/VarHandle" ∧ (parseMethodDescriptor y.desc).map (fun d => d.parameters.length) = some n) (h1 : d + 1 ≤ R.frames) (h2 : 8 + (maxL + 11) + 40 * d ≤ R.locals) : CallB R s args own index y b maxL none (zW y b maxL none) (zR d mc ms) mc ms n ∧ y.name = "<init>" ∧ (Cond.instanceMethod y).before args s = true :=
  cwI n hts (zIn hc) rfl rfl rfl (hts _ hini) (hts _ hl) (hts _ hi) hnm hd ⟨h1, h2⟩
theorem z_cwJ (hts : ∀ w ∈ zT, w.before args s = true) (hc : Cond.code y b maxL none ∈ zT) (hl : va_Nw (.methodLinkNest own index y host) s) (hi : Cond.instanceMethod y ∈ zT) (hini : Cond.initialized y.cls ∈ zT) (hnm : y.name = "<init>") (hd : y.cls ≠ "java/lang/invoke/MethodHandle" ∧ y.cls ≠ "java/lang/invoke/VarHandle" ∧ (parseMethodDescriptor y.desc).map (fun d => d.parameters.length) = some n) (h1 : d + 1 ≤ R.frames) (h2 : 8 + (maxL + 11) + 40 * d ≤ R.locals) : va_CN R s args own index y host b maxL none (zW y b maxL none) (zR d mc ms) mc ms n ∧ y.name = "<init>" ∧ (Cond.instanceMethod y).before args s = true :=
  ⟨va_cnB n hts (zIn hc) rfl rfl rfl hl (hts _ hini) hd ⟨h1, h2⟩, hnm, hts _ hi⟩
end ZG
section ZE
variable {p : Program} {l : Launch} {e : Env} {s : State} {m : MethodId} {args : Array Value} {below : List Frame} {meth : Method} {c : Code} {H : Heap} {locs : List Loc} {cells slots mc ms : Nat} {R : Room}
variable {cc : ByteArray} {nL pc : Nat} {ls : Array Slot} {T : zTy} {A : Nat → Prop} {bs : List va_W} {own : String}
theorem z_iret {post : Int32 → List va_W → Prop} {v : Int32} (C : CallFix p m c cc nL s args zT own) (hr : meth.sig.returnType = some .int) (hlocks : meth.locks = false) (G : zS T A s.heap s bs H locs) (h1 : cells ≤ mc) (h2 : slots ≤ ms) (hdg : decode cc pc = .ok (.ireturn, 1)) (hp : post v bs) : W p l e R s m args below meth c H locs cells slots (MQ below (va_Qi post (zB T A) A) args s mc ms A) (F0 m pc ls [.int v]) :=
  W.widen h1 h2 (W.iret C.1 C.2.1 hr (fun t ht hW => ⟨⟨v, bs, rfl, hp, by rw [ht]; exact G.2.1, va_K.moved hW.alike G.1, G.2.2.1⟩, G.2.2.2.1.F ht⟩) G.2.2.2.1.2.2 hdg hlocks)
theorem z_zret {ty : FieldType} {post : Int32 → List va_W → Prop} {v : Int32} (C : CallFix p m c cc nL s args zT own) (hr : meth.sig.returnType = some ty) (hlocks : meth.locks = false) (G : zS T A s.heap s bs H locs) (h1 : cells ≤ mc) (h2 : slots ≤ ms) (hdg : decode cc pc = .ok (.ireturn, 1)) (hn : narrow ty (.int v) = .int v) (hp : post v bs) : W p l e R s m args below meth c H locs cells slots (MQ below (va_Qi post (zB T A) A) args s mc ms A) (F0 m pc ls [.int v]) :=
  W.widen h1 h2 (W.zret C.1 C.2.1 hr hn (fun t ht hW => ⟨⟨v, bs, rfl, hp, by rw [ht]; exact G.2.1, va_K.moved hW.alike G.1, G.2.2.1⟩, G.2.2.2.1.F ht⟩) G.2.2.2.1.2.2 hdg hlocks)
theorem z_vret {post : List va_W → Prop} (C : CallFix p m c cc nL s args zT own) (hr : meth.sig.returnType = none) (hlocks : meth.locks = false) (G : zS T A s.heap s bs H locs) (h1 : cells ≤ mc) (h2 : slots ≤ ms) (hdg : decode cc pc = .ok (.return_, 1)) (hp : post bs) : W p l e R s m args below meth c H locs cells slots (MQ below (va_Qv post (zB T A) A) args s mc ms A) (F0 m pc ls []) :=
  W.widen h1 h2 (W.vret C.1 C.2.1 hr (fun t ht hW => ⟨⟨bs, rfl, hp, by rw [ht]; exact G.2.1, va_K.moved hW.alike G.1, G.2.2.1⟩, G.2.2.2.1.F ht⟩) G.2.2.2.1.2.2 hdg hlocks)
theorem z_aret {post : Option Nat → List va_W → Prop} {r : Option Nat} {rt : FieldType} (C : CallFix p m c cc nL s args zT own) (hr : meth.sig.returnType = some rt) (hrt : (∃ n, rt = .object n) ∨ ∃ t, rt = .array t) (hlocks : meth.locks = false) (G : zS T A s.heap s bs H locs) (h1 : cells ≤ mc) (h2 : slots ≤ ms) (hdg : decode cc pc = .ok (.areturn, 1)) (hp : post r bs) : W p l e R s m args below meth c H locs cells slots (MQ below (va_Qq post (zB T A) A) args s mc ms A) (F0 m pc ls [va_rf r]) :=
  W.widen h1 h2 (W.aret C.1 C.2.1 hr hrt (va_rf_or r) (fun t ht hW => ⟨⟨r, bs, rfl, hp, by rw [ht]; exact G.2.1, va_K.moved hW.alike G.1, G.2.2.1⟩, G.2.2.2.1.F ht⟩) G.2.2.2.1.2.2 hdg hlocks)
theorem zMi_of {y : MethodName} {b : ByteArray} {n : Nat} {ret : Option FieldType} {d : Nat} {av : List Value} {post : Int32 → List va_W → Prop} (hy : plainName y.cls = true) (ho : y.cls = own) (hlen : (lg_sl av).length ≤ n) (k : zBody l T y own b n ret d mc ms av bs (fun A => va_Qi post (zB T A) A)) : zMi l T y b n ret d mc ms av bs post := z_body (Qc := fun A => va_Qi post (zB T A) A) hy ho hlen k
theorem zMv_of {y : MethodName} {b : ByteArray} {n : Nat} {d : Nat} {av : List Value} {post : List va_W → Prop} (hy : plainName y.cls = true) (ho : y.cls = own) (hlen : (lg_sl av).length ≤ n) (k : zBody l T y own b n none d mc ms av bs (fun A => va_Qv post (zB T A) A)) : zMv l T y b n d mc ms av bs post := z_body (Qc := fun A => va_Qv post (zB T A) A) hy ho hlen k
theorem zMq_of {y : MethodName} {b : ByteArray} {n : Nat} {ret : Option FieldType} {d : Nat} {av : List Value} {post : Option Nat → List va_W → Prop} (hy : plainName y.cls = true) (ho : y.cls = own) (hlen : (lg_sl av).length ≤ n) (k : zBody l T y own b n ret d mc ms av bs (fun A => va_Qq post (zB T A) A)) : zMq l T y b n ret d mc ms av bs post := z_body (Qc := fun A => va_Qq post (zB T A) A) hy ho hlen k
end ZE


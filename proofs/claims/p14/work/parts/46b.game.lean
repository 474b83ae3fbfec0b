set_option maxHeartbeats 4000000 in
set_option maxRecDepth 100000 in
/-- worth -/
theorem c_worth0 (l : Launch) (T : zTy) (h : Nat) (la : Nat) (md : Int32) (wy : Int32) (pc_ : Int32) (f1 : Nat → Int32) (f2 : Nat → Int32) (f3 : Nat → Int32) (f4 : Nat → Int32) (f5 : Nat → Int32) (f6 : Nat → Int32) (n4 : Nat) (ww : va_W) (cr : Int32) (inn : Int32) (k1 : Nat → Int32) (k2 : Nat → Int32) (k3 : Nat → Int32) (k4 : Nat → Int32) (z : va_W) (x : Int32) (y : Int32) (q : Int32) (hww : bWays T h la md wy pc_ f1 f2 f3 f4 f5 f6 n4 ww) (hz : bLand T la cr inn k1 k2 k3 k4 z) (hI : zLI cr k1 k3) (hn : n4 ≤ 131072) : zMi l T yX11_worth cX11_worth 9 (some .int) 5 0 0 [.ref h, .int x, .int y, .int 0, .int q] [ww, z] (fun (r : Int32) bs => bs = [ww, z]) := by
  refine zMi_of (own := RX11) (by decide) rfl (Nat.le_of_ble_eq_true rfl) ?_
  intro p e s m args below meth c A ls C hr hlocks hnm hAe G hl
  refine zHide (fun Qz_ hQz_ => ?_)
  have hx := C.1
  have hb := C.2.1
  have hl : lv_has ls 9 [(0, .ref h), (1, .int x), (2, .int y), (3, .int 0), (4, .int q)] := hl
  refine lv_iload_n hx hb dX11_worth_0 rfl (lv_at hl 3 rfl) ?_
  refine lv_if_le (tgt := 9) hx hb dX11_worth_1 (by decide) (fun _ => ?_) (fun q => absurd (by decide) q)
  refine lv_aload_n hx hb dX11_worth_9 rfl (lv_at hl 0 rfl) ?_
  refine lv_iload_n hx hb dX11_worth_10 rfl (lv_at hl 1 rfl) ?_
  refine lv_iload_n hx hb dX11_worth_11 rfl (lv_at hl 2 rfl) ?_
  refine z_Vi (bc := [ww, z]) (br := []) (As := [.int x, .int y]) (rest := []) C G (c_stepsOrNever l T h la md wy pc_ f1 f2 f3 f4 f5 f6 n4 ww cr inn k1 k2 k3 k4 z x y hww hz (by first | with_reducible assumption | with_reducible rfl | omega | assumption | rfl)) (kV_RX11_286 C.2.2.2.2 (Nat.le_of_ble_eq_true rfl) (Nat.le_of_ble_eq_true rfl)) [0, 1] [0, 0] rfl rfl (ci := 0) (qc := (RX0, TX0, 10)) rfl rfl (List.mem_flatten.mpr ⟨_, List.mem_of_getElem? (i := 0) rfl, (bWays_mem hww).choose_spec⟩) rfl rfl hl.1 dX11_worth_12 (Nat.le_of_ble_eq_true rfl) (Nat.le_of_ble_eq_true rfl) (fun r_1 b1 H locs hw G => ?_)
  obtain rfl := hw
  have G : zS T A s.heap s [ww, z] _ _ := G
  exact z_back hQz_ (z_iret C hr hlocks G (Nat.le_of_ble_eq_true rfl) (Nat.le_of_ble_eq_true rfl) dX11_worth_15 rfl)
set_option maxHeartbeats 4000000 in
set_option maxRecDepth 100000 in
/-- worth -/
theorem c_worth1 (l : Launch) (T : zTy) (h : Nat) (la : Nat) (md : Int32) (wy : Int32) (pc_ : Int32) (f1 : Nat → Int32) (f2 : Nat → Int32) (f3 : Nat → Int32) (f4 : Nat → Int32) (f5 : Nat → Int32) (f6 : Nat → Int32) (n4 : Nat) (ww : va_W) (cr : Int32) (inn : Int32) (k1 : Nat → Int32) (k2 : Nat → Int32) (k3 : Nat → Int32) (k4 : Nat → Int32) (z : va_W) (x : Int32) (y : Int32) (q : Int32) (hww : bWays T h la md wy pc_ f1 f2 f3 f4 f5 f6 n4 ww) (hz : bLand T la cr inn k1 k2 k3 k4 z) (hI : zLI cr k1 k3) (hn : n4 ≤ 131072) : zMi l T yX11_worth cX11_worth 9 (some .int) 6 0 0 [.ref h, .int x, .int y, .int 1, .int q] [ww, z] (fun (r : Int32) bs => bs = [ww, z]) := by
  refine zMi_of (own := RX11) (by decide) rfl (Nat.le_of_ble_eq_true rfl) ?_
  intro p e s m args below meth c A ls C hr hlocks hnm hAe G hl
  refine zHide (fun Qz_ hQz_ => ?_)
  have hx := C.1
  have hb := C.2.1
  have hl : lv_has ls 9 [(0, .ref h), (1, .int x), (2, .int y), (3, .int 1), (4, .int q)] := hl
  refine lv_iload_n hx hb dX11_worth_0 rfl (lv_at hl 3 rfl) ?_
  refine lv_if_le (tgt := 9) hx hb dX11_worth_1 (by decide) (fun q => absurd q (by decide)) (fun _ => ?_)
  refine lv_iload_n hx hb dX11_worth_4 rfl (lv_at hl 3 rfl) ?_
  refine lv_iconst (v := 3) hx hb dX11_worth_5 (by decide) ?_
  refine lv_icmp_le (tgt := 16) hx hb dX11_worth_6 (by decide) (fun _ => ?_) (fun q => absurd (by decide) q)
  refine lv_iconst (v := (-1)) hx hb dX11_worth_16 (by decide) ?_
  refine lv_istore (lv' := [(5, .int (-1)), (0, .ref h), (1, .int x), (2, .int y), (3, .int 1), (4, .int q)]) hx hb dX11_worth_17 hl (by decide) (zLvf_h rfl) (fun ls hl => ?_)
  refine lv_iconst (v := 0) hx hb dX11_worth_19 (by decide) ?_
  refine lv_istore (lv' := [(6, .int 0), (5, .int (-1)), (0, .ref h), (1, .int x), (2, .int y), (3, .int 1), (4, .int q)]) hx hb dX11_worth_20 hl (by decide) (zLvf_h rfl) (fun ls hl => ?_)
  refine z_lp2 (T := T) 22 (fun (i : Nat) (u : Int32) => [ww, z]) (fun (i : Nat) (u : Int32) => [(6, .int (nI i)), (5, .int u), (0, .ref h), (1, .int x), (2, .int y), (3, .int 1), (4, .int q)]) (fun (i : Nat) (u : Int32) => i ≤ 8) (fun (i : Nat) (u : Int32) => 8 - i) ?_ 0 (-1) (show 0 ≤ 8 from by omega) G (lv_sub hl [0, 1, 2, 3, 4, 5, 6] rfl)
  intro i u hi ih_22 H locs ls G hl
  replace hi : i ≤ 8 := hi
  replace G : zS T A s.heap s [ww, z] _ _ := G
  replace hl : lv_has ls 9 [(6, .int (nI i)), (5, .int u), (0, .ref h), (1, .int x), (2, .int y), (3, .int 1), (4, .int q)] := hl
  refine lv_iload hx hb dX11_worth_22 (lv_at hl 0 rfl) ?_
  refine lv_bipush (v := 7) hx hb dX11_worth_24 (by decide) ?_
  refine lv_icmp_gt (tgt := 120) hx hb dX11_worth_26 (by decide) (fun c_1 => ?_) (fun c_1 => ?_)
  · have c_1n : 7 < i := (nI_ltI (a := 7) (b := i) (by omega) (by omega)).mp c_1
    refine lv_iload hx hb dX11_worth_120 (lv_at hl 1 rfl) ?_
    exact z_back hQz_ (z_iret C hr hlocks G (Nat.le_of_ble_eq_true rfl) (Nat.le_of_ble_eq_true rfl) dX11_worth_122 rfl)
  · have c_1n : ¬ 7 < i := fun q => c_1 ((nI_ltI (a := 7) (b := i) (by omega) (by omega)).mpr q)
    refine lv_iload hx hb dX11_worth_29 (lv_at hl 0 rfl) ?_
    refine lv_bipush (v := 7) hx hb dX11_worth_31 (by decide) ?_
    refine lv_icmp_ne (tgt := 40) hx hb dX11_worth_33 (by decide) (fun c_2 => ?_) (fun c_2 => ?_)
    · have c_2n : ¬ i = 7 := fun q => c_2 ((nI_eq (a := i) (b := 7) (by omega) (by omega)).mpr q)
      refine lv_aload_n hx hb dX11_worth_40 rfl (lv_at hl 2 rfl) ?_
      refine lv_iload_n hx hb dX11_worth_41 rfl (lv_at hl 3 rfl) ?_
      refine lv_iload hx hb dX11_worth_42 (lv_at hl 0 rfl) ?_
      refine z_Vi (bc := [ww, z]) (br := []) (As := [.int x, .int (nI i)]) (rest := []) C G (c_turned l T h la md wy pc_ f1 f2 f3 f4 f5 f6 n4 ww cr inn k1 k2 k3 k4 z x (nI i) hww hz (by first | with_reducible assumption | with_reducible rfl | omega | assumption | rfl)) (kV_RX11_289 C.2.2.2.2 (Nat.le_of_ble_eq_true rfl) (Nat.le_of_ble_eq_true rfl)) [0, 1] [0, 0] rfl rfl (ci := 0) (qc := (RX0, TX0, 10)) rfl rfl (List.mem_flatten.mpr ⟨_, List.mem_of_getElem? (i := 0) rfl, (bWays_mem hww).choose_spec⟩) rfl rfl hl.1 dX11_worth_44 (Nat.le_of_ble_eq_true rfl) (Nat.le_of_ble_eq_true rfl) (fun r_3 b1 H locs hw G => ?_)
      obtain rfl := hw
      have G : zS T A s.heap s [ww, z] _ _ := G
      refine lv_istore (lv' := [(7, .int r_3), (6, .int (nI i)), (5, .int u), (0, .ref h), (1, .int x), (2, .int y), (3, .int 1), (4, .int q)]) hx hb dX11_worth_47 hl (by decide) (zLvf_h rfl) (fun ls hl => ?_)
      refine lv_iload hx hb dX11_worth_49 (lv_at hl 0 rfl) ?_
      refine lv_iconst (v := (-1)) hx hb dX11_worth_51 (by decide) ?_
      refine lv_icmp_eq (tgt := 114) hx hb dX11_worth_52 (by decide) (fun c_4 => ?_) (fun c_4 => ?_)
      · have c_4n : r_3.toInt = (-1 : Int) := (fa_eq _ _).mp c_4
        refine lv_iinc (v := nI (i + 1)) (lv' := [(6, .int (nI (i + 1))), (7, .int r_3), (5, .int u), (0, .ref h), (1, .int x), (2, .int y), (3, .int 1), (4, .int q)]) hx hb dX11_worth_114 hl (k := 1) rfl (z_inc i 1) (by decide) (zLvf_h rfl) (fun ls hl => ?_)
        refine lv_goto (tgt := 22) hx hb dX11_worth_117 (by decide) ?_
        exact ih_22 (i + 1) u (show (i + 1) ≤ 8 from by omega) (show 8 - (i + 1) < 8 - i from by omega) _ _ ls G (lv_sub hl [0, 2, 3, 4, 5, 6, 7] rfl)
      · have c_4n : ¬ r_3.toInt = (-1 : Int) := fun q => c_4 ((fa_eq _ _).mpr q)
        refine lv_aload_n hx hb dX11_worth_55 rfl (lv_at hl 3 rfl) ?_
        refine lv_iload hx hb dX11_worth_56 (lv_at hl 0 rfl) ?_
        refine lv_iload_n hx hb dX11_worth_58 rfl (lv_at hl 5 rfl) ?_
        refine lv_iload_n hx hb dX11_worth_59 rfl (lv_at hl 6 rfl) ?_
        refine lv_iconst (v := 1) hx hb dX11_worth_60 (by decide) ?_
        refine lv_isub hx hb dX11_worth_61 ?_
        refine lv_topi (fun y_5 ey_5 => ?_)
        obtain rfl : y_5 = 0 := ey_5.trans (by decide)
        refine lv_iload hx hb dX11_worth_62 (lv_at hl 7 rfl) ?_
        refine lv_if_ne (tgt := 71) hx hb dX11_worth_64 (by decide) (fun c_6 => ?_) (fun c_6 => ?_)
        · have c_6n : ¬ q.toInt = (0 : Int) := fun q => c_6 ((fa_eq _ _).mpr q)
          refine lv_iconst (v := 0) hx hb dX11_worth_71 (by decide) ?_
          refine z_Si (bc := [ww, z]) (br := []) (As := [.ref h, .int r_3, .int y, .int 0, .int 0]) (rest := []) C G (c_worth0 l T h la md wy pc_ f1 f2 f3 f4 f5 f6 n4 ww cr inn k1 k2 k3 k4 z r_3 y 0 hww hz (by first | with_reducible assumption | with_reducible rfl | omega | assumption | rfl) (by first | with_reducible assumption | with_reducible rfl | omega | assumption | rfl)) (kS_RX11_278 C.2.2.2.2 (Nat.le_of_ble_eq_true rfl) (Nat.le_of_ble_eq_true rfl)) [0, 1] [0, 0] rfl rfl rfl rfl hl.1 dX11_worth_72 (Nat.le_of_ble_eq_true rfl) (Nat.le_of_ble_eq_true rfl) (fun r_7 b1 H locs hw G => ?_)
          obtain rfl := hw
          have G : zS T A s.heap s [ww, z] _ _ := G
          refine lv_istore (lv' := [(8, .int r_7), (7, .int r_3), (6, .int (nI i)), (5, .int u), (0, .ref h), (1, .int x), (2, .int y), (3, .int 1), (4, .int q)]) hx hb dX11_worth_75 hl (by decide) (zLvf_h rfl) (fun ls hl => ?_)
          refine lv_iload hx hb dX11_worth_77 (lv_at hl 3 rfl) ?_
          refine lv_iconst (v := (-1)) hx hb dX11_worth_79 (by decide) ?_
          refine lv_icmp_eq (tgt := 105) hx hb dX11_worth_80 (by decide) (fun c_8 => ?_) (fun c_8 => ?_)
          · have c_8n : u.toInt = (-1 : Int) := (fa_eq _ _).mp c_8
            refine lv_iload hx hb dX11_worth_105 (lv_at hl 0 rfl) ?_
            refine lv_goto (tgt := 112) hx hb dX11_worth_107 (by decide) ?_
            refine lv_istore (lv' := [(5, .int r_7), (8, .int r_7), (7, .int r_3), (6, .int (nI i)), (0, .ref h), (1, .int x), (2, .int y), (3, .int 1), (4, .int q)]) hx hb dX11_worth_112 hl (by decide) (zLvf_h rfl) (fun ls hl => ?_)
            refine lv_iinc (v := nI (i + 1)) (lv' := [(6, .int (nI (i + 1))), (5, .int r_7), (8, .int r_7), (7, .int r_3), (0, .ref h), (1, .int x), (2, .int y), (3, .int 1), (4, .int q)]) hx hb dX11_worth_114 hl (k := 3) rfl (z_inc i 1) (by decide) (zLvf_h rfl) (fun ls hl => ?_)
            refine lv_goto (tgt := 22) hx hb dX11_worth_117 (by decide) ?_
            exact ih_22 (i + 1) r_7 (show (i + 1) ≤ 8 from by omega) (show 8 - (i + 1) < 8 - i from by omega) _ _ ls G (lv_sub hl [0, 1, 4, 5, 6, 7, 8] rfl)
          · have c_8n : ¬ u.toInt = (-1 : Int) := fun q => c_8 ((fa_eq _ _).mpr q)
            refine lv_iload hx hb dX11_worth_83 (lv_at hl 8 rfl) ?_
            refine lv_if_eq (tgt := 98) hx hb dX11_worth_85 (by decide) (fun q => absurd q c_6) (fun _ => ?_)
            refine lv_iload hx hb dX11_worth_88 (lv_at hl 0 rfl) ?_
            refine lv_iload hx hb dX11_worth_90 (lv_at hl 3 rfl) ?_
            refine lv_icmp_ge (tgt := 110) hx hb dX11_worth_92 (by decide) (fun c_9 => ?_) (fun c_9 => ?_)
            · have c_9n : u.toInt ≤ r_7.toInt := (fa_le _ _).mp c_9
              refine lv_iload hx hb dX11_worth_110 (lv_at hl 3 rfl) ?_
              refine lv_istore (lv' := [(5, .int u), (8, .int r_7), (7, .int r_3), (6, .int (nI i)), (0, .ref h), (1, .int x), (2, .int y), (3, .int 1), (4, .int q)]) hx hb dX11_worth_112 hl (by decide) (zLvf_h rfl) (fun ls hl => ?_)
              refine lv_iinc (v := nI (i + 1)) (lv' := [(6, .int (nI (i + 1))), (5, .int u), (8, .int r_7), (7, .int r_3), (0, .ref h), (1, .int x), (2, .int y), (3, .int 1), (4, .int q)]) hx hb dX11_worth_114 hl (k := 3) rfl (z_inc i 1) (by decide) (zLvf_h rfl) (fun ls hl => ?_)
              refine lv_goto (tgt := 22) hx hb dX11_worth_117 (by decide) ?_
              exact ih_22 (i + 1) u (show (i + 1) ≤ 8 from by omega) (show 8 - (i + 1) < 8 - i from by omega) _ _ ls G (lv_sub hl [0, 1, 4, 5, 6, 7, 8] rfl)
            · have c_9n : ¬ u.toInt ≤ r_7.toInt := fun q => c_9 ((fa_le _ _).mpr q)
              refine lv_goto (tgt := 105) hx hb dX11_worth_95 (by decide) ?_
              refine lv_iload hx hb dX11_worth_105 (lv_at hl 0 rfl) ?_
              refine lv_goto (tgt := 112) hx hb dX11_worth_107 (by decide) ?_
              refine lv_istore (lv' := [(5, .int r_7), (8, .int r_7), (7, .int r_3), (6, .int (nI i)), (0, .ref h), (1, .int x), (2, .int y), (3, .int 1), (4, .int q)]) hx hb dX11_worth_112 hl (by decide) (zLvf_h rfl) (fun ls hl => ?_)
              refine lv_iinc (v := nI (i + 1)) (lv' := [(6, .int (nI (i + 1))), (5, .int r_7), (8, .int r_7), (7, .int r_3), (0, .ref h), (1, .int x), (2, .int y), (3, .int 1), (4, .int q)]) hx hb dX11_worth_114 hl (k := 3) rfl (z_inc i 1) (by decide) (zLvf_h rfl) (fun ls hl => ?_)
              refine lv_goto (tgt := 22) hx hb dX11_worth_117 (by decide) ?_
              exact ih_22 (i + 1) r_7 (show (i + 1) ≤ 8 from by omega) (show 8 - (i + 1) < 8 - i from by omega) _ _ ls G (lv_sub hl [0, 1, 4, 5, 6, 7, 8] rfl)
        · have c_6n : q.toInt = (0 : Int) := (fa_eq _ _).mp c_6
          refine lv_iconst (v := 1) hx hb dX11_worth_67 (by decide) ?_
          refine lv_goto (tgt := 72) hx hb dX11_worth_68 (by decide) ?_
          refine z_Si (bc := [ww, z]) (br := []) (As := [.ref h, .int r_3, .int y, .int 0, .int 1]) (rest := []) C G (c_worth0 l T h la md wy pc_ f1 f2 f3 f4 f5 f6 n4 ww cr inn k1 k2 k3 k4 z r_3 y 1 hww hz (by first | with_reducible assumption | with_reducible rfl | omega | assumption | rfl) (by first | with_reducible assumption | with_reducible rfl | omega | assumption | rfl)) (kS_RX11_278 C.2.2.2.2 (Nat.le_of_ble_eq_true rfl) (Nat.le_of_ble_eq_true rfl)) [0, 1] [0, 0] rfl rfl rfl rfl hl.1 dX11_worth_72 (Nat.le_of_ble_eq_true rfl) (Nat.le_of_ble_eq_true rfl) (fun r_10 b1 H locs hw G => ?_)
          obtain rfl := hw
          have G : zS T A s.heap s [ww, z] _ _ := G
          refine lv_istore (lv' := [(8, .int r_10), (7, .int r_3), (6, .int (nI i)), (5, .int u), (0, .ref h), (1, .int x), (2, .int y), (3, .int 1), (4, .int q)]) hx hb dX11_worth_75 hl (by decide) (zLvf_h rfl) (fun ls hl => ?_)
          refine lv_iload hx hb dX11_worth_77 (lv_at hl 3 rfl) ?_
          refine lv_iconst (v := (-1)) hx hb dX11_worth_79 (by decide) ?_
          refine lv_icmp_eq (tgt := 105) hx hb dX11_worth_80 (by decide) (fun c_11 => ?_) (fun c_11 => ?_)
          · have c_11n : u.toInt = (-1 : Int) := (fa_eq _ _).mp c_11
            refine lv_iload hx hb dX11_worth_105 (lv_at hl 0 rfl) ?_
            refine lv_goto (tgt := 112) hx hb dX11_worth_107 (by decide) ?_
            refine lv_istore (lv' := [(5, .int r_10), (8, .int r_10), (7, .int r_3), (6, .int (nI i)), (0, .ref h), (1, .int x), (2, .int y), (3, .int 1), (4, .int q)]) hx hb dX11_worth_112 hl (by decide) (zLvf_h rfl) (fun ls hl => ?_)
            refine lv_iinc (v := nI (i + 1)) (lv' := [(6, .int (nI (i + 1))), (5, .int r_10), (8, .int r_10), (7, .int r_3), (0, .ref h), (1, .int x), (2, .int y), (3, .int 1), (4, .int q)]) hx hb dX11_worth_114 hl (k := 3) rfl (z_inc i 1) (by decide) (zLvf_h rfl) (fun ls hl => ?_)
            refine lv_goto (tgt := 22) hx hb dX11_worth_117 (by decide) ?_
            exact ih_22 (i + 1) r_10 (show (i + 1) ≤ 8 from by omega) (show 8 - (i + 1) < 8 - i from by omega) _ _ ls G (lv_sub hl [0, 1, 4, 5, 6, 7, 8] rfl)
          · have c_11n : ¬ u.toInt = (-1 : Int) := fun q => c_11 ((fa_eq _ _).mpr q)
            refine lv_iload hx hb dX11_worth_83 (lv_at hl 8 rfl) ?_
            refine lv_if_eq (tgt := 98) hx hb dX11_worth_85 (by decide) (fun _ => ?_) (fun q => absurd c_6 q)
            refine lv_iload hx hb dX11_worth_98 (lv_at hl 0 rfl) ?_
            refine lv_iload hx hb dX11_worth_100 (lv_at hl 3 rfl) ?_
            refine lv_icmp_le (tgt := 110) hx hb dX11_worth_102 (by decide) (fun c_12 => ?_) (fun c_12 => ?_)
            · have c_12n : r_10.toInt ≤ u.toInt := (fa_le _ _).mp c_12
              refine lv_iload hx hb dX11_worth_110 (lv_at hl 3 rfl) ?_
              refine lv_istore (lv' := [(5, .int u), (8, .int r_10), (7, .int r_3), (6, .int (nI i)), (0, .ref h), (1, .int x), (2, .int y), (3, .int 1), (4, .int q)]) hx hb dX11_worth_112 hl (by decide) (zLvf_h rfl) (fun ls hl => ?_)
              refine lv_iinc (v := nI (i + 1)) (lv' := [(6, .int (nI (i + 1))), (5, .int u), (8, .int r_10), (7, .int r_3), (0, .ref h), (1, .int x), (2, .int y), (3, .int 1), (4, .int q)]) hx hb dX11_worth_114 hl (k := 3) rfl (z_inc i 1) (by decide) (zLvf_h rfl) (fun ls hl => ?_)
              refine lv_goto (tgt := 22) hx hb dX11_worth_117 (by decide) ?_
              exact ih_22 (i + 1) u (show (i + 1) ≤ 8 from by omega) (show 8 - (i + 1) < 8 - i from by omega) _ _ ls G (lv_sub hl [0, 1, 4, 5, 6, 7, 8] rfl)
            · have c_12n : ¬ r_10.toInt ≤ u.toInt := fun q => c_12 ((fa_le _ _).mpr q)
              refine lv_iload hx hb dX11_worth_105 (lv_at hl 0 rfl) ?_
              refine lv_goto (tgt := 112) hx hb dX11_worth_107 (by decide) ?_
              refine lv_istore (lv' := [(5, .int r_10), (8, .int r_10), (7, .int r_3), (6, .int (nI i)), (0, .ref h), (1, .int x), (2, .int y), (3, .int 1), (4, .int q)]) hx hb dX11_worth_112 hl (by decide) (zLvf_h rfl) (fun ls hl => ?_)
              refine lv_iinc (v := nI (i + 1)) (lv' := [(6, .int (nI (i + 1))), (5, .int r_10), (8, .int r_10), (7, .int r_3), (0, .ref h), (1, .int x), (2, .int y), (3, .int 1), (4, .int q)]) hx hb dX11_worth_114 hl (k := 3) rfl (z_inc i 1) (by decide) (zLvf_h rfl) (fun ls hl => ?_)
              refine lv_goto (tgt := 22) hx hb dX11_worth_117 (by decide) ?_
              exact ih_22 (i + 1) r_10 (show (i + 1) ≤ 8 from by omega) (show 8 - (i + 1) < 8 - i from by omega) _ _ ls G (lv_sub hl [0, 1, 4, 5, 6, 7, 8] rfl)
    · have c_2n : i = 7 := (nI_eq (a := i) (b := 7) (by omega) (by omega)).mp c_2
      refine lv_iload_n hx hb dX11_worth_36 rfl (lv_at hl 3 rfl) ?_
      refine lv_goto (tgt := 47) hx hb dX11_worth_37 (by decide) ?_
      refine lv_istore (lv' := [(7, .int x), (6, .int (nI i)), (5, .int u), (0, .ref h), (1, .int x), (2, .int y), (3, .int 1), (4, .int q)]) hx hb dX11_worth_47 hl (by decide) (zLvf_h rfl) (fun ls hl => ?_)
      refine lv_iload hx hb dX11_worth_49 (lv_at hl 0 rfl) ?_
      refine lv_iconst (v := (-1)) hx hb dX11_worth_51 (by decide) ?_
      refine lv_icmp_eq (tgt := 114) hx hb dX11_worth_52 (by decide) (fun c_13 => ?_) (fun c_13 => ?_)
      · have c_13n : x.toInt = (-1 : Int) := (fa_eq _ _).mp c_13
        refine lv_iinc (v := nI (i + 1)) (lv' := [(6, .int (nI (i + 1))), (7, .int x), (5, .int u), (0, .ref h), (1, .int x), (2, .int y), (3, .int 1), (4, .int q)]) hx hb dX11_worth_114 hl (k := 1) rfl (z_inc i 1) (by decide) (zLvf_h rfl) (fun ls hl => ?_)
        refine lv_goto (tgt := 22) hx hb dX11_worth_117 (by decide) ?_
        exact ih_22 (i + 1) u (show (i + 1) ≤ 8 from by omega) (show 8 - (i + 1) < 8 - i from by omega) _ _ ls G (lv_sub hl [0, 2, 3, 4, 5, 6, 7] rfl)
      · have c_13n : ¬ x.toInt = (-1 : Int) := fun q => c_13 ((fa_eq _ _).mpr q)
        refine lv_aload_n hx hb dX11_worth_55 rfl (lv_at hl 3 rfl) ?_
        refine lv_iload hx hb dX11_worth_56 (lv_at hl 0 rfl) ?_
        refine lv_iload_n hx hb dX11_worth_58 rfl (lv_at hl 5 rfl) ?_
        refine lv_iload_n hx hb dX11_worth_59 rfl (lv_at hl 6 rfl) ?_
        refine lv_iconst (v := 1) hx hb dX11_worth_60 (by decide) ?_
        refine lv_isub hx hb dX11_worth_61 ?_
        refine lv_topi (fun y_14 ey_14 => ?_)
        obtain rfl : y_14 = 0 := ey_14.trans (by decide)
        refine lv_iload hx hb dX11_worth_62 (lv_at hl 7 rfl) ?_
        refine lv_if_ne (tgt := 71) hx hb dX11_worth_64 (by decide) (fun c_15 => ?_) (fun c_15 => ?_)
        · have c_15n : ¬ q.toInt = (0 : Int) := fun q => c_15 ((fa_eq _ _).mpr q)
          refine lv_iconst (v := 0) hx hb dX11_worth_71 (by decide) ?_
          refine z_Si (bc := [ww, z]) (br := []) (As := [.ref h, .int x, .int y, .int 0, .int 0]) (rest := []) C G (c_worth0 l T h la md wy pc_ f1 f2 f3 f4 f5 f6 n4 ww cr inn k1 k2 k3 k4 z x y 0 hww hz (by first | with_reducible assumption | with_reducible rfl | omega | assumption | rfl) (by first | with_reducible assumption | with_reducible rfl | omega | assumption | rfl)) (kS_RX11_278 C.2.2.2.2 (Nat.le_of_ble_eq_true rfl) (Nat.le_of_ble_eq_true rfl)) [0, 1] [0, 0] rfl rfl rfl rfl hl.1 dX11_worth_72 (Nat.le_of_ble_eq_true rfl) (Nat.le_of_ble_eq_true rfl) (fun r_16 b1 H locs hw G => ?_)
          obtain rfl := hw
          have G : zS T A s.heap s [ww, z] _ _ := G
          refine lv_istore (lv' := [(8, .int r_16), (7, .int x), (6, .int (nI i)), (5, .int u), (0, .ref h), (1, .int x), (2, .int y), (3, .int 1), (4, .int q)]) hx hb dX11_worth_75 hl (by decide) (zLvf_h rfl) (fun ls hl => ?_)
          refine lv_iload hx hb dX11_worth_77 (lv_at hl 3 rfl) ?_
          refine lv_iconst (v := (-1)) hx hb dX11_worth_79 (by decide) ?_
          refine lv_icmp_eq (tgt := 105) hx hb dX11_worth_80 (by decide) (fun c_17 => ?_) (fun c_17 => ?_)
          · have c_17n : u.toInt = (-1 : Int) := (fa_eq _ _).mp c_17
            refine lv_iload hx hb dX11_worth_105 (lv_at hl 0 rfl) ?_
            refine lv_goto (tgt := 112) hx hb dX11_worth_107 (by decide) ?_
            refine lv_istore (lv' := [(5, .int r_16), (8, .int r_16), (7, .int x), (6, .int (nI i)), (0, .ref h), (1, .int x), (2, .int y), (3, .int 1), (4, .int q)]) hx hb dX11_worth_112 hl (by decide) (zLvf_h rfl) (fun ls hl => ?_)
            refine lv_iinc (v := nI (i + 1)) (lv' := [(6, .int (nI (i + 1))), (5, .int r_16), (8, .int r_16), (7, .int x), (0, .ref h), (1, .int x), (2, .int y), (3, .int 1), (4, .int q)]) hx hb dX11_worth_114 hl (k := 3) rfl (z_inc i 1) (by decide) (zLvf_h rfl) (fun ls hl => ?_)
            refine lv_goto (tgt := 22) hx hb dX11_worth_117 (by decide) ?_
            exact ih_22 (i + 1) r_16 (show (i + 1) ≤ 8 from by omega) (show 8 - (i + 1) < 8 - i from by omega) _ _ ls G (lv_sub hl [0, 1, 4, 5, 6, 7, 8] rfl)
          · have c_17n : ¬ u.toInt = (-1 : Int) := fun q => c_17 ((fa_eq _ _).mpr q)
            refine lv_iload hx hb dX11_worth_83 (lv_at hl 8 rfl) ?_
            refine lv_if_eq (tgt := 98) hx hb dX11_worth_85 (by decide) (fun q => absurd q c_15) (fun _ => ?_)
            refine lv_iload hx hb dX11_worth_88 (lv_at hl 0 rfl) ?_
            refine lv_iload hx hb dX11_worth_90 (lv_at hl 3 rfl) ?_
            refine lv_icmp_ge (tgt := 110) hx hb dX11_worth_92 (by decide) (fun c_18 => ?_) (fun c_18 => ?_)
            · have c_18n : u.toInt ≤ r_16.toInt := (fa_le _ _).mp c_18
              refine lv_iload hx hb dX11_worth_110 (lv_at hl 3 rfl) ?_
              refine lv_istore (lv' := [(5, .int u), (8, .int r_16), (7, .int x), (6, .int (nI i)), (0, .ref h), (1, .int x), (2, .int y), (3, .int 1), (4, .int q)]) hx hb dX11_worth_112 hl (by decide) (zLvf_h rfl) (fun ls hl => ?_)
              refine lv_iinc (v := nI (i + 1)) (lv' := [(6, .int (nI (i + 1))), (5, .int u), (8, .int r_16), (7, .int x), (0, .ref h), (1, .int x), (2, .int y), (3, .int 1), (4, .int q)]) hx hb dX11_worth_114 hl (k := 3) rfl (z_inc i 1) (by decide) (zLvf_h rfl) (fun ls hl => ?_)
              refine lv_goto (tgt := 22) hx hb dX11_worth_117 (by decide) ?_
              exact ih_22 (i + 1) u (show (i + 1) ≤ 8 from by omega) (show 8 - (i + 1) < 8 - i from by omega) _ _ ls G (lv_sub hl [0, 1, 4, 5, 6, 7, 8] rfl)
            · have c_18n : ¬ u.toInt ≤ r_16.toInt := fun q => c_18 ((fa_le _ _).mpr q)
              refine lv_goto (tgt := 105) hx hb dX11_worth_95 (by decide) ?_
              refine lv_iload hx hb dX11_worth_105 (lv_at hl 0 rfl) ?_
              refine lv_goto (tgt := 112) hx hb dX11_worth_107 (by decide) ?_
              refine lv_istore (lv' := [(5, .int r_16), (8, .int r_16), (7, .int x), (6, .int (nI i)), (0, .ref h), (1, .int x), (2, .int y), (3, .int 1), (4, .int q)]) hx hb dX11_worth_112 hl (by decide) (zLvf_h rfl) (fun ls hl => ?_)
              refine lv_iinc (v := nI (i + 1)) (lv' := [(6, .int (nI (i + 1))), (5, .int r_16), (8, .int r_16), (7, .int x), (0, .ref h), (1, .int x), (2, .int y), (3, .int 1), (4, .int q)]) hx hb dX11_worth_114 hl (k := 3) rfl (z_inc i 1) (by decide) (zLvf_h rfl) (fun ls hl => ?_)
              refine lv_goto (tgt := 22) hx hb dX11_worth_117 (by decide) ?_
              exact ih_22 (i + 1) r_16 (show (i + 1) ≤ 8 from by omega) (show 8 - (i + 1) < 8 - i from by omega) _ _ ls G (lv_sub hl [0, 1, 4, 5, 6, 7, 8] rfl)
        · have c_15n : q.toInt = (0 : Int) := (fa_eq _ _).mp c_15
          refine lv_iconst (v := 1) hx hb dX11_worth_67 (by decide) ?_
          refine lv_goto (tgt := 72) hx hb dX11_worth_68 (by decide) ?_
          refine z_Si (bc := [ww, z]) (br := []) (As := [.ref h, .int x, .int y, .int 0, .int 1]) (rest := []) C G (c_worth0 l T h la md wy pc_ f1 f2 f3 f4 f5 f6 n4 ww cr inn k1 k2 k3 k4 z x y 1 hww hz (by first | with_reducible assumption | with_reducible rfl | omega | assumption | rfl) (by first | with_reducible assumption | with_reducible rfl | omega | assumption | rfl)) (kS_RX11_278 C.2.2.2.2 (Nat.le_of_ble_eq_true rfl) (Nat.le_of_ble_eq_true rfl)) [0, 1] [0, 0] rfl rfl rfl rfl hl.1 dX11_worth_72 (Nat.le_of_ble_eq_true rfl) (Nat.le_of_ble_eq_true rfl) (fun r_19 b1 H locs hw G => ?_)
          obtain rfl := hw
          have G : zS T A s.heap s [ww, z] _ _ := G
          refine lv_istore (lv' := [(8, .int r_19), (7, .int x), (6, .int (nI i)), (5, .int u), (0, .ref h), (1, .int x), (2, .int y), (3, .int 1), (4, .int q)]) hx hb dX11_worth_75 hl (by decide) (zLvf_h rfl) (fun ls hl => ?_)
          refine lv_iload hx hb dX11_worth_77 (lv_at hl 3 rfl) ?_
          refine lv_iconst (v := (-1)) hx hb dX11_worth_79 (by decide) ?_
          refine lv_icmp_eq (tgt := 105) hx hb dX11_worth_80 (by decide) (fun c_20 => ?_) (fun c_20 => ?_)
          · have c_20n : u.toInt = (-1 : Int) := (fa_eq _ _).mp c_20
            refine lv_iload hx hb dX11_worth_105 (lv_at hl 0 rfl) ?_
            refine lv_goto (tgt := 112) hx hb dX11_worth_107 (by decide) ?_
            refine lv_istore (lv' := [(5, .int r_19), (8, .int r_19), (7, .int x), (6, .int (nI i)), (0, .ref h), (1, .int x), (2, .int y), (3, .int 1), (4, .int q)]) hx hb dX11_worth_112 hl (by decide) (zLvf_h rfl) (fun ls hl => ?_)
            refine lv_iinc (v := nI (i + 1)) (lv' := [(6, .int (nI (i + 1))), (5, .int r_19), (8, .int r_19), (7, .int x), (0, .ref h), (1, .int x), (2, .int y), (3, .int 1), (4, .int q)]) hx hb dX11_worth_114 hl (k := 3) rfl (z_inc i 1) (by decide) (zLvf_h rfl) (fun ls hl => ?_)
            refine lv_goto (tgt := 22) hx hb dX11_worth_117 (by decide) ?_
            exact ih_22 (i + 1) r_19 (show (i + 1) ≤ 8 from by omega) (show 8 - (i + 1) < 8 - i from by omega) _ _ ls G (lv_sub hl [0, 1, 4, 5, 6, 7, 8] rfl)
          · have c_20n : ¬ u.toInt = (-1 : Int) := fun q => c_20 ((fa_eq _ _).mpr q)
            refine lv_iload hx hb dX11_worth_83 (lv_at hl 8 rfl) ?_
            refine lv_if_eq (tgt := 98) hx hb dX11_worth_85 (by decide) (fun _ => ?_) (fun q => absurd c_15 q)
            refine lv_iload hx hb dX11_worth_98 (lv_at hl 0 rfl) ?_
            refine lv_iload hx hb dX11_worth_100 (lv_at hl 3 rfl) ?_
            refine lv_icmp_le (tgt := 110) hx hb dX11_worth_102 (by decide) (fun c_21 => ?_) (fun c_21 => ?_)
            · have c_21n : r_19.toInt ≤ u.toInt := (fa_le _ _).mp c_21
              refine lv_iload hx hb dX11_worth_110 (lv_at hl 3 rfl) ?_
              refine lv_istore (lv' := [(5, .int u), (8, .int r_19), (7, .int x), (6, .int (nI i)), (0, .ref h), (1, .int x), (2, .int y), (3, .int 1), (4, .int q)]) hx hb dX11_worth_112 hl (by decide) (zLvf_h rfl) (fun ls hl => ?_)
              refine lv_iinc (v := nI (i + 1)) (lv' := [(6, .int (nI (i + 1))), (5, .int u), (8, .int r_19), (7, .int x), (0, .ref h), (1, .int x), (2, .int y), (3, .int 1), (4, .int q)]) hx hb dX11_worth_114 hl (k := 3) rfl (z_inc i 1) (by decide) (zLvf_h rfl) (fun ls hl => ?_)
              refine lv_goto (tgt := 22) hx hb dX11_worth_117 (by decide) ?_
              exact ih_22 (i + 1) u (show (i + 1) ≤ 8 from by omega) (show 8 - (i + 1) < 8 - i from by omega) _ _ ls G (lv_sub hl [0, 1, 4, 5, 6, 7, 8] rfl)
            · have c_21n : ¬ r_19.toInt ≤ u.toInt := fun q => c_21 ((fa_le _ _).mpr q)
              refine lv_iload hx hb dX11_worth_105 (lv_at hl 0 rfl) ?_
              refine lv_goto (tgt := 112) hx hb dX11_worth_107 (by decide) ?_
              refine lv_istore (lv' := [(5, .int r_19), (8, .int r_19), (7, .int x), (6, .int (nI i)), (0, .ref h), (1, .int x), (2, .int y), (3, .int 1), (4, .int q)]) hx hb dX11_worth_112 hl (by decide) (zLvf_h rfl) (fun ls hl => ?_)
              refine lv_iinc (v := nI (i + 1)) (lv' := [(6, .int (nI (i + 1))), (5, .int r_19), (8, .int r_19), (7, .int x), (0, .ref h), (1, .int x), (2, .int y), (3, .int 1), (4, .int q)]) hx hb dX11_worth_114 hl (k := 3) rfl (z_inc i 1) (by decide) (zLvf_h rfl) (fun ls hl => ?_)
              refine lv_goto (tgt := 22) hx hb dX11_worth_117 (by decide) ?_
              exact ih_22 (i + 1) r_19 (show (i + 1) ≤ 8 from by omega) (show 8 - (i + 1) < 8 - i from by omega) _ _ ls G (lv_sub hl [0, 1, 4, 5, 6, 7, 8] rfl)
set_option maxHeartbeats 4000000 in
set_option maxRecDepth 100000 in
/-- worth -/
theorem c_worth2 (l : Launch) (T : zTy) (h : Nat) (la : Nat) (md : Int32) (wy : Int32) (pc_ : Int32) (f1 : Nat → Int32) (f2 : Nat → Int32) (f3 : Nat → Int32) (f4 : Nat → Int32) (f5 : Nat → Int32) (f6 : Nat → Int32) (n4 : Nat) (ww : va_W) (cr : Int32) (inn : Int32) (k1 : Nat → Int32) (k2 : Nat → Int32) (k3 : Nat → Int32) (k4 : Nat → Int32) (z : va_W) (x : Int32) (y : Int32) (q : Int32) (hww : bWays T h la md wy pc_ f1 f2 f3 f4 f5 f6 n4 ww) (hz : bLand T la cr inn k1 k2 k3 k4 z) (hI : zLI cr k1 k3) (hn : n4 ≤ 131072) : zMi l T yX11_worth cX11_worth 9 (some .int) 7 0 0 [.ref h, .int x, .int y, .int 2, .int q] [ww, z] (fun (r : Int32) bs => bs = [ww, z]) := by
  refine zMi_of (own := RX11) (by decide) rfl (Nat.le_of_ble_eq_true rfl) ?_
  intro p e s m args below meth c A ls C hr hlocks hnm hAe G hl
  refine zHide (fun Qz_ hQz_ => ?_)
  have hx := C.1
  have hb := C.2.1
  have hl : lv_has ls 9 [(0, .ref h), (1, .int x), (2, .int y), (3, .int 2), (4, .int q)] := hl
  refine lv_iload_n hx hb dX11_worth_0 rfl (lv_at hl 3 rfl) ?_
  refine lv_if_le (tgt := 9) hx hb dX11_worth_1 (by decide) (fun q => absurd q (by decide)) (fun _ => ?_)
  refine lv_iload_n hx hb dX11_worth_4 rfl (lv_at hl 3 rfl) ?_
  refine lv_iconst (v := 3) hx hb dX11_worth_5 (by decide) ?_
  refine lv_icmp_le (tgt := 16) hx hb dX11_worth_6 (by decide) (fun _ => ?_) (fun q => absurd (by decide) q)
  refine lv_iconst (v := (-1)) hx hb dX11_worth_16 (by decide) ?_
  refine lv_istore (lv' := [(5, .int (-1)), (0, .ref h), (1, .int x), (2, .int y), (3, .int 2), (4, .int q)]) hx hb dX11_worth_17 hl (by decide) (zLvf_h rfl) (fun ls hl => ?_)
  refine lv_iconst (v := 0) hx hb dX11_worth_19 (by decide) ?_
  refine lv_istore (lv' := [(6, .int 0), (5, .int (-1)), (0, .ref h), (1, .int x), (2, .int y), (3, .int 2), (4, .int q)]) hx hb dX11_worth_20 hl (by decide) (zLvf_h rfl) (fun ls hl => ?_)
  refine z_lp2 (T := T) 22 (fun (i : Nat) (u : Int32) => [ww, z]) (fun (i : Nat) (u : Int32) => [(6, .int (nI i)), (5, .int u), (0, .ref h), (1, .int x), (2, .int y), (3, .int 2), (4, .int q)]) (fun (i : Nat) (u : Int32) => i ≤ 8) (fun (i : Nat) (u : Int32) => 8 - i) ?_ 0 (-1) (show 0 ≤ 8 from by omega) G (lv_sub hl [0, 1, 2, 3, 4, 5, 6] rfl)
  intro i u hi ih_22 H locs ls G hl
  replace hi : i ≤ 8 := hi
  replace G : zS T A s.heap s [ww, z] _ _ := G
  replace hl : lv_has ls 9 [(6, .int (nI i)), (5, .int u), (0, .ref h), (1, .int x), (2, .int y), (3, .int 2), (4, .int q)] := hl
  refine lv_iload hx hb dX11_worth_22 (lv_at hl 0 rfl) ?_
  refine lv_bipush (v := 7) hx hb dX11_worth_24 (by decide) ?_
  refine lv_icmp_gt (tgt := 120) hx hb dX11_worth_26 (by decide) (fun c_1 => ?_) (fun c_1 => ?_)
  · have c_1n : 7 < i := (nI_ltI (a := 7) (b := i) (by omega) (by omega)).mp c_1
    refine lv_iload hx hb dX11_worth_120 (lv_at hl 1 rfl) ?_
    exact z_back hQz_ (z_iret C hr hlocks G (Nat.le_of_ble_eq_true rfl) (Nat.le_of_ble_eq_true rfl) dX11_worth_122 rfl)
  · have c_1n : ¬ 7 < i := fun q => c_1 ((nI_ltI (a := 7) (b := i) (by omega) (by omega)).mpr q)
    refine lv_iload hx hb dX11_worth_29 (lv_at hl 0 rfl) ?_
    refine lv_bipush (v := 7) hx hb dX11_worth_31 (by decide) ?_
    refine lv_icmp_ne (tgt := 40) hx hb dX11_worth_33 (by decide) (fun c_2 => ?_) (fun c_2 => ?_)
    · have c_2n : ¬ i = 7 := fun q => c_2 ((nI_eq (a := i) (b := 7) (by omega) (by omega)).mpr q)
      refine lv_aload_n hx hb dX11_worth_40 rfl (lv_at hl 2 rfl) ?_
      refine lv_iload_n hx hb dX11_worth_41 rfl (lv_at hl 3 rfl) ?_
      refine lv_iload hx hb dX11_worth_42 (lv_at hl 0 rfl) ?_
      refine z_Vi (bc := [ww, z]) (br := []) (As := [.int x, .int (nI i)]) (rest := []) C G (c_turned l T h la md wy pc_ f1 f2 f3 f4 f5 f6 n4 ww cr inn k1 k2 k3 k4 z x (nI i) hww hz (by first | with_reducible assumption | with_reducible rfl | omega | assumption | rfl)) (kV_RX11_289 C.2.2.2.2 (Nat.le_of_ble_eq_true rfl) (Nat.le_of_ble_eq_true rfl)) [0, 1] [0, 0] rfl rfl (ci := 0) (qc := (RX0, TX0, 10)) rfl rfl (List.mem_flatten.mpr ⟨_, List.mem_of_getElem? (i := 0) rfl, (bWays_mem hww).choose_spec⟩) rfl rfl hl.1 dX11_worth_44 (Nat.le_of_ble_eq_true rfl) (Nat.le_of_ble_eq_true rfl) (fun r_3 b1 H locs hw G => ?_)
      obtain rfl := hw
      have G : zS T A s.heap s [ww, z] _ _ := G
      refine lv_istore (lv' := [(7, .int r_3), (6, .int (nI i)), (5, .int u), (0, .ref h), (1, .int x), (2, .int y), (3, .int 2), (4, .int q)]) hx hb dX11_worth_47 hl (by decide) (zLvf_h rfl) (fun ls hl => ?_)
      refine lv_iload hx hb dX11_worth_49 (lv_at hl 0 rfl) ?_
      refine lv_iconst (v := (-1)) hx hb dX11_worth_51 (by decide) ?_
      refine lv_icmp_eq (tgt := 114) hx hb dX11_worth_52 (by decide) (fun c_4 => ?_) (fun c_4 => ?_)
      · have c_4n : r_3.toInt = (-1 : Int) := (fa_eq _ _).mp c_4
        refine lv_iinc (v := nI (i + 1)) (lv' := [(6, .int (nI (i + 1))), (7, .int r_3), (5, .int u), (0, .ref h), (1, .int x), (2, .int y), (3, .int 2), (4, .int q)]) hx hb dX11_worth_114 hl (k := 1) rfl (z_inc i 1) (by decide) (zLvf_h rfl) (fun ls hl => ?_)
        refine lv_goto (tgt := 22) hx hb dX11_worth_117 (by decide) ?_
        exact ih_22 (i + 1) u (show (i + 1) ≤ 8 from by omega) (show 8 - (i + 1) < 8 - i from by omega) _ _ ls G (lv_sub hl [0, 2, 3, 4, 5, 6, 7] rfl)
      · have c_4n : ¬ r_3.toInt = (-1 : Int) := fun q => c_4 ((fa_eq _ _).mpr q)
        refine lv_aload_n hx hb dX11_worth_55 rfl (lv_at hl 3 rfl) ?_
        refine lv_iload hx hb dX11_worth_56 (lv_at hl 0 rfl) ?_
        refine lv_iload_n hx hb dX11_worth_58 rfl (lv_at hl 5 rfl) ?_
        refine lv_iload_n hx hb dX11_worth_59 rfl (lv_at hl 6 rfl) ?_
        refine lv_iconst (v := 1) hx hb dX11_worth_60 (by decide) ?_
        refine lv_isub hx hb dX11_worth_61 ?_
        refine lv_topi (fun y_5 ey_5 => ?_)
        obtain rfl : y_5 = 1 := ey_5.trans (by decide)
        refine lv_iload hx hb dX11_worth_62 (lv_at hl 7 rfl) ?_
        refine lv_if_ne (tgt := 71) hx hb dX11_worth_64 (by decide) (fun c_6 => ?_) (fun c_6 => ?_)
        · have c_6n : ¬ q.toInt = (0 : Int) := fun q => c_6 ((fa_eq _ _).mpr q)
          refine lv_iconst (v := 0) hx hb dX11_worth_71 (by decide) ?_
          refine z_Si (bc := [ww, z]) (br := []) (As := [.ref h, .int r_3, .int y, .int 1, .int 0]) (rest := []) C G (c_worth1 l T h la md wy pc_ f1 f2 f3 f4 f5 f6 n4 ww cr inn k1 k2 k3 k4 z r_3 y 0 hww hz (by first | with_reducible assumption | with_reducible rfl | omega | assumption | rfl) (by first | with_reducible assumption | with_reducible rfl | omega | assumption | rfl)) (kS_RX11_278 C.2.2.2.2 (Nat.le_of_ble_eq_true rfl) (Nat.le_of_ble_eq_true rfl)) [0, 1] [0, 0] rfl rfl rfl rfl hl.1 dX11_worth_72 (Nat.le_of_ble_eq_true rfl) (Nat.le_of_ble_eq_true rfl) (fun r_7 b1 H locs hw G => ?_)
          obtain rfl := hw
          have G : zS T A s.heap s [ww, z] _ _ := G
          refine lv_istore (lv' := [(8, .int r_7), (7, .int r_3), (6, .int (nI i)), (5, .int u), (0, .ref h), (1, .int x), (2, .int y), (3, .int 2), (4, .int q)]) hx hb dX11_worth_75 hl (by decide) (zLvf_h rfl) (fun ls hl => ?_)
          refine lv_iload hx hb dX11_worth_77 (lv_at hl 3 rfl) ?_
          refine lv_iconst (v := (-1)) hx hb dX11_worth_79 (by decide) ?_
          refine lv_icmp_eq (tgt := 105) hx hb dX11_worth_80 (by decide) (fun c_8 => ?_) (fun c_8 => ?_)
          · have c_8n : u.toInt = (-1 : Int) := (fa_eq _ _).mp c_8
            refine lv_iload hx hb dX11_worth_105 (lv_at hl 0 rfl) ?_
            refine lv_goto (tgt := 112) hx hb dX11_worth_107 (by decide) ?_
            refine lv_istore (lv' := [(5, .int r_7), (8, .int r_7), (7, .int r_3), (6, .int (nI i)), (0, .ref h), (1, .int x), (2, .int y), (3, .int 2), (4, .int q)]) hx hb dX11_worth_112 hl (by decide) (zLvf_h rfl) (fun ls hl => ?_)
            refine lv_iinc (v := nI (i + 1)) (lv' := [(6, .int (nI (i + 1))), (5, .int r_7), (8, .int r_7), (7, .int r_3), (0, .ref h), (1, .int x), (2, .int y), (3, .int 2), (4, .int q)]) hx hb dX11_worth_114 hl (k := 3) rfl (z_inc i 1) (by decide) (zLvf_h rfl) (fun ls hl => ?_)
            refine lv_goto (tgt := 22) hx hb dX11_worth_117 (by decide) ?_
            exact ih_22 (i + 1) r_7 (show (i + 1) ≤ 8 from by omega) (show 8 - (i + 1) < 8 - i from by omega) _ _ ls G (lv_sub hl [0, 1, 4, 5, 6, 7, 8] rfl)
          · have c_8n : ¬ u.toInt = (-1 : Int) := fun q => c_8 ((fa_eq _ _).mpr q)
            refine lv_iload hx hb dX11_worth_83 (lv_at hl 8 rfl) ?_
            refine lv_if_eq (tgt := 98) hx hb dX11_worth_85 (by decide) (fun q => absurd q c_6) (fun _ => ?_)
            refine lv_iload hx hb dX11_worth_88 (lv_at hl 0 rfl) ?_
            refine lv_iload hx hb dX11_worth_90 (lv_at hl 3 rfl) ?_
            refine lv_icmp_ge (tgt := 110) hx hb dX11_worth_92 (by decide) (fun c_9 => ?_) (fun c_9 => ?_)
            · have c_9n : u.toInt ≤ r_7.toInt := (fa_le _ _).mp c_9
              refine lv_iload hx hb dX11_worth_110 (lv_at hl 3 rfl) ?_
              refine lv_istore (lv' := [(5, .int u), (8, .int r_7), (7, .int r_3), (6, .int (nI i)), (0, .ref h), (1, .int x), (2, .int y), (3, .int 2), (4, .int q)]) hx hb dX11_worth_112 hl (by decide) (zLvf_h rfl) (fun ls hl => ?_)
              refine lv_iinc (v := nI (i + 1)) (lv' := [(6, .int (nI (i + 1))), (5, .int u), (8, .int r_7), (7, .int r_3), (0, .ref h), (1, .int x), (2, .int y), (3, .int 2), (4, .int q)]) hx hb dX11_worth_114 hl (k := 3) rfl (z_inc i 1) (by decide) (zLvf_h rfl) (fun ls hl => ?_)
              refine lv_goto (tgt := 22) hx hb dX11_worth_117 (by decide) ?_
              exact ih_22 (i + 1) u (show (i + 1) ≤ 8 from by omega) (show 8 - (i + 1) < 8 - i from by omega) _ _ ls G (lv_sub hl [0, 1, 4, 5, 6, 7, 8] rfl)
            · have c_9n : ¬ u.toInt ≤ r_7.toInt := fun q => c_9 ((fa_le _ _).mpr q)
              refine lv_goto (tgt := 105) hx hb dX11_worth_95 (by decide) ?_
              refine lv_iload hx hb dX11_worth_105 (lv_at hl 0 rfl) ?_
              refine lv_goto (tgt := 112) hx hb dX11_worth_107 (by decide) ?_
              refine lv_istore (lv' := [(5, .int r_7), (8, .int r_7), (7, .int r_3), (6, .int (nI i)), (0, .ref h), (1, .int x), (2, .int y), (3, .int 2), (4, .int q)]) hx hb dX11_worth_112 hl (by decide) (zLvf_h rfl) (fun ls hl => ?_)
              refine lv_iinc (v := nI (i + 1)) (lv' := [(6, .int (nI (i + 1))), (5, .int r_7), (8, .int r_7), (7, .int r_3), (0, .ref h), (1, .int x), (2, .int y), (3, .int 2), (4, .int q)]) hx hb dX11_worth_114 hl (k := 3) rfl (z_inc i 1) (by decide) (zLvf_h rfl) (fun ls hl => ?_)
              refine lv_goto (tgt := 22) hx hb dX11_worth_117 (by decide) ?_
              exact ih_22 (i + 1) r_7 (show (i + 1) ≤ 8 from by omega) (show 8 - (i + 1) < 8 - i from by omega) _ _ ls G (lv_sub hl [0, 1, 4, 5, 6, 7, 8] rfl)
        · have c_6n : q.toInt = (0 : Int) := (fa_eq _ _).mp c_6
          refine lv_iconst (v := 1) hx hb dX11_worth_67 (by decide) ?_
          refine lv_goto (tgt := 72) hx hb dX11_worth_68 (by decide) ?_
          refine z_Si (bc := [ww, z]) (br := []) (As := [.ref h, .int r_3, .int y, .int 1, .int 1]) (rest := []) C G (c_worth1 l T h la md wy pc_ f1 f2 f3 f4 f5 f6 n4 ww cr inn k1 k2 k3 k4 z r_3 y 1 hww hz (by first | with_reducible assumption | with_reducible rfl | omega | assumption | rfl) (by first | with_reducible assumption | with_reducible rfl | omega | assumption | rfl)) (kS_RX11_278 C.2.2.2.2 (Nat.le_of_ble_eq_true rfl) (Nat.le_of_ble_eq_true rfl)) [0, 1] [0, 0] rfl rfl rfl rfl hl.1 dX11_worth_72 (Nat.le_of_ble_eq_true rfl) (Nat.le_of_ble_eq_true rfl) (fun r_10 b1 H locs hw G => ?_)
          obtain rfl := hw
          have G : zS T A s.heap s [ww, z] _ _ := G
          refine lv_istore (lv' := [(8, .int r_10), (7, .int r_3), (6, .int (nI i)), (5, .int u), (0, .ref h), (1, .int x), (2, .int y), (3, .int 2), (4, .int q)]) hx hb dX11_worth_75 hl (by decide) (zLvf_h rfl) (fun ls hl => ?_)
          refine lv_iload hx hb dX11_worth_77 (lv_at hl 3 rfl) ?_
          refine lv_iconst (v := (-1)) hx hb dX11_worth_79 (by decide) ?_
          refine lv_icmp_eq (tgt := 105) hx hb dX11_worth_80 (by decide) (fun c_11 => ?_) (fun c_11 => ?_)
          · have c_11n : u.toInt = (-1 : Int) := (fa_eq _ _).mp c_11
            refine lv_iload hx hb dX11_worth_105 (lv_at hl 0 rfl) ?_
            refine lv_goto (tgt := 112) hx hb dX11_worth_107 (by decide) ?_
            refine lv_istore (lv' := [(5, .int r_10), (8, .int r_10), (7, .int r_3), (6, .int (nI i)), (0, .ref h), (1, .int x), (2, .int y), (3, .int 2), (4, .int q)]) hx hb dX11_worth_112 hl (by decide) (zLvf_h rfl) (fun ls hl => ?_)
            refine lv_iinc (v := nI (i + 1)) (lv' := [(6, .int (nI (i + 1))), (5, .int r_10), (8, .int r_10), (7, .int r_3), (0, .ref h), (1, .int x), (2, .int y), (3, .int 2), (4, .int q)]) hx hb dX11_worth_114 hl (k := 3) rfl (z_inc i 1) (by decide) (zLvf_h rfl) (fun ls hl => ?_)
            refine lv_goto (tgt := 22) hx hb dX11_worth_117 (by decide) ?_
            exact ih_22 (i + 1) r_10 (show (i + 1) ≤ 8 from by omega) (show 8 - (i + 1) < 8 - i from by omega) _ _ ls G (lv_sub hl [0, 1, 4, 5, 6, 7, 8] rfl)
          · have c_11n : ¬ u.toInt = (-1 : Int) := fun q => c_11 ((fa_eq _ _).mpr q)
            refine lv_iload hx hb dX11_worth_83 (lv_at hl 8 rfl) ?_
            refine lv_if_eq (tgt := 98) hx hb dX11_worth_85 (by decide) (fun _ => ?_) (fun q => absurd c_6 q)
            refine lv_iload hx hb dX11_worth_98 (lv_at hl 0 rfl) ?_
            refine lv_iload hx hb dX11_worth_100 (lv_at hl 3 rfl) ?_
            refine lv_icmp_le (tgt := 110) hx hb dX11_worth_102 (by decide) (fun c_12 => ?_) (fun c_12 => ?_)
            · have c_12n : r_10.toInt ≤ u.toInt := (fa_le _ _).mp c_12
              refine lv_iload hx hb dX11_worth_110 (lv_at hl 3 rfl) ?_
              refine lv_istore (lv' := [(5, .int u), (8, .int r_10), (7, .int r_3), (6, .int (nI i)), (0, .ref h), (1, .int x), (2, .int y), (3, .int 2), (4, .int q)]) hx hb dX11_worth_112 hl (by decide) (zLvf_h rfl) (fun ls hl => ?_)
              refine lv_iinc (v := nI (i + 1)) (lv' := [(6, .int (nI (i + 1))), (5, .int u), (8, .int r_10), (7, .int r_3), (0, .ref h), (1, .int x), (2, .int y), (3, .int 2), (4, .int q)]) hx hb dX11_worth_114 hl (k := 3) rfl (z_inc i 1) (by decide) (zLvf_h rfl) (fun ls hl => ?_)
              refine lv_goto (tgt := 22) hx hb dX11_worth_117 (by decide) ?_
              exact ih_22 (i + 1) u (show (i + 1) ≤ 8 from by omega) (show 8 - (i + 1) < 8 - i from by omega) _ _ ls G (lv_sub hl [0, 1, 4, 5, 6, 7, 8] rfl)
            · have c_12n : ¬ r_10.toInt ≤ u.toInt := fun q => c_12 ((fa_le _ _).mpr q)
              refine lv_iload hx hb dX11_worth_105 (lv_at hl 0 rfl) ?_
              refine lv_goto (tgt := 112) hx hb dX11_worth_107 (by decide) ?_
              refine lv_istore (lv' := [(5, .int r_10), (8, .int r_10), (7, .int r_3), (6, .int (nI i)), (0, .ref h), (1, .int x), (2, .int y), (3, .int 2), (4, .int q)]) hx hb dX11_worth_112 hl (by decide) (zLvf_h rfl) (fun ls hl => ?_)
              refine lv_iinc (v := nI (i + 1)) (lv' := [(6, .int (nI (i + 1))), (5, .int r_10), (8, .int r_10), (7, .int r_3), (0, .ref h), (1, .int x), (2, .int y), (3, .int 2), (4, .int q)]) hx hb dX11_worth_114 hl (k := 3) rfl (z_inc i 1) (by decide) (zLvf_h rfl) (fun ls hl => ?_)
              refine lv_goto (tgt := 22) hx hb dX11_worth_117 (by decide) ?_
              exact ih_22 (i + 1) r_10 (show (i + 1) ≤ 8 from by omega) (show 8 - (i + 1) < 8 - i from by omega) _ _ ls G (lv_sub hl [0, 1, 4, 5, 6, 7, 8] rfl)
    · have c_2n : i = 7 := (nI_eq (a := i) (b := 7) (by omega) (by omega)).mp c_2
      refine lv_iload_n hx hb dX11_worth_36 rfl (lv_at hl 3 rfl) ?_
      refine lv_goto (tgt := 47) hx hb dX11_worth_37 (by decide) ?_
      refine lv_istore (lv' := [(7, .int x), (6, .int (nI i)), (5, .int u), (0, .ref h), (1, .int x), (2, .int y), (3, .int 2), (4, .int q)]) hx hb dX11_worth_47 hl (by decide) (zLvf_h rfl) (fun ls hl => ?_)
      refine lv_iload hx hb dX11_worth_49 (lv_at hl 0 rfl) ?_
      refine lv_iconst (v := (-1)) hx hb dX11_worth_51 (by decide) ?_
      refine lv_icmp_eq (tgt := 114) hx hb dX11_worth_52 (by decide) (fun c_13 => ?_) (fun c_13 => ?_)
      · have c_13n : x.toInt = (-1 : Int) := (fa_eq _ _).mp c_13
        refine lv_iinc (v := nI (i + 1)) (lv' := [(6, .int (nI (i + 1))), (7, .int x), (5, .int u), (0, .ref h), (1, .int x), (2, .int y), (3, .int 2), (4, .int q)]) hx hb dX11_worth_114 hl (k := 1) rfl (z_inc i 1) (by decide) (zLvf_h rfl) (fun ls hl => ?_)
        refine lv_goto (tgt := 22) hx hb dX11_worth_117 (by decide) ?_
        exact ih_22 (i + 1) u (show (i + 1) ≤ 8 from by omega) (show 8 - (i + 1) < 8 - i from by omega) _ _ ls G (lv_sub hl [0, 2, 3, 4, 5, 6, 7] rfl)
      · have c_13n : ¬ x.toInt = (-1 : Int) := fun q => c_13 ((fa_eq _ _).mpr q)
        refine lv_aload_n hx hb dX11_worth_55 rfl (lv_at hl 3 rfl) ?_
        refine lv_iload hx hb dX11_worth_56 (lv_at hl 0 rfl) ?_
        refine lv_iload_n hx hb dX11_worth_58 rfl (lv_at hl 5 rfl) ?_
        refine lv_iload_n hx hb dX11_worth_59 rfl (lv_at hl 6 rfl) ?_
        refine lv_iconst (v := 1) hx hb dX11_worth_60 (by decide) ?_
        refine lv_isub hx hb dX11_worth_61 ?_
        refine lv_topi (fun y_14 ey_14 => ?_)
        obtain rfl : y_14 = 1 := ey_14.trans (by decide)
        refine lv_iload hx hb dX11_worth_62 (lv_at hl 7 rfl) ?_
        refine lv_if_ne (tgt := 71) hx hb dX11_worth_64 (by decide) (fun c_15 => ?_) (fun c_15 => ?_)
        · have c_15n : ¬ q.toInt = (0 : Int) := fun q => c_15 ((fa_eq _ _).mpr q)
          refine lv_iconst (v := 0) hx hb dX11_worth_71 (by decide) ?_
          refine z_Si (bc := [ww, z]) (br := []) (As := [.ref h, .int x, .int y, .int 1, .int 0]) (rest := []) C G (c_worth1 l T h la md wy pc_ f1 f2 f3 f4 f5 f6 n4 ww cr inn k1 k2 k3 k4 z x y 0 hww hz (by first | with_reducible assumption | with_reducible rfl | omega | assumption | rfl) (by first | with_reducible assumption | with_reducible rfl | omega | assumption | rfl)) (kS_RX11_278 C.2.2.2.2 (Nat.le_of_ble_eq_true rfl) (Nat.le_of_ble_eq_true rfl)) [0, 1] [0, 0] rfl rfl rfl rfl hl.1 dX11_worth_72 (Nat.le_of_ble_eq_true rfl) (Nat.le_of_ble_eq_true rfl) (fun r_16 b1 H locs hw G => ?_)
          obtain rfl := hw
          have G : zS T A s.heap s [ww, z] _ _ := G
          refine lv_istore (lv' := [(8, .int r_16), (7, .int x), (6, .int (nI i)), (5, .int u), (0, .ref h), (1, .int x), (2, .int y), (3, .int 2), (4, .int q)]) hx hb dX11_worth_75 hl (by decide) (zLvf_h rfl) (fun ls hl => ?_)
          refine lv_iload hx hb dX11_worth_77 (lv_at hl 3 rfl) ?_
          refine lv_iconst (v := (-1)) hx hb dX11_worth_79 (by decide) ?_
          refine lv_icmp_eq (tgt := 105) hx hb dX11_worth_80 (by decide) (fun c_17 => ?_) (fun c_17 => ?_)
          · have c_17n : u.toInt = (-1 : Int) := (fa_eq _ _).mp c_17
            refine lv_iload hx hb dX11_worth_105 (lv_at hl 0 rfl) ?_
            refine lv_goto (tgt := 112) hx hb dX11_worth_107 (by decide) ?_
            refine lv_istore (lv' := [(5, .int r_16), (8, .int r_16), (7, .int x), (6, .int (nI i)), (0, .ref h), (1, .int x), (2, .int y), (3, .int 2), (4, .int q)]) hx hb dX11_worth_112 hl (by decide) (zLvf_h rfl) (fun ls hl => ?_)
            refine lv_iinc (v := nI (i + 1)) (lv' := [(6, .int (nI (i + 1))), (5, .int r_16), (8, .int r_16), (7, .int x), (0, .ref h), (1, .int x), (2, .int y), (3, .int 2), (4, .int q)]) hx hb dX11_worth_114 hl (k := 3) rfl (z_inc i 1) (by decide) (zLvf_h rfl) (fun ls hl => ?_)
            refine lv_goto (tgt := 22) hx hb dX11_worth_117 (by decide) ?_
            exact ih_22 (i + 1) r_16 (show (i + 1) ≤ 8 from by omega) (show 8 - (i + 1) < 8 - i from by omega) _ _ ls G (lv_sub hl [0, 1, 4, 5, 6, 7, 8] rfl)
          · have c_17n : ¬ u.toInt = (-1 : Int) := fun q => c_17 ((fa_eq _ _).mpr q)
            refine lv_iload hx hb dX11_worth_83 (lv_at hl 8 rfl) ?_
            refine lv_if_eq (tgt := 98) hx hb dX11_worth_85 (by decide) (fun q => absurd q c_15) (fun _ => ?_)
            refine lv_iload hx hb dX11_worth_88 (lv_at hl 0 rfl) ?_
            refine lv_iload hx hb dX11_worth_90 (lv_at hl 3 rfl) ?_
            refine lv_icmp_ge (tgt := 110) hx hb dX11_worth_92 (by decide) (fun c_18 => ?_) (fun c_18 => ?_)
            · have c_18n : u.toInt ≤ r_16.toInt := (fa_le _ _).mp c_18
              refine lv_iload hx hb dX11_worth_110 (lv_at hl 3 rfl) ?_
              refine lv_istore (lv' := [(5, .int u), (8, .int r_16), (7, .int x), (6, .int (nI i)), (0, .ref h), (1, .int x), (2, .int y), (3, .int 2), (4, .int q)]) hx hb dX11_worth_112 hl (by decide) (zLvf_h rfl) (fun ls hl => ?_)
              refine lv_iinc (v := nI (i + 1)) (lv' := [(6, .int (nI (i + 1))), (5, .int u), (8, .int r_16), (7, .int x), (0, .ref h), (1, .int x), (2, .int y), (3, .int 2), (4, .int q)]) hx hb dX11_worth_114 hl (k := 3) rfl (z_inc i 1) (by decide) (zLvf_h rfl) (fun ls hl => ?_)
              refine lv_goto (tgt := 22) hx hb dX11_worth_117 (by decide) ?_
              exact ih_22 (i + 1) u (show (i + 1) ≤ 8 from by omega) (show 8 - (i + 1) < 8 - i from by omega) _ _ ls G (lv_sub hl [0, 1, 4, 5, 6, 7, 8] rfl)
            · have c_18n : ¬ u.toInt ≤ r_16.toInt := fun q => c_18 ((fa_le _ _).mpr q)
              refine lv_goto (tgt := 105) hx hb dX11_worth_95 (by decide) ?_
              refine lv_iload hx hb dX11_worth_105 (lv_at hl 0 rfl) ?_
              refine lv_goto (tgt := 112) hx hb dX11_worth_107 (by decide) ?_
              refine lv_istore (lv' := [(5, .int r_16), (8, .int r_16), (7, .int x), (6, .int (nI i)), (0, .ref h), (1, .int x), (2, .int y), (3, .int 2), (4, .int q)]) hx hb dX11_worth_112 hl (by decide) (zLvf_h rfl) (fun ls hl => ?_)
              refine lv_iinc (v := nI (i + 1)) (lv' := [(6, .int (nI (i + 1))), (5, .int r_16), (8, .int r_16), (7, .int x), (0, .ref h), (1, .int x), (2, .int y), (3, .int 2), (4, .int q)]) hx hb dX11_worth_114 hl (k := 3) rfl (z_inc i 1) (by decide) (zLvf_h rfl) (fun ls hl => ?_)
              refine lv_goto (tgt := 22) hx hb dX11_worth_117 (by decide) ?_
              exact ih_22 (i + 1) r_16 (show (i + 1) ≤ 8 from by omega) (show 8 - (i + 1) < 8 - i from by omega) _ _ ls G (lv_sub hl [0, 1, 4, 5, 6, 7, 8] rfl)
        · have c_15n : q.toInt = (0 : Int) := (fa_eq _ _).mp c_15
          refine lv_iconst (v := 1) hx hb dX11_worth_67 (by decide) ?_
          refine lv_goto (tgt := 72) hx hb dX11_worth_68 (by decide) ?_
          refine z_Si (bc := [ww, z]) (br := []) (As := [.ref h, .int x, .int y, .int 1, .int 1]) (rest := []) C G (c_worth1 l T h la md wy pc_ f1 f2 f3 f4 f5 f6 n4 ww cr inn k1 k2 k3 k4 z x y 1 hww hz (by first | with_reducible assumption | with_reducible rfl | omega | assumption | rfl) (by first | with_reducible assumption | with_reducible rfl | omega | assumption | rfl)) (kS_RX11_278 C.2.2.2.2 (Nat.le_of_ble_eq_true rfl) (Nat.le_of_ble_eq_true rfl)) [0, 1] [0, 0] rfl rfl rfl rfl hl.1 dX11_worth_72 (Nat.le_of_ble_eq_true rfl) (Nat.le_of_ble_eq_true rfl) (fun r_19 b1 H locs hw G => ?_)
          obtain rfl := hw
          have G : zS T A s.heap s [ww, z] _ _ := G
          refine lv_istore (lv' := [(8, .int r_19), (7, .int x), (6, .int (nI i)), (5, .int u), (0, .ref h), (1, .int x), (2, .int y), (3, .int 2), (4, .int q)]) hx hb dX11_worth_75 hl (by decide) (zLvf_h rfl) (fun ls hl => ?_)
          refine lv_iload hx hb dX11_worth_77 (lv_at hl 3 rfl) ?_
          refine lv_iconst (v := (-1)) hx hb dX11_worth_79 (by decide) ?_
          refine lv_icmp_eq (tgt := 105) hx hb dX11_worth_80 (by decide) (fun c_20 => ?_) (fun c_20 => ?_)
          · have c_20n : u.toInt = (-1 : Int) := (fa_eq _ _).mp c_20
            refine lv_iload hx hb dX11_worth_105 (lv_at hl 0 rfl) ?_
            refine lv_goto (tgt := 112) hx hb dX11_worth_107 (by decide) ?_
            refine lv_istore (lv' := [(5, .int r_19), (8, .int r_19), (7, .int x), (6, .int (nI i)), (0, .ref h), (1, .int x), (2, .int y), (3, .int 2), (4, .int q)]) hx hb dX11_worth_112 hl (by decide) (zLvf_h rfl) (fun ls hl => ?_)
            refine lv_iinc (v := nI (i + 1)) (lv' := [(6, .int (nI (i + 1))), (5, .int r_19), (8, .int r_19), (7, .int x), (0, .ref h), (1, .int x), (2, .int y), (3, .int 2), (4, .int q)]) hx hb dX11_worth_114 hl (k := 3) rfl (z_inc i 1) (by decide) (zLvf_h rfl) (fun ls hl => ?_)
            refine lv_goto (tgt := 22) hx hb dX11_worth_117 (by decide) ?_
            exact ih_22 (i + 1) r_19 (show (i + 1) ≤ 8 from by omega) (show 8 - (i + 1) < 8 - i from by omega) _ _ ls G (lv_sub hl [0, 1, 4, 5, 6, 7, 8] rfl)
          · have c_20n : ¬ u.toInt = (-1 : Int) := fun q => c_20 ((fa_eq _ _).mpr q)
            refine lv_iload hx hb dX11_worth_83 (lv_at hl 8 rfl) ?_
            refine lv_if_eq (tgt := 98) hx hb dX11_worth_85 (by decide) (fun _ => ?_) (fun q => absurd c_15 q)
            refine lv_iload hx hb dX11_worth_98 (lv_at hl 0 rfl) ?_
            refine lv_iload hx hb dX11_worth_100 (lv_at hl 3 rfl) ?_
            refine lv_icmp_le (tgt := 110) hx hb dX11_worth_102 (by decide) (fun c_21 => ?_) (fun c_21 => ?_)
            · have c_21n : r_19.toInt ≤ u.toInt := (fa_le _ _).mp c_21
              refine lv_iload hx hb dX11_worth_110 (lv_at hl 3 rfl) ?_
              refine lv_istore (lv' := [(5, .int u), (8, .int r_19), (7, .int x), (6, .int (nI i)), (0, .ref h), (1, .int x), (2, .int y), (3, .int 2), (4, .int q)]) hx hb dX11_worth_112 hl (by decide) (zLvf_h rfl) (fun ls hl => ?_)
              refine lv_iinc (v := nI (i + 1)) (lv' := [(6, .int (nI (i + 1))), (5, .int u), (8, .int r_19), (7, .int x), (0, .ref h), (1, .int x), (2, .int y), (3, .int 2), (4, .int q)]) hx hb dX11_worth_114 hl (k := 3) rfl (z_inc i 1) (by decide) (zLvf_h rfl) (fun ls hl => ?_)
              refine lv_goto (tgt := 22) hx hb dX11_worth_117 (by decide) ?_
              exact ih_22 (i + 1) u (show (i + 1) ≤ 8 from by omega) (show 8 - (i + 1) < 8 - i from by omega) _ _ ls G (lv_sub hl [0, 1, 4, 5, 6, 7, 8] rfl)
            · have c_21n : ¬ r_19.toInt ≤ u.toInt := fun q => c_21 ((fa_le _ _).mpr q)
              refine lv_iload hx hb dX11_worth_105 (lv_at hl 0 rfl) ?_
              refine lv_goto (tgt := 112) hx hb dX11_worth_107 (by decide) ?_
              refine lv_istore (lv' := [(5, .int r_19), (8, .int r_19), (7, .int x), (6, .int (nI i)), (0, .ref h), (1, .int x), (2, .int y), (3, .int 2), (4, .int q)]) hx hb dX11_worth_112 hl (by decide) (zLvf_h rfl) (fun ls hl => ?_)
              refine lv_iinc (v := nI (i + 1)) (lv' := [(6, .int (nI (i + 1))), (5, .int r_19), (8, .int r_19), (7, .int x), (0, .ref h), (1, .int x), (2, .int y), (3, .int 2), (4, .int q)]) hx hb dX11_worth_114 hl (k := 3) rfl (z_inc i 1) (by decide) (zLvf_h rfl) (fun ls hl => ?_)
              refine lv_goto (tgt := 22) hx hb dX11_worth_117 (by decide) ?_
              exact ih_22 (i + 1) r_19 (show (i + 1) ≤ 8 from by omega) (show 8 - (i + 1) < 8 - i from by omega) _ _ ls G (lv_sub hl [0, 1, 4, 5, 6, 7, 8] rfl)
theorem m_co_X0_make : Cond.code yX0_make cX0_make 3 none ∈ zT := zmem1 zsub_4 214 rfl rfl
theorem m_ml_RX11_232 : Cond.methodLink RX11 232 yX0_make ∈ zT := zmem1 zsub_4 211 rfl rfl
theorem m_im_X0_make : Cond.instanceMethod yX0_make ∈ zT := zmem1 zsub_4 212 rfl rfl
theorem m_se_X0_make : Cond.selects RX0 yX0_make yX0_make ∈ zT := zmem1 zsub_4 213 rfl rfl
theorem m_co_X11_waysIn : Cond.code yX11_waysIn cX11_waysIn 4 (some (.object "TurnedPosts$AllWays")) ∈ zT := zmem1 zsub_4 210 rfl rfl
theorem m_ml_RX11_235 : Cond.methodLink RX11 235 yX11_waysIn ∈ zT := zmem1 zsub_4 207 rfl rfl
theorem m_im_X11_waysIn : Cond.instanceMethod yX11_waysIn ∈ zT := zmem1 zsub_4 209 rfl rfl
theorem m_se_X11_waysIn : Cond.selects RX11 yX11_waysIn yX11_waysIn ∈ zT := zmem 31 rfl rfl
theorem m_fl_RX11_257 : Cond.fieldLink RX11 257 (TX0 1).1 (TX0 1).2.1 (TX0 1).2.2.1 ∈ zT := zmem1 zsub_2 109 rfl rfl
theorem m_co_X11_inLeastTerms : Cond.code yX11_inLeastTerms cX11_inLeastTerms 7 (some .int) ∈ zT := zmem1 zsub_5 44 rfl rfl
theorem m_ml_RX11_262 : Cond.methodLink RX11 262 yX11_inLeastTerms ∈ zT := zmem1 zsub_5 42 rfl rfl
theorem m_st_X11_inLeastTerms : Cond.static yX11_inLeastTerms ∈ zT := zmem1 zsub_5 43 rfl rfl
theorem m_ml_RX11_260 : Cond.methodLink RX11 260 yX0_where ∈ zT := zmem1 zsub_5 41 rfl rfl
theorem kV_RX11_232 {R : Room} {s : State} {args : Array Value} {d mc ms : Nat} (hts : ∀ w ∈ zT, w.before args s = true) (h1 : d + 1 ≤ R.frames) (h2 : 8 + (3 + 11) + 40 * d ≤ R.locals) : CallW R s args RX11 RX0 232 yX0_make cX0_make 3 none (zW yX0_make cX0_make 3 none) (zR d mc ms) mc ms 1 := z_cwV hts m_co_X0_make m_ml_RX11_232 m_im_X0_make m_se_X0_make m_ii_RX0 (by decide +kernel) h1 h2
theorem kV_RX11_235 {R : Room} {s : State} {args : Array Value} {d mc ms : Nat} (hts : ∀ w ∈ zT, w.before args s = true) (h1 : d + 1 ≤ R.frames) (h2 : 8 + (4 + 11) + 40 * d ≤ R.locals) : CallW R s args RX11 RX11 235 yX11_waysIn cX11_waysIn 4 (some (.object "TurnedPosts$AllWays")) (zW yX11_waysIn cX11_waysIn 4 (some (.object "TurnedPosts$AllWays"))) (zR d mc ms) mc ms 2 := z_cwV hts m_co_X11_waysIn m_ml_RX11_235 m_im_X11_waysIn m_se_X11_waysIn m_ii_RX11 (by decide +kernel) h1 h2
theorem kS_RX11_262 {R : Room} {s : State} {args : Array Value} {d mc ms : Nat} (hts : ∀ w ∈ zT, w.before args s = true) (h1 : d + 1 ≤ R.frames) (h2 : 8 + (7 + 11) + 40 * d ≤ R.locals) : CallB R s args RX11 262 yX11_inLeastTerms cX11_inLeastTerms 7 (some .int) (zW yX11_inLeastTerms cX11_inLeastTerms 7 (some .int)) (zR d mc ms) mc ms 3 ∧ (Cond.static yX11_inLeastTerms).before args s = true := z_cwS hts m_co_X11_inLeastTerms m_ml_RX11_262 m_st_X11_inLeastTerms m_ii_RX11 (by decide +kernel) h1 h2
theorem kV_RX11_260 {R : Room} {s : State} {args : Array Value} {d mc ms : Nat} (hts : ∀ w ∈ zT, w.before args s = true) (h1 : d + 1 ≤ R.frames) (h2 : 8 + (3 + 11) + 40 * d ≤ R.locals) : CallW R s args RX11 RX0 260 yX0_where cX0_where 3 (some .int) (zW yX0_where cX0_where 3 (some .int)) (zR d mc ms) mc ms 2 := z_cwV hts m_co_X0_where m_ml_RX11_260 m_im_X0_where m_se_X0_where m_ii_RX0 (by decide +kernel) h1 h2
theorem dX11_waysIn_0 : decode cX11_waysIn 0 = .ok (.iload_n 1, 1) := zo_27 (by decide +kernel)
theorem dX11_waysIn_1 : decode cX11_waysIn 1 = .ok (.ifCond .ne 10, 3) := zo_154 (by decide +kernel)
theorem dX11_waysIn_4 : decode cX11_waysIn 4 = .ok (.aload_n 0, 1) := zo_42 (by decide +kernel)
theorem dX11_waysIn_5 : decode cX11_waysIn 5 = .ok (.getfield 55, 3) := zo_180 (by decide +kernel)
theorem dX11_waysIn_8 : decode cX11_waysIn 8 = .ok (.goto 7, 3) := zo_167 (by decide +kernel)
theorem dX11_waysIn_11 : decode cX11_waysIn 11 = .ok (.aload_n 0, 1) := zo_42 (by decide +kernel)
theorem dX11_waysIn_12 : decode cX11_waysIn 12 = .ok (.getfield 59, 3) := zo_180 (by decide +kernel)
theorem dX11_waysIn_15 : decode cX11_waysIn 15 = .ok (.astore_n 3, 1) := zo_78 (by decide +kernel)
theorem dX11_waysIn_16 : decode cX11_waysIn 16 = .ok (.aload_n 3, 1) := zo_45 (by decide +kernel)
theorem dX11_waysIn_17 : decode cX11_waysIn 17 = .ok (.aload_n 2, 1) := zo_44 (by decide +kernel)
theorem dX11_waysIn_18 : decode cX11_waysIn 18 = .ok (.invokevirtual 232, 3) := zo_182 (by decide +kernel)
theorem dX11_waysIn_21 : decode cX11_waysIn 21 = .ok (.aload_n 3, 1) := zo_45 (by decide +kernel)
theorem dX11_waysIn_22 : decode cX11_waysIn 22 = .ok (.areturn, 1) := zo_176 (by decide +kernel)
theorem dX11_lot_0 : decode cX11_lot 0 = .ok (.aload_n 0, 1) := zo_42 (by decide +kernel)
theorem dX11_lot_1 : decode cX11_lot 1 = .ok (.getfield 10, 3) := zo_180 (by decide +kernel)
theorem dX11_lot_4 : decode cX11_lot 4 = .ok (.iload_n 1, 1) := zo_27 (by decide +kernel)
theorem dX11_lot_5 : decode cX11_lot 5 = .ok (.invokevirtual 121, 3) := zo_182 (by decide +kernel)
theorem dX11_lot_8 : decode cX11_lot 8 = .ok (.astore 5, 2) := zo_58 (by decide +kernel)
theorem dX11_lot_10 : decode cX11_lot 10 = .ok (.aload 5, 2) := zo_25 (by decide +kernel)
theorem dX11_lot_12 : decode cX11_lot 12 = .ok (.ifnull 21, 3) := zo_198 (by decide +kernel)
theorem dX11_lot_15 : decode cX11_lot 15 = .ok (.aload 5, 2) := zo_25 (by decide +kernel)
theorem dX11_lot_17 : decode cX11_lot 17 = .ok (.iload_n 2, 1) := zo_28 (by decide +kernel)
theorem dX11_lot_18 : decode cX11_lot 18 = .ok (.invokevirtual 160, 3) := zo_182 (by decide +kernel)
theorem dX11_lot_21 : decode cX11_lot 21 = .ok (.ifCond .eq 12, 3) := zo_153 (by decide +kernel)
theorem dX11_lot_24 : decode cX11_lot 24 = .ok (.aload 5, 2) := zo_25 (by decide +kernel)
theorem dX11_lot_26 : decode cX11_lot 26 = .ok (.iload_n 3, 1) := zo_29 (by decide +kernel)
theorem dX11_lot_27 : decode cX11_lot 27 = .ok (.invokevirtual 174, 3) := zo_182 (by decide +kernel)
theorem dX11_lot_30 : decode cX11_lot 30 = .ok (.ifCond .ne 5, 3) := zo_154 (by decide +kernel)
theorem dX11_lot_33 : decode cX11_lot 33 = .ok (.iconst (-1), 1) := zo_2 (by decide +kernel)
theorem dX11_lot_34 : decode cX11_lot 34 = .ok (.ireturn, 1) := zo_172 (by decide +kernel)
theorem dX11_lot_35 : decode cX11_lot 35 = .ok (.aload_n 0, 1) := zo_42 (by decide +kernel)
theorem dX11_lot_36 : decode cX11_lot 36 = .ok (.iload_n 1, 1) := zo_27 (by decide +kernel)
theorem dX11_lot_37 : decode cX11_lot 37 = .ok (.aload 5, 2) := zo_25 (by decide +kernel)
theorem dX11_lot_39 : decode cX11_lot 39 = .ok (.invokevirtual 235, 3) := zo_182 (by decide +kernel)
theorem dX11_lot_42 : decode cX11_lot 42 = .ok (.astore 6, 2) := zo_58 (by decide +kernel)
theorem dX11_lot_44 : decode cX11_lot 44 = .ok (.iconst 0, 1) := zo_3 (by decide +kernel)
theorem dX11_lot_45 : decode cX11_lot 45 = .ok (.istore 7, 2) := zo_54 (by decide +kernel)
theorem dX11_lot_47 : decode cX11_lot 47 = .ok (.iconst 0, 1) := zo_3 (by decide +kernel)
theorem dX11_lot_48 : decode cX11_lot 48 = .ok (.istore 8, 2) := zo_54 (by decide +kernel)
theorem dX11_lot_50 : decode cX11_lot 50 = .ok (.iload 8, 2) := zo_21 (by decide +kernel)
theorem dX11_lot_52 : decode cX11_lot 52 = .ok (.aload 6, 2) := zo_25 (by decide +kernel)
theorem dX11_lot_54 : decode cX11_lot 54 = .ok (.getfield 257, 3) := zo_180 (by decide +kernel)
theorem dX11_lot_57 : decode cX11_lot 57 = .ok (.if_icmp .ge 24, 3) := zo_162 (by decide +kernel)
theorem dX11_lot_60 : decode cX11_lot 60 = .ok (.aload 6, 2) := zo_25 (by decide +kernel)
theorem dX11_lot_62 : decode cX11_lot 62 = .ok (.iload 8, 2) := zo_21 (by decide +kernel)
theorem dX11_lot_64 : decode cX11_lot 64 = .ok (.iload_n 2, 1) := zo_28 (by decide +kernel)
theorem dX11_lot_65 : decode cX11_lot 65 = .ok (.invokevirtual 260, 3) := zo_182 (by decide +kernel)
theorem dX11_lot_68 : decode cX11_lot 68 = .ok (.iload_n 3, 1) := zo_29 (by decide +kernel)
theorem dX11_lot_69 : decode cX11_lot 69 = .ok (.if_icmp .ne 6, 3) := zo_160 (by decide +kernel)
theorem dX11_lot_72 : decode cX11_lot 72 = .ok (.iinc 7 1, 3) := zo_132 (by decide +kernel)
theorem dX11_lot_75 : decode cX11_lot 75 = .ok (.iinc 8 1, 3) := zo_132 (by decide +kernel)
theorem dX11_lot_78 : decode cX11_lot 78 = .ok (.goto (-28), 3) := zo_167 (by decide +kernel)
theorem dX11_lot_81 : decode cX11_lot 81 = .ok (.iload 7, 2) := zo_21 (by decide +kernel)
theorem dX11_lot_83 : decode cX11_lot 83 = .ok (.aload 6, 2) := zo_25 (by decide +kernel)
theorem dX11_lot_85 : decode cX11_lot 85 = .ok (.getfield 257, 3) := zo_180 (by decide +kernel)
theorem dX11_lot_88 : decode cX11_lot 88 = .ok (.iload 4, 2) := zo_21 (by decide +kernel)
theorem dX11_lot_90 : decode cX11_lot 90 = .ok (.invokestatic 262, 3) := zo_184 (by decide +kernel)
theorem dX11_lot_93 : decode cX11_lot 93 = .ok (.ireturn, 1) := zo_172 (by decide +kernel)
def zNA (c : Prop) [Decidable c] (md : Int32) (n : Nat) (pl : Int32) : Nat := if c then zMk md n pl else n
theorem zNA_y {c : Prop} [Decidable c] {md : Int32} {n : Nat} {pl : Int32} (h : c) : zNA c md n pl = zMk md n pl := if_pos h
theorem zNA_n {c : Prop} [Decidable c] {md : Int32} {n : Nat} {pl : Int32} (h : ¬ c) : zNA c md n pl = n := if_neg h
theorem zNA_ge {c : Prop} [Decidable c] {md : Int32} {n : Nat} {pl : Int32} (h : zPw n) : zPw (zNA c md n pl) := by
  unfold zNA
  split
  · exact zMk_pw h
  · exact h
theorem m_ml_RX11_266 : Cond.methodLink RX11 266 yX0_steps ∈ zT := zmem1 zsub_5 49 rfl rfl
theorem m_co_X0_number : Cond.code yX0_number cX0_number 4 (some .int) ∈ zT := zmem1 zsub_5 81 rfl rfl
theorem m_ml_RX11_272 : Cond.methodLink RX11 272 yX0_number ∈ zT := zmem1 zsub_5 78 rfl rfl
theorem m_im_X0_number : Cond.instanceMethod yX0_number ∈ zT := zmem1 zsub_5 79 rfl rfl
theorem m_se_X0_number : Cond.selects RX0 yX0_number yX0_number ∈ zT := zmem1 zsub_5 80 rfl rfl
theorem m_ml_RX11_242 : Cond.methodLink RX11 242 yX0_wayTold ∈ zT := zmem1 zsub_5 33 rfl rfl
theorem m_ml_RX11_275 : Cond.methodLink RX11 275 yX0_wayAfter ∈ zT := zmem1 zsub_5 86 rfl rfl
theorem m_co_X0_nearestWay : Cond.code yX0_nearestWay cX0_nearestWay 9 (some .int) ∈ zT := zmem1 zsub_5 15 rfl rfl
theorem m_ml_RX11_239 : Cond.methodLink RX11 239 yX0_nearestWay ∈ zT := zmem1 zsub_5 12 rfl rfl
theorem m_im_X0_nearestWay : Cond.instanceMethod yX0_nearestWay ∈ zT := zmem1 zsub_5 13 rfl rfl
theorem m_se_X0_nearestWay : Cond.selects RX0 yX0_nearestWay yX0_nearestWay ∈ zT := zmem1 zsub_5 14 rfl rfl
theorem m_ml_RX11_245 : Cond.methodLink RX11 245 yX0_unlike ∈ zT := zmem1 zsub_5 34 rfl rfl
theorem m_ml_RX11_253 : Cond.methodLink RX11 253 yX0_road ∈ zT := zmem1 zsub_5 36 rfl rfl
theorem m_ml_RX11_248 : Cond.methodLink RX11 248 yJ6_bitCount_0f7a4 ∈ zT := zmem1 zsub_5 35 rfl rfl
theorem m_co_X11_bestTurn : Cond.code yX11_bestTurn cX11_bestTurn 7 (some .int) ∈ zT := zmem1 zsub_5 105 rfl rfl
theorem m_ml_RX11_282 : Cond.methodLink RX11 282 yX11_bestTurn ∈ zT := zmem1 zsub_5 103 rfl rfl
theorem m_st_X11_bestTurn : Cond.static yX11_bestTurn ∈ zT := zmem1 zsub_5 104 rfl rfl
theorem kV_RX11_266 {R : Room} {s : State} {args : Array Value} {d mc ms : Nat} (hts : ∀ w ∈ zT, w.before args s = true) (h1 : d + 1 ≤ R.frames) (h2 : 8 + (3 + 11) + 40 * d ≤ R.locals) : CallW R s args RX11 RX0 266 yX0_steps cX0_steps 3 (some .int) (zW yX0_steps cX0_steps 3 (some .int)) (zR d mc ms) mc ms 2 := z_cwV hts m_co_X0_steps m_ml_RX11_266 m_im_X0_steps m_se_X0_steps m_ii_RX0 (by decide +kernel) h1 h2
theorem kV_RX11_272 {R : Room} {s : State} {args : Array Value} {d mc ms : Nat} (hts : ∀ w ∈ zT, w.before args s = true) (h1 : d + 1 ≤ R.frames) (h2 : 8 + (4 + 11) + 40 * d ≤ R.locals) : CallW R s args RX11 RX0 272 yX0_number cX0_number 4 (some .int) (zW yX0_number cX0_number 4 (some .int)) (zR d mc ms) mc ms 1 := z_cwV hts m_co_X0_number m_ml_RX11_272 m_im_X0_number m_se_X0_number m_ii_RX0 (by decide +kernel) h1 h2
theorem kV_RX11_242 {R : Room} {s : State} {args : Array Value} {d mc ms : Nat} (hts : ∀ w ∈ zT, w.before args s = true) (h1 : d + 1 ≤ R.frames) (h2 : 8 + (3 + 11) + 40 * d ≤ R.locals) : CallW R s args RX11 RX0 242 yX0_wayTold cX0_wayTold 3 (some .int) (zW yX0_wayTold cX0_wayTold 3 (some .int)) (zR d mc ms) mc ms 0 := z_cwV hts m_co_X0_wayTold m_ml_RX11_242 m_im_X0_wayTold m_se_X0_wayTold m_ii_RX0 (by decide +kernel) h1 h2
theorem kV_RX11_275 {R : Room} {s : State} {args : Array Value} {d mc ms : Nat} (hts : ∀ w ∈ zT, w.before args s = true) (h1 : d + 1 ≤ R.frames) (h2 : 8 + (3 + 11) + 40 * d ≤ R.locals) : CallW R s args RX11 RX0 275 yX0_wayAfter cX0_wayAfter 3 (some .int) (zW yX0_wayAfter cX0_wayAfter 3 (some .int)) (zR d mc ms) mc ms 2 := z_cwV hts m_co_X0_wayAfter m_ml_RX11_275 m_im_X0_wayAfter m_se_X0_wayAfter m_ii_RX0 (by decide +kernel) h1 h2
theorem kV_RX11_239 {R : Room} {s : State} {args : Array Value} {d mc ms : Nat} (hts : ∀ w ∈ zT, w.before args s = true) (h1 : d + 1 ≤ R.frames) (h2 : 8 + (9 + 11) + 40 * d ≤ R.locals) : CallW R s args RX11 RX0 239 yX0_nearestWay cX0_nearestWay 9 (some .int) (zW yX0_nearestWay cX0_nearestWay 9 (some .int)) (zR d mc ms) mc ms 2 := z_cwV hts m_co_X0_nearestWay m_ml_RX11_239 m_im_X0_nearestWay m_se_X0_nearestWay m_ii_RX0 (by decide +kernel) h1 h2
theorem kV_RX11_245 {R : Room} {s : State} {args : Array Value} {d mc ms : Nat} (hts : ∀ w ∈ zT, w.before args s = true) (h1 : d + 1 ≤ R.frames) (h2 : 8 + (5 + 11) + 40 * d ≤ R.locals) : CallW R s args RX11 RX0 245 yX0_unlike cX0_unlike 5 (some .int) (zW yX0_unlike cX0_unlike 5 (some .int)) (zR d mc ms) mc ms 2 := z_cwV hts m_co_X0_unlike m_ml_RX11_245 m_im_X0_unlike m_se_X0_unlike m_ii_RX0 (by decide +kernel) h1 h2
theorem kV_RX11_253 {R : Room} {s : State} {args : Array Value} {d mc ms : Nat} (hts : ∀ w ∈ zT, w.before args s = true) (h1 : d + 1 ≤ R.frames) (h2 : 8 + (3 + 11) + 40 * d ≤ R.locals) : CallW R s args RX11 RX0 253 yX0_road cX0_road 3 (some .int) (zW yX0_road cX0_road 3 (some .int)) (zR d mc ms) mc ms 2 := z_cwV hts m_co_X0_road m_ml_RX11_253 m_im_X0_road m_se_X0_road m_ii_RX0 (by decide +kernel) h1 h2
theorem kS_RX11_248 {R : Room} {s : State} {args : Array Value} {d mc ms : Nat} (hts : ∀ w ∈ zT, w.before args s = true) (h1 : d + 1 ≤ R.frames) (h2 : 8 + (1 + 11) + 40 * d ≤ R.locals) : CallB R s args RX11 248 yJ6_bitCount_0f7a4 cJ6_bitCount_0f7a4 1 (some .int) (zW yJ6_bitCount_0f7a4 cJ6_bitCount_0f7a4 1 (some .int)) (zR d mc ms) mc ms 1 ∧ (Cond.static yJ6_bitCount_0f7a4).before args s = true := z_cwS hts m_co_J6_bitCount_0f7a4 m_ml_RX11_248 m_st_J6_bitCount_0f7a4 m_ii_RJ6 (by decide +kernel) h1 h2
theorem kS_RX11_282 {R : Room} {s : State} {args : Array Value} {d mc ms : Nat} (hts : ∀ w ∈ zT, w.before args s = true) (h1 : d + 1 ≤ R.frames) (h2 : 8 + (7 + 11) + 40 * d ≤ R.locals) : CallB R s args RX11 282 yX11_bestTurn cX11_bestTurn 7 (some .int) (zW yX11_bestTurn cX11_bestTurn 7 (some .int)) (zR d mc ms) mc ms 5 ∧ (Cond.static yX11_bestTurn).before args s = true := z_cwS hts m_co_X11_bestTurn m_ml_RX11_282 m_st_X11_bestTurn m_ii_RX11 (by decide +kernel) h1 h2
theorem dX11_mean_0 : decode cX11_mean 0 = .ok (.aload_n 0, 1) := zo_42 (by decide +kernel)
theorem dX11_mean_1 : decode cX11_mean 1 = .ok (.getfield 10, 3) := zo_180 (by decide +kernel)
theorem dX11_mean_4 : decode cX11_mean 4 = .ok (.iload_n 1, 1) := zo_27 (by decide +kernel)
theorem dX11_mean_5 : decode cX11_mean 5 = .ok (.invokevirtual 121, 3) := zo_182 (by decide +kernel)
theorem dX11_mean_8 : decode cX11_mean 8 = .ok (.astore 4, 2) := zo_58 (by decide +kernel)
theorem dX11_mean_10 : decode cX11_mean 10 = .ok (.aload 4, 2) := zo_25 (by decide +kernel)
theorem dX11_mean_12 : decode cX11_mean 12 = .ok (.ifnull 12, 3) := zo_198 (by decide +kernel)
theorem dX11_mean_15 : decode cX11_mean 15 = .ok (.aload 4, 2) := zo_25 (by decide +kernel)
theorem dX11_mean_17 : decode cX11_mean 17 = .ok (.iload_n 2, 1) := zo_28 (by decide +kernel)
theorem dX11_mean_18 : decode cX11_mean 18 = .ok (.invokevirtual 160, 3) := zo_182 (by decide +kernel)
theorem dX11_mean_21 : decode cX11_mean 21 = .ok (.ifCond .ne 5, 3) := zo_154 (by decide +kernel)
theorem dX11_mean_24 : decode cX11_mean 24 = .ok (.iconst (-1), 1) := zo_2 (by decide +kernel)
theorem dX11_mean_25 : decode cX11_mean 25 = .ok (.ireturn, 1) := zo_172 (by decide +kernel)
theorem dX11_mean_26 : decode cX11_mean 26 = .ok (.aload_n 0, 1) := zo_42 (by decide +kernel)
theorem dX11_mean_27 : decode cX11_mean 27 = .ok (.iload_n 1, 1) := zo_27 (by decide +kernel)
theorem dX11_mean_28 : decode cX11_mean 28 = .ok (.aload 4, 2) := zo_25 (by decide +kernel)
theorem dX11_mean_30 : decode cX11_mean 30 = .ok (.invokevirtual 235, 3) := zo_182 (by decide +kernel)
theorem dX11_mean_33 : decode cX11_mean 33 = .ok (.astore 5, 2) := zo_58 (by decide +kernel)
theorem dX11_mean_35 : decode cX11_mean 35 = .ok (.iconst 0, 1) := zo_3 (by decide +kernel)
theorem dX11_mean_36 : decode cX11_mean 36 = .ok (.istore 6, 2) := zo_54 (by decide +kernel)
theorem dX11_mean_38 : decode cX11_mean 38 = .ok (.iconst 0, 1) := zo_3 (by decide +kernel)
theorem dX11_mean_39 : decode cX11_mean 39 = .ok (.istore 7, 2) := zo_54 (by decide +kernel)
theorem dX11_mean_41 : decode cX11_mean 41 = .ok (.iload 7, 2) := zo_21 (by decide +kernel)
theorem dX11_mean_43 : decode cX11_mean 43 = .ok (.aload 5, 2) := zo_25 (by decide +kernel)
theorem dX11_mean_45 : decode cX11_mean 45 = .ok (.getfield 257, 3) := zo_180 (by decide +kernel)
theorem dX11_mean_48 : decode cX11_mean 48 = .ok (.if_icmp .ge 40, 3) := zo_162 (by decide +kernel)
theorem dX11_mean_51 : decode cX11_mean 51 = .ok (.aload 4, 2) := zo_25 (by decide +kernel)
theorem dX11_mean_53 : decode cX11_mean 53 = .ok (.aload 5, 2) := zo_25 (by decide +kernel)
theorem dX11_mean_55 : decode cX11_mean 55 = .ok (.iload 7, 2) := zo_21 (by decide +kernel)
theorem dX11_mean_57 : decode cX11_mean 57 = .ok (.iload_n 2, 1) := zo_28 (by decide +kernel)
theorem dX11_mean_58 : decode cX11_mean 58 = .ok (.invokevirtual 260, 3) := zo_182 (by decide +kernel)
theorem dX11_mean_61 : decode cX11_mean 61 = .ok (.invokevirtual 174, 3) := zo_182 (by decide +kernel)
theorem dX11_mean_64 : decode cX11_mean 64 = .ok (.ifCond .ne 5, 3) := zo_154 (by decide +kernel)
theorem dX11_mean_67 : decode cX11_mean 67 = .ok (.iconst (-1), 1) := zo_2 (by decide +kernel)
theorem dX11_mean_68 : decode cX11_mean 68 = .ok (.ireturn, 1) := zo_172 (by decide +kernel)
theorem dX11_mean_69 : decode cX11_mean 69 = .ok (.iload 6, 2) := zo_21 (by decide +kernel)
theorem dX11_mean_71 : decode cX11_mean 71 = .ok (.aload 5, 2) := zo_25 (by decide +kernel)
theorem dX11_mean_73 : decode cX11_mean 73 = .ok (.iload 7, 2) := zo_21 (by decide +kernel)
theorem dX11_mean_75 : decode cX11_mean 75 = .ok (.iload_n 2, 1) := zo_28 (by decide +kernel)
theorem dX11_mean_76 : decode cX11_mean 76 = .ok (.invokevirtual 266, 3) := zo_182 (by decide +kernel)
theorem dX11_mean_79 : decode cX11_mean 79 = .ok (.iadd, 1) := zo_96 (by decide +kernel)
theorem dX11_mean_80 : decode cX11_mean 80 = .ok (.istore 6, 2) := zo_54 (by decide +kernel)
theorem dX11_mean_82 : decode cX11_mean 82 = .ok (.iinc 7 1, 3) := zo_132 (by decide +kernel)
theorem dX11_mean_85 : decode cX11_mean 85 = .ok (.goto (-44), 3) := zo_167 (by decide +kernel)
theorem dX11_mean_88 : decode cX11_mean 88 = .ok (.iload 6, 2) := zo_21 (by decide +kernel)
theorem dX11_mean_90 : decode cX11_mean 90 = .ok (.aload 5, 2) := zo_25 (by decide +kernel)
theorem dX11_mean_92 : decode cX11_mean 92 = .ok (.getfield 257, 3) := zo_180 (by decide +kernel)
theorem dX11_mean_95 : decode cX11_mean 95 = .ok (.iload_n 3, 1) := zo_29 (by decide +kernel)
theorem dX11_mean_96 : decode cX11_mean 96 = .ok (.invokestatic 262, 3) := zo_184 (by decide +kernel)
theorem dX11_mean_99 : decode cX11_mean 99 = .ok (.ireturn, 1) := zo_172 (by decide +kernel)
theorem dX11_longest_0 : decode cX11_longest 0 = .ok (.aload_n 0, 1) := zo_42 (by decide +kernel)
theorem dX11_longest_1 : decode cX11_longest 1 = .ok (.getfield 10, 3) := zo_180 (by decide +kernel)
theorem dX11_longest_4 : decode cX11_longest 4 = .ok (.iload_n 1, 1) := zo_27 (by decide +kernel)
theorem dX11_longest_5 : decode cX11_longest 5 = .ok (.invokevirtual 121, 3) := zo_182 (by decide +kernel)
theorem dX11_longest_8 : decode cX11_longest 8 = .ok (.astore 5, 2) := zo_58 (by decide +kernel)
theorem dX11_longest_10 : decode cX11_longest 10 = .ok (.aload 5, 2) := zo_25 (by decide +kernel)
theorem dX11_longest_12 : decode cX11_longest 12 = .ok (.ifnull 12, 3) := zo_198 (by decide +kernel)
theorem dX11_longest_15 : decode cX11_longest 15 = .ok (.aload 5, 2) := zo_25 (by decide +kernel)
theorem dX11_longest_17 : decode cX11_longest 17 = .ok (.iload_n 2, 1) := zo_28 (by decide +kernel)
theorem dX11_longest_18 : decode cX11_longest 18 = .ok (.invokevirtual 160, 3) := zo_182 (by decide +kernel)
theorem dX11_longest_21 : decode cX11_longest 21 = .ok (.ifCond .ne 5, 3) := zo_154 (by decide +kernel)
theorem dX11_longest_24 : decode cX11_longest 24 = .ok (.iconst (-1), 1) := zo_2 (by decide +kernel)
theorem dX11_longest_25 : decode cX11_longest 25 = .ok (.ireturn, 1) := zo_172 (by decide +kernel)
theorem dX11_longest_26 : decode cX11_longest 26 = .ok (.aload_n 0, 1) := zo_42 (by decide +kernel)
theorem dX11_longest_27 : decode cX11_longest 27 = .ok (.iload_n 1, 1) := zo_27 (by decide +kernel)
theorem dX11_longest_28 : decode cX11_longest 28 = .ok (.aload 5, 2) := zo_25 (by decide +kernel)
theorem dX11_longest_30 : decode cX11_longest 30 = .ok (.invokevirtual 235, 3) := zo_182 (by decide +kernel)
theorem dX11_longest_33 : decode cX11_longest 33 = .ok (.astore 6, 2) := zo_58 (by decide +kernel)
theorem dX11_longest_35 : decode cX11_longest 35 = .ok (.iconst (-1), 1) := zo_2 (by decide +kernel)
theorem dX11_longest_36 : decode cX11_longest 36 = .ok (.istore 7, 2) := zo_54 (by decide +kernel)
theorem dX11_longest_38 : decode cX11_longest 38 = .ok (.iconst (-1), 1) := zo_2 (by decide +kernel)
theorem dX11_longest_39 : decode cX11_longest 39 = .ok (.istore 8, 2) := zo_54 (by decide +kernel)
theorem dX11_longest_41 : decode cX11_longest 41 = .ok (.iconst 0, 1) := zo_3 (by decide +kernel)
theorem dX11_longest_42 : decode cX11_longest 42 = .ok (.istore 9, 2) := zo_54 (by decide +kernel)
theorem dX11_longest_44 : decode cX11_longest 44 = .ok (.iload 9, 2) := zo_21 (by decide +kernel)
theorem dX11_longest_46 : decode cX11_longest 46 = .ok (.aload 6, 2) := zo_25 (by decide +kernel)
theorem dX11_longest_48 : decode cX11_longest 48 = .ok (.getfield 257, 3) := zo_180 (by decide +kernel)
theorem dX11_longest_51 : decode cX11_longest 51 = .ok (.if_icmp .ge 82, 3) := zo_162 (by decide +kernel)
theorem dX11_longest_54 : decode cX11_longest 54 = .ok (.aload 6, 2) := zo_25 (by decide +kernel)
theorem dX11_longest_56 : decode cX11_longest 56 = .ok (.iload 9, 2) := zo_21 (by decide +kernel)
theorem dX11_longest_58 : decode cX11_longest 58 = .ok (.iload_n 2, 1) := zo_28 (by decide +kernel)
theorem dX11_longest_59 : decode cX11_longest 59 = .ok (.invokevirtual 266, 3) := zo_182 (by decide +kernel)
theorem dX11_longest_62 : decode cX11_longest 62 = .ok (.istore 10, 2) := zo_54 (by decide +kernel)
theorem dX11_longest_64 : decode cX11_longest 64 = .ok (.iload 7, 2) := zo_21 (by decide +kernel)
theorem dX11_longest_66 : decode cX11_longest 66 = .ok (.iconst (-1), 1) := zo_2 (by decide +kernel)
theorem dX11_longest_67 : decode cX11_longest 67 = .ok (.if_icmp .eq 24, 3) := zo_159 (by decide +kernel)
theorem dX11_longest_70 : decode cX11_longest 70 = .ok (.iload_n 3, 1) := zo_29 (by decide +kernel)
theorem dX11_longest_71 : decode cX11_longest 71 = .ok (.ifCond .eq 13, 3) := zo_153 (by decide +kernel)
theorem dX11_longest_74 : decode cX11_longest 74 = .ok (.iload 10, 2) := zo_21 (by decide +kernel)
theorem dX11_longest_76 : decode cX11_longest 76 = .ok (.iload 7, 2) := zo_21 (by decide +kernel)
theorem dX11_longest_78 : decode cX11_longest 78 = .ok (.if_icmp .ge 17, 3) := zo_162 (by decide +kernel)
theorem dX11_longest_81 : decode cX11_longest 81 = .ok (.goto 10, 3) := zo_167 (by decide +kernel)
theorem dX11_longest_84 : decode cX11_longest 84 = .ok (.iload 10, 2) := zo_21 (by decide +kernel)
theorem dX11_longest_86 : decode cX11_longest 86 = .ok (.iload 7, 2) := zo_21 (by decide +kernel)
theorem dX11_longest_88 : decode cX11_longest 88 = .ok (.if_icmp .le 7, 3) := zo_164 (by decide +kernel)
theorem dX11_longest_91 : decode cX11_longest 91 = .ok (.iconst 1, 1) := zo_4 (by decide +kernel)
theorem dX11_longest_92 : decode cX11_longest 92 = .ok (.goto 4, 3) := zo_167 (by decide +kernel)
theorem dX11_longest_95 : decode cX11_longest 95 = .ok (.iconst 0, 1) := zo_3 (by decide +kernel)
theorem dX11_longest_96 : decode cX11_longest 96 = .ok (.istore 11, 2) := zo_54 (by decide +kernel)
theorem dX11_longest_98 : decode cX11_longest 98 = .ok (.iload 11, 2) := zo_21 (by decide +kernel)
theorem dX11_longest_100 : decode cX11_longest 100 = .ok (.ifCond .eq 27, 3) := zo_153 (by decide +kernel)
theorem dX11_longest_103 : decode cX11_longest 103 = .ok (.aload 5, 2) := zo_25 (by decide +kernel)
theorem dX11_longest_105 : decode cX11_longest 105 = .ok (.aload 6, 2) := zo_25 (by decide +kernel)
theorem dX11_longest_107 : decode cX11_longest 107 = .ok (.iload 9, 2) := zo_21 (by decide +kernel)
theorem dX11_longest_109 : decode cX11_longest 109 = .ok (.iload_n 2, 1) := zo_28 (by decide +kernel)
theorem dX11_longest_110 : decode cX11_longest 110 = .ok (.invokevirtual 260, 3) := zo_182 (by decide +kernel)
theorem dX11_longest_113 : decode cX11_longest 113 = .ok (.invokevirtual 174, 3) := zo_182 (by decide +kernel)
theorem dX11_longest_116 : decode cX11_longest 116 = .ok (.ifCond .eq 11, 3) := zo_153 (by decide +kernel)
theorem dX11_longest_119 : decode cX11_longest 119 = .ok (.iload 10, 2) := zo_21 (by decide +kernel)
theorem dX11_longest_121 : decode cX11_longest 121 = .ok (.istore 7, 2) := zo_54 (by decide +kernel)
theorem dX11_longest_123 : decode cX11_longest 123 = .ok (.iload 9, 2) := zo_21 (by decide +kernel)
theorem dX11_longest_125 : decode cX11_longest 125 = .ok (.istore 8, 2) := zo_54 (by decide +kernel)
theorem dX11_longest_127 : decode cX11_longest 127 = .ok (.iinc 9 1, 3) := zo_132 (by decide +kernel)
theorem dX11_longest_130 : decode cX11_longest 130 = .ok (.goto (-86), 3) := zo_167 (by decide +kernel)
theorem dX11_longest_133 : decode cX11_longest 133 = .ok (.iload 4, 2) := zo_21 (by decide +kernel)
theorem dX11_longest_135 : decode cX11_longest 135 = .ok (.ifCond .eq 19, 3) := zo_153 (by decide +kernel)
theorem dX11_longest_138 : decode cX11_longest 138 = .ok (.iload 8, 2) := zo_21 (by decide +kernel)
theorem dX11_longest_140 : decode cX11_longest 140 = .ok (.iconst (-1), 1) := zo_2 (by decide +kernel)
theorem dX11_longest_141 : decode cX11_longest 141 = .ok (.if_icmp .eq 13, 3) := zo_159 (by decide +kernel)
theorem dX11_longest_144 : decode cX11_longest 144 = .ok (.aload 6, 2) := zo_25 (by decide +kernel)
theorem dX11_longest_146 : decode cX11_longest 146 = .ok (.iload 8, 2) := zo_21 (by decide +kernel)
theorem dX11_longest_148 : decode cX11_longest 148 = .ok (.invokevirtual 272, 3) := zo_182 (by decide +kernel)
theorem dX11_longest_151 : decode cX11_longest 151 = .ok (.goto 5, 3) := zo_167 (by decide +kernel)
theorem dX11_longest_154 : decode cX11_longest 154 = .ok (.iload 7, 2) := zo_21 (by decide +kernel)
theorem dX11_longest_156 : decode cX11_longest 156 = .ok (.ireturn, 1) := zo_172 (by decide +kernel)
theorem dX11_back_0 : decode cX11_back 0 = .ok (.aload_n 0, 1) := zo_42 (by decide +kernel)
theorem dX11_back_1 : decode cX11_back 1 = .ok (.getfield 10, 3) := zo_180 (by decide +kernel)
theorem dX11_back_4 : decode cX11_back 4 = .ok (.iload_n 1, 1) := zo_27 (by decide +kernel)
theorem dX11_back_5 : decode cX11_back 5 = .ok (.invokevirtual 121, 3) := zo_182 (by decide +kernel)
theorem dX11_back_8 : decode cX11_back 8 = .ok (.astore_n 3, 1) := zo_78 (by decide +kernel)
theorem dX11_back_9 : decode cX11_back 9 = .ok (.aload_n 3, 1) := zo_45 (by decide +kernel)
theorem dX11_back_10 : decode cX11_back 10 = .ok (.ifnull 11, 3) := zo_198 (by decide +kernel)
theorem dX11_back_13 : decode cX11_back 13 = .ok (.aload_n 3, 1) := zo_45 (by decide +kernel)
theorem dX11_back_14 : decode cX11_back 14 = .ok (.iload_n 2, 1) := zo_28 (by decide +kernel)
theorem dX11_back_15 : decode cX11_back 15 = .ok (.invokevirtual 160, 3) := zo_182 (by decide +kernel)
theorem dX11_back_18 : decode cX11_back 18 = .ok (.ifCond .ne 5, 3) := zo_154 (by decide +kernel)
theorem dX11_back_21 : decode cX11_back 21 = .ok (.iconst (-1), 1) := zo_2 (by decide +kernel)
theorem dX11_back_22 : decode cX11_back 22 = .ok (.ireturn, 1) := zo_172 (by decide +kernel)
theorem dX11_back_23 : decode cX11_back 23 = .ok (.aload_n 0, 1) := zo_42 (by decide +kernel)
theorem dX11_back_24 : decode cX11_back 24 = .ok (.iload_n 1, 1) := zo_27 (by decide +kernel)
theorem dX11_back_25 : decode cX11_back 25 = .ok (.aload_n 3, 1) := zo_45 (by decide +kernel)
theorem dX11_back_26 : decode cX11_back 26 = .ok (.invokevirtual 235, 3) := zo_182 (by decide +kernel)
theorem dX11_back_29 : decode cX11_back 29 = .ok (.astore 4, 2) := zo_58 (by decide +kernel)
theorem dX11_back_31 : decode cX11_back 31 = .ok (.aload 4, 2) := zo_25 (by decide +kernel)
theorem dX11_back_33 : decode cX11_back 33 = .ok (.invokevirtual 242, 3) := zo_182 (by decide +kernel)
theorem dX11_back_36 : decode cX11_back 36 = .ok (.istore 5, 2) := zo_54 (by decide +kernel)
theorem dX11_back_38 : decode cX11_back 38 = .ok (.iconst 0, 1) := zo_3 (by decide +kernel)
theorem dX11_back_39 : decode cX11_back 39 = .ok (.istore 6, 2) := zo_54 (by decide +kernel)
theorem dX11_back_41 : decode cX11_back 41 = .ok (.iconst 0, 1) := zo_3 (by decide +kernel)
theorem dX11_back_42 : decode cX11_back 42 = .ok (.istore 7, 2) := zo_54 (by decide +kernel)
theorem dX11_back_44 : decode cX11_back 44 = .ok (.iload 7, 2) := zo_21 (by decide +kernel)
theorem dX11_back_46 : decode cX11_back 46 = .ok (.aload 4, 2) := zo_25 (by decide +kernel)
theorem dX11_back_48 : decode cX11_back 48 = .ok (.getfield 257, 3) := zo_180 (by decide +kernel)
theorem dX11_back_51 : decode cX11_back 51 = .ok (.if_icmp .ge 25, 3) := zo_162 (by decide +kernel)
theorem dX11_back_54 : decode cX11_back 54 = .ok (.aload 4, 2) := zo_25 (by decide +kernel)
theorem dX11_back_56 : decode cX11_back 56 = .ok (.iload 7, 2) := zo_21 (by decide +kernel)
theorem dX11_back_58 : decode cX11_back 58 = .ok (.iload_n 2, 1) := zo_28 (by decide +kernel)
theorem dX11_back_59 : decode cX11_back 59 = .ok (.invokevirtual 275, 3) := zo_182 (by decide +kernel)
theorem dX11_back_62 : decode cX11_back 62 = .ok (.iload 5, 2) := zo_21 (by decide +kernel)
theorem dX11_back_64 : decode cX11_back 64 = .ok (.if_icmp .ne 6, 3) := zo_160 (by decide +kernel)
theorem dX11_back_67 : decode cX11_back 67 = .ok (.iinc 6 1, 3) := zo_132 (by decide +kernel)
theorem dX11_back_70 : decode cX11_back 70 = .ok (.iinc 7 1, 3) := zo_132 (by decide +kernel)
theorem dX11_back_73 : decode cX11_back 73 = .ok (.goto (-29), 3) := zo_167 (by decide +kernel)
theorem dX11_back_76 : decode cX11_back 76 = .ok (.iload 6, 2) := zo_21 (by decide +kernel)
theorem dX11_back_78 : decode cX11_back 78 = .ok (.ireturn, 1) := zo_172 (by decide +kernel)
theorem dX11_set_0 : decode cX11_set 0 = .ok (.aload_n 0, 1) := zo_42 (by decide +kernel)
theorem dX11_set_1 : decode cX11_set 1 = .ok (.getfield 10, 3) := zo_180 (by decide +kernel)
theorem dX11_set_4 : decode cX11_set 4 = .ok (.iload_n 1, 1) := zo_27 (by decide +kernel)
theorem dX11_set_5 : decode cX11_set 5 = .ok (.invokevirtual 121, 3) := zo_182 (by decide +kernel)
theorem dX11_set_8 : decode cX11_set 8 = .ok (.astore 5, 2) := zo_58 (by decide +kernel)
theorem dX11_set_10 : decode cX11_set 10 = .ok (.aload 5, 2) := zo_25 (by decide +kernel)
theorem dX11_set_12 : decode cX11_set 12 = .ok (.ifnull 21, 3) := zo_198 (by decide +kernel)
theorem dX11_set_15 : decode cX11_set 15 = .ok (.aload 5, 2) := zo_25 (by decide +kernel)
theorem dX11_set_17 : decode cX11_set 17 = .ok (.iload_n 2, 1) := zo_28 (by decide +kernel)
theorem dX11_set_18 : decode cX11_set 18 = .ok (.invokevirtual 160, 3) := zo_182 (by decide +kernel)
theorem dX11_set_21 : decode cX11_set 21 = .ok (.ifCond .eq 12, 3) := zo_153 (by decide +kernel)
theorem dX11_set_24 : decode cX11_set 24 = .ok (.aload 5, 2) := zo_25 (by decide +kernel)
theorem dX11_set_26 : decode cX11_set 26 = .ok (.iload_n 3, 1) := zo_29 (by decide +kernel)
theorem dX11_set_27 : decode cX11_set 27 = .ok (.invokevirtual 174, 3) := zo_182 (by decide +kernel)
theorem dX11_set_30 : decode cX11_set 30 = .ok (.ifCond .ne 5, 3) := zo_154 (by decide +kernel)
theorem dX11_set_33 : decode cX11_set 33 = .ok (.iconst (-1), 1) := zo_2 (by decide +kernel)
theorem dX11_set_34 : decode cX11_set 34 = .ok (.ireturn, 1) := zo_172 (by decide +kernel)
theorem dX11_set_35 : decode cX11_set 35 = .ok (.aload_n 0, 1) := zo_42 (by decide +kernel)
theorem dX11_set_36 : decode cX11_set 36 = .ok (.iload_n 1, 1) := zo_27 (by decide +kernel)
theorem dX11_set_37 : decode cX11_set 37 = .ok (.aload 5, 2) := zo_25 (by decide +kernel)
theorem dX11_set_39 : decode cX11_set 39 = .ok (.invokevirtual 235, 3) := zo_182 (by decide +kernel)
theorem dX11_set_42 : decode cX11_set 42 = .ok (.astore 6, 2) := zo_58 (by decide +kernel)
theorem dX11_set_44 : decode cX11_set 44 = .ok (.aload 6, 2) := zo_25 (by decide +kernel)
theorem dX11_set_46 : decode cX11_set 46 = .ok (.iload_n 2, 1) := zo_28 (by decide +kernel)
theorem dX11_set_47 : decode cX11_set 47 = .ok (.iload_n 3, 1) := zo_29 (by decide +kernel)
theorem dX11_set_48 : decode cX11_set 48 = .ok (.invokevirtual 239, 3) := zo_182 (by decide +kernel)
theorem dX11_set_51 : decode cX11_set 51 = .ok (.istore 7, 2) := zo_54 (by decide +kernel)
theorem dX11_set_53 : decode cX11_set 53 = .ok (.iload 7, 2) := zo_21 (by decide +kernel)
theorem dX11_set_55 : decode cX11_set 55 = .ok (.iconst (-1), 1) := zo_2 (by decide +kernel)
theorem dX11_set_56 : decode cX11_set 56 = .ok (.if_icmp .ne 5, 3) := zo_160 (by decide +kernel)
theorem dX11_set_59 : decode cX11_set 59 = .ok (.iconst (-1), 1) := zo_2 (by decide +kernel)
theorem dX11_set_60 : decode cX11_set 60 = .ok (.ireturn, 1) := zo_172 (by decide +kernel)
theorem dX11_set_61 : decode cX11_set 61 = .ok (.aload 6, 2) := zo_25 (by decide +kernel)
theorem dX11_set_63 : decode cX11_set 63 = .ok (.iload 7, 2) := zo_21 (by decide +kernel)
theorem dX11_set_65 : decode cX11_set 65 = .ok (.aload 6, 2) := zo_25 (by decide +kernel)
theorem dX11_set_67 : decode cX11_set 67 = .ok (.invokevirtual 242, 3) := zo_182 (by decide +kernel)
theorem dX11_set_70 : decode cX11_set 70 = .ok (.invokevirtual 245, 3) := zo_182 (by decide +kernel)
theorem dX11_set_73 : decode cX11_set 73 = .ok (.istore 8, 2) := zo_54 (by decide +kernel)
theorem dX11_set_75 : decode cX11_set 75 = .ok (.iload 4, 2) := zo_21 (by decide +kernel)
theorem dX11_set_77 : decode cX11_set 77 = .ok (.ifCond .ne 9, 3) := zo_154 (by decide +kernel)
theorem dX11_set_80 : decode cX11_set 80 = .ok (.iload 8, 2) := zo_21 (by decide +kernel)
theorem dX11_set_82 : decode cX11_set 82 = .ok (.invokestatic 248, 3) := zo_184 (by decide +kernel)
theorem dX11_set_85 : decode cX11_set 85 = .ok (.ireturn, 1) := zo_172 (by decide +kernel)
theorem dX11_set_86 : decode cX11_set 86 = .ok (.iload 4, 2) := zo_21 (by decide +kernel)
theorem dX11_set_88 : decode cX11_set 88 = .ok (.iconst 1, 1) := zo_4 (by decide +kernel)
theorem dX11_set_89 : decode cX11_set 89 = .ok (.if_icmp .ne 6, 3) := zo_160 (by decide +kernel)
theorem dX11_set_92 : decode cX11_set 92 = .ok (.iload 8, 2) := zo_21 (by decide +kernel)
theorem dX11_set_94 : decode cX11_set 94 = .ok (.ireturn, 1) := zo_172 (by decide +kernel)
theorem dX11_set_95 : decode cX11_set 95 = .ok (.iload 4, 2) := zo_21 (by decide +kernel)
theorem dX11_set_97 : decode cX11_set 97 = .ok (.bipush 10, 2) := zo_16 (by decide +kernel)
theorem dX11_set_99 : decode cX11_set 99 = .ok (.isub, 1) := zo_100 (by decide +kernel)
theorem dX11_set_100 : decode cX11_set 100 = .ok (.istore 9, 2) := zo_54 (by decide +kernel)
theorem dX11_set_102 : decode cX11_set 102 = .ok (.aload 5, 2) := zo_25 (by decide +kernel)
theorem dX11_set_104 : decode cX11_set 104 = .ok (.iload 9, 2) := zo_21 (by decide +kernel)
theorem dX11_set_106 : decode cX11_set 106 = .ok (.invokevirtual 160, 3) := zo_182 (by decide +kernel)
theorem dX11_set_109 : decode cX11_set 109 = .ok (.ifCond .ne 5, 3) := zo_154 (by decide +kernel)
theorem dX11_set_112 : decode cX11_set 112 = .ok (.iconst (-1), 1) := zo_2 (by decide +kernel)
theorem dX11_set_113 : decode cX11_set 113 = .ok (.ireturn, 1) := zo_172 (by decide +kernel)
theorem dX11_set_114 : decode cX11_set 114 = .ok (.aload 5, 2) := zo_25 (by decide +kernel)
theorem dX11_set_116 : decode cX11_set 116 = .ok (.iload 9, 2) := zo_21 (by decide +kernel)
theorem dX11_set_118 : decode cX11_set 118 = .ok (.invokevirtual 221, 3) := zo_182 (by decide +kernel)
theorem dX11_set_121 : decode cX11_set 121 = .ok (.ifCond .le 15, 3) := zo_158 (by decide +kernel)
theorem dX11_set_124 : decode cX11_set 124 = .ok (.aload 6, 2) := zo_25 (by decide +kernel)
theorem dX11_set_126 : decode cX11_set 126 = .ok (.iload 7, 2) := zo_21 (by decide +kernel)
theorem dX11_set_128 : decode cX11_set 128 = .ok (.iload 9, 2) := zo_21 (by decide +kernel)
theorem dX11_set_130 : decode cX11_set 130 = .ok (.invokevirtual 253, 3) := zo_182 (by decide +kernel)
theorem dX11_set_133 : decode cX11_set 133 = .ok (.goto 11, 3) := zo_167 (by decide +kernel)
theorem dX11_set_136 : decode cX11_set 136 = .ok (.aload 5, 2) := zo_25 (by decide +kernel)
theorem dX11_set_138 : decode cX11_set 138 = .ok (.getfield 256, 3) := zo_180 (by decide +kernel)
theorem dX11_set_141 : decode cX11_set 141 = .ok (.iload 9, 2) := zo_21 (by decide +kernel)
theorem dX11_set_143 : decode cX11_set 143 = .ok (.iaload, 1) := zo_46 (by decide +kernel)
theorem dX11_set_144 : decode cX11_set 144 = .ok (.ireturn, 1) := zo_172 (by decide +kernel)
theorem dX11_game_0 : decode cX11_game 0 = .ok (.aload_n 0, 1) := zo_42 (by decide +kernel)
theorem dX11_game_1 : decode cX11_game 1 = .ok (.getfield 10, 3) := zo_180 (by decide +kernel)
theorem dX11_game_4 : decode cX11_game 4 = .ok (.iload_n 1, 1) := zo_27 (by decide +kernel)
theorem dX11_game_5 : decode cX11_game 5 = .ok (.invokevirtual 121, 3) := zo_182 (by decide +kernel)
theorem dX11_game_8 : decode cX11_game 8 = .ok (.astore 5, 2) := zo_58 (by decide +kernel)
theorem dX11_game_10 : decode cX11_game 10 = .ok (.aload 5, 2) := zo_25 (by decide +kernel)
theorem dX11_game_12 : decode cX11_game 12 = .ok (.ifnull 21, 3) := zo_198 (by decide +kernel)
theorem dX11_game_15 : decode cX11_game 15 = .ok (.aload 5, 2) := zo_25 (by decide +kernel)
theorem dX11_game_17 : decode cX11_game 17 = .ok (.iload_n 2, 1) := zo_28 (by decide +kernel)
theorem dX11_game_18 : decode cX11_game 18 = .ok (.invokevirtual 160, 3) := zo_182 (by decide +kernel)
theorem dX11_game_21 : decode cX11_game 21 = .ok (.ifCond .eq 12, 3) := zo_153 (by decide +kernel)
theorem dX11_game_24 : decode cX11_game 24 = .ok (.iload_n 3, 1) := zo_29 (by decide +kernel)
theorem dX11_game_25 : decode cX11_game 25 = .ok (.ifCond .lt 8, 3) := zo_155 (by decide +kernel)
theorem dX11_game_28 : decode cX11_game 28 = .ok (.iload_n 3, 1) := zo_29 (by decide +kernel)
theorem dX11_game_29 : decode cX11_game 29 = .ok (.iconst 3, 1) := zo_6 (by decide +kernel)
theorem dX11_game_30 : decode cX11_game 30 = .ok (.if_icmp .le 6, 3) := zo_164 (by decide +kernel)
theorem dX11_game_33 : decode cX11_game 33 = .ok (.bipush (-9), 2) := zo_16 (by decide +kernel)
theorem dX11_game_35 : decode cX11_game 35 = .ok (.ireturn, 1) := zo_172 (by decide +kernel)
theorem dX11_game_36 : decode cX11_game 36 = .ok (.aload_n 0, 1) := zo_42 (by decide +kernel)
theorem dX11_game_37 : decode cX11_game 37 = .ok (.iload_n 1, 1) := zo_27 (by decide +kernel)
theorem dX11_game_38 : decode cX11_game 38 = .ok (.aload 5, 2) := zo_25 (by decide +kernel)
theorem dX11_game_40 : decode cX11_game 40 = .ok (.invokevirtual 235, 3) := zo_182 (by decide +kernel)
theorem dX11_game_43 : decode cX11_game 43 = .ok (.astore 6, 2) := zo_58 (by decide +kernel)
theorem dX11_game_45 : decode cX11_game 45 = .ok (.aload 6, 2) := zo_25 (by decide +kernel)
theorem dX11_game_47 : decode cX11_game 47 = .ok (.invokevirtual 242, 3) := zo_182 (by decide +kernel)
theorem dX11_game_50 : decode cX11_game 50 = .ok (.istore 7, 2) := zo_54 (by decide +kernel)
theorem dX11_game_52 : decode cX11_game 52 = .ok (.aload 6, 2) := zo_25 (by decide +kernel)
theorem dX11_game_54 : decode cX11_game 54 = .ok (.iload 7, 2) := zo_21 (by decide +kernel)
theorem dX11_game_56 : decode cX11_game 56 = .ok (.iload_n 2, 1) := zo_28 (by decide +kernel)
theorem dX11_game_57 : decode cX11_game 57 = .ok (.iload_n 3, 1) := zo_29 (by decide +kernel)
theorem dX11_game_58 : decode cX11_game 58 = .ok (.iconst 1, 1) := zo_4 (by decide +kernel)
theorem dX11_game_59 : decode cX11_game 59 = .ok (.invokestatic 278, 3) := zo_184 (by decide +kernel)
theorem dX11_game_62 : decode cX11_game 62 = .ok (.istore 8, 2) := zo_54 (by decide +kernel)
theorem dX11_game_64 : decode cX11_game 64 = .ok (.iload 4, 2) := zo_21 (by decide +kernel)
theorem dX11_game_66 : decode cX11_game 66 = .ok (.ifCond .ne 6, 3) := zo_154 (by decide +kernel)
theorem dX11_game_69 : decode cX11_game 69 = .ok (.iload 8, 2) := zo_21 (by decide +kernel)
theorem dX11_game_71 : decode cX11_game 71 = .ok (.ireturn, 1) := zo_172 (by decide +kernel)
theorem dX11_game_72 : decode cX11_game 72 = .ok (.iload_n 3, 1) := zo_29 (by decide +kernel)
theorem dX11_game_73 : decode cX11_game 73 = .ok (.ifCond .ne 7, 3) := zo_154 (by decide +kernel)
theorem dX11_game_76 : decode cX11_game 76 = .ok (.iconst (-1), 1) := zo_2 (by decide +kernel)
theorem dX11_game_77 : decode cX11_game 77 = .ok (.goto 14, 3) := zo_167 (by decide +kernel)
theorem dX11_game_80 : decode cX11_game 80 = .ok (.aload 6, 2) := zo_25 (by decide +kernel)
theorem dX11_game_82 : decode cX11_game 82 = .ok (.iload 7, 2) := zo_21 (by decide +kernel)
theorem dX11_game_84 : decode cX11_game 84 = .ok (.iload_n 2, 1) := zo_28 (by decide +kernel)
theorem dX11_game_85 : decode cX11_game 85 = .ok (.iload_n 3, 1) := zo_29 (by decide +kernel)
theorem dX11_game_86 : decode cX11_game 86 = .ok (.iload 8, 2) := zo_21 (by decide +kernel)
theorem dX11_game_88 : decode cX11_game 88 = .ok (.invokestatic 282, 3) := zo_184 (by decide +kernel)
theorem dX11_game_91 : decode cX11_game 91 = .ok (.ireturn, 1) := zo_172 (by decide +kernel)
set_option maxHeartbeats 4000000 in
set_option maxRecDepth 100000 in
/-- c_worth -/
theorem c_worth8_0 (l : Launch) (T : zTy) (h : Nat) (la : Nat) (md : Int32) (wy : Int32) (pc_ : Int32) (f1 : Nat → Int32) (f2 : Nat → Int32) (f3 : Nat → Int32) (f4 : Nat → Int32) (f5 : Nat → Int32) (f6 : Nat → Int32) (n4 : Nat) (ww : va_W) (cr : Int32) (inn : Int32) (k1 : Nat → Int32) (k2 : Nat → Int32) (k3 : Nat → Int32) (k4 : Nat → Int32) (z : va_W) (x : Int32) (y : Int32) (q : Int32) (hww : bWays T h la md wy pc_ f1 f2 f3 f4 f5 f6 n4 ww) (hz : bLand T la cr inn k1 k2 k3 k4 z) (hI : zLI cr k1 k3) (hn : n4 ≤ 131072) : zMi l T yX11_worth cX11_worth 9 (some .int) 8 0 0 [.ref h, .int x, .int y, .int 0, .int q] [ww, z] (fun (r : Int32) bs => bs = [ww, z]) := by
  refine zMi_of (own := RX11) (by decide) rfl (Nat.le_of_ble_eq_true rfl) ?_
  intro p e s m args below meth c A ls C hr hlocks hnm hAe G hl
  refine zHide (fun Qz_ hQz_ => ?_)
  have hx := C.1
  have hb := C.2.1
  have hl : lv_has ls 9 [(0, .ref h), (1, .int x), (2, .int y), (3, .int 0), (4, .int q)] := hl
  refine lv_iload_n hx hb dX11_worth_0 rfl (lv_at hl 3 rfl) ?_
  refine lv_if_le (tgt := 9) hx hb dX11_worth_1 (by decide) (fun _ => ?_) (fun q => absurd (by decide) q)
  refine lv_aload_n hx hb dX11_worth_9 rfl (lv_at hl 0 rfl) ?_
  refine lv_iload_n hx hb dX11_worth_10 rfl (lv_at hl 1 rfl) ?_
  refine lv_iload_n hx hb dX11_worth_11 rfl (lv_at hl 2 rfl) ?_
  refine z_Vi (bc := [ww, z]) (br := []) (As := [.int x, .int y]) (rest := []) C G (c_stepsOrNever l T h la md wy pc_ f1 f2 f3 f4 f5 f6 n4 ww cr inn k1 k2 k3 k4 z x y hww hz (by first | with_reducible assumption | with_reducible rfl | omega | assumption | rfl)) (kV_RX11_286 C.2.2.2.2 (Nat.le_of_ble_eq_true rfl) (Nat.le_of_ble_eq_true rfl)) [0, 1] [0, 0] rfl rfl (ci := 0) (qc := (RX0, TX0, 10)) rfl rfl (List.mem_flatten.mpr ⟨_, List.mem_of_getElem? (i := 0) rfl, (bWays_mem hww).choose_spec⟩) rfl rfl hl.1 dX11_worth_12 (Nat.le_of_ble_eq_true rfl) (Nat.le_of_ble_eq_true rfl) (fun r_1 b1 H locs hw G => ?_)
  obtain rfl := hw
  have G : zS T A s.heap s [ww, z] _ _ := G
  exact z_back hQz_ (z_iret C hr hlocks G (Nat.le_of_ble_eq_true rfl) (Nat.le_of_ble_eq_true rfl) dX11_worth_15 rfl)
set_option maxHeartbeats 4000000 in
set_option maxRecDepth 100000 in
/-- c_worth -/
theorem c_worth8_1 (l : Launch) (T : zTy) (h : Nat) (la : Nat) (md : Int32) (wy : Int32) (pc_ : Int32) (f1 : Nat → Int32) (f2 : Nat → Int32) (f3 : Nat → Int32) (f4 : Nat → Int32) (f5 : Nat → Int32) (f6 : Nat → Int32) (n4 : Nat) (ww : va_W) (cr : Int32) (inn : Int32) (k1 : Nat → Int32) (k2 : Nat → Int32) (k3 : Nat → Int32) (k4 : Nat → Int32) (z : va_W) (x : Int32) (y : Int32) (q : Int32) (hww : bWays T h la md wy pc_ f1 f2 f3 f4 f5 f6 n4 ww) (hz : bLand T la cr inn k1 k2 k3 k4 z) (hI : zLI cr k1 k3) (hn : n4 ≤ 131072) : zMi l T yX11_worth cX11_worth 9 (some .int) 8 0 0 [.ref h, .int x, .int y, .int 1, .int q] [ww, z] (fun (r : Int32) bs => bs = [ww, z]) := by
  refine zMi_of (own := RX11) (by decide) rfl (Nat.le_of_ble_eq_true rfl) ?_
  intro p e s m args below meth c A ls C hr hlocks hnm hAe G hl
  refine zHide (fun Qz_ hQz_ => ?_)
  have hx := C.1
  have hb := C.2.1
  have hl : lv_has ls 9 [(0, .ref h), (1, .int x), (2, .int y), (3, .int 1), (4, .int q)] := hl
  refine lv_iload_n hx hb dX11_worth_0 rfl (lv_at hl 3 rfl) ?_
  refine lv_if_le (tgt := 9) hx hb dX11_worth_1 (by decide) (fun q => absurd q (by decide)) (fun _ => ?_)
  refine lv_iload_n hx hb dX11_worth_4 rfl (lv_at hl 3 rfl) ?_
  refine lv_iconst (v := 3) hx hb dX11_worth_5 (by decide) ?_
  refine lv_icmp_le (tgt := 16) hx hb dX11_worth_6 (by decide) (fun _ => ?_) (fun q => absurd (by decide) q)
  refine lv_iconst (v := (-1)) hx hb dX11_worth_16 (by decide) ?_
  refine lv_istore (lv' := [(5, .int (-1)), (0, .ref h), (1, .int x), (2, .int y), (3, .int 1), (4, .int q)]) hx hb dX11_worth_17 hl (by decide) (zLvf_h rfl) (fun ls hl => ?_)
  refine lv_iconst (v := 0) hx hb dX11_worth_19 (by decide) ?_
  refine lv_istore (lv' := [(6, .int 0), (5, .int (-1)), (0, .ref h), (1, .int x), (2, .int y), (3, .int 1), (4, .int q)]) hx hb dX11_worth_20 hl (by decide) (zLvf_h rfl) (fun ls hl => ?_)
  refine z_lp2 (T := T) 22 (fun (i : Nat) (u : Int32) => [ww, z]) (fun (i : Nat) (u : Int32) => [(6, .int (nI i)), (5, .int u), (0, .ref h), (1, .int x), (2, .int y), (3, .int 1), (4, .int q)]) (fun (i : Nat) (u : Int32) => i ≤ 8) (fun (i : Nat) (u : Int32) => 8 - i) ?_ 0 (-1) (show 0 ≤ 8 from by omega) G (lv_sub hl [0, 1, 2, 3, 4, 5, 6] rfl)
  intro i u hi ih_22 H locs ls G hl
  replace hi : i ≤ 8 := hi
  replace G : zS T A s.heap s [ww, z] _ _ := G
  replace hl : lv_has ls 9 [(6, .int (nI i)), (5, .int u), (0, .ref h), (1, .int x), (2, .int y), (3, .int 1), (4, .int q)] := hl
  refine lv_iload hx hb dX11_worth_22 (lv_at hl 0 rfl) ?_
  refine lv_bipush (v := 7) hx hb dX11_worth_24 (by decide) ?_
  refine lv_icmp_gt (tgt := 120) hx hb dX11_worth_26 (by decide) (fun c_1 => ?_) (fun c_1 => ?_)
  · have c_1n : 7 < i := (nI_ltI (a := 7) (b := i) (by omega) (by omega)).mp c_1
    refine lv_iload hx hb dX11_worth_120 (lv_at hl 1 rfl) ?_
    exact z_back hQz_ (z_iret C hr hlocks G (Nat.le_of_ble_eq_true rfl) (Nat.le_of_ble_eq_true rfl) dX11_worth_122 rfl)
  · have c_1n : ¬ 7 < i := fun q => c_1 ((nI_ltI (a := 7) (b := i) (by omega) (by omega)).mpr q)
    refine lv_iload hx hb dX11_worth_29 (lv_at hl 0 rfl) ?_
    refine lv_bipush (v := 7) hx hb dX11_worth_31 (by decide) ?_
    refine lv_icmp_ne (tgt := 40) hx hb dX11_worth_33 (by decide) (fun c_2 => ?_) (fun c_2 => ?_)
    · have c_2n : ¬ i = 7 := fun q => c_2 ((nI_eq (a := i) (b := 7) (by omega) (by omega)).mpr q)
      refine lv_aload_n hx hb dX11_worth_40 rfl (lv_at hl 2 rfl) ?_
      refine lv_iload_n hx hb dX11_worth_41 rfl (lv_at hl 3 rfl) ?_
      refine lv_iload hx hb dX11_worth_42 (lv_at hl 0 rfl) ?_
      refine z_Vi (bc := [ww, z]) (br := []) (As := [.int x, .int (nI i)]) (rest := []) C G (c_turned l T h la md wy pc_ f1 f2 f3 f4 f5 f6 n4 ww cr inn k1 k2 k3 k4 z x (nI i) hww hz (by first | with_reducible assumption | with_reducible rfl | omega | assumption | rfl)) (kV_RX11_289 C.2.2.2.2 (Nat.le_of_ble_eq_true rfl) (Nat.le_of_ble_eq_true rfl)) [0, 1] [0, 0] rfl rfl (ci := 0) (qc := (RX0, TX0, 10)) rfl rfl (List.mem_flatten.mpr ⟨_, List.mem_of_getElem? (i := 0) rfl, (bWays_mem hww).choose_spec⟩) rfl rfl hl.1 dX11_worth_44 (Nat.le_of_ble_eq_true rfl) (Nat.le_of_ble_eq_true rfl) (fun r_3 b1 H locs hw G => ?_)
      obtain rfl := hw
      have G : zS T A s.heap s [ww, z] _ _ := G
      refine lv_istore (lv' := [(7, .int r_3), (6, .int (nI i)), (5, .int u), (0, .ref h), (1, .int x), (2, .int y), (3, .int 1), (4, .int q)]) hx hb dX11_worth_47 hl (by decide) (zLvf_h rfl) (fun ls hl => ?_)
      refine lv_iload hx hb dX11_worth_49 (lv_at hl 0 rfl) ?_
      refine lv_iconst (v := (-1)) hx hb dX11_worth_51 (by decide) ?_
      refine lv_icmp_eq (tgt := 114) hx hb dX11_worth_52 (by decide) (fun c_4 => ?_) (fun c_4 => ?_)
      · have c_4n : r_3.toInt = (-1 : Int) := (fa_eq _ _).mp c_4
        refine lv_iinc (v := nI (i + 1)) (lv' := [(6, .int (nI (i + 1))), (7, .int r_3), (5, .int u), (0, .ref h), (1, .int x), (2, .int y), (3, .int 1), (4, .int q)]) hx hb dX11_worth_114 hl (k := 1) rfl (z_inc i 1) (by decide) (zLvf_h rfl) (fun ls hl => ?_)
        refine lv_goto (tgt := 22) hx hb dX11_worth_117 (by decide) ?_
        exact ih_22 (i + 1) u (show (i + 1) ≤ 8 from by omega) (show 8 - (i + 1) < 8 - i from by omega) _ _ ls G (lv_sub hl [0, 2, 3, 4, 5, 6, 7] rfl)
      · have c_4n : ¬ r_3.toInt = (-1 : Int) := fun q => c_4 ((fa_eq _ _).mpr q)
        refine lv_aload_n hx hb dX11_worth_55 rfl (lv_at hl 3 rfl) ?_
        refine lv_iload hx hb dX11_worth_56 (lv_at hl 0 rfl) ?_
        refine lv_iload_n hx hb dX11_worth_58 rfl (lv_at hl 5 rfl) ?_
        refine lv_iload_n hx hb dX11_worth_59 rfl (lv_at hl 6 rfl) ?_
        refine lv_iconst (v := 1) hx hb dX11_worth_60 (by decide) ?_
        refine lv_isub hx hb dX11_worth_61 ?_
        refine lv_topi (fun y_5 ey_5 => ?_)
        obtain rfl : y_5 = 0 := ey_5.trans (by decide)
        refine lv_iload hx hb dX11_worth_62 (lv_at hl 7 rfl) ?_
        refine lv_if_ne (tgt := 71) hx hb dX11_worth_64 (by decide) (fun c_6 => ?_) (fun c_6 => ?_)
        · have c_6n : ¬ q.toInt = (0 : Int) := fun q => c_6 ((fa_eq _ _).mpr q)
          refine lv_iconst (v := 0) hx hb dX11_worth_71 (by decide) ?_
          refine z_Si (bc := [ww, z]) (br := []) (As := [.ref h, .int r_3, .int y, .int 0, .int 0]) (rest := []) C G (c_worth0 l T h la md wy pc_ f1 f2 f3 f4 f5 f6 n4 ww cr inn k1 k2 k3 k4 z r_3 y 0 hww hz (by first | with_reducible assumption | with_reducible rfl | omega | assumption | rfl) (by first | with_reducible assumption | with_reducible rfl | omega | assumption | rfl)) (kS_RX11_278 C.2.2.2.2 (Nat.le_of_ble_eq_true rfl) (Nat.le_of_ble_eq_true rfl)) [0, 1] [0, 0] rfl rfl rfl rfl hl.1 dX11_worth_72 (Nat.le_of_ble_eq_true rfl) (Nat.le_of_ble_eq_true rfl) (fun r_7 b1 H locs hw G => ?_)
          obtain rfl := hw
          have G : zS T A s.heap s [ww, z] _ _ := G
          refine lv_istore (lv' := [(8, .int r_7), (7, .int r_3), (6, .int (nI i)), (5, .int u), (0, .ref h), (1, .int x), (2, .int y), (3, .int 1), (4, .int q)]) hx hb dX11_worth_75 hl (by decide) (zLvf_h rfl) (fun ls hl => ?_)
          refine lv_iload hx hb dX11_worth_77 (lv_at hl 3 rfl) ?_
          refine lv_iconst (v := (-1)) hx hb dX11_worth_79 (by decide) ?_
          refine lv_icmp_eq (tgt := 105) hx hb dX11_worth_80 (by decide) (fun c_8 => ?_) (fun c_8 => ?_)
          · have c_8n : u.toInt = (-1 : Int) := (fa_eq _ _).mp c_8
            refine lv_iload hx hb dX11_worth_105 (lv_at hl 0 rfl) ?_
            refine lv_goto (tgt := 112) hx hb dX11_worth_107 (by decide) ?_
            refine lv_istore (lv' := [(5, .int r_7), (8, .int r_7), (7, .int r_3), (6, .int (nI i)), (0, .ref h), (1, .int x), (2, .int y), (3, .int 1), (4, .int q)]) hx hb dX11_worth_112 hl (by decide) (zLvf_h rfl) (fun ls hl => ?_)
            refine lv_iinc (v := nI (i + 1)) (lv' := [(6, .int (nI (i + 1))), (5, .int r_7), (8, .int r_7), (7, .int r_3), (0, .ref h), (1, .int x), (2, .int y), (3, .int 1), (4, .int q)]) hx hb dX11_worth_114 hl (k := 3) rfl (z_inc i 1) (by decide) (zLvf_h rfl) (fun ls hl => ?_)
            refine lv_goto (tgt := 22) hx hb dX11_worth_117 (by decide) ?_
            exact ih_22 (i + 1) r_7 (show (i + 1) ≤ 8 from by omega) (show 8 - (i + 1) < 8 - i from by omega) _ _ ls G (lv_sub hl [0, 1, 4, 5, 6, 7, 8] rfl)
          · have c_8n : ¬ u.toInt = (-1 : Int) := fun q => c_8 ((fa_eq _ _).mpr q)
            refine lv_iload hx hb dX11_worth_83 (lv_at hl 8 rfl) ?_
            refine lv_if_eq (tgt := 98) hx hb dX11_worth_85 (by decide) (fun q => absurd q c_6) (fun _ => ?_)
            refine lv_iload hx hb dX11_worth_88 (lv_at hl 0 rfl) ?_
            refine lv_iload hx hb dX11_worth_90 (lv_at hl 3 rfl) ?_
            refine lv_icmp_ge (tgt := 110) hx hb dX11_worth_92 (by decide) (fun c_9 => ?_) (fun c_9 => ?_)
            · have c_9n : u.toInt ≤ r_7.toInt := (fa_le _ _).mp c_9
              refine lv_iload hx hb dX11_worth_110 (lv_at hl 3 rfl) ?_
              refine lv_istore (lv' := [(5, .int u), (8, .int r_7), (7, .int r_3), (6, .int (nI i)), (0, .ref h), (1, .int x), (2, .int y), (3, .int 1), (4, .int q)]) hx hb dX11_worth_112 hl (by decide) (zLvf_h rfl) (fun ls hl => ?_)
              refine lv_iinc (v := nI (i + 1)) (lv' := [(6, .int (nI (i + 1))), (5, .int u), (8, .int r_7), (7, .int r_3), (0, .ref h), (1, .int x), (2, .int y), (3, .int 1), (4, .int q)]) hx hb dX11_worth_114 hl (k := 3) rfl (z_inc i 1) (by decide) (zLvf_h rfl) (fun ls hl => ?_)
              refine lv_goto (tgt := 22) hx hb dX11_worth_117 (by decide) ?_
              exact ih_22 (i + 1) u (show (i + 1) ≤ 8 from by omega) (show 8 - (i + 1) < 8 - i from by omega) _ _ ls G (lv_sub hl [0, 1, 4, 5, 6, 7, 8] rfl)
            · have c_9n : ¬ u.toInt ≤ r_7.toInt := fun q => c_9 ((fa_le _ _).mpr q)
              refine lv_goto (tgt := 105) hx hb dX11_worth_95 (by decide) ?_
              refine lv_iload hx hb dX11_worth_105 (lv_at hl 0 rfl) ?_
              refine lv_goto (tgt := 112) hx hb dX11_worth_107 (by decide) ?_
              refine lv_istore (lv' := [(5, .int r_7), (8, .int r_7), (7, .int r_3), (6, .int (nI i)), (0, .ref h), (1, .int x), (2, .int y), (3, .int 1), (4, .int q)]) hx hb dX11_worth_112 hl (by decide) (zLvf_h rfl) (fun ls hl => ?_)
              refine lv_iinc (v := nI (i + 1)) (lv' := [(6, .int (nI (i + 1))), (5, .int r_7), (8, .int r_7), (7, .int r_3), (0, .ref h), (1, .int x), (2, .int y), (3, .int 1), (4, .int q)]) hx hb dX11_worth_114 hl (k := 3) rfl (z_inc i 1) (by decide) (zLvf_h rfl) (fun ls hl => ?_)
              refine lv_goto (tgt := 22) hx hb dX11_worth_117 (by decide) ?_
              exact ih_22 (i + 1) r_7 (show (i + 1) ≤ 8 from by omega) (show 8 - (i + 1) < 8 - i from by omega) _ _ ls G (lv_sub hl [0, 1, 4, 5, 6, 7, 8] rfl)
        · have c_6n : q.toInt = (0 : Int) := (fa_eq _ _).mp c_6
          refine lv_iconst (v := 1) hx hb dX11_worth_67 (by decide) ?_
          refine lv_goto (tgt := 72) hx hb dX11_worth_68 (by decide) ?_
          refine z_Si (bc := [ww, z]) (br := []) (As := [.ref h, .int r_3, .int y, .int 0, .int 1]) (rest := []) C G (c_worth0 l T h la md wy pc_ f1 f2 f3 f4 f5 f6 n4 ww cr inn k1 k2 k3 k4 z r_3 y 1 hww hz (by first | with_reducible assumption | with_reducible rfl | omega | assumption | rfl) (by first | with_reducible assumption | with_reducible rfl | omega | assumption | rfl)) (kS_RX11_278 C.2.2.2.2 (Nat.le_of_ble_eq_true rfl) (Nat.le_of_ble_eq_true rfl)) [0, 1] [0, 0] rfl rfl rfl rfl hl.1 dX11_worth_72 (Nat.le_of_ble_eq_true rfl) (Nat.le_of_ble_eq_true rfl) (fun r_10 b1 H locs hw G => ?_)
          obtain rfl := hw
          have G : zS T A s.heap s [ww, z] _ _ := G
          refine lv_istore (lv' := [(8, .int r_10), (7, .int r_3), (6, .int (nI i)), (5, .int u), (0, .ref h), (1, .int x), (2, .int y), (3, .int 1), (4, .int q)]) hx hb dX11_worth_75 hl (by decide) (zLvf_h rfl) (fun ls hl => ?_)
          refine lv_iload hx hb dX11_worth_77 (lv_at hl 3 rfl) ?_
          refine lv_iconst (v := (-1)) hx hb dX11_worth_79 (by decide) ?_
          refine lv_icmp_eq (tgt := 105) hx hb dX11_worth_80 (by decide) (fun c_11 => ?_) (fun c_11 => ?_)
          · have c_11n : u.toInt = (-1 : Int) := (fa_eq _ _).mp c_11
            refine lv_iload hx hb dX11_worth_105 (lv_at hl 0 rfl) ?_
            refine lv_goto (tgt := 112) hx hb dX11_worth_107 (by decide) ?_
            refine lv_istore (lv' := [(5, .int r_10), (8, .int r_10), (7, .int r_3), (6, .int (nI i)), (0, .ref h), (1, .int x), (2, .int y), (3, .int 1), (4, .int q)]) hx hb dX11_worth_112 hl (by decide) (zLvf_h rfl) (fun ls hl => ?_)
            refine lv_iinc (v := nI (i + 1)) (lv' := [(6, .int (nI (i + 1))), (5, .int r_10), (8, .int r_10), (7, .int r_3), (0, .ref h), (1, .int x), (2, .int y), (3, .int 1), (4, .int q)]) hx hb dX11_worth_114 hl (k := 3) rfl (z_inc i 1) (by decide) (zLvf_h rfl) (fun ls hl => ?_)
            refine lv_goto (tgt := 22) hx hb dX11_worth_117 (by decide) ?_
            exact ih_22 (i + 1) r_10 (show (i + 1) ≤ 8 from by omega) (show 8 - (i + 1) < 8 - i from by omega) _ _ ls G (lv_sub hl [0, 1, 4, 5, 6, 7, 8] rfl)
          · have c_11n : ¬ u.toInt = (-1 : Int) := fun q => c_11 ((fa_eq _ _).mpr q)
            refine lv_iload hx hb dX11_worth_83 (lv_at hl 8 rfl) ?_
            refine lv_if_eq (tgt := 98) hx hb dX11_worth_85 (by decide) (fun _ => ?_) (fun q => absurd c_6 q)
            refine lv_iload hx hb dX11_worth_98 (lv_at hl 0 rfl) ?_
            refine lv_iload hx hb dX11_worth_100 (lv_at hl 3 rfl) ?_
            refine lv_icmp_le (tgt := 110) hx hb dX11_worth_102 (by decide) (fun c_12 => ?_) (fun c_12 => ?_)
            · have c_12n : r_10.toInt ≤ u.toInt := (fa_le _ _).mp c_12
              refine lv_iload hx hb dX11_worth_110 (lv_at hl 3 rfl) ?_
              refine lv_istore (lv' := [(5, .int u), (8, .int r_10), (7, .int r_3), (6, .int (nI i)), (0, .ref h), (1, .int x), (2, .int y), (3, .int 1), (4, .int q)]) hx hb dX11_worth_112 hl (by decide) (zLvf_h rfl) (fun ls hl => ?_)
              refine lv_iinc (v := nI (i + 1)) (lv' := [(6, .int (nI (i + 1))), (5, .int u), (8, .int r_10), (7, .int r_3), (0, .ref h), (1, .int x), (2, .int y), (3, .int 1), (4, .int q)]) hx hb dX11_worth_114 hl (k := 3) rfl (z_inc i 1) (by decide) (zLvf_h rfl) (fun ls hl => ?_)
              refine lv_goto (tgt := 22) hx hb dX11_worth_117 (by decide) ?_
              exact ih_22 (i + 1) u (show (i + 1) ≤ 8 from by omega) (show 8 - (i + 1) < 8 - i from by omega) _ _ ls G (lv_sub hl [0, 1, 4, 5, 6, 7, 8] rfl)
            · have c_12n : ¬ r_10.toInt ≤ u.toInt := fun q => c_12 ((fa_le _ _).mpr q)
              refine lv_iload hx hb dX11_worth_105 (lv_at hl 0 rfl) ?_
              refine lv_goto (tgt := 112) hx hb dX11_worth_107 (by decide) ?_
              refine lv_istore (lv' := [(5, .int r_10), (8, .int r_10), (7, .int r_3), (6, .int (nI i)), (0, .ref h), (1, .int x), (2, .int y), (3, .int 1), (4, .int q)]) hx hb dX11_worth_112 hl (by decide) (zLvf_h rfl) (fun ls hl => ?_)
              refine lv_iinc (v := nI (i + 1)) (lv' := [(6, .int (nI (i + 1))), (5, .int r_10), (8, .int r_10), (7, .int r_3), (0, .ref h), (1, .int x), (2, .int y), (3, .int 1), (4, .int q)]) hx hb dX11_worth_114 hl (k := 3) rfl (z_inc i 1) (by decide) (zLvf_h rfl) (fun ls hl => ?_)
              refine lv_goto (tgt := 22) hx hb dX11_worth_117 (by decide) ?_
              exact ih_22 (i + 1) r_10 (show (i + 1) ≤ 8 from by omega) (show 8 - (i + 1) < 8 - i from by omega) _ _ ls G (lv_sub hl [0, 1, 4, 5, 6, 7, 8] rfl)
    · have c_2n : i = 7 := (nI_eq (a := i) (b := 7) (by omega) (by omega)).mp c_2
      refine lv_iload_n hx hb dX11_worth_36 rfl (lv_at hl 3 rfl) ?_
      refine lv_goto (tgt := 47) hx hb dX11_worth_37 (by decide) ?_
      refine lv_istore (lv' := [(7, .int x), (6, .int (nI i)), (5, .int u), (0, .ref h), (1, .int x), (2, .int y), (3, .int 1), (4, .int q)]) hx hb dX11_worth_47 hl (by decide) (zLvf_h rfl) (fun ls hl => ?_)
      refine lv_iload hx hb dX11_worth_49 (lv_at hl 0 rfl) ?_
      refine lv_iconst (v := (-1)) hx hb dX11_worth_51 (by decide) ?_
      refine lv_icmp_eq (tgt := 114) hx hb dX11_worth_52 (by decide) (fun c_13 => ?_) (fun c_13 => ?_)
      · have c_13n : x.toInt = (-1 : Int) := (fa_eq _ _).mp c_13
        refine lv_iinc (v := nI (i + 1)) (lv' := [(6, .int (nI (i + 1))), (7, .int x), (5, .int u), (0, .ref h), (1, .int x), (2, .int y), (3, .int 1), (4, .int q)]) hx hb dX11_worth_114 hl (k := 1) rfl (z_inc i 1) (by decide) (zLvf_h rfl) (fun ls hl => ?_)
        refine lv_goto (tgt := 22) hx hb dX11_worth_117 (by decide) ?_
        exact ih_22 (i + 1) u (show (i + 1) ≤ 8 from by omega) (show 8 - (i + 1) < 8 - i from by omega) _ _ ls G (lv_sub hl [0, 2, 3, 4, 5, 6, 7] rfl)
      · have c_13n : ¬ x.toInt = (-1 : Int) := fun q => c_13 ((fa_eq _ _).mpr q)
        refine lv_aload_n hx hb dX11_worth_55 rfl (lv_at hl 3 rfl) ?_
        refine lv_iload hx hb dX11_worth_56 (lv_at hl 0 rfl) ?_
        refine lv_iload_n hx hb dX11_worth_58 rfl (lv_at hl 5 rfl) ?_
        refine lv_iload_n hx hb dX11_worth_59 rfl (lv_at hl 6 rfl) ?_
        refine lv_iconst (v := 1) hx hb dX11_worth_60 (by decide) ?_
        refine lv_isub hx hb dX11_worth_61 ?_
        refine lv_topi (fun y_14 ey_14 => ?_)
        obtain rfl : y_14 = 0 := ey_14.trans (by decide)
        refine lv_iload hx hb dX11_worth_62 (lv_at hl 7 rfl) ?_
        refine lv_if_ne (tgt := 71) hx hb dX11_worth_64 (by decide) (fun c_15 => ?_) (fun c_15 => ?_)
        · have c_15n : ¬ q.toInt = (0 : Int) := fun q => c_15 ((fa_eq _ _).mpr q)
          refine lv_iconst (v := 0) hx hb dX11_worth_71 (by decide) ?_
          refine z_Si (bc := [ww, z]) (br := []) (As := [.ref h, .int x, .int y, .int 0, .int 0]) (rest := []) C G (c_worth0 l T h la md wy pc_ f1 f2 f3 f4 f5 f6 n4 ww cr inn k1 k2 k3 k4 z x y 0 hww hz (by first | with_reducible assumption | with_reducible rfl | omega | assumption | rfl) (by first | with_reducible assumption | with_reducible rfl | omega | assumption | rfl)) (kS_RX11_278 C.2.2.2.2 (Nat.le_of_ble_eq_true rfl) (Nat.le_of_ble_eq_true rfl)) [0, 1] [0, 0] rfl rfl rfl rfl hl.1 dX11_worth_72 (Nat.le_of_ble_eq_true rfl) (Nat.le_of_ble_eq_true rfl) (fun r_16 b1 H locs hw G => ?_)
          obtain rfl := hw
          have G : zS T A s.heap s [ww, z] _ _ := G
          refine lv_istore (lv' := [(8, .int r_16), (7, .int x), (6, .int (nI i)), (5, .int u), (0, .ref h), (1, .int x), (2, .int y), (3, .int 1), (4, .int q)]) hx hb dX11_worth_75 hl (by decide) (zLvf_h rfl) (fun ls hl => ?_)
          refine lv_iload hx hb dX11_worth_77 (lv_at hl 3 rfl) ?_
          refine lv_iconst (v := (-1)) hx hb dX11_worth_79 (by decide) ?_
          refine lv_icmp_eq (tgt := 105) hx hb dX11_worth_80 (by decide) (fun c_17 => ?_) (fun c_17 => ?_)
          · have c_17n : u.toInt = (-1 : Int) := (fa_eq _ _).mp c_17
            refine lv_iload hx hb dX11_worth_105 (lv_at hl 0 rfl) ?_
            refine lv_goto (tgt := 112) hx hb dX11_worth_107 (by decide) ?_
            refine lv_istore (lv' := [(5, .int r_16), (8, .int r_16), (7, .int x), (6, .int (nI i)), (0, .ref h), (1, .int x), (2, .int y), (3, .int 1), (4, .int q)]) hx hb dX11_worth_112 hl (by decide) (zLvf_h rfl) (fun ls hl => ?_)
            refine lv_iinc (v := nI (i + 1)) (lv' := [(6, .int (nI (i + 1))), (5, .int r_16), (8, .int r_16), (7, .int x), (0, .ref h), (1, .int x), (2, .int y), (3, .int 1), (4, .int q)]) hx hb dX11_worth_114 hl (k := 3) rfl (z_inc i 1) (by decide) (zLvf_h rfl) (fun ls hl => ?_)
            refine lv_goto (tgt := 22) hx hb dX11_worth_117 (by decide) ?_
            exact ih_22 (i + 1) r_16 (show (i + 1) ≤ 8 from by omega) (show 8 - (i + 1) < 8 - i from by omega) _ _ ls G (lv_sub hl [0, 1, 4, 5, 6, 7, 8] rfl)
          · have c_17n : ¬ u.toInt = (-1 : Int) := fun q => c_17 ((fa_eq _ _).mpr q)
            refine lv_iload hx hb dX11_worth_83 (lv_at hl 8 rfl) ?_
            refine lv_if_eq (tgt := 98) hx hb dX11_worth_85 (by decide) (fun q => absurd q c_15) (fun _ => ?_)
            refine lv_iload hx hb dX11_worth_88 (lv_at hl 0 rfl) ?_
            refine lv_iload hx hb dX11_worth_90 (lv_at hl 3 rfl) ?_
            refine lv_icmp_ge (tgt := 110) hx hb dX11_worth_92 (by decide) (fun c_18 => ?_) (fun c_18 => ?_)
            · have c_18n : u.toInt ≤ r_16.toInt := (fa_le _ _).mp c_18
              refine lv_iload hx hb dX11_worth_110 (lv_at hl 3 rfl) ?_
              refine lv_istore (lv' := [(5, .int u), (8, .int r_16), (7, .int x), (6, .int (nI i)), (0, .ref h), (1, .int x), (2, .int y), (3, .int 1), (4, .int q)]) hx hb dX11_worth_112 hl (by decide) (zLvf_h rfl) (fun ls hl => ?_)
              refine lv_iinc (v := nI (i + 1)) (lv' := [(6, .int (nI (i + 1))), (5, .int u), (8, .int r_16), (7, .int x), (0, .ref h), (1, .int x), (2, .int y), (3, .int 1), (4, .int q)]) hx hb dX11_worth_114 hl (k := 3) rfl (z_inc i 1) (by decide) (zLvf_h rfl) (fun ls hl => ?_)
              refine lv_goto (tgt := 22) hx hb dX11_worth_117 (by decide) ?_
              exact ih_22 (i + 1) u (show (i + 1) ≤ 8 from by omega) (show 8 - (i + 1) < 8 - i from by omega) _ _ ls G (lv_sub hl [0, 1, 4, 5, 6, 7, 8] rfl)
            · have c_18n : ¬ u.toInt ≤ r_16.toInt := fun q => c_18 ((fa_le _ _).mpr q)
              refine lv_goto (tgt := 105) hx hb dX11_worth_95 (by decide) ?_
              refine lv_iload hx hb dX11_worth_105 (lv_at hl 0 rfl) ?_
              refine lv_goto (tgt := 112) hx hb dX11_worth_107 (by decide) ?_
              refine lv_istore (lv' := [(5, .int r_16), (8, .int r_16), (7, .int x), (6, .int (nI i)), (0, .ref h), (1, .int x), (2, .int y), (3, .int 1), (4, .int q)]) hx hb dX11_worth_112 hl (by decide) (zLvf_h rfl) (fun ls hl => ?_)
              refine lv_iinc (v := nI (i + 1)) (lv' := [(6, .int (nI (i + 1))), (5, .int r_16), (8, .int r_16), (7, .int x), (0, .ref h), (1, .int x), (2, .int y), (3, .int 1), (4, .int q)]) hx hb dX11_worth_114 hl (k := 3) rfl (z_inc i 1) (by decide) (zLvf_h rfl) (fun ls hl => ?_)
              refine lv_goto (tgt := 22) hx hb dX11_worth_117 (by decide) ?_
              exact ih_22 (i + 1) r_16 (show (i + 1) ≤ 8 from by omega) (show 8 - (i + 1) < 8 - i from by omega) _ _ ls G (lv_sub hl [0, 1, 4, 5, 6, 7, 8] rfl)
        · have c_15n : q.toInt = (0 : Int) := (fa_eq _ _).mp c_15
          refine lv_iconst (v := 1) hx hb dX11_worth_67 (by decide) ?_
          refine lv_goto (tgt := 72) hx hb dX11_worth_68 (by decide) ?_
          refine z_Si (bc := [ww, z]) (br := []) (As := [.ref h, .int x, .int y, .int 0, .int 1]) (rest := []) C G (c_worth0 l T h la md wy pc_ f1 f2 f3 f4 f5 f6 n4 ww cr inn k1 k2 k3 k4 z x y 1 hww hz (by first | with_reducible assumption | with_reducible rfl | omega | assumption | rfl) (by first | with_reducible assumption | with_reducible rfl | omega | assumption | rfl)) (kS_RX11_278 C.2.2.2.2 (Nat.le_of_ble_eq_true rfl) (Nat.le_of_ble_eq_true rfl)) [0, 1] [0, 0] rfl rfl rfl rfl hl.1 dX11_worth_72 (Nat.le_of_ble_eq_true rfl) (Nat.le_of_ble_eq_true rfl) (fun r_19 b1 H locs hw G => ?_)
          obtain rfl := hw
          have G : zS T A s.heap s [ww, z] _ _ := G
          refine lv_istore (lv' := [(8, .int r_19), (7, .int x), (6, .int (nI i)), (5, .int u), (0, .ref h), (1, .int x), (2, .int y), (3, .int 1), (4, .int q)]) hx hb dX11_worth_75 hl (by decide) (zLvf_h rfl) (fun ls hl => ?_)
          refine lv_iload hx hb dX11_worth_77 (lv_at hl 3 rfl) ?_
          refine lv_iconst (v := (-1)) hx hb dX11_worth_79 (by decide) ?_
          refine lv_icmp_eq (tgt := 105) hx hb dX11_worth_80 (by decide) (fun c_20 => ?_) (fun c_20 => ?_)
          · have c_20n : u.toInt = (-1 : Int) := (fa_eq _ _).mp c_20
            refine lv_iload hx hb dX11_worth_105 (lv_at hl 0 rfl) ?_
            refine lv_goto (tgt := 112) hx hb dX11_worth_107 (by decide) ?_
            refine lv_istore (lv' := [(5, .int r_19), (8, .int r_19), (7, .int x), (6, .int (nI i)), (0, .ref h), (1, .int x), (2, .int y), (3, .int 1), (4, .int q)]) hx hb dX11_worth_112 hl (by decide) (zLvf_h rfl) (fun ls hl => ?_)
            refine lv_iinc (v := nI (i + 1)) (lv' := [(6, .int (nI (i + 1))), (5, .int r_19), (8, .int r_19), (7, .int x), (0, .ref h), (1, .int x), (2, .int y), (3, .int 1), (4, .int q)]) hx hb dX11_worth_114 hl (k := 3) rfl (z_inc i 1) (by decide) (zLvf_h rfl) (fun ls hl => ?_)
            refine lv_goto (tgt := 22) hx hb dX11_worth_117 (by decide) ?_
            exact ih_22 (i + 1) r_19 (show (i + 1) ≤ 8 from by omega) (show 8 - (i + 1) < 8 - i from by omega) _ _ ls G (lv_sub hl [0, 1, 4, 5, 6, 7, 8] rfl)
          · have c_20n : ¬ u.toInt = (-1 : Int) := fun q => c_20 ((fa_eq _ _).mpr q)
            refine lv_iload hx hb dX11_worth_83 (lv_at hl 8 rfl) ?_
            refine lv_if_eq (tgt := 98) hx hb dX11_worth_85 (by decide) (fun _ => ?_) (fun q => absurd c_15 q)
            refine lv_iload hx hb dX11_worth_98 (lv_at hl 0 rfl) ?_
            refine lv_iload hx hb dX11_worth_100 (lv_at hl 3 rfl) ?_
            refine lv_icmp_le (tgt := 110) hx hb dX11_worth_102 (by decide) (fun c_21 => ?_) (fun c_21 => ?_)
            · have c_21n : r_19.toInt ≤ u.toInt := (fa_le _ _).mp c_21
              refine lv_iload hx hb dX11_worth_110 (lv_at hl 3 rfl) ?_
              refine lv_istore (lv' := [(5, .int u), (8, .int r_19), (7, .int x), (6, .int (nI i)), (0, .ref h), (1, .int x), (2, .int y), (3, .int 1), (4, .int q)]) hx hb dX11_worth_112 hl (by decide) (zLvf_h rfl) (fun ls hl => ?_)
              refine lv_iinc (v := nI (i + 1)) (lv' := [(6, .int (nI (i + 1))), (5, .int u), (8, .int r_19), (7, .int x), (0, .ref h), (1, .int x), (2, .int y), (3, .int 1), (4, .int q)]) hx hb dX11_worth_114 hl (k := 3) rfl (z_inc i 1) (by decide) (zLvf_h rfl) (fun ls hl => ?_)
              refine lv_goto (tgt := 22) hx hb dX11_worth_117 (by decide) ?_
              exact ih_22 (i + 1) u (show (i + 1) ≤ 8 from by omega) (show 8 - (i + 1) < 8 - i from by omega) _ _ ls G (lv_sub hl [0, 1, 4, 5, 6, 7, 8] rfl)
            · have c_21n : ¬ r_19.toInt ≤ u.toInt := fun q => c_21 ((fa_le _ _).mpr q)
              refine lv_iload hx hb dX11_worth_105 (lv_at hl 0 rfl) ?_
              refine lv_goto (tgt := 112) hx hb dX11_worth_107 (by decide) ?_
              refine lv_istore (lv' := [(5, .int r_19), (8, .int r_19), (7, .int x), (6, .int (nI i)), (0, .ref h), (1, .int x), (2, .int y), (3, .int 1), (4, .int q)]) hx hb dX11_worth_112 hl (by decide) (zLvf_h rfl) (fun ls hl => ?_)
              refine lv_iinc (v := nI (i + 1)) (lv' := [(6, .int (nI (i + 1))), (5, .int r_19), (8, .int r_19), (7, .int x), (0, .ref h), (1, .int x), (2, .int y), (3, .int 1), (4, .int q)]) hx hb dX11_worth_114 hl (k := 3) rfl (z_inc i 1) (by decide) (zLvf_h rfl) (fun ls hl => ?_)
              refine lv_goto (tgt := 22) hx hb dX11_worth_117 (by decide) ?_
              exact ih_22 (i + 1) r_19 (show (i + 1) ≤ 8 from by omega) (show 8 - (i + 1) < 8 - i from by omega) _ _ ls G (lv_sub hl [0, 1, 4, 5, 6, 7, 8] rfl)
set_option maxHeartbeats 4000000 in
set_option maxRecDepth 100000 in
/-- c_worth -/
theorem c_worth8_2 (l : Launch) (T : zTy) (h : Nat) (la : Nat) (md : Int32) (wy : Int32) (pc_ : Int32) (f1 : Nat → Int32) (f2 : Nat → Int32) (f3 : Nat → Int32) (f4 : Nat → Int32) (f5 : Nat → Int32) (f6 : Nat → Int32) (n4 : Nat) (ww : va_W) (cr : Int32) (inn : Int32) (k1 : Nat → Int32) (k2 : Nat → Int32) (k3 : Nat → Int32) (k4 : Nat → Int32) (z : va_W) (x : Int32) (y : Int32) (q : Int32) (hww : bWays T h la md wy pc_ f1 f2 f3 f4 f5 f6 n4 ww) (hz : bLand T la cr inn k1 k2 k3 k4 z) (hI : zLI cr k1 k3) (hn : n4 ≤ 131072) : zMi l T yX11_worth cX11_worth 9 (some .int) 8 0 0 [.ref h, .int x, .int y, .int 2, .int q] [ww, z] (fun (r : Int32) bs => bs = [ww, z]) := by
  refine zMi_of (own := RX11) (by decide) rfl (Nat.le_of_ble_eq_true rfl) ?_
  intro p e s m args below meth c A ls C hr hlocks hnm hAe G hl
  refine zHide (fun Qz_ hQz_ => ?_)
  have hx := C.1
  have hb := C.2.1
  have hl : lv_has ls 9 [(0, .ref h), (1, .int x), (2, .int y), (3, .int 2), (4, .int q)] := hl
  refine lv_iload_n hx hb dX11_worth_0 rfl (lv_at hl 3 rfl) ?_
  refine lv_if_le (tgt := 9) hx hb dX11_worth_1 (by decide) (fun q => absurd q (by decide)) (fun _ => ?_)
  refine lv_iload_n hx hb dX11_worth_4 rfl (lv_at hl 3 rfl) ?_
  refine lv_iconst (v := 3) hx hb dX11_worth_5 (by decide) ?_
  refine lv_icmp_le (tgt := 16) hx hb dX11_worth_6 (by decide) (fun _ => ?_) (fun q => absurd (by decide) q)
  refine lv_iconst (v := (-1)) hx hb dX11_worth_16 (by decide) ?_
  refine lv_istore (lv' := [(5, .int (-1)), (0, .ref h), (1, .int x), (2, .int y), (3, .int 2), (4, .int q)]) hx hb dX11_worth_17 hl (by decide) (zLvf_h rfl) (fun ls hl => ?_)
  refine lv_iconst (v := 0) hx hb dX11_worth_19 (by decide) ?_
  refine lv_istore (lv' := [(6, .int 0), (5, .int (-1)), (0, .ref h), (1, .int x), (2, .int y), (3, .int 2), (4, .int q)]) hx hb dX11_worth_20 hl (by decide) (zLvf_h rfl) (fun ls hl => ?_)
  refine z_lp2 (T := T) 22 (fun (i : Nat) (u : Int32) => [ww, z]) (fun (i : Nat) (u : Int32) => [(6, .int (nI i)), (5, .int u), (0, .ref h), (1, .int x), (2, .int y), (3, .int 2), (4, .int q)]) (fun (i : Nat) (u : Int32) => i ≤ 8) (fun (i : Nat) (u : Int32) => 8 - i) ?_ 0 (-1) (show 0 ≤ 8 from by omega) G (lv_sub hl [0, 1, 2, 3, 4, 5, 6] rfl)
  intro i u hi ih_22 H locs ls G hl
  replace hi : i ≤ 8 := hi
  replace G : zS T A s.heap s [ww, z] _ _ := G
  replace hl : lv_has ls 9 [(6, .int (nI i)), (5, .int u), (0, .ref h), (1, .int x), (2, .int y), (3, .int 2), (4, .int q)] := hl
  refine lv_iload hx hb dX11_worth_22 (lv_at hl 0 rfl) ?_
  refine lv_bipush (v := 7) hx hb dX11_worth_24 (by decide) ?_
  refine lv_icmp_gt (tgt := 120) hx hb dX11_worth_26 (by decide) (fun c_1 => ?_) (fun c_1 => ?_)
  · have c_1n : 7 < i := (nI_ltI (a := 7) (b := i) (by omega) (by omega)).mp c_1
    refine lv_iload hx hb dX11_worth_120 (lv_at hl 1 rfl) ?_
    exact z_back hQz_ (z_iret C hr hlocks G (Nat.le_of_ble_eq_true rfl) (Nat.le_of_ble_eq_true rfl) dX11_worth_122 rfl)
  · have c_1n : ¬ 7 < i := fun q => c_1 ((nI_ltI (a := 7) (b := i) (by omega) (by omega)).mpr q)
    refine lv_iload hx hb dX11_worth_29 (lv_at hl 0 rfl) ?_
    refine lv_bipush (v := 7) hx hb dX11_worth_31 (by decide) ?_
    refine lv_icmp_ne (tgt := 40) hx hb dX11_worth_33 (by decide) (fun c_2 => ?_) (fun c_2 => ?_)
    · have c_2n : ¬ i = 7 := fun q => c_2 ((nI_eq (a := i) (b := 7) (by omega) (by omega)).mpr q)
      refine lv_aload_n hx hb dX11_worth_40 rfl (lv_at hl 2 rfl) ?_
      refine lv_iload_n hx hb dX11_worth_41 rfl (lv_at hl 3 rfl) ?_
      refine lv_iload hx hb dX11_worth_42 (lv_at hl 0 rfl) ?_
      refine z_Vi (bc := [ww, z]) (br := []) (As := [.int x, .int (nI i)]) (rest := []) C G (c_turned l T h la md wy pc_ f1 f2 f3 f4 f5 f6 n4 ww cr inn k1 k2 k3 k4 z x (nI i) hww hz (by first | with_reducible assumption | with_reducible rfl | omega | assumption | rfl)) (kV_RX11_289 C.2.2.2.2 (Nat.le_of_ble_eq_true rfl) (Nat.le_of_ble_eq_true rfl)) [0, 1] [0, 0] rfl rfl (ci := 0) (qc := (RX0, TX0, 10)) rfl rfl (List.mem_flatten.mpr ⟨_, List.mem_of_getElem? (i := 0) rfl, (bWays_mem hww).choose_spec⟩) rfl rfl hl.1 dX11_worth_44 (Nat.le_of_ble_eq_true rfl) (Nat.le_of_ble_eq_true rfl) (fun r_3 b1 H locs hw G => ?_)
      obtain rfl := hw
      have G : zS T A s.heap s [ww, z] _ _ := G
      refine lv_istore (lv' := [(7, .int r_3), (6, .int (nI i)), (5, .int u), (0, .ref h), (1, .int x), (2, .int y), (3, .int 2), (4, .int q)]) hx hb dX11_worth_47 hl (by decide) (zLvf_h rfl) (fun ls hl => ?_)
      refine lv_iload hx hb dX11_worth_49 (lv_at hl 0 rfl) ?_
      refine lv_iconst (v := (-1)) hx hb dX11_worth_51 (by decide) ?_
      refine lv_icmp_eq (tgt := 114) hx hb dX11_worth_52 (by decide) (fun c_4 => ?_) (fun c_4 => ?_)
      · have c_4n : r_3.toInt = (-1 : Int) := (fa_eq _ _).mp c_4
        refine lv_iinc (v := nI (i + 1)) (lv' := [(6, .int (nI (i + 1))), (7, .int r_3), (5, .int u), (0, .ref h), (1, .int x), (2, .int y), (3, .int 2), (4, .int q)]) hx hb dX11_worth_114 hl (k := 1) rfl (z_inc i 1) (by decide) (zLvf_h rfl) (fun ls hl => ?_)
        refine lv_goto (tgt := 22) hx hb dX11_worth_117 (by decide) ?_
        exact ih_22 (i + 1) u (show (i + 1) ≤ 8 from by omega) (show 8 - (i + 1) < 8 - i from by omega) _ _ ls G (lv_sub hl [0, 2, 3, 4, 5, 6, 7] rfl)
      · have c_4n : ¬ r_3.toInt = (-1 : Int) := fun q => c_4 ((fa_eq _ _).mpr q)
        refine lv_aload_n hx hb dX11_worth_55 rfl (lv_at hl 3 rfl) ?_
        refine lv_iload hx hb dX11_worth_56 (lv_at hl 0 rfl) ?_
        refine lv_iload_n hx hb dX11_worth_58 rfl (lv_at hl 5 rfl) ?_
        refine lv_iload_n hx hb dX11_worth_59 rfl (lv_at hl 6 rfl) ?_
        refine lv_iconst (v := 1) hx hb dX11_worth_60 (by decide) ?_
        refine lv_isub hx hb dX11_worth_61 ?_
        refine lv_topi (fun y_5 ey_5 => ?_)
        obtain rfl : y_5 = 1 := ey_5.trans (by decide)
        refine lv_iload hx hb dX11_worth_62 (lv_at hl 7 rfl) ?_
        refine lv_if_ne (tgt := 71) hx hb dX11_worth_64 (by decide) (fun c_6 => ?_) (fun c_6 => ?_)
        · have c_6n : ¬ q.toInt = (0 : Int) := fun q => c_6 ((fa_eq _ _).mpr q)
          refine lv_iconst (v := 0) hx hb dX11_worth_71 (by decide) ?_
          refine z_Si (bc := [ww, z]) (br := []) (As := [.ref h, .int r_3, .int y, .int 1, .int 0]) (rest := []) C G (c_worth1 l T h la md wy pc_ f1 f2 f3 f4 f5 f6 n4 ww cr inn k1 k2 k3 k4 z r_3 y 0 hww hz (by first | with_reducible assumption | with_reducible rfl | omega | assumption | rfl) (by first | with_reducible assumption | with_reducible rfl | omega | assumption | rfl)) (kS_RX11_278 C.2.2.2.2 (Nat.le_of_ble_eq_true rfl) (Nat.le_of_ble_eq_true rfl)) [0, 1] [0, 0] rfl rfl rfl rfl hl.1 dX11_worth_72 (Nat.le_of_ble_eq_true rfl) (Nat.le_of_ble_eq_true rfl) (fun r_7 b1 H locs hw G => ?_)
          obtain rfl := hw
          have G : zS T A s.heap s [ww, z] _ _ := G
          refine lv_istore (lv' := [(8, .int r_7), (7, .int r_3), (6, .int (nI i)), (5, .int u), (0, .ref h), (1, .int x), (2, .int y), (3, .int 2), (4, .int q)]) hx hb dX11_worth_75 hl (by decide) (zLvf_h rfl) (fun ls hl => ?_)
          refine lv_iload hx hb dX11_worth_77 (lv_at hl 3 rfl) ?_
          refine lv_iconst (v := (-1)) hx hb dX11_worth_79 (by decide) ?_
          refine lv_icmp_eq (tgt := 105) hx hb dX11_worth_80 (by decide) (fun c_8 => ?_) (fun c_8 => ?_)
          · have c_8n : u.toInt = (-1 : Int) := (fa_eq _ _).mp c_8
            refine lv_iload hx hb dX11_worth_105 (lv_at hl 0 rfl) ?_
            refine lv_goto (tgt := 112) hx hb dX11_worth_107 (by decide) ?_
            refine lv_istore (lv' := [(5, .int r_7), (8, .int r_7), (7, .int r_3), (6, .int (nI i)), (0, .ref h), (1, .int x), (2, .int y), (3, .int 2), (4, .int q)]) hx hb dX11_worth_112 hl (by decide) (zLvf_h rfl) (fun ls hl => ?_)
            refine lv_iinc (v := nI (i + 1)) (lv' := [(6, .int (nI (i + 1))), (5, .int r_7), (8, .int r_7), (7, .int r_3), (0, .ref h), (1, .int x), (2, .int y), (3, .int 2), (4, .int q)]) hx hb dX11_worth_114 hl (k := 3) rfl (z_inc i 1) (by decide) (zLvf_h rfl) (fun ls hl => ?_)
            refine lv_goto (tgt := 22) hx hb dX11_worth_117 (by decide) ?_
            exact ih_22 (i + 1) r_7 (show (i + 1) ≤ 8 from by omega) (show 8 - (i + 1) < 8 - i from by omega) _ _ ls G (lv_sub hl [0, 1, 4, 5, 6, 7, 8] rfl)
          · have c_8n : ¬ u.toInt = (-1 : Int) := fun q => c_8 ((fa_eq _ _).mpr q)
            refine lv_iload hx hb dX11_worth_83 (lv_at hl 8 rfl) ?_
            refine lv_if_eq (tgt := 98) hx hb dX11_worth_85 (by decide) (fun q => absurd q c_6) (fun _ => ?_)
            refine lv_iload hx hb dX11_worth_88 (lv_at hl 0 rfl) ?_
            refine lv_iload hx hb dX11_worth_90 (lv_at hl 3 rfl) ?_
            refine lv_icmp_ge (tgt := 110) hx hb dX11_worth_92 (by decide) (fun c_9 => ?_) (fun c_9 => ?_)
            · have c_9n : u.toInt ≤ r_7.toInt := (fa_le _ _).mp c_9
              refine lv_iload hx hb dX11_worth_110 (lv_at hl 3 rfl) ?_
              refine lv_istore (lv' := [(5, .int u), (8, .int r_7), (7, .int r_3), (6, .int (nI i)), (0, .ref h), (1, .int x), (2, .int y), (3, .int 2), (4, .int q)]) hx hb dX11_worth_112 hl (by decide) (zLvf_h rfl) (fun ls hl => ?_)
              refine lv_iinc (v := nI (i + 1)) (lv' := [(6, .int (nI (i + 1))), (5, .int u), (8, .int r_7), (7, .int r_3), (0, .ref h), (1, .int x), (2, .int y), (3, .int 2), (4, .int q)]) hx hb dX11_worth_114 hl (k := 3) rfl (z_inc i 1) (by decide) (zLvf_h rfl) (fun ls hl => ?_)
              refine lv_goto (tgt := 22) hx hb dX11_worth_117 (by decide) ?_
              exact ih_22 (i + 1) u (show (i + 1) ≤ 8 from by omega) (show 8 - (i + 1) < 8 - i from by omega) _ _ ls G (lv_sub hl [0, 1, 4, 5, 6, 7, 8] rfl)
            · have c_9n : ¬ u.toInt ≤ r_7.toInt := fun q => c_9 ((fa_le _ _).mpr q)
              refine lv_goto (tgt := 105) hx hb dX11_worth_95 (by decide) ?_
              refine lv_iload hx hb dX11_worth_105 (lv_at hl 0 rfl) ?_
              refine lv_goto (tgt := 112) hx hb dX11_worth_107 (by decide) ?_
              refine lv_istore (lv' := [(5, .int r_7), (8, .int r_7), (7, .int r_3), (6, .int (nI i)), (0, .ref h), (1, .int x), (2, .int y), (3, .int 2), (4, .int q)]) hx hb dX11_worth_112 hl (by decide) (zLvf_h rfl) (fun ls hl => ?_)
              refine lv_iinc (v := nI (i + 1)) (lv' := [(6, .int (nI (i + 1))), (5, .int r_7), (8, .int r_7), (7, .int r_3), (0, .ref h), (1, .int x), (2, .int y), (3, .int 2), (4, .int q)]) hx hb dX11_worth_114 hl (k := 3) rfl (z_inc i 1) (by decide) (zLvf_h rfl) (fun ls hl => ?_)
              refine lv_goto (tgt := 22) hx hb dX11_worth_117 (by decide) ?_
              exact ih_22 (i + 1) r_7 (show (i + 1) ≤ 8 from by omega) (show 8 - (i + 1) < 8 - i from by omega) _ _ ls G (lv_sub hl [0, 1, 4, 5, 6, 7, 8] rfl)
        · have c_6n : q.toInt = (0 : Int) := (fa_eq _ _).mp c_6
          refine lv_iconst (v := 1) hx hb dX11_worth_67 (by decide) ?_
          refine lv_goto (tgt := 72) hx hb dX11_worth_68 (by decide) ?_
          refine z_Si (bc := [ww, z]) (br := []) (As := [.ref h, .int r_3, .int y, .int 1, .int 1]) (rest := []) C G (c_worth1 l T h la md wy pc_ f1 f2 f3 f4 f5 f6 n4 ww cr inn k1 k2 k3 k4 z r_3 y 1 hww hz (by first | with_reducible assumption | with_reducible rfl | omega | assumption | rfl) (by first | with_reducible assumption | with_reducible rfl | omega | assumption | rfl)) (kS_RX11_278 C.2.2.2.2 (Nat.le_of_ble_eq_true rfl) (Nat.le_of_ble_eq_true rfl)) [0, 1] [0, 0] rfl rfl rfl rfl hl.1 dX11_worth_72 (Nat.le_of_ble_eq_true rfl) (Nat.le_of_ble_eq_true rfl) (fun r_10 b1 H locs hw G => ?_)
          obtain rfl := hw
          have G : zS T A s.heap s [ww, z] _ _ := G
          refine lv_istore (lv' := [(8, .int r_10), (7, .int r_3), (6, .int (nI i)), (5, .int u), (0, .ref h), (1, .int x), (2, .int y), (3, .int 2), (4, .int q)]) hx hb dX11_worth_75 hl (by decide) (zLvf_h rfl) (fun ls hl => ?_)
          refine lv_iload hx hb dX11_worth_77 (lv_at hl 3 rfl) ?_
          refine lv_iconst (v := (-1)) hx hb dX11_worth_79 (by decide) ?_
          refine lv_icmp_eq (tgt := 105) hx hb dX11_worth_80 (by decide) (fun c_11 => ?_) (fun c_11 => ?_)
          · have c_11n : u.toInt = (-1 : Int) := (fa_eq _ _).mp c_11
            refine lv_iload hx hb dX11_worth_105 (lv_at hl 0 rfl) ?_
            refine lv_goto (tgt := 112) hx hb dX11_worth_107 (by decide) ?_
            refine lv_istore (lv' := [(5, .int r_10), (8, .int r_10), (7, .int r_3), (6, .int (nI i)), (0, .ref h), (1, .int x), (2, .int y), (3, .int 2), (4, .int q)]) hx hb dX11_worth_112 hl (by decide) (zLvf_h rfl) (fun ls hl => ?_)
            refine lv_iinc (v := nI (i + 1)) (lv' := [(6, .int (nI (i + 1))), (5, .int r_10), (8, .int r_10), (7, .int r_3), (0, .ref h), (1, .int x), (2, .int y), (3, .int 2), (4, .int q)]) hx hb dX11_worth_114 hl (k := 3) rfl (z_inc i 1) (by decide) (zLvf_h rfl) (fun ls hl => ?_)
            refine lv_goto (tgt := 22) hx hb dX11_worth_117 (by decide) ?_
            exact ih_22 (i + 1) r_10 (show (i + 1) ≤ 8 from by omega) (show 8 - (i + 1) < 8 - i from by omega) _ _ ls G (lv_sub hl [0, 1, 4, 5, 6, 7, 8] rfl)
          · have c_11n : ¬ u.toInt = (-1 : Int) := fun q => c_11 ((fa_eq _ _).mpr q)
            refine lv_iload hx hb dX11_worth_83 (lv_at hl 8 rfl) ?_
            refine lv_if_eq (tgt := 98) hx hb dX11_worth_85 (by decide) (fun _ => ?_) (fun q => absurd c_6 q)
            refine lv_iload hx hb dX11_worth_98 (lv_at hl 0 rfl) ?_
            refine lv_iload hx hb dX11_worth_100 (lv_at hl 3 rfl) ?_
            refine lv_icmp_le (tgt := 110) hx hb dX11_worth_102 (by decide) (fun c_12 => ?_) (fun c_12 => ?_)
            · have c_12n : r_10.toInt ≤ u.toInt := (fa_le _ _).mp c_12
              refine lv_iload hx hb dX11_worth_110 (lv_at hl 3 rfl) ?_
              refine lv_istore (lv' := [(5, .int u), (8, .int r_10), (7, .int r_3), (6, .int (nI i)), (0, .ref h), (1, .int x), (2, .int y), (3, .int 2), (4, .int q)]) hx hb dX11_worth_112 hl (by decide) (zLvf_h rfl) (fun ls hl => ?_)
              refine lv_iinc (v := nI (i + 1)) (lv' := [(6, .int (nI (i + 1))), (5, .int u), (8, .int r_10), (7, .int r_3), (0, .ref h), (1, .int x), (2, .int y), (3, .int 2), (4, .int q)]) hx hb dX11_worth_114 hl (k := 3) rfl (z_inc i 1) (by decide) (zLvf_h rfl) (fun ls hl => ?_)
              refine lv_goto (tgt := 22) hx hb dX11_worth_117 (by decide) ?_
              exact ih_22 (i + 1) u (show (i + 1) ≤ 8 from by omega) (show 8 - (i + 1) < 8 - i from by omega) _ _ ls G (lv_sub hl [0, 1, 4, 5, 6, 7, 8] rfl)
            · have c_12n : ¬ r_10.toInt ≤ u.toInt := fun q => c_12 ((fa_le _ _).mpr q)
              refine lv_iload hx hb dX11_worth_105 (lv_at hl 0 rfl) ?_
              refine lv_goto (tgt := 112) hx hb dX11_worth_107 (by decide) ?_
              refine lv_istore (lv' := [(5, .int r_10), (8, .int r_10), (7, .int r_3), (6, .int (nI i)), (0, .ref h), (1, .int x), (2, .int y), (3, .int 2), (4, .int q)]) hx hb dX11_worth_112 hl (by decide) (zLvf_h rfl) (fun ls hl => ?_)
              refine lv_iinc (v := nI (i + 1)) (lv' := [(6, .int (nI (i + 1))), (5, .int r_10), (8, .int r_10), (7, .int r_3), (0, .ref h), (1, .int x), (2, .int y), (3, .int 2), (4, .int q)]) hx hb dX11_worth_114 hl (k := 3) rfl (z_inc i 1) (by decide) (zLvf_h rfl) (fun ls hl => ?_)
              refine lv_goto (tgt := 22) hx hb dX11_worth_117 (by decide) ?_
              exact ih_22 (i + 1) r_10 (show (i + 1) ≤ 8 from by omega) (show 8 - (i + 1) < 8 - i from by omega) _ _ ls G (lv_sub hl [0, 1, 4, 5, 6, 7, 8] rfl)
    · have c_2n : i = 7 := (nI_eq (a := i) (b := 7) (by omega) (by omega)).mp c_2
      refine lv_iload_n hx hb dX11_worth_36 rfl (lv_at hl 3 rfl) ?_
      refine lv_goto (tgt := 47) hx hb dX11_worth_37 (by decide) ?_
      refine lv_istore (lv' := [(7, .int x), (6, .int (nI i)), (5, .int u), (0, .ref h), (1, .int x), (2, .int y), (3, .int 2), (4, .int q)]) hx hb dX11_worth_47 hl (by decide) (zLvf_h rfl) (fun ls hl => ?_)
      refine lv_iload hx hb dX11_worth_49 (lv_at hl 0 rfl) ?_
      refine lv_iconst (v := (-1)) hx hb dX11_worth_51 (by decide) ?_
      refine lv_icmp_eq (tgt := 114) hx hb dX11_worth_52 (by decide) (fun c_13 => ?_) (fun c_13 => ?_)
      · have c_13n : x.toInt = (-1 : Int) := (fa_eq _ _).mp c_13
        refine lv_iinc (v := nI (i + 1)) (lv' := [(6, .int (nI (i + 1))), (7, .int x), (5, .int u), (0, .ref h), (1, .int x), (2, .int y), (3, .int 2), (4, .int q)]) hx hb dX11_worth_114 hl (k := 1) rfl (z_inc i 1) (by decide) (zLvf_h rfl) (fun ls hl => ?_)
        refine lv_goto (tgt := 22) hx hb dX11_worth_117 (by decide) ?_
        exact ih_22 (i + 1) u (show (i + 1) ≤ 8 from by omega) (show 8 - (i + 1) < 8 - i from by omega) _ _ ls G (lv_sub hl [0, 2, 3, 4, 5, 6, 7] rfl)
      · have c_13n : ¬ x.toInt = (-1 : Int) := fun q => c_13 ((fa_eq _ _).mpr q)
        refine lv_aload_n hx hb dX11_worth_55 rfl (lv_at hl 3 rfl) ?_
        refine lv_iload hx hb dX11_worth_56 (lv_at hl 0 rfl) ?_
        refine lv_iload_n hx hb dX11_worth_58 rfl (lv_at hl 5 rfl) ?_
        refine lv_iload_n hx hb dX11_worth_59 rfl (lv_at hl 6 rfl) ?_
        refine lv_iconst (v := 1) hx hb dX11_worth_60 (by decide) ?_
        refine lv_isub hx hb dX11_worth_61 ?_
        refine lv_topi (fun y_14 ey_14 => ?_)
        obtain rfl : y_14 = 1 := ey_14.trans (by decide)
        refine lv_iload hx hb dX11_worth_62 (lv_at hl 7 rfl) ?_
        refine lv_if_ne (tgt := 71) hx hb dX11_worth_64 (by decide) (fun c_15 => ?_) (fun c_15 => ?_)
        · have c_15n : ¬ q.toInt = (0 : Int) := fun q => c_15 ((fa_eq _ _).mpr q)
          refine lv_iconst (v := 0) hx hb dX11_worth_71 (by decide) ?_
          refine z_Si (bc := [ww, z]) (br := []) (As := [.ref h, .int x, .int y, .int 1, .int 0]) (rest := []) C G (c_worth1 l T h la md wy pc_ f1 f2 f3 f4 f5 f6 n4 ww cr inn k1 k2 k3 k4 z x y 0 hww hz (by first | with_reducible assumption | with_reducible rfl | omega | assumption | rfl) (by first | with_reducible assumption | with_reducible rfl | omega | assumption | rfl)) (kS_RX11_278 C.2.2.2.2 (Nat.le_of_ble_eq_true rfl) (Nat.le_of_ble_eq_true rfl)) [0, 1] [0, 0] rfl rfl rfl rfl hl.1 dX11_worth_72 (Nat.le_of_ble_eq_true rfl) (Nat.le_of_ble_eq_true rfl) (fun r_16 b1 H locs hw G => ?_)
          obtain rfl := hw
          have G : zS T A s.heap s [ww, z] _ _ := G
          refine lv_istore (lv' := [(8, .int r_16), (7, .int x), (6, .int (nI i)), (5, .int u), (0, .ref h), (1, .int x), (2, .int y), (3, .int 2), (4, .int q)]) hx hb dX11_worth_75 hl (by decide) (zLvf_h rfl) (fun ls hl => ?_)
          refine lv_iload hx hb dX11_worth_77 (lv_at hl 3 rfl) ?_
          refine lv_iconst (v := (-1)) hx hb dX11_worth_79 (by decide) ?_
          refine lv_icmp_eq (tgt := 105) hx hb dX11_worth_80 (by decide) (fun c_17 => ?_) (fun c_17 => ?_)
          · have c_17n : u.toInt = (-1 : Int) := (fa_eq _ _).mp c_17
            refine lv_iload hx hb dX11_worth_105 (lv_at hl 0 rfl) ?_
            refine lv_goto (tgt := 112) hx hb dX11_worth_107 (by decide) ?_
            refine lv_istore (lv' := [(5, .int r_16), (8, .int r_16), (7, .int x), (6, .int (nI i)), (0, .ref h), (1, .int x), (2, .int y), (3, .int 2), (4, .int q)]) hx hb dX11_worth_112 hl (by decide) (zLvf_h rfl) (fun ls hl => ?_)
            refine lv_iinc (v := nI (i + 1)) (lv' := [(6, .int (nI (i + 1))), (5, .int r_16), (8, .int r_16), (7, .int x), (0, .ref h), (1, .int x), (2, .int y), (3, .int 2), (4, .int q)]) hx hb dX11_worth_114 hl (k := 3) rfl (z_inc i 1) (by decide) (zLvf_h rfl) (fun ls hl => ?_)
            refine lv_goto (tgt := 22) hx hb dX11_worth_117 (by decide) ?_
            exact ih_22 (i + 1) r_16 (show (i + 1) ≤ 8 from by omega) (show 8 - (i + 1) < 8 - i from by omega) _ _ ls G (lv_sub hl [0, 1, 4, 5, 6, 7, 8] rfl)
          · have c_17n : ¬ u.toInt = (-1 : Int) := fun q => c_17 ((fa_eq _ _).mpr q)
            refine lv_iload hx hb dX11_worth_83 (lv_at hl 8 rfl) ?_
            refine lv_if_eq (tgt := 98) hx hb dX11_worth_85 (by decide) (fun q => absurd q c_15) (fun _ => ?_)
            refine lv_iload hx hb dX11_worth_88 (lv_at hl 0 rfl) ?_
            refine lv_iload hx hb dX11_worth_90 (lv_at hl 3 rfl) ?_
            refine lv_icmp_ge (tgt := 110) hx hb dX11_worth_92 (by decide) (fun c_18 => ?_) (fun c_18 => ?_)
            · have c_18n : u.toInt ≤ r_16.toInt := (fa_le _ _).mp c_18
              refine lv_iload hx hb dX11_worth_110 (lv_at hl 3 rfl) ?_
              refine lv_istore (lv' := [(5, .int u), (8, .int r_16), (7, .int x), (6, .int (nI i)), (0, .ref h), (1, .int x), (2, .int y), (3, .int 2), (4, .int q)]) hx hb dX11_worth_112 hl (by decide) (zLvf_h rfl) (fun ls hl => ?_)
              refine lv_iinc (v := nI (i + 1)) (lv' := [(6, .int (nI (i + 1))), (5, .int u), (8, .int r_16), (7, .int x), (0, .ref h), (1, .int x), (2, .int y), (3, .int 2), (4, .int q)]) hx hb dX11_worth_114 hl (k := 3) rfl (z_inc i 1) (by decide) (zLvf_h rfl) (fun ls hl => ?_)
              refine lv_goto (tgt := 22) hx hb dX11_worth_117 (by decide) ?_
              exact ih_22 (i + 1) u (show (i + 1) ≤ 8 from by omega) (show 8 - (i + 1) < 8 - i from by omega) _ _ ls G (lv_sub hl [0, 1, 4, 5, 6, 7, 8] rfl)
            · have c_18n : ¬ u.toInt ≤ r_16.toInt := fun q => c_18 ((fa_le _ _).mpr q)
              refine lv_goto (tgt := 105) hx hb dX11_worth_95 (by decide) ?_
              refine lv_iload hx hb dX11_worth_105 (lv_at hl 0 rfl) ?_
              refine lv_goto (tgt := 112) hx hb dX11_worth_107 (by decide) ?_
              refine lv_istore (lv' := [(5, .int r_16), (8, .int r_16), (7, .int x), (6, .int (nI i)), (0, .ref h), (1, .int x), (2, .int y), (3, .int 2), (4, .int q)]) hx hb dX11_worth_112 hl (by decide) (zLvf_h rfl) (fun ls hl => ?_)
              refine lv_iinc (v := nI (i + 1)) (lv' := [(6, .int (nI (i + 1))), (5, .int r_16), (8, .int r_16), (7, .int x), (0, .ref h), (1, .int x), (2, .int y), (3, .int 2), (4, .int q)]) hx hb dX11_worth_114 hl (k := 3) rfl (z_inc i 1) (by decide) (zLvf_h rfl) (fun ls hl => ?_)
              refine lv_goto (tgt := 22) hx hb dX11_worth_117 (by decide) ?_
              exact ih_22 (i + 1) r_16 (show (i + 1) ≤ 8 from by omega) (show 8 - (i + 1) < 8 - i from by omega) _ _ ls G (lv_sub hl [0, 1, 4, 5, 6, 7, 8] rfl)
        · have c_15n : q.toInt = (0 : Int) := (fa_eq _ _).mp c_15
          refine lv_iconst (v := 1) hx hb dX11_worth_67 (by decide) ?_
          refine lv_goto (tgt := 72) hx hb dX11_worth_68 (by decide) ?_
          refine z_Si (bc := [ww, z]) (br := []) (As := [.ref h, .int x, .int y, .int 1, .int 1]) (rest := []) C G (c_worth1 l T h la md wy pc_ f1 f2 f3 f4 f5 f6 n4 ww cr inn k1 k2 k3 k4 z x y 1 hww hz (by first | with_reducible assumption | with_reducible rfl | omega | assumption | rfl) (by first | with_reducible assumption | with_reducible rfl | omega | assumption | rfl)) (kS_RX11_278 C.2.2.2.2 (Nat.le_of_ble_eq_true rfl) (Nat.le_of_ble_eq_true rfl)) [0, 1] [0, 0] rfl rfl rfl rfl hl.1 dX11_worth_72 (Nat.le_of_ble_eq_true rfl) (Nat.le_of_ble_eq_true rfl) (fun r_19 b1 H locs hw G => ?_)
          obtain rfl := hw
          have G : zS T A s.heap s [ww, z] _ _ := G
          refine lv_istore (lv' := [(8, .int r_19), (7, .int x), (6, .int (nI i)), (5, .int u), (0, .ref h), (1, .int x), (2, .int y), (3, .int 2), (4, .int q)]) hx hb dX11_worth_75 hl (by decide) (zLvf_h rfl) (fun ls hl => ?_)
          refine lv_iload hx hb dX11_worth_77 (lv_at hl 3 rfl) ?_
          refine lv_iconst (v := (-1)) hx hb dX11_worth_79 (by decide) ?_
          refine lv_icmp_eq (tgt := 105) hx hb dX11_worth_80 (by decide) (fun c_20 => ?_) (fun c_20 => ?_)
          · have c_20n : u.toInt = (-1 : Int) := (fa_eq _ _).mp c_20
            refine lv_iload hx hb dX11_worth_105 (lv_at hl 0 rfl) ?_
            refine lv_goto (tgt := 112) hx hb dX11_worth_107 (by decide) ?_
            refine lv_istore (lv' := [(5, .int r_19), (8, .int r_19), (7, .int x), (6, .int (nI i)), (0, .ref h), (1, .int x), (2, .int y), (3, .int 2), (4, .int q)]) hx hb dX11_worth_112 hl (by decide) (zLvf_h rfl) (fun ls hl => ?_)
            refine lv_iinc (v := nI (i + 1)) (lv' := [(6, .int (nI (i + 1))), (5, .int r_19), (8, .int r_19), (7, .int x), (0, .ref h), (1, .int x), (2, .int y), (3, .int 2), (4, .int q)]) hx hb dX11_worth_114 hl (k := 3) rfl (z_inc i 1) (by decide) (zLvf_h rfl) (fun ls hl => ?_)
            refine lv_goto (tgt := 22) hx hb dX11_worth_117 (by decide) ?_
            exact ih_22 (i + 1) r_19 (show (i + 1) ≤ 8 from by omega) (show 8 - (i + 1) < 8 - i from by omega) _ _ ls G (lv_sub hl [0, 1, 4, 5, 6, 7, 8] rfl)
          · have c_20n : ¬ u.toInt = (-1 : Int) := fun q => c_20 ((fa_eq _ _).mpr q)
            refine lv_iload hx hb dX11_worth_83 (lv_at hl 8 rfl) ?_
            refine lv_if_eq (tgt := 98) hx hb dX11_worth_85 (by decide) (fun _ => ?_) (fun q => absurd c_15 q)
            refine lv_iload hx hb dX11_worth_98 (lv_at hl 0 rfl) ?_
            refine lv_iload hx hb dX11_worth_100 (lv_at hl 3 rfl) ?_
            refine lv_icmp_le (tgt := 110) hx hb dX11_worth_102 (by decide) (fun c_21 => ?_) (fun c_21 => ?_)
            · have c_21n : r_19.toInt ≤ u.toInt := (fa_le _ _).mp c_21
              refine lv_iload hx hb dX11_worth_110 (lv_at hl 3 rfl) ?_
              refine lv_istore (lv' := [(5, .int u), (8, .int r_19), (7, .int x), (6, .int (nI i)), (0, .ref h), (1, .int x), (2, .int y), (3, .int 2), (4, .int q)]) hx hb dX11_worth_112 hl (by decide) (zLvf_h rfl) (fun ls hl => ?_)
              refine lv_iinc (v := nI (i + 1)) (lv' := [(6, .int (nI (i + 1))), (5, .int u), (8, .int r_19), (7, .int x), (0, .ref h), (1, .int x), (2, .int y), (3, .int 2), (4, .int q)]) hx hb dX11_worth_114 hl (k := 3) rfl (z_inc i 1) (by decide) (zLvf_h rfl) (fun ls hl => ?_)
              refine lv_goto (tgt := 22) hx hb dX11_worth_117 (by decide) ?_
              exact ih_22 (i + 1) u (show (i + 1) ≤ 8 from by omega) (show 8 - (i + 1) < 8 - i from by omega) _ _ ls G (lv_sub hl [0, 1, 4, 5, 6, 7, 8] rfl)
            · have c_21n : ¬ r_19.toInt ≤ u.toInt := fun q => c_21 ((fa_le _ _).mpr q)
              refine lv_iload hx hb dX11_worth_105 (lv_at hl 0 rfl) ?_
              refine lv_goto (tgt := 112) hx hb dX11_worth_107 (by decide) ?_
              refine lv_istore (lv' := [(5, .int r_19), (8, .int r_19), (7, .int x), (6, .int (nI i)), (0, .ref h), (1, .int x), (2, .int y), (3, .int 2), (4, .int q)]) hx hb dX11_worth_112 hl (by decide) (zLvf_h rfl) (fun ls hl => ?_)
              refine lv_iinc (v := nI (i + 1)) (lv' := [(6, .int (nI (i + 1))), (5, .int r_19), (8, .int r_19), (7, .int x), (0, .ref h), (1, .int x), (2, .int y), (3, .int 2), (4, .int q)]) hx hb dX11_worth_114 hl (k := 3) rfl (z_inc i 1) (by decide) (zLvf_h rfl) (fun ls hl => ?_)
              refine lv_goto (tgt := 22) hx hb dX11_worth_117 (by decide) ?_
              exact ih_22 (i + 1) r_19 (show (i + 1) ≤ 8 from by omega) (show 8 - (i + 1) < 8 - i from by omega) _ _ ls G (lv_sub hl [0, 1, 4, 5, 6, 7, 8] rfl)
set_option maxHeartbeats 4000000 in
set_option maxRecDepth 100000 in
/-- c_worth -/
theorem c_worth8_3 (l : Launch) (T : zTy) (h : Nat) (la : Nat) (md : Int32) (wy : Int32) (pc_ : Int32) (f1 : Nat → Int32) (f2 : Nat → Int32) (f3 : Nat → Int32) (f4 : Nat → Int32) (f5 : Nat → Int32) (f6 : Nat → Int32) (n4 : Nat) (ww : va_W) (cr : Int32) (inn : Int32) (k1 : Nat → Int32) (k2 : Nat → Int32) (k3 : Nat → Int32) (k4 : Nat → Int32) (z : va_W) (x : Int32) (y : Int32) (q : Int32) (hww : bWays T h la md wy pc_ f1 f2 f3 f4 f5 f6 n4 ww) (hz : bLand T la cr inn k1 k2 k3 k4 z) (hI : zLI cr k1 k3) (hn : n4 ≤ 131072) : zMi l T yX11_worth cX11_worth 9 (some .int) 8 0 0 [.ref h, .int x, .int y, .int 3, .int q] [ww, z] (fun (r : Int32) bs => bs = [ww, z]) := by
  refine zMi_of (own := RX11) (by decide) rfl (Nat.le_of_ble_eq_true rfl) ?_
  intro p e s m args below meth c A ls C hr hlocks hnm hAe G hl
  refine zHide (fun Qz_ hQz_ => ?_)
  have hx := C.1
  have hb := C.2.1
  have hl : lv_has ls 9 [(0, .ref h), (1, .int x), (2, .int y), (3, .int 3), (4, .int q)] := hl
  refine lv_iload_n hx hb dX11_worth_0 rfl (lv_at hl 3 rfl) ?_
  refine lv_if_le (tgt := 9) hx hb dX11_worth_1 (by decide) (fun q => absurd q (by decide)) (fun _ => ?_)
  refine lv_iload_n hx hb dX11_worth_4 rfl (lv_at hl 3 rfl) ?_
  refine lv_iconst (v := 3) hx hb dX11_worth_5 (by decide) ?_
  refine lv_icmp_le (tgt := 16) hx hb dX11_worth_6 (by decide) (fun _ => ?_) (fun q => absurd (by decide) q)
  refine lv_iconst (v := (-1)) hx hb dX11_worth_16 (by decide) ?_
  refine lv_istore (lv' := [(5, .int (-1)), (0, .ref h), (1, .int x), (2, .int y), (3, .int 3), (4, .int q)]) hx hb dX11_worth_17 hl (by decide) (zLvf_h rfl) (fun ls hl => ?_)
  refine lv_iconst (v := 0) hx hb dX11_worth_19 (by decide) ?_
  refine lv_istore (lv' := [(6, .int 0), (5, .int (-1)), (0, .ref h), (1, .int x), (2, .int y), (3, .int 3), (4, .int q)]) hx hb dX11_worth_20 hl (by decide) (zLvf_h rfl) (fun ls hl => ?_)
  refine z_lp2 (T := T) 22 (fun (i : Nat) (u : Int32) => [ww, z]) (fun (i : Nat) (u : Int32) => [(6, .int (nI i)), (5, .int u), (0, .ref h), (1, .int x), (2, .int y), (3, .int 3), (4, .int q)]) (fun (i : Nat) (u : Int32) => i ≤ 8) (fun (i : Nat) (u : Int32) => 8 - i) ?_ 0 (-1) (show 0 ≤ 8 from by omega) G (lv_sub hl [0, 1, 2, 3, 4, 5, 6] rfl)
  intro i u hi ih_22 H locs ls G hl
  replace hi : i ≤ 8 := hi
  replace G : zS T A s.heap s [ww, z] _ _ := G
  replace hl : lv_has ls 9 [(6, .int (nI i)), (5, .int u), (0, .ref h), (1, .int x), (2, .int y), (3, .int 3), (4, .int q)] := hl
  refine lv_iload hx hb dX11_worth_22 (lv_at hl 0 rfl) ?_
  refine lv_bipush (v := 7) hx hb dX11_worth_24 (by decide) ?_
  refine lv_icmp_gt (tgt := 120) hx hb dX11_worth_26 (by decide) (fun c_1 => ?_) (fun c_1 => ?_)
  · have c_1n : 7 < i := (nI_ltI (a := 7) (b := i) (by omega) (by omega)).mp c_1
    refine lv_iload hx hb dX11_worth_120 (lv_at hl 1 rfl) ?_
    exact z_back hQz_ (z_iret C hr hlocks G (Nat.le_of_ble_eq_true rfl) (Nat.le_of_ble_eq_true rfl) dX11_worth_122 rfl)
  · have c_1n : ¬ 7 < i := fun q => c_1 ((nI_ltI (a := 7) (b := i) (by omega) (by omega)).mpr q)
    refine lv_iload hx hb dX11_worth_29 (lv_at hl 0 rfl) ?_
    refine lv_bipush (v := 7) hx hb dX11_worth_31 (by decide) ?_
    refine lv_icmp_ne (tgt := 40) hx hb dX11_worth_33 (by decide) (fun c_2 => ?_) (fun c_2 => ?_)
    · have c_2n : ¬ i = 7 := fun q => c_2 ((nI_eq (a := i) (b := 7) (by omega) (by omega)).mpr q)
      refine lv_aload_n hx hb dX11_worth_40 rfl (lv_at hl 2 rfl) ?_
      refine lv_iload_n hx hb dX11_worth_41 rfl (lv_at hl 3 rfl) ?_
      refine lv_iload hx hb dX11_worth_42 (lv_at hl 0 rfl) ?_
      refine z_Vi (bc := [ww, z]) (br := []) (As := [.int x, .int (nI i)]) (rest := []) C G (c_turned l T h la md wy pc_ f1 f2 f3 f4 f5 f6 n4 ww cr inn k1 k2 k3 k4 z x (nI i) hww hz (by first | with_reducible assumption | with_reducible rfl | omega | assumption | rfl)) (kV_RX11_289 C.2.2.2.2 (Nat.le_of_ble_eq_true rfl) (Nat.le_of_ble_eq_true rfl)) [0, 1] [0, 0] rfl rfl (ci := 0) (qc := (RX0, TX0, 10)) rfl rfl (List.mem_flatten.mpr ⟨_, List.mem_of_getElem? (i := 0) rfl, (bWays_mem hww).choose_spec⟩) rfl rfl hl.1 dX11_worth_44 (Nat.le_of_ble_eq_true rfl) (Nat.le_of_ble_eq_true rfl) (fun r_3 b1 H locs hw G => ?_)
      obtain rfl := hw
      have G : zS T A s.heap s [ww, z] _ _ := G
      refine lv_istore (lv' := [(7, .int r_3), (6, .int (nI i)), (5, .int u), (0, .ref h), (1, .int x), (2, .int y), (3, .int 3), (4, .int q)]) hx hb dX11_worth_47 hl (by decide) (zLvf_h rfl) (fun ls hl => ?_)
      refine lv_iload hx hb dX11_worth_49 (lv_at hl 0 rfl) ?_
      refine lv_iconst (v := (-1)) hx hb dX11_worth_51 (by decide) ?_
      refine lv_icmp_eq (tgt := 114) hx hb dX11_worth_52 (by decide) (fun c_4 => ?_) (fun c_4 => ?_)
      · have c_4n : r_3.toInt = (-1 : Int) := (fa_eq _ _).mp c_4
        refine lv_iinc (v := nI (i + 1)) (lv' := [(6, .int (nI (i + 1))), (7, .int r_3), (5, .int u), (0, .ref h), (1, .int x), (2, .int y), (3, .int 3), (4, .int q)]) hx hb dX11_worth_114 hl (k := 1) rfl (z_inc i 1) (by decide) (zLvf_h rfl) (fun ls hl => ?_)
        refine lv_goto (tgt := 22) hx hb dX11_worth_117 (by decide) ?_
        exact ih_22 (i + 1) u (show (i + 1) ≤ 8 from by omega) (show 8 - (i + 1) < 8 - i from by omega) _ _ ls G (lv_sub hl [0, 2, 3, 4, 5, 6, 7] rfl)
      · have c_4n : ¬ r_3.toInt = (-1 : Int) := fun q => c_4 ((fa_eq _ _).mpr q)
        refine lv_aload_n hx hb dX11_worth_55 rfl (lv_at hl 3 rfl) ?_
        refine lv_iload hx hb dX11_worth_56 (lv_at hl 0 rfl) ?_
        refine lv_iload_n hx hb dX11_worth_58 rfl (lv_at hl 5 rfl) ?_
        refine lv_iload_n hx hb dX11_worth_59 rfl (lv_at hl 6 rfl) ?_
        refine lv_iconst (v := 1) hx hb dX11_worth_60 (by decide) ?_
        refine lv_isub hx hb dX11_worth_61 ?_
        refine lv_topi (fun y_5 ey_5 => ?_)
        obtain rfl : y_5 = 2 := ey_5.trans (by decide)
        refine lv_iload hx hb dX11_worth_62 (lv_at hl 7 rfl) ?_
        refine lv_if_ne (tgt := 71) hx hb dX11_worth_64 (by decide) (fun c_6 => ?_) (fun c_6 => ?_)
        · have c_6n : ¬ q.toInt = (0 : Int) := fun q => c_6 ((fa_eq _ _).mpr q)
          refine lv_iconst (v := 0) hx hb dX11_worth_71 (by decide) ?_
          refine z_Si (bc := [ww, z]) (br := []) (As := [.ref h, .int r_3, .int y, .int 2, .int 0]) (rest := []) C G (c_worth2 l T h la md wy pc_ f1 f2 f3 f4 f5 f6 n4 ww cr inn k1 k2 k3 k4 z r_3 y 0 hww hz (by first | with_reducible assumption | with_reducible rfl | omega | assumption | rfl) (by first | with_reducible assumption | with_reducible rfl | omega | assumption | rfl)) (kS_RX11_278 C.2.2.2.2 (Nat.le_of_ble_eq_true rfl) (Nat.le_of_ble_eq_true rfl)) [0, 1] [0, 0] rfl rfl rfl rfl hl.1 dX11_worth_72 (Nat.le_of_ble_eq_true rfl) (Nat.le_of_ble_eq_true rfl) (fun r_7 b1 H locs hw G => ?_)
          obtain rfl := hw
          have G : zS T A s.heap s [ww, z] _ _ := G
          refine lv_istore (lv' := [(8, .int r_7), (7, .int r_3), (6, .int (nI i)), (5, .int u), (0, .ref h), (1, .int x), (2, .int y), (3, .int 3), (4, .int q)]) hx hb dX11_worth_75 hl (by decide) (zLvf_h rfl) (fun ls hl => ?_)
          refine lv_iload hx hb dX11_worth_77 (lv_at hl 3 rfl) ?_
          refine lv_iconst (v := (-1)) hx hb dX11_worth_79 (by decide) ?_
          refine lv_icmp_eq (tgt := 105) hx hb dX11_worth_80 (by decide) (fun c_8 => ?_) (fun c_8 => ?_)
          · have c_8n : u.toInt = (-1 : Int) := (fa_eq _ _).mp c_8
            refine lv_iload hx hb dX11_worth_105 (lv_at hl 0 rfl) ?_
            refine lv_goto (tgt := 112) hx hb dX11_worth_107 (by decide) ?_
            refine lv_istore (lv' := [(5, .int r_7), (8, .int r_7), (7, .int r_3), (6, .int (nI i)), (0, .ref h), (1, .int x), (2, .int y), (3, .int 3), (4, .int q)]) hx hb dX11_worth_112 hl (by decide) (zLvf_h rfl) (fun ls hl => ?_)
            refine lv_iinc (v := nI (i + 1)) (lv' := [(6, .int (nI (i + 1))), (5, .int r_7), (8, .int r_7), (7, .int r_3), (0, .ref h), (1, .int x), (2, .int y), (3, .int 3), (4, .int q)]) hx hb dX11_worth_114 hl (k := 3) rfl (z_inc i 1) (by decide) (zLvf_h rfl) (fun ls hl => ?_)
            refine lv_goto (tgt := 22) hx hb dX11_worth_117 (by decide) ?_
            exact ih_22 (i + 1) r_7 (show (i + 1) ≤ 8 from by omega) (show 8 - (i + 1) < 8 - i from by omega) _ _ ls G (lv_sub hl [0, 1, 4, 5, 6, 7, 8] rfl)
          · have c_8n : ¬ u.toInt = (-1 : Int) := fun q => c_8 ((fa_eq _ _).mpr q)
            refine lv_iload hx hb dX11_worth_83 (lv_at hl 8 rfl) ?_
            refine lv_if_eq (tgt := 98) hx hb dX11_worth_85 (by decide) (fun q => absurd q c_6) (fun _ => ?_)
            refine lv_iload hx hb dX11_worth_88 (lv_at hl 0 rfl) ?_
            refine lv_iload hx hb dX11_worth_90 (lv_at hl 3 rfl) ?_
            refine lv_icmp_ge (tgt := 110) hx hb dX11_worth_92 (by decide) (fun c_9 => ?_) (fun c_9 => ?_)
            · have c_9n : u.toInt ≤ r_7.toInt := (fa_le _ _).mp c_9
              refine lv_iload hx hb dX11_worth_110 (lv_at hl 3 rfl) ?_
              refine lv_istore (lv' := [(5, .int u), (8, .int r_7), (7, .int r_3), (6, .int (nI i)), (0, .ref h), (1, .int x), (2, .int y), (3, .int 3), (4, .int q)]) hx hb dX11_worth_112 hl (by decide) (zLvf_h rfl) (fun ls hl => ?_)
              refine lv_iinc (v := nI (i + 1)) (lv' := [(6, .int (nI (i + 1))), (5, .int u), (8, .int r_7), (7, .int r_3), (0, .ref h), (1, .int x), (2, .int y), (3, .int 3), (4, .int q)]) hx hb dX11_worth_114 hl (k := 3) rfl (z_inc i 1) (by decide) (zLvf_h rfl) (fun ls hl => ?_)
              refine lv_goto (tgt := 22) hx hb dX11_worth_117 (by decide) ?_
              exact ih_22 (i + 1) u (show (i + 1) ≤ 8 from by omega) (show 8 - (i + 1) < 8 - i from by omega) _ _ ls G (lv_sub hl [0, 1, 4, 5, 6, 7, 8] rfl)
            · have c_9n : ¬ u.toInt ≤ r_7.toInt := fun q => c_9 ((fa_le _ _).mpr q)
              refine lv_goto (tgt := 105) hx hb dX11_worth_95 (by decide) ?_
              refine lv_iload hx hb dX11_worth_105 (lv_at hl 0 rfl) ?_
              refine lv_goto (tgt := 112) hx hb dX11_worth_107 (by decide) ?_
              refine lv_istore (lv' := [(5, .int r_7), (8, .int r_7), (7, .int r_3), (6, .int (nI i)), (0, .ref h), (1, .int x), (2, .int y), (3, .int 3), (4, .int q)]) hx hb dX11_worth_112 hl (by decide) (zLvf_h rfl) (fun ls hl => ?_)
              refine lv_iinc (v := nI (i + 1)) (lv' := [(6, .int (nI (i + 1))), (5, .int r_7), (8, .int r_7), (7, .int r_3), (0, .ref h), (1, .int x), (2, .int y), (3, .int 3), (4, .int q)]) hx hb dX11_worth_114 hl (k := 3) rfl (z_inc i 1) (by decide) (zLvf_h rfl) (fun ls hl => ?_)
              refine lv_goto (tgt := 22) hx hb dX11_worth_117 (by decide) ?_
              exact ih_22 (i + 1) r_7 (show (i + 1) ≤ 8 from by omega) (show 8 - (i + 1) < 8 - i from by omega) _ _ ls G (lv_sub hl [0, 1, 4, 5, 6, 7, 8] rfl)
        · have c_6n : q.toInt = (0 : Int) := (fa_eq _ _).mp c_6
          refine lv_iconst (v := 1) hx hb dX11_worth_67 (by decide) ?_
          refine lv_goto (tgt := 72) hx hb dX11_worth_68 (by decide) ?_
          refine z_Si (bc := [ww, z]) (br := []) (As := [.ref h, .int r_3, .int y, .int 2, .int 1]) (rest := []) C G (c_worth2 l T h la md wy pc_ f1 f2 f3 f4 f5 f6 n4 ww cr inn k1 k2 k3 k4 z r_3 y 1 hww hz (by first | with_reducible assumption | with_reducible rfl | omega | assumption | rfl) (by first | with_reducible assumption | with_reducible rfl | omega | assumption | rfl)) (kS_RX11_278 C.2.2.2.2 (Nat.le_of_ble_eq_true rfl) (Nat.le_of_ble_eq_true rfl)) [0, 1] [0, 0] rfl rfl rfl rfl hl.1 dX11_worth_72 (Nat.le_of_ble_eq_true rfl) (Nat.le_of_ble_eq_true rfl) (fun r_10 b1 H locs hw G => ?_)
          obtain rfl := hw
          have G : zS T A s.heap s [ww, z] _ _ := G
          refine lv_istore (lv' := [(8, .int r_10), (7, .int r_3), (6, .int (nI i)), (5, .int u), (0, .ref h), (1, .int x), (2, .int y), (3, .int 3), (4, .int q)]) hx hb dX11_worth_75 hl (by decide) (zLvf_h rfl) (fun ls hl => ?_)
          refine lv_iload hx hb dX11_worth_77 (lv_at hl 3 rfl) ?_
          refine lv_iconst (v := (-1)) hx hb dX11_worth_79 (by decide) ?_
          refine lv_icmp_eq (tgt := 105) hx hb dX11_worth_80 (by decide) (fun c_11 => ?_) (fun c_11 => ?_)
          · have c_11n : u.toInt = (-1 : Int) := (fa_eq _ _).mp c_11
            refine lv_iload hx hb dX11_worth_105 (lv_at hl 0 rfl) ?_
            refine lv_goto (tgt := 112) hx hb dX11_worth_107 (by decide) ?_
            refine lv_istore (lv' := [(5, .int r_10), (8, .int r_10), (7, .int r_3), (6, .int (nI i)), (0, .ref h), (1, .int x), (2, .int y), (3, .int 3), (4, .int q)]) hx hb dX11_worth_112 hl (by decide) (zLvf_h rfl) (fun ls hl => ?_)
            refine lv_iinc (v := nI (i + 1)) (lv' := [(6, .int (nI (i + 1))), (5, .int r_10), (8, .int r_10), (7, .int r_3), (0, .ref h), (1, .int x), (2, .int y), (3, .int 3), (4, .int q)]) hx hb dX11_worth_114 hl (k := 3) rfl (z_inc i 1) (by decide) (zLvf_h rfl) (fun ls hl => ?_)
            refine lv_goto (tgt := 22) hx hb dX11_worth_117 (by decide) ?_
            exact ih_22 (i + 1) r_10 (show (i + 1) ≤ 8 from by omega) (show 8 - (i + 1) < 8 - i from by omega) _ _ ls G (lv_sub hl [0, 1, 4, 5, 6, 7, 8] rfl)
          · have c_11n : ¬ u.toInt = (-1 : Int) := fun q => c_11 ((fa_eq _ _).mpr q)
            refine lv_iload hx hb dX11_worth_83 (lv_at hl 8 rfl) ?_
            refine lv_if_eq (tgt := 98) hx hb dX11_worth_85 (by decide) (fun _ => ?_) (fun q => absurd c_6 q)
            refine lv_iload hx hb dX11_worth_98 (lv_at hl 0 rfl) ?_
            refine lv_iload hx hb dX11_worth_100 (lv_at hl 3 rfl) ?_
            refine lv_icmp_le (tgt := 110) hx hb dX11_worth_102 (by decide) (fun c_12 => ?_) (fun c_12 => ?_)
            · have c_12n : r_10.toInt ≤ u.toInt := (fa_le _ _).mp c_12
              refine lv_iload hx hb dX11_worth_110 (lv_at hl 3 rfl) ?_
              refine lv_istore (lv' := [(5, .int u), (8, .int r_10), (7, .int r_3), (6, .int (nI i)), (0, .ref h), (1, .int x), (2, .int y), (3, .int 3), (4, .int q)]) hx hb dX11_worth_112 hl (by decide) (zLvf_h rfl) (fun ls hl => ?_)
              refine lv_iinc (v := nI (i + 1)) (lv' := [(6, .int (nI (i + 1))), (5, .int u), (8, .int r_10), (7, .int r_3), (0, .ref h), (1, .int x), (2, .int y), (3, .int 3), (4, .int q)]) hx hb dX11_worth_114 hl (k := 3) rfl (z_inc i 1) (by decide) (zLvf_h rfl) (fun ls hl => ?_)
              refine lv_goto (tgt := 22) hx hb dX11_worth_117 (by decide) ?_
              exact ih_22 (i + 1) u (show (i + 1) ≤ 8 from by omega) (show 8 - (i + 1) < 8 - i from by omega) _ _ ls G (lv_sub hl [0, 1, 4, 5, 6, 7, 8] rfl)
            · have c_12n : ¬ r_10.toInt ≤ u.toInt := fun q => c_12 ((fa_le _ _).mpr q)
              refine lv_iload hx hb dX11_worth_105 (lv_at hl 0 rfl) ?_
              refine lv_goto (tgt := 112) hx hb dX11_worth_107 (by decide) ?_
              refine lv_istore (lv' := [(5, .int r_10), (8, .int r_10), (7, .int r_3), (6, .int (nI i)), (0, .ref h), (1, .int x), (2, .int y), (3, .int 3), (4, .int q)]) hx hb dX11_worth_112 hl (by decide) (zLvf_h rfl) (fun ls hl => ?_)
              refine lv_iinc (v := nI (i + 1)) (lv' := [(6, .int (nI (i + 1))), (5, .int r_10), (8, .int r_10), (7, .int r_3), (0, .ref h), (1, .int x), (2, .int y), (3, .int 3), (4, .int q)]) hx hb dX11_worth_114 hl (k := 3) rfl (z_inc i 1) (by decide) (zLvf_h rfl) (fun ls hl => ?_)
              refine lv_goto (tgt := 22) hx hb dX11_worth_117 (by decide) ?_
              exact ih_22 (i + 1) r_10 (show (i + 1) ≤ 8 from by omega) (show 8 - (i + 1) < 8 - i from by omega) _ _ ls G (lv_sub hl [0, 1, 4, 5, 6, 7, 8] rfl)
    · have c_2n : i = 7 := (nI_eq (a := i) (b := 7) (by omega) (by omega)).mp c_2
      refine lv_iload_n hx hb dX11_worth_36 rfl (lv_at hl 3 rfl) ?_
      refine lv_goto (tgt := 47) hx hb dX11_worth_37 (by decide) ?_
      refine lv_istore (lv' := [(7, .int x), (6, .int (nI i)), (5, .int u), (0, .ref h), (1, .int x), (2, .int y), (3, .int 3), (4, .int q)]) hx hb dX11_worth_47 hl (by decide) (zLvf_h rfl) (fun ls hl => ?_)
      refine lv_iload hx hb dX11_worth_49 (lv_at hl 0 rfl) ?_
      refine lv_iconst (v := (-1)) hx hb dX11_worth_51 (by decide) ?_
      refine lv_icmp_eq (tgt := 114) hx hb dX11_worth_52 (by decide) (fun c_13 => ?_) (fun c_13 => ?_)
      · have c_13n : x.toInt = (-1 : Int) := (fa_eq _ _).mp c_13
        refine lv_iinc (v := nI (i + 1)) (lv' := [(6, .int (nI (i + 1))), (7, .int x), (5, .int u), (0, .ref h), (1, .int x), (2, .int y), (3, .int 3), (4, .int q)]) hx hb dX11_worth_114 hl (k := 1) rfl (z_inc i 1) (by decide) (zLvf_h rfl) (fun ls hl => ?_)
        refine lv_goto (tgt := 22) hx hb dX11_worth_117 (by decide) ?_
        exact ih_22 (i + 1) u (show (i + 1) ≤ 8 from by omega) (show 8 - (i + 1) < 8 - i from by omega) _ _ ls G (lv_sub hl [0, 2, 3, 4, 5, 6, 7] rfl)
      · have c_13n : ¬ x.toInt = (-1 : Int) := fun q => c_13 ((fa_eq _ _).mpr q)
        refine lv_aload_n hx hb dX11_worth_55 rfl (lv_at hl 3 rfl) ?_
        refine lv_iload hx hb dX11_worth_56 (lv_at hl 0 rfl) ?_
        refine lv_iload_n hx hb dX11_worth_58 rfl (lv_at hl 5 rfl) ?_
        refine lv_iload_n hx hb dX11_worth_59 rfl (lv_at hl 6 rfl) ?_
        refine lv_iconst (v := 1) hx hb dX11_worth_60 (by decide) ?_
        refine lv_isub hx hb dX11_worth_61 ?_
        refine lv_topi (fun y_14 ey_14 => ?_)
        obtain rfl : y_14 = 2 := ey_14.trans (by decide)
        refine lv_iload hx hb dX11_worth_62 (lv_at hl 7 rfl) ?_
        refine lv_if_ne (tgt := 71) hx hb dX11_worth_64 (by decide) (fun c_15 => ?_) (fun c_15 => ?_)
        · have c_15n : ¬ q.toInt = (0 : Int) := fun q => c_15 ((fa_eq _ _).mpr q)
          refine lv_iconst (v := 0) hx hb dX11_worth_71 (by decide) ?_
          refine z_Si (bc := [ww, z]) (br := []) (As := [.ref h, .int x, .int y, .int 2, .int 0]) (rest := []) C G (c_worth2 l T h la md wy pc_ f1 f2 f3 f4 f5 f6 n4 ww cr inn k1 k2 k3 k4 z x y 0 hww hz (by first | with_reducible assumption | with_reducible rfl | omega | assumption | rfl) (by first | with_reducible assumption | with_reducible rfl | omega | assumption | rfl)) (kS_RX11_278 C.2.2.2.2 (Nat.le_of_ble_eq_true rfl) (Nat.le_of_ble_eq_true rfl)) [0, 1] [0, 0] rfl rfl rfl rfl hl.1 dX11_worth_72 (Nat.le_of_ble_eq_true rfl) (Nat.le_of_ble_eq_true rfl) (fun r_16 b1 H locs hw G => ?_)
          obtain rfl := hw
          have G : zS T A s.heap s [ww, z] _ _ := G
          refine lv_istore (lv' := [(8, .int r_16), (7, .int x), (6, .int (nI i)), (5, .int u), (0, .ref h), (1, .int x), (2, .int y), (3, .int 3), (4, .int q)]) hx hb dX11_worth_75 hl (by decide) (zLvf_h rfl) (fun ls hl => ?_)
          refine lv_iload hx hb dX11_worth_77 (lv_at hl 3 rfl) ?_
          refine lv_iconst (v := (-1)) hx hb dX11_worth_79 (by decide) ?_
          refine lv_icmp_eq (tgt := 105) hx hb dX11_worth_80 (by decide) (fun c_17 => ?_) (fun c_17 => ?_)
          · have c_17n : u.toInt = (-1 : Int) := (fa_eq _ _).mp c_17
            refine lv_iload hx hb dX11_worth_105 (lv_at hl 0 rfl) ?_
            refine lv_goto (tgt := 112) hx hb dX11_worth_107 (by decide) ?_
            refine lv_istore (lv' := [(5, .int r_16), (8, .int r_16), (7, .int x), (6, .int (nI i)), (0, .ref h), (1, .int x), (2, .int y), (3, .int 3), (4, .int q)]) hx hb dX11_worth_112 hl (by decide) (zLvf_h rfl) (fun ls hl => ?_)
            refine lv_iinc (v := nI (i + 1)) (lv' := [(6, .int (nI (i + 1))), (5, .int r_16), (8, .int r_16), (7, .int x), (0, .ref h), (1, .int x), (2, .int y), (3, .int 3), (4, .int q)]) hx hb dX11_worth_114 hl (k := 3) rfl (z_inc i 1) (by decide) (zLvf_h rfl) (fun ls hl => ?_)
            refine lv_goto (tgt := 22) hx hb dX11_worth_117 (by decide) ?_
            exact ih_22 (i + 1) r_16 (show (i + 1) ≤ 8 from by omega) (show 8 - (i + 1) < 8 - i from by omega) _ _ ls G (lv_sub hl [0, 1, 4, 5, 6, 7, 8] rfl)
          · have c_17n : ¬ u.toInt = (-1 : Int) := fun q => c_17 ((fa_eq _ _).mpr q)
            refine lv_iload hx hb dX11_worth_83 (lv_at hl 8 rfl) ?_
            refine lv_if_eq (tgt := 98) hx hb dX11_worth_85 (by decide) (fun q => absurd q c_15) (fun _ => ?_)
            refine lv_iload hx hb dX11_worth_88 (lv_at hl 0 rfl) ?_
            refine lv_iload hx hb dX11_worth_90 (lv_at hl 3 rfl) ?_
            refine lv_icmp_ge (tgt := 110) hx hb dX11_worth_92 (by decide) (fun c_18 => ?_) (fun c_18 => ?_)
            · have c_18n : u.toInt ≤ r_16.toInt := (fa_le _ _).mp c_18
              refine lv_iload hx hb dX11_worth_110 (lv_at hl 3 rfl) ?_
              refine lv_istore (lv' := [(5, .int u), (8, .int r_16), (7, .int x), (6, .int (nI i)), (0, .ref h), (1, .int x), (2, .int y), (3, .int 3), (4, .int q)]) hx hb dX11_worth_112 hl (by decide) (zLvf_h rfl) (fun ls hl => ?_)
              refine lv_iinc (v := nI (i + 1)) (lv' := [(6, .int (nI (i + 1))), (5, .int u), (8, .int r_16), (7, .int x), (0, .ref h), (1, .int x), (2, .int y), (3, .int 3), (4, .int q)]) hx hb dX11_worth_114 hl (k := 3) rfl (z_inc i 1) (by decide) (zLvf_h rfl) (fun ls hl => ?_)
              refine lv_goto (tgt := 22) hx hb dX11_worth_117 (by decide) ?_
              exact ih_22 (i + 1) u (show (i + 1) ≤ 8 from by omega) (show 8 - (i + 1) < 8 - i from by omega) _ _ ls G (lv_sub hl [0, 1, 4, 5, 6, 7, 8] rfl)
            · have c_18n : ¬ u.toInt ≤ r_16.toInt := fun q => c_18 ((fa_le _ _).mpr q)
              refine lv_goto (tgt := 105) hx hb dX11_worth_95 (by decide) ?_
              refine lv_iload hx hb dX11_worth_105 (lv_at hl 0 rfl) ?_
              refine lv_goto (tgt := 112) hx hb dX11_worth_107 (by decide) ?_
              refine lv_istore (lv' := [(5, .int r_16), (8, .int r_16), (7, .int x), (6, .int (nI i)), (0, .ref h), (1, .int x), (2, .int y), (3, .int 3), (4, .int q)]) hx hb dX11_worth_112 hl (by decide) (zLvf_h rfl) (fun ls hl => ?_)
              refine lv_iinc (v := nI (i + 1)) (lv' := [(6, .int (nI (i + 1))), (5, .int r_16), (8, .int r_16), (7, .int x), (0, .ref h), (1, .int x), (2, .int y), (3, .int 3), (4, .int q)]) hx hb dX11_worth_114 hl (k := 3) rfl (z_inc i 1) (by decide) (zLvf_h rfl) (fun ls hl => ?_)
              refine lv_goto (tgt := 22) hx hb dX11_worth_117 (by decide) ?_
              exact ih_22 (i + 1) r_16 (show (i + 1) ≤ 8 from by omega) (show 8 - (i + 1) < 8 - i from by omega) _ _ ls G (lv_sub hl [0, 1, 4, 5, 6, 7, 8] rfl)
        · have c_15n : q.toInt = (0 : Int) := (fa_eq _ _).mp c_15
          refine lv_iconst (v := 1) hx hb dX11_worth_67 (by decide) ?_
          refine lv_goto (tgt := 72) hx hb dX11_worth_68 (by decide) ?_
          refine z_Si (bc := [ww, z]) (br := []) (As := [.ref h, .int x, .int y, .int 2, .int 1]) (rest := []) C G (c_worth2 l T h la md wy pc_ f1 f2 f3 f4 f5 f6 n4 ww cr inn k1 k2 k3 k4 z x y 1 hww hz (by first | with_reducible assumption | with_reducible rfl | omega | assumption | rfl) (by first | with_reducible assumption | with_reducible rfl | omega | assumption | rfl)) (kS_RX11_278 C.2.2.2.2 (Nat.le_of_ble_eq_true rfl) (Nat.le_of_ble_eq_true rfl)) [0, 1] [0, 0] rfl rfl rfl rfl hl.1 dX11_worth_72 (Nat.le_of_ble_eq_true rfl) (Nat.le_of_ble_eq_true rfl) (fun r_19 b1 H locs hw G => ?_)
          obtain rfl := hw
          have G : zS T A s.heap s [ww, z] _ _ := G
          refine lv_istore (lv' := [(8, .int r_19), (7, .int x), (6, .int (nI i)), (5, .int u), (0, .ref h), (1, .int x), (2, .int y), (3, .int 3), (4, .int q)]) hx hb dX11_worth_75 hl (by decide) (zLvf_h rfl) (fun ls hl => ?_)
          refine lv_iload hx hb dX11_worth_77 (lv_at hl 3 rfl) ?_
          refine lv_iconst (v := (-1)) hx hb dX11_worth_79 (by decide) ?_
          refine lv_icmp_eq (tgt := 105) hx hb dX11_worth_80 (by decide) (fun c_20 => ?_) (fun c_20 => ?_)
          · have c_20n : u.toInt = (-1 : Int) := (fa_eq _ _).mp c_20
            refine lv_iload hx hb dX11_worth_105 (lv_at hl 0 rfl) ?_
            refine lv_goto (tgt := 112) hx hb dX11_worth_107 (by decide) ?_
            refine lv_istore (lv' := [(5, .int r_19), (8, .int r_19), (7, .int x), (6, .int (nI i)), (0, .ref h), (1, .int x), (2, .int y), (3, .int 3), (4, .int q)]) hx hb dX11_worth_112 hl (by decide) (zLvf_h rfl) (fun ls hl => ?_)
            refine lv_iinc (v := nI (i + 1)) (lv' := [(6, .int (nI (i + 1))), (5, .int r_19), (8, .int r_19), (7, .int x), (0, .ref h), (1, .int x), (2, .int y), (3, .int 3), (4, .int q)]) hx hb dX11_worth_114 hl (k := 3) rfl (z_inc i 1) (by decide) (zLvf_h rfl) (fun ls hl => ?_)
            refine lv_goto (tgt := 22) hx hb dX11_worth_117 (by decide) ?_
            exact ih_22 (i + 1) r_19 (show (i + 1) ≤ 8 from by omega) (show 8 - (i + 1) < 8 - i from by omega) _ _ ls G (lv_sub hl [0, 1, 4, 5, 6, 7, 8] rfl)
          · have c_20n : ¬ u.toInt = (-1 : Int) := fun q => c_20 ((fa_eq _ _).mpr q)
            refine lv_iload hx hb dX11_worth_83 (lv_at hl 8 rfl) ?_
            refine lv_if_eq (tgt := 98) hx hb dX11_worth_85 (by decide) (fun _ => ?_) (fun q => absurd c_15 q)
            refine lv_iload hx hb dX11_worth_98 (lv_at hl 0 rfl) ?_
            refine lv_iload hx hb dX11_worth_100 (lv_at hl 3 rfl) ?_
            refine lv_icmp_le (tgt := 110) hx hb dX11_worth_102 (by decide) (fun c_21 => ?_) (fun c_21 => ?_)
            · have c_21n : r_19.toInt ≤ u.toInt := (fa_le _ _).mp c_21
              refine lv_iload hx hb dX11_worth_110 (lv_at hl 3 rfl) ?_
              refine lv_istore (lv' := [(5, .int u), (8, .int r_19), (7, .int x), (6, .int (nI i)), (0, .ref h), (1, .int x), (2, .int y), (3, .int 3), (4, .int q)]) hx hb dX11_worth_112 hl (by decide) (zLvf_h rfl) (fun ls hl => ?_)
              refine lv_iinc (v := nI (i + 1)) (lv' := [(6, .int (nI (i + 1))), (5, .int u), (8, .int r_19), (7, .int x), (0, .ref h), (1, .int x), (2, .int y), (3, .int 3), (4, .int q)]) hx hb dX11_worth_114 hl (k := 3) rfl (z_inc i 1) (by decide) (zLvf_h rfl) (fun ls hl => ?_)
              refine lv_goto (tgt := 22) hx hb dX11_worth_117 (by decide) ?_
              exact ih_22 (i + 1) u (show (i + 1) ≤ 8 from by omega) (show 8 - (i + 1) < 8 - i from by omega) _ _ ls G (lv_sub hl [0, 1, 4, 5, 6, 7, 8] rfl)
            · have c_21n : ¬ r_19.toInt ≤ u.toInt := fun q => c_21 ((fa_le _ _).mpr q)
              refine lv_iload hx hb dX11_worth_105 (lv_at hl 0 rfl) ?_
              refine lv_goto (tgt := 112) hx hb dX11_worth_107 (by decide) ?_
              refine lv_istore (lv' := [(5, .int r_19), (8, .int r_19), (7, .int x), (6, .int (nI i)), (0, .ref h), (1, .int x), (2, .int y), (3, .int 3), (4, .int q)]) hx hb dX11_worth_112 hl (by decide) (zLvf_h rfl) (fun ls hl => ?_)
              refine lv_iinc (v := nI (i + 1)) (lv' := [(6, .int (nI (i + 1))), (5, .int r_19), (8, .int r_19), (7, .int x), (0, .ref h), (1, .int x), (2, .int y), (3, .int 3), (4, .int q)]) hx hb dX11_worth_114 hl (k := 3) rfl (z_inc i 1) (by decide) (zLvf_h rfl) (fun ls hl => ?_)
              refine lv_goto (tgt := 22) hx hb dX11_worth_117 (by decide) ?_
              exact ih_22 (i + 1) r_19 (show (i + 1) ≤ 8 from by omega) (show 8 - (i + 1) < 8 - i from by omega) _ _ ls G (lv_sub hl [0, 1, 4, 5, 6, 7, 8] rfl)
theorem c_worthN (l : Launch) (T : zTy) (h : Nat) (la : Nat) (md : Int32) (wy : Int32) (pc_ : Int32) (f1 : Nat → Int32) (f2 : Nat → Int32) (f3 : Nat → Int32) (f4 : Nat → Int32) (f5 : Nat → Int32) (f6 : Nat → Int32) (n4 : Nat) (ww : va_W) (cr : Int32) (inn : Int32) (k1 : Nat → Int32) (k2 : Nat → Int32) (k3 : Nat → Int32) (k4 : Nat → Int32) (z : va_W) (x : Int32) (y : Int32) (n : Int32) (q : Int32) (hww : bWays T h la md wy pc_ f1 f2 f3 f4 f5 f6 n4 ww) (hz : bLand T la cr inn k1 k2 k3 k4 z) (hI : zLI cr k1 k3) (hn : n4 ≤ 131072) (hn3 : 0 ≤ n.toInt ∧ n.toInt ≤ 3) : zMi l T yX11_worth cX11_worth 9 (some .int) 8 0 0 [.ref h, .int x, .int y, .int n, .int q] [ww, z] (fun (r : Int32) bs => bs = [ww, z]) := by
  rcases (show n.toInt = 0 ∨ n.toInt = 1 ∨ n.toInt = 2 ∨ n.toInt = 3 from by omega) with h9 | h9 | h9 | h9
  · obtain rfl : n = 0 := Int32.toInt_inj.mp h9
    exact c_worth8_0 l T h la md wy pc_ f1 f2 f3 f4 f5 f6 n4 ww cr inn k1 k2 k3 k4 z x y q hww hz hI hn
  · obtain rfl : n = 1 := Int32.toInt_inj.mp h9
    exact c_worth8_1 l T h la md wy pc_ f1 f2 f3 f4 f5 f6 n4 ww cr inn k1 k2 k3 k4 z x y q hww hz hI hn
  · obtain rfl : n = 2 := Int32.toInt_inj.mp h9
    exact c_worth8_2 l T h la md wy pc_ f1 f2 f3 f4 f5 f6 n4 ww cr inn k1 k2 k3 k4 z x y q hww hz hI hn
  · obtain rfl : n = 3 := Int32.toInt_inj.mp h9
    exact c_worth8_3 l T h la md wy pc_ f1 f2 f3 f4 f5 f6 n4 ww cr inn k1 k2 k3 k4 z x y q hww hz hI hn
set_option maxHeartbeats 4000000 in
set_option maxRecDepth 100000 in
/-- c_bestTurn -/
theorem c_bestTurn8_1 (l : Launch) (T : zTy) (h : Nat) (la : Nat) (md : Int32) (wy : Int32) (pc_ : Int32) (f1 : Nat → Int32) (f2 : Nat → Int32) (f3 : Nat → Int32) (f4 : Nat → Int32) (f5 : Nat → Int32) (f6 : Nat → Int32) (n4 : Nat) (ww : va_W) (cr : Int32) (inn : Int32) (k1 : Nat → Int32) (k2 : Nat → Int32) (k3 : Nat → Int32) (k4 : Nat → Int32) (z : va_W) (x : Int32) (y : Int32) (q : Int32) (hww : bWays T h la md wy pc_ f1 f2 f3 f4 f5 f6 n4 ww) (hz : bLand T la cr inn k1 k2 k3 k4 z) (hI : zLI cr k1 k3) (hn : n4 ≤ 131072) : zMi l T yX11_bestTurn cX11_bestTurn 7 (some .int) 9 0 0 [.ref h, .int x, .int y, .int 1, .int q] [ww, z] (fun (r : Int32) bs => bs = [ww, z]) := by
  refine zMi_of (own := RX11) (by decide) rfl (Nat.le_of_ble_eq_true rfl) ?_
  intro p e s m args below meth c A ls C hr hlocks hnm hAe G hl
  refine zHide (fun Qz_ hQz_ => ?_)
  have hx := C.1
  have hb := C.2.1
  have hl : lv_has ls 7 [(0, .ref h), (1, .int x), (2, .int y), (3, .int 1), (4, .int q)] := hl
  refine lv_iconst (v := 0) hx hb dX11_bestTurn_0 (by decide) ?_
  refine lv_istore (lv' := [(5, .int 0), (0, .ref h), (1, .int x), (2, .int y), (3, .int 1), (4, .int q)]) hx hb dX11_bestTurn_1 hl (by decide) (zLvf_h rfl) (fun ls hl => ?_)
  refine z_lp1 (T := T) 3 (fun (i : Nat) => [ww, z]) (fun (i : Nat) => [(5, .int (nI i)), (0, .ref h), (1, .int x), (2, .int y), (3, .int 1), (4, .int q)]) (fun (i : Nat) => i ≤ 7) (fun (i : Nat) => 7 - i) ?_ 0 (show 0 ≤ 7 from by omega) G (lv_sub hl [0, 1, 2, 3, 4, 5] rfl)
  intro i hi ih_3 H locs ls G hl
  replace hi : i ≤ 7 := hi
  replace G : zS T A s.heap s [ww, z] _ _ := G
  replace hl : lv_has ls 7 [(5, .int (nI i)), (0, .ref h), (1, .int x), (2, .int y), (3, .int 1), (4, .int q)] := hl
  refine lv_iload hx hb dX11_bestTurn_3 (lv_at hl 0 rfl) ?_
  refine lv_bipush (v := 7) hx hb dX11_bestTurn_5 (by decide) ?_
  refine lv_icmp_ge (tgt := 50) hx hb dX11_bestTurn_7 (by decide) (fun c_1 => ?_) (fun c_1 => ?_)
  · have c_1n : 7 ≤ i := (nI_leI (a := 7) (b := i) (by omega) (by omega)).mp c_1
    refine lv_bipush (v := 7) hx hb dX11_bestTurn_50 (by decide) ?_
    exact z_back hQz_ (z_iret C hr hlocks G (Nat.le_of_ble_eq_true rfl) (Nat.le_of_ble_eq_true rfl) dX11_bestTurn_52 rfl)
  · have c_1n : ¬ 7 ≤ i := fun q => c_1 ((nI_leI (a := 7) (b := i) (by omega) (by omega)).mpr q)
    refine lv_aload_n hx hb dX11_bestTurn_10 rfl (lv_at hl 1 rfl) ?_
    refine lv_iload_n hx hb dX11_bestTurn_11 rfl (lv_at hl 2 rfl) ?_
    refine lv_iload hx hb dX11_bestTurn_12 (lv_at hl 0 rfl) ?_
    refine z_Vi (bc := [ww, z]) (br := []) (As := [.int x, .int (nI i)]) (rest := []) C G (c_turned l T h la md wy pc_ f1 f2 f3 f4 f5 f6 n4 ww cr inn k1 k2 k3 k4 z x (nI i) hww hz (by first | with_reducible assumption | with_reducible rfl | omega | assumption | rfl)) (kV_RX11_289 C.2.2.2.2 (Nat.le_of_ble_eq_true rfl) (Nat.le_of_ble_eq_true rfl)) [0, 1] [0, 0] rfl rfl (ci := 0) (qc := (RX0, TX0, 10)) rfl rfl (List.mem_flatten.mpr ⟨_, List.mem_of_getElem? (i := 0) rfl, (bWays_mem hww).choose_spec⟩) rfl rfl hl.1 dX11_bestTurn_14 (Nat.le_of_ble_eq_true rfl) (Nat.le_of_ble_eq_true rfl) (fun r_2 b1 H locs hw G => ?_)
    obtain rfl := hw
    have G : zS T A s.heap s [ww, z] _ _ := G
    refine lv_istore (lv' := [(6, .int r_2), (5, .int (nI i)), (0, .ref h), (1, .int x), (2, .int y), (3, .int 1), (4, .int q)]) hx hb dX11_bestTurn_17 hl (by decide) (zLvf_h rfl) (fun ls hl => ?_)
    refine lv_iload hx hb dX11_bestTurn_19 (lv_at hl 0 rfl) ?_
    refine lv_iconst (v := (-1)) hx hb dX11_bestTurn_21 (by decide) ?_
    refine lv_icmp_eq (tgt := 44) hx hb dX11_bestTurn_22 (by decide) (fun c_3 => ?_) (fun c_3 => ?_)
    · have c_3n : r_2.toInt = (-1 : Int) := (fa_eq _ _).mp c_3
      refine lv_iinc (v := nI (i + 1)) (lv' := [(5, .int (nI (i + 1))), (6, .int r_2), (0, .ref h), (1, .int x), (2, .int y), (3, .int 1), (4, .int q)]) hx hb dX11_bestTurn_44 hl (k := 1) rfl (z_inc i 1) (by decide) (zLvf_h rfl) (fun ls hl => ?_)
      refine lv_goto (tgt := 3) hx hb dX11_bestTurn_47 (by decide) ?_
      exact ih_3 (i + 1) (show (i + 1) ≤ 7 from by omega) (show 7 - (i + 1) < 7 - i from by omega) _ _ ls G (lv_sub hl [0, 2, 3, 4, 5, 6] rfl)
    · have c_3n : ¬ r_2.toInt = (-1 : Int) := fun q => c_3 ((fa_eq _ _).mpr q)
      refine lv_aload_n hx hb dX11_bestTurn_25 rfl (lv_at hl 2 rfl) ?_
      refine lv_iload hx hb dX11_bestTurn_26 (lv_at hl 0 rfl) ?_
      refine lv_iload_n hx hb dX11_bestTurn_28 rfl (lv_at hl 4 rfl) ?_
      refine lv_iload_n hx hb dX11_bestTurn_29 rfl (lv_at hl 5 rfl) ?_
      refine lv_iconst (v := 1) hx hb dX11_bestTurn_30 (by decide) ?_
      refine lv_isub hx hb dX11_bestTurn_31 ?_
      refine lv_topi (fun y_4 ey_4 => ?_)
      obtain rfl : y_4 = 0 := ey_4.trans (by decide)
      refine lv_iconst (v := 0) hx hb dX11_bestTurn_32 (by decide) ?_
      refine z_Si (bc := [ww, z]) (br := []) (As := [.ref h, .int r_2, .int y, .int 0, .int 0]) (rest := []) C G (c_worth0 l T h la md wy pc_ f1 f2 f3 f4 f5 f6 n4 ww cr inn k1 k2 k3 k4 z r_2 y 0 hww hz (by first | with_reducible assumption | with_reducible rfl | omega | assumption | rfl) (by first | with_reducible assumption | with_reducible rfl | omega | assumption | rfl)) (kS_RX11_278 C.2.2.2.2 (Nat.le_of_ble_eq_true rfl) (Nat.le_of_ble_eq_true rfl)) [0, 1] [0, 0] rfl rfl rfl rfl hl.1 dX11_bestTurn_33 (Nat.le_of_ble_eq_true rfl) (Nat.le_of_ble_eq_true rfl) (fun r_5 b1 H locs hw G => ?_)
      obtain rfl := hw
      have G : zS T A s.heap s [ww, z] _ _ := G
      refine lv_iload hx hb dX11_bestTurn_36 (lv_at hl 6 rfl) ?_
      refine lv_icmp_ne (tgt := 44) hx hb dX11_bestTurn_38 (by decide) (fun c_6 => ?_) (fun c_6 => ?_)
      · have c_6n : ¬ r_5.toInt = q.toInt := fun q => c_6 ((fa_eq _ _).mpr q)
        refine lv_iinc (v := nI (i + 1)) (lv' := [(5, .int (nI (i + 1))), (6, .int r_2), (0, .ref h), (1, .int x), (2, .int y), (3, .int 1), (4, .int q)]) hx hb dX11_bestTurn_44 hl (k := 1) rfl (z_inc i 1) (by decide) (zLvf_h rfl) (fun ls hl => ?_)
        refine lv_goto (tgt := 3) hx hb dX11_bestTurn_47 (by decide) ?_
        exact ih_3 (i + 1) (show (i + 1) ≤ 7 from by omega) (show 7 - (i + 1) < 7 - i from by omega) _ _ ls G (lv_sub hl [0, 2, 3, 4, 5, 6] rfl)
      · have c_6n : r_5.toInt = q.toInt := (fa_eq _ _).mp c_6
        refine lv_iload hx hb dX11_bestTurn_41 (lv_at hl 1 rfl) ?_
        exact z_back hQz_ (z_iret C hr hlocks G (Nat.le_of_ble_eq_true rfl) (Nat.le_of_ble_eq_true rfl) dX11_bestTurn_43 rfl)
set_option maxHeartbeats 4000000 in
set_option maxRecDepth 100000 in
/-- c_bestTurn -/
theorem c_bestTurn8_2 (l : Launch) (T : zTy) (h : Nat) (la : Nat) (md : Int32) (wy : Int32) (pc_ : Int32) (f1 : Nat → Int32) (f2 : Nat → Int32) (f3 : Nat → Int32) (f4 : Nat → Int32) (f5 : Nat → Int32) (f6 : Nat → Int32) (n4 : Nat) (ww : va_W) (cr : Int32) (inn : Int32) (k1 : Nat → Int32) (k2 : Nat → Int32) (k3 : Nat → Int32) (k4 : Nat → Int32) (z : va_W) (x : Int32) (y : Int32) (q : Int32) (hww : bWays T h la md wy pc_ f1 f2 f3 f4 f5 f6 n4 ww) (hz : bLand T la cr inn k1 k2 k3 k4 z) (hI : zLI cr k1 k3) (hn : n4 ≤ 131072) : zMi l T yX11_bestTurn cX11_bestTurn 7 (some .int) 9 0 0 [.ref h, .int x, .int y, .int 2, .int q] [ww, z] (fun (r : Int32) bs => bs = [ww, z]) := by
  refine zMi_of (own := RX11) (by decide) rfl (Nat.le_of_ble_eq_true rfl) ?_
  intro p e s m args below meth c A ls C hr hlocks hnm hAe G hl
  refine zHide (fun Qz_ hQz_ => ?_)
  have hx := C.1
  have hb := C.2.1
  have hl : lv_has ls 7 [(0, .ref h), (1, .int x), (2, .int y), (3, .int 2), (4, .int q)] := hl
  refine lv_iconst (v := 0) hx hb dX11_bestTurn_0 (by decide) ?_
  refine lv_istore (lv' := [(5, .int 0), (0, .ref h), (1, .int x), (2, .int y), (3, .int 2), (4, .int q)]) hx hb dX11_bestTurn_1 hl (by decide) (zLvf_h rfl) (fun ls hl => ?_)
  refine z_lp1 (T := T) 3 (fun (i : Nat) => [ww, z]) (fun (i : Nat) => [(5, .int (nI i)), (0, .ref h), (1, .int x), (2, .int y), (3, .int 2), (4, .int q)]) (fun (i : Nat) => i ≤ 7) (fun (i : Nat) => 7 - i) ?_ 0 (show 0 ≤ 7 from by omega) G (lv_sub hl [0, 1, 2, 3, 4, 5] rfl)
  intro i hi ih_3 H locs ls G hl
  replace hi : i ≤ 7 := hi
  replace G : zS T A s.heap s [ww, z] _ _ := G
  replace hl : lv_has ls 7 [(5, .int (nI i)), (0, .ref h), (1, .int x), (2, .int y), (3, .int 2), (4, .int q)] := hl
  refine lv_iload hx hb dX11_bestTurn_3 (lv_at hl 0 rfl) ?_
  refine lv_bipush (v := 7) hx hb dX11_bestTurn_5 (by decide) ?_
  refine lv_icmp_ge (tgt := 50) hx hb dX11_bestTurn_7 (by decide) (fun c_1 => ?_) (fun c_1 => ?_)
  · have c_1n : 7 ≤ i := (nI_leI (a := 7) (b := i) (by omega) (by omega)).mp c_1
    refine lv_bipush (v := 7) hx hb dX11_bestTurn_50 (by decide) ?_
    exact z_back hQz_ (z_iret C hr hlocks G (Nat.le_of_ble_eq_true rfl) (Nat.le_of_ble_eq_true rfl) dX11_bestTurn_52 rfl)
  · have c_1n : ¬ 7 ≤ i := fun q => c_1 ((nI_leI (a := 7) (b := i) (by omega) (by omega)).mpr q)
    refine lv_aload_n hx hb dX11_bestTurn_10 rfl (lv_at hl 1 rfl) ?_
    refine lv_iload_n hx hb dX11_bestTurn_11 rfl (lv_at hl 2 rfl) ?_
    refine lv_iload hx hb dX11_bestTurn_12 (lv_at hl 0 rfl) ?_
    refine z_Vi (bc := [ww, z]) (br := []) (As := [.int x, .int (nI i)]) (rest := []) C G (c_turned l T h la md wy pc_ f1 f2 f3 f4 f5 f6 n4 ww cr inn k1 k2 k3 k4 z x (nI i) hww hz (by first | with_reducible assumption | with_reducible rfl | omega | assumption | rfl)) (kV_RX11_289 C.2.2.2.2 (Nat.le_of_ble_eq_true rfl) (Nat.le_of_ble_eq_true rfl)) [0, 1] [0, 0] rfl rfl (ci := 0) (qc := (RX0, TX0, 10)) rfl rfl (List.mem_flatten.mpr ⟨_, List.mem_of_getElem? (i := 0) rfl, (bWays_mem hww).choose_spec⟩) rfl rfl hl.1 dX11_bestTurn_14 (Nat.le_of_ble_eq_true rfl) (Nat.le_of_ble_eq_true rfl) (fun r_2 b1 H locs hw G => ?_)
    obtain rfl := hw
    have G : zS T A s.heap s [ww, z] _ _ := G
    refine lv_istore (lv' := [(6, .int r_2), (5, .int (nI i)), (0, .ref h), (1, .int x), (2, .int y), (3, .int 2), (4, .int q)]) hx hb dX11_bestTurn_17 hl (by decide) (zLvf_h rfl) (fun ls hl => ?_)
    refine lv_iload hx hb dX11_bestTurn_19 (lv_at hl 0 rfl) ?_
    refine lv_iconst (v := (-1)) hx hb dX11_bestTurn_21 (by decide) ?_
    refine lv_icmp_eq (tgt := 44) hx hb dX11_bestTurn_22 (by decide) (fun c_3 => ?_) (fun c_3 => ?_)
    · have c_3n : r_2.toInt = (-1 : Int) := (fa_eq _ _).mp c_3
      refine lv_iinc (v := nI (i + 1)) (lv' := [(5, .int (nI (i + 1))), (6, .int r_2), (0, .ref h), (1, .int x), (2, .int y), (3, .int 2), (4, .int q)]) hx hb dX11_bestTurn_44 hl (k := 1) rfl (z_inc i 1) (by decide) (zLvf_h rfl) (fun ls hl => ?_)
      refine lv_goto (tgt := 3) hx hb dX11_bestTurn_47 (by decide) ?_
      exact ih_3 (i + 1) (show (i + 1) ≤ 7 from by omega) (show 7 - (i + 1) < 7 - i from by omega) _ _ ls G (lv_sub hl [0, 2, 3, 4, 5, 6] rfl)
    · have c_3n : ¬ r_2.toInt = (-1 : Int) := fun q => c_3 ((fa_eq _ _).mpr q)
      refine lv_aload_n hx hb dX11_bestTurn_25 rfl (lv_at hl 2 rfl) ?_
      refine lv_iload hx hb dX11_bestTurn_26 (lv_at hl 0 rfl) ?_
      refine lv_iload_n hx hb dX11_bestTurn_28 rfl (lv_at hl 4 rfl) ?_
      refine lv_iload_n hx hb dX11_bestTurn_29 rfl (lv_at hl 5 rfl) ?_
      refine lv_iconst (v := 1) hx hb dX11_bestTurn_30 (by decide) ?_
      refine lv_isub hx hb dX11_bestTurn_31 ?_
      refine lv_topi (fun y_4 ey_4 => ?_)
      obtain rfl : y_4 = 1 := ey_4.trans (by decide)
      refine lv_iconst (v := 0) hx hb dX11_bestTurn_32 (by decide) ?_
      refine z_Si (bc := [ww, z]) (br := []) (As := [.ref h, .int r_2, .int y, .int 1, .int 0]) (rest := []) C G (c_worth1 l T h la md wy pc_ f1 f2 f3 f4 f5 f6 n4 ww cr inn k1 k2 k3 k4 z r_2 y 0 hww hz (by first | with_reducible assumption | with_reducible rfl | omega | assumption | rfl) (by first | with_reducible assumption | with_reducible rfl | omega | assumption | rfl)) (kS_RX11_278 C.2.2.2.2 (Nat.le_of_ble_eq_true rfl) (Nat.le_of_ble_eq_true rfl)) [0, 1] [0, 0] rfl rfl rfl rfl hl.1 dX11_bestTurn_33 (Nat.le_of_ble_eq_true rfl) (Nat.le_of_ble_eq_true rfl) (fun r_5 b1 H locs hw G => ?_)
      obtain rfl := hw
      have G : zS T A s.heap s [ww, z] _ _ := G
      refine lv_iload hx hb dX11_bestTurn_36 (lv_at hl 6 rfl) ?_
      refine lv_icmp_ne (tgt := 44) hx hb dX11_bestTurn_38 (by decide) (fun c_6 => ?_) (fun c_6 => ?_)
      · have c_6n : ¬ r_5.toInt = q.toInt := fun q => c_6 ((fa_eq _ _).mpr q)
        refine lv_iinc (v := nI (i + 1)) (lv' := [(5, .int (nI (i + 1))), (6, .int r_2), (0, .ref h), (1, .int x), (2, .int y), (3, .int 2), (4, .int q)]) hx hb dX11_bestTurn_44 hl (k := 1) rfl (z_inc i 1) (by decide) (zLvf_h rfl) (fun ls hl => ?_)
        refine lv_goto (tgt := 3) hx hb dX11_bestTurn_47 (by decide) ?_
        exact ih_3 (i + 1) (show (i + 1) ≤ 7 from by omega) (show 7 - (i + 1) < 7 - i from by omega) _ _ ls G (lv_sub hl [0, 2, 3, 4, 5, 6] rfl)
      · have c_6n : r_5.toInt = q.toInt := (fa_eq _ _).mp c_6
        refine lv_iload hx hb dX11_bestTurn_41 (lv_at hl 1 rfl) ?_
        exact z_back hQz_ (z_iret C hr hlocks G (Nat.le_of_ble_eq_true rfl) (Nat.le_of_ble_eq_true rfl) dX11_bestTurn_43 rfl)
set_option maxHeartbeats 4000000 in
set_option maxRecDepth 100000 in
/-- c_bestTurn -/
theorem c_bestTurn8_3 (l : Launch) (T : zTy) (h : Nat) (la : Nat) (md : Int32) (wy : Int32) (pc_ : Int32) (f1 : Nat → Int32) (f2 : Nat → Int32) (f3 : Nat → Int32) (f4 : Nat → Int32) (f5 : Nat → Int32) (f6 : Nat → Int32) (n4 : Nat) (ww : va_W) (cr : Int32) (inn : Int32) (k1 : Nat → Int32) (k2 : Nat → Int32) (k3 : Nat → Int32) (k4 : Nat → Int32) (z : va_W) (x : Int32) (y : Int32) (q : Int32) (hww : bWays T h la md wy pc_ f1 f2 f3 f4 f5 f6 n4 ww) (hz : bLand T la cr inn k1 k2 k3 k4 z) (hI : zLI cr k1 k3) (hn : n4 ≤ 131072) : zMi l T yX11_bestTurn cX11_bestTurn 7 (some .int) 9 0 0 [.ref h, .int x, .int y, .int 3, .int q] [ww, z] (fun (r : Int32) bs => bs = [ww, z]) := by
  refine zMi_of (own := RX11) (by decide) rfl (Nat.le_of_ble_eq_true rfl) ?_
  intro p e s m args below meth c A ls C hr hlocks hnm hAe G hl
  refine zHide (fun Qz_ hQz_ => ?_)
  have hx := C.1
  have hb := C.2.1
  have hl : lv_has ls 7 [(0, .ref h), (1, .int x), (2, .int y), (3, .int 3), (4, .int q)] := hl
  refine lv_iconst (v := 0) hx hb dX11_bestTurn_0 (by decide) ?_
  refine lv_istore (lv' := [(5, .int 0), (0, .ref h), (1, .int x), (2, .int y), (3, .int 3), (4, .int q)]) hx hb dX11_bestTurn_1 hl (by decide) (zLvf_h rfl) (fun ls hl => ?_)
  refine z_lp1 (T := T) 3 (fun (i : Nat) => [ww, z]) (fun (i : Nat) => [(5, .int (nI i)), (0, .ref h), (1, .int x), (2, .int y), (3, .int 3), (4, .int q)]) (fun (i : Nat) => i ≤ 7) (fun (i : Nat) => 7 - i) ?_ 0 (show 0 ≤ 7 from by omega) G (lv_sub hl [0, 1, 2, 3, 4, 5] rfl)
  intro i hi ih_3 H locs ls G hl
  replace hi : i ≤ 7 := hi
  replace G : zS T A s.heap s [ww, z] _ _ := G
  replace hl : lv_has ls 7 [(5, .int (nI i)), (0, .ref h), (1, .int x), (2, .int y), (3, .int 3), (4, .int q)] := hl
  refine lv_iload hx hb dX11_bestTurn_3 (lv_at hl 0 rfl) ?_
  refine lv_bipush (v := 7) hx hb dX11_bestTurn_5 (by decide) ?_
  refine lv_icmp_ge (tgt := 50) hx hb dX11_bestTurn_7 (by decide) (fun c_1 => ?_) (fun c_1 => ?_)
  · have c_1n : 7 ≤ i := (nI_leI (a := 7) (b := i) (by omega) (by omega)).mp c_1
    refine lv_bipush (v := 7) hx hb dX11_bestTurn_50 (by decide) ?_
    exact z_back hQz_ (z_iret C hr hlocks G (Nat.le_of_ble_eq_true rfl) (Nat.le_of_ble_eq_true rfl) dX11_bestTurn_52 rfl)
  · have c_1n : ¬ 7 ≤ i := fun q => c_1 ((nI_leI (a := 7) (b := i) (by omega) (by omega)).mpr q)
    refine lv_aload_n hx hb dX11_bestTurn_10 rfl (lv_at hl 1 rfl) ?_
    refine lv_iload_n hx hb dX11_bestTurn_11 rfl (lv_at hl 2 rfl) ?_
    refine lv_iload hx hb dX11_bestTurn_12 (lv_at hl 0 rfl) ?_
    refine z_Vi (bc := [ww, z]) (br := []) (As := [.int x, .int (nI i)]) (rest := []) C G (c_turned l T h la md wy pc_ f1 f2 f3 f4 f5 f6 n4 ww cr inn k1 k2 k3 k4 z x (nI i) hww hz (by first | with_reducible assumption | with_reducible rfl | omega | assumption | rfl)) (kV_RX11_289 C.2.2.2.2 (Nat.le_of_ble_eq_true rfl) (Nat.le_of_ble_eq_true rfl)) [0, 1] [0, 0] rfl rfl (ci := 0) (qc := (RX0, TX0, 10)) rfl rfl (List.mem_flatten.mpr ⟨_, List.mem_of_getElem? (i := 0) rfl, (bWays_mem hww).choose_spec⟩) rfl rfl hl.1 dX11_bestTurn_14 (Nat.le_of_ble_eq_true rfl) (Nat.le_of_ble_eq_true rfl) (fun r_2 b1 H locs hw G => ?_)
    obtain rfl := hw
    have G : zS T A s.heap s [ww, z] _ _ := G
    refine lv_istore (lv' := [(6, .int r_2), (5, .int (nI i)), (0, .ref h), (1, .int x), (2, .int y), (3, .int 3), (4, .int q)]) hx hb dX11_bestTurn_17 hl (by decide) (zLvf_h rfl) (fun ls hl => ?_)
    refine lv_iload hx hb dX11_bestTurn_19 (lv_at hl 0 rfl) ?_
    refine lv_iconst (v := (-1)) hx hb dX11_bestTurn_21 (by decide) ?_
    refine lv_icmp_eq (tgt := 44) hx hb dX11_bestTurn_22 (by decide) (fun c_3 => ?_) (fun c_3 => ?_)
    · have c_3n : r_2.toInt = (-1 : Int) := (fa_eq _ _).mp c_3
      refine lv_iinc (v := nI (i + 1)) (lv' := [(5, .int (nI (i + 1))), (6, .int r_2), (0, .ref h), (1, .int x), (2, .int y), (3, .int 3), (4, .int q)]) hx hb dX11_bestTurn_44 hl (k := 1) rfl (z_inc i 1) (by decide) (zLvf_h rfl) (fun ls hl => ?_)
      refine lv_goto (tgt := 3) hx hb dX11_bestTurn_47 (by decide) ?_
      exact ih_3 (i + 1) (show (i + 1) ≤ 7 from by omega) (show 7 - (i + 1) < 7 - i from by omega) _ _ ls G (lv_sub hl [0, 2, 3, 4, 5, 6] rfl)
    · have c_3n : ¬ r_2.toInt = (-1 : Int) := fun q => c_3 ((fa_eq _ _).mpr q)
      refine lv_aload_n hx hb dX11_bestTurn_25 rfl (lv_at hl 2 rfl) ?_
      refine lv_iload hx hb dX11_bestTurn_26 (lv_at hl 0 rfl) ?_
      refine lv_iload_n hx hb dX11_bestTurn_28 rfl (lv_at hl 4 rfl) ?_
      refine lv_iload_n hx hb dX11_bestTurn_29 rfl (lv_at hl 5 rfl) ?_
      refine lv_iconst (v := 1) hx hb dX11_bestTurn_30 (by decide) ?_
      refine lv_isub hx hb dX11_bestTurn_31 ?_
      refine lv_topi (fun y_4 ey_4 => ?_)
      obtain rfl : y_4 = 2 := ey_4.trans (by decide)
      refine lv_iconst (v := 0) hx hb dX11_bestTurn_32 (by decide) ?_
      refine z_Si (bc := [ww, z]) (br := []) (As := [.ref h, .int r_2, .int y, .int 2, .int 0]) (rest := []) C G (c_worth2 l T h la md wy pc_ f1 f2 f3 f4 f5 f6 n4 ww cr inn k1 k2 k3 k4 z r_2 y 0 hww hz (by first | with_reducible assumption | with_reducible rfl | omega | assumption | rfl) (by first | with_reducible assumption | with_reducible rfl | omega | assumption | rfl)) (kS_RX11_278 C.2.2.2.2 (Nat.le_of_ble_eq_true rfl) (Nat.le_of_ble_eq_true rfl)) [0, 1] [0, 0] rfl rfl rfl rfl hl.1 dX11_bestTurn_33 (Nat.le_of_ble_eq_true rfl) (Nat.le_of_ble_eq_true rfl) (fun r_5 b1 H locs hw G => ?_)
      obtain rfl := hw
      have G : zS T A s.heap s [ww, z] _ _ := G
      refine lv_iload hx hb dX11_bestTurn_36 (lv_at hl 6 rfl) ?_
      refine lv_icmp_ne (tgt := 44) hx hb dX11_bestTurn_38 (by decide) (fun c_6 => ?_) (fun c_6 => ?_)
      · have c_6n : ¬ r_5.toInt = q.toInt := fun q => c_6 ((fa_eq _ _).mpr q)
        refine lv_iinc (v := nI (i + 1)) (lv' := [(5, .int (nI (i + 1))), (6, .int r_2), (0, .ref h), (1, .int x), (2, .int y), (3, .int 3), (4, .int q)]) hx hb dX11_bestTurn_44 hl (k := 1) rfl (z_inc i 1) (by decide) (zLvf_h rfl) (fun ls hl => ?_)
        refine lv_goto (tgt := 3) hx hb dX11_bestTurn_47 (by decide) ?_
        exact ih_3 (i + 1) (show (i + 1) ≤ 7 from by omega) (show 7 - (i + 1) < 7 - i from by omega) _ _ ls G (lv_sub hl [0, 2, 3, 4, 5, 6] rfl)
      · have c_6n : r_5.toInt = q.toInt := (fa_eq _ _).mp c_6
        refine lv_iload hx hb dX11_bestTurn_41 (lv_at hl 1 rfl) ?_
        exact z_back hQz_ (z_iret C hr hlocks G (Nat.le_of_ble_eq_true rfl) (Nat.le_of_ble_eq_true rfl) dX11_bestTurn_43 rfl)
theorem c_bestTurnN (l : Launch) (T : zTy) (h : Nat) (la : Nat) (md : Int32) (wy : Int32) (pc_ : Int32) (f1 : Nat → Int32) (f2 : Nat → Int32) (f3 : Nat → Int32) (f4 : Nat → Int32) (f5 : Nat → Int32) (f6 : Nat → Int32) (n4 : Nat) (ww : va_W) (cr : Int32) (inn : Int32) (k1 : Nat → Int32) (k2 : Nat → Int32) (k3 : Nat → Int32) (k4 : Nat → Int32) (z : va_W) (x : Int32) (y : Int32) (n : Int32) (q : Int32) (hww : bWays T h la md wy pc_ f1 f2 f3 f4 f5 f6 n4 ww) (hz : bLand T la cr inn k1 k2 k3 k4 z) (hI : zLI cr k1 k3) (hn : n4 ≤ 131072) (hn3 : 1 ≤ n.toInt ∧ n.toInt ≤ 3) : zMi l T yX11_bestTurn cX11_bestTurn 7 (some .int) 9 0 0 [.ref h, .int x, .int y, .int n, .int q] [ww, z] (fun (r : Int32) bs => bs = [ww, z]) := by
  rcases (show n.toInt = 1 ∨ n.toInt = 2 ∨ n.toInt = 3 from by omega) with h9 | h9 | h9
  · obtain rfl : n = 1 := Int32.toInt_inj.mp h9
    exact c_bestTurn8_1 l T h la md wy pc_ f1 f2 f3 f4 f5 f6 n4 ww cr inn k1 k2 k3 k4 z x y q hww hz hI hn
  · obtain rfl : n = 2 := Int32.toInt_inj.mp h9
    exact c_bestTurn8_2 l T h la md wy pc_ f1 f2 f3 f4 f5 f6 n4 ww cr inn k1 k2 k3 k4 z x y q hww hz hI hn
  · obtain rfl : n = 3 := Int32.toInt_inj.mp h9
    exact c_bestTurn8_3 l T h la md wy pc_ f1 f2 f3 f4 f5 f6 n4 ww cr inn k1 k2 k3 k4 z x y q hww hz hI hn
theorem m_ml_RX11_1 : Cond.methodLink RX11 1 objectInit ∈ zT := zmem1 zsub_1 25 rfl rfl
theorem m_cl_RX11_7 : Cond.classLink RX11 7 RX9 ∈ zT := zmem1 zsub_1 28 rfl rfl
theorem m_in_RX9 : Cond.instantiable RX9 8 ∈ zT := zmem1 zsub_1 29 rfl rfl
theorem m_co_X9_init : Cond.code yX9_init cX9_init 1 none ∈ zT := zmem1 zsub_1 32 rfl rfl
theorem m_im_X9_init : Cond.instanceMethod yX9_init ∈ zT := zmem1 zsub_1 31 rfl rfl
theorem m_ar_boolean : Cond.arrayClass .boolean ∈ zT := zmem1 zsub_1 216 rfl rfl
theorem m_cl_RX11_24 : Cond.classLink RX11 24 RX7 ∈ zT := zmem1 zsub_1 159 rfl rfl
theorem m_in_RX7 : Cond.instantiable RX7 13 ∈ zT := zmem1 zsub_1 160 rfl rfl
theorem m_co_X7_init : Cond.code yX7_init cX7_init 1 none ∈ zT := zmem1 zsub_1 163 rfl rfl
theorem m_im_X7_init : Cond.instanceMethod yX7_init ∈ zT := zmem1 zsub_1 162 rfl rfl
theorem m_cl_RX11_31 : Cond.classLink RX11 31 RX6 ∈ zT := zmem1 zsub_1 217 rfl rfl
theorem m_cl_RX11_38 : Cond.classLink RX11 38 RX1 ∈ zT := zmem1 zsub_2 12 rfl rfl
theorem m_in_RX1 : Cond.instantiable RX1 11 ∈ zT := zmem1 zsub_2 13 rfl rfl
theorem m_co_X1_init : Cond.code yX1_init cX1_init 1 none ∈ zT := zmem1 zsub_2 16 rfl rfl
theorem m_im_X1_init : Cond.instanceMethod yX1_init ∈ zT := zmem1 zsub_2 15 rfl rfl
theorem m_cl_RX11_45 : Cond.classLink RX11 45 RX10 ∈ zT := zmem1 zsub_2 59 rfl rfl
theorem m_in_RX10 : Cond.instantiable RX10 8 ∈ zT := zmem1 zsub_2 60 rfl rfl
theorem m_co_X10_init : Cond.code yX10_init cX10_init 1 none ∈ zT := zmem1 zsub_2 63 rfl rfl
theorem m_im_X10_init : Cond.instanceMethod yX10_init ∈ zT := zmem1 zsub_2 62 rfl rfl
theorem m_cl_RX11_52 : Cond.classLink RX11 52 RX0 ∈ zT := zmem1 zsub_2 97 rfl rfl
theorem m_in_RX0 : Cond.instantiable RX0 10 ∈ zT := zmem1 zsub_2 98 rfl rfl
theorem m_co_X0_init : Cond.code yX0_init cX0_init 1 none ∈ zT := zmem1 zsub_2 101 rfl rfl
theorem m_im_X0_init : Cond.instanceMethod yX0_init ∈ zT := zmem1 zsub_2 100 rfl rfl
theorem m_cl_RX11_62 : Cond.classLink RX11 62 RX3 ∈ zT := zmem1 zsub_2 140 rfl rfl
theorem m_in_RX3 : Cond.instantiable RX3 8 ∈ zT := zmem1 zsub_2 141 rfl rfl
theorem m_co_X3_init : Cond.code yX3_init cX3_init 1 none ∈ zT := zmem1 zsub_2 144 rfl rfl
theorem m_im_X3_init : Cond.instanceMethod yX3_init ∈ zT := zmem1 zsub_2 143 rfl rfl
theorem m_co_X0_treesOf : Cond.code yX0_treesOf cX0_treesOf 4 (some .int) ∈ zT := zmem1 zsub_5 60 rfl rfl
theorem m_ml_RX11_268 : Cond.methodLink RX11 268 yX0_treesOf ∈ zT := zmem1 zsub_5 57 rfl rfl
theorem m_im_X0_treesOf : Cond.instanceMethod yX0_treesOf ∈ zT := zmem1 zsub_5 58 rfl rfl
theorem m_se_X0_treesOf : Cond.selects RX0 yX0_treesOf yX0_treesOf ∈ zT := zmem1 zsub_5 59 rfl rfl
theorem kJ_RX11_9 {R : Room} {s : State} {args : Array Value} {d mc ms : Nat} (hX : zX s) (hts : ∀ w ∈ zT, w.before args s = true) (h1 : d + 1 ≤ R.frames) (h2 : 8 + (1 + 11) + 40 * d ≤ R.locals) : va_CN R s args RX11 9 yX9_init RX11 cX9_init 1 none (zW yX9_init cX9_init 1 none) (zR d mc ms) mc ms 0 ∧ yX9_init.name = "<init>" ∧ (Cond.instanceMethod yX9_init).before args s = true := z_cwJ hts m_co_X9_init (hX.1 (RX11, 9, yX9_init, RX11) (List.mem_of_getElem? (i := 0) rfl)) m_im_X9_init m_ii_RX9 rfl (by decide +kernel) h1 h2
theorem kJ_RX11_26 {R : Room} {s : State} {args : Array Value} {d mc ms : Nat} (hX : zX s) (hts : ∀ w ∈ zT, w.before args s = true) (h1 : d + 1 ≤ R.frames) (h2 : 8 + (1 + 11) + 40 * d ≤ R.locals) : va_CN R s args RX11 26 yX7_init RX11 cX7_init 1 none (zW yX7_init cX7_init 1 none) (zR d mc ms) mc ms 0 ∧ yX7_init.name = "<init>" ∧ (Cond.instanceMethod yX7_init).before args s = true := z_cwJ hts m_co_X7_init (hX.1 (RX11, 26, yX7_init, RX11) (List.mem_of_getElem? (i := 1) rfl)) m_im_X7_init m_ii_RX7 rfl (by decide +kernel) h1 h2
theorem kJ_RX11_33 {R : Room} {s : State} {args : Array Value} {d mc ms : Nat} (hX : zX s) (hts : ∀ w ∈ zT, w.before args s = true) (h1 : d + 1 ≤ R.frames) (h2 : 8 + (1 + 11) + 40 * d ≤ R.locals) : va_CN R s args RX11 33 yX6_init RX11 cX6_init 1 none (zW yX6_init cX6_init 1 none) (zR d mc ms) mc ms 0 ∧ yX6_init.name = "<init>" ∧ (Cond.instanceMethod yX6_init).before args s = true := z_cwJ hts m_co_X6_init (hX.1 (RX11, 33, yX6_init, RX11) (List.mem_of_getElem? (i := 2) rfl)) m_im_X6_init m_ii_RX6 rfl (by decide +kernel) h1 h2
theorem kJ_RX11_40 {R : Room} {s : State} {args : Array Value} {d mc ms : Nat} (hX : zX s) (hts : ∀ w ∈ zT, w.before args s = true) (h1 : d + 1 ≤ R.frames) (h2 : 8 + (1 + 11) + 40 * d ≤ R.locals) : va_CN R s args RX11 40 yX1_init RX11 cX1_init 1 none (zW yX1_init cX1_init 1 none) (zR d mc ms) mc ms 0 ∧ yX1_init.name = "<init>" ∧ (Cond.instanceMethod yX1_init).before args s = true := z_cwJ hts m_co_X1_init (hX.1 (RX11, 40, yX1_init, RX11) (List.mem_of_getElem? (i := 3) rfl)) m_im_X1_init m_ii_RX1 rfl (by decide +kernel) h1 h2
theorem kJ_RX11_47 {R : Room} {s : State} {args : Array Value} {d mc ms : Nat} (hX : zX s) (hts : ∀ w ∈ zT, w.before args s = true) (h1 : d + 1 ≤ R.frames) (h2 : 8 + (1 + 11) + 40 * d ≤ R.locals) : va_CN R s args RX11 47 yX10_init RX11 cX10_init 1 none (zW yX10_init cX10_init 1 none) (zR d mc ms) mc ms 0 ∧ yX10_init.name = "<init>" ∧ (Cond.instanceMethod yX10_init).before args s = true := z_cwJ hts m_co_X10_init (hX.1 (RX11, 47, yX10_init, RX11) (List.mem_of_getElem? (i := 4) rfl)) m_im_X10_init m_ii_RX10 rfl (by decide +kernel) h1 h2
theorem kJ_RX11_54 {R : Room} {s : State} {args : Array Value} {d mc ms : Nat} (hX : zX s) (hts : ∀ w ∈ zT, w.before args s = true) (h1 : d + 1 ≤ R.frames) (h2 : 8 + (1 + 11) + 40 * d ≤ R.locals) : va_CN R s args RX11 54 yX0_init RX11 cX0_init 1 none (zW yX0_init cX0_init 1 none) (zR d mc ms) mc ms 0 ∧ yX0_init.name = "<init>" ∧ (Cond.instanceMethod yX0_init).before args s = true := z_cwJ hts m_co_X0_init (hX.1 (RX11, 54, yX0_init, RX11) (List.mem_of_getElem? (i := 5) rfl)) m_im_X0_init m_ii_RX0 rfl (by decide +kernel) h1 h2
theorem kJ_RX11_64 {R : Room} {s : State} {args : Array Value} {d mc ms : Nat} (hX : zX s) (hts : ∀ w ∈ zT, w.before args s = true) (h1 : d + 1 ≤ R.frames) (h2 : 8 + (1 + 11) + 40 * d ≤ R.locals) : va_CN R s args RX11 64 yX3_init RX11 cX3_init 1 none (zW yX3_init cX3_init 1 none) (zR d mc ms) mc ms 0 ∧ yX3_init.name = "<init>" ∧ (Cond.instanceMethod yX3_init).before args s = true := z_cwJ hts m_co_X3_init (hX.1 (RX11, 64, yX3_init, RX11) (List.mem_of_getElem? (i := 6) rfl)) m_im_X3_init m_ii_RX3 rfl (by decide +kernel) h1 h2
theorem kV_RX11_268 {R : Room} {s : State} {args : Array Value} {d mc ms : Nat} (hts : ∀ w ∈ zT, w.before args s = true) (h1 : d + 1 ≤ R.frames) (h2 : 8 + (4 + 11) + 40 * d ≤ R.locals) : CallW R s args RX11 RX0 268 yX0_treesOf cX0_treesOf 4 (some .int) (zW yX0_treesOf cX0_treesOf 4 (some .int)) (zR d mc ms) mc ms 1 := z_cwV hts m_co_X0_treesOf m_ml_RX11_268 m_im_X0_treesOf m_se_X0_treesOf m_ii_RX0 (by decide +kernel) h1 h2
theorem dX11_init_0 : decode cX11_init 0 = .ok (.aload_n 0, 1) := zo_42 (by decide +kernel)
theorem dX11_init_1 : decode cX11_init 1 = .ok (.invokespecial 1, 3) := zo_183 (by decide +kernel)
theorem dX11_init_4 : decode cX11_init 4 = .ok (.aload_n 0, 1) := zo_42 (by decide +kernel)
theorem dX11_init_5 : decode cX11_init 5 = .ok (.new 7, 3) := zo_187 (by decide +kernel)
theorem dX11_init_8 : decode cX11_init 8 = .ok (.dup, 1) := zo_89 (by decide +kernel)
theorem dX11_init_9 : decode cX11_init 9 = .ok (.invokespecial 9, 3) := zo_183 (by decide +kernel)
theorem dX11_init_12 : decode cX11_init 12 = .ok (.putfield 10, 3) := zo_181 (by decide +kernel)
theorem dX11_init_15 : decode cX11_init 15 = .ok (.aload_n 0, 1) := zo_42 (by decide +kernel)
theorem dX11_init_16 : decode cX11_init 16 = .ok (.iconst 3, 1) := zo_6 (by decide +kernel)
theorem dX11_init_17 : decode cX11_init 17 = .ok (.anewarray 7, 3) := zo_189 (by decide +kernel)
theorem dX11_init_20 : decode cX11_init 20 = .ok (.dup, 1) := zo_89 (by decide +kernel)
theorem dX11_init_21 : decode cX11_init 21 = .ok (.iconst 0, 1) := zo_3 (by decide +kernel)
theorem dX11_init_22 : decode cX11_init 22 = .ok (.new 7, 3) := zo_187 (by decide +kernel)
theorem dX11_init_25 : decode cX11_init 25 = .ok (.dup, 1) := zo_89 (by decide +kernel)
theorem dX11_init_26 : decode cX11_init 26 = .ok (.invokespecial 9, 3) := zo_183 (by decide +kernel)
theorem dX11_init_29 : decode cX11_init 29 = .ok (.aastore, 1) := zo_83 (by decide +kernel)
theorem dX11_init_30 : decode cX11_init 30 = .ok (.dup, 1) := zo_89 (by decide +kernel)
theorem dX11_init_31 : decode cX11_init 31 = .ok (.iconst 1, 1) := zo_4 (by decide +kernel)
theorem dX11_init_32 : decode cX11_init 32 = .ok (.new 7, 3) := zo_187 (by decide +kernel)
theorem dX11_init_35 : decode cX11_init 35 = .ok (.dup, 1) := zo_89 (by decide +kernel)
theorem dX11_init_36 : decode cX11_init 36 = .ok (.invokespecial 9, 3) := zo_183 (by decide +kernel)
theorem dX11_init_39 : decode cX11_init 39 = .ok (.aastore, 1) := zo_83 (by decide +kernel)
theorem dX11_init_40 : decode cX11_init 40 = .ok (.dup, 1) := zo_89 (by decide +kernel)
theorem dX11_init_41 : decode cX11_init 41 = .ok (.iconst 2, 1) := zo_5 (by decide +kernel)
theorem dX11_init_42 : decode cX11_init 42 = .ok (.new 7, 3) := zo_187 (by decide +kernel)
theorem dX11_init_45 : decode cX11_init 45 = .ok (.dup, 1) := zo_89 (by decide +kernel)
theorem dX11_init_46 : decode cX11_init 46 = .ok (.invokespecial 9, 3) := zo_183 (by decide +kernel)
theorem dX11_init_49 : decode cX11_init 49 = .ok (.aastore, 1) := zo_83 (by decide +kernel)
theorem dX11_init_50 : decode cX11_init 50 = .ok (.putfield 16, 3) := zo_181 (by decide +kernel)
theorem dX11_init_53 : decode cX11_init 53 = .ok (.aload_n 0, 1) := zo_42 (by decide +kernel)
theorem dX11_init_54 : decode cX11_init 54 = .ok (.iconst 3, 1) := zo_6 (by decide +kernel)
theorem dX11_init_55 : decode cX11_init 55 = .ok (.newarray .boolean, 2) := by decide +kernel
theorem dX11_init_57 : decode cX11_init 57 = .ok (.putfield 20, 3) := zo_181 (by decide +kernel)
theorem dX11_init_60 : decode cX11_init 60 = .ok (.aload_n 0, 1) := zo_42 (by decide +kernel)
theorem dX11_init_61 : decode cX11_init 61 = .ok (.new 24, 3) := zo_187 (by decide +kernel)
theorem dX11_init_64 : decode cX11_init 64 = .ok (.dup, 1) := zo_89 (by decide +kernel)
theorem dX11_init_65 : decode cX11_init 65 = .ok (.invokespecial 26, 3) := zo_183 (by decide +kernel)
theorem dX11_init_68 : decode cX11_init 68 = .ok (.putfield 27, 3) := zo_181 (by decide +kernel)
theorem dX11_init_71 : decode cX11_init 71 = .ok (.aload_n 0, 1) := zo_42 (by decide +kernel)
theorem dX11_init_72 : decode cX11_init 72 = .ok (.new 31, 3) := zo_187 (by decide +kernel)
theorem dX11_init_75 : decode cX11_init 75 = .ok (.dup, 1) := zo_89 (by decide +kernel)
theorem dX11_init_76 : decode cX11_init 76 = .ok (.invokespecial 33, 3) := zo_183 (by decide +kernel)
theorem dX11_init_79 : decode cX11_init 79 = .ok (.putfield 34, 3) := zo_181 (by decide +kernel)
theorem dX11_init_82 : decode cX11_init 82 = .ok (.aload_n 0, 1) := zo_42 (by decide +kernel)
theorem dX11_init_83 : decode cX11_init 83 = .ok (.new 38, 3) := zo_187 (by decide +kernel)
theorem dX11_init_86 : decode cX11_init 86 = .ok (.dup, 1) := zo_89 (by decide +kernel)
theorem dX11_init_87 : decode cX11_init 87 = .ok (.invokespecial 40, 3) := zo_183 (by decide +kernel)
theorem dX11_init_90 : decode cX11_init 90 = .ok (.putfield 41, 3) := zo_181 (by decide +kernel)
theorem dX11_init_93 : decode cX11_init 93 = .ok (.aload_n 0, 1) := zo_42 (by decide +kernel)
theorem dX11_init_94 : decode cX11_init 94 = .ok (.new 45, 3) := zo_187 (by decide +kernel)
theorem dX11_init_97 : decode cX11_init 97 = .ok (.dup, 1) := zo_89 (by decide +kernel)
theorem dX11_init_98 : decode cX11_init 98 = .ok (.invokespecial 47, 3) := zo_183 (by decide +kernel)
theorem dX11_init_101 : decode cX11_init 101 = .ok (.putfield 48, 3) := zo_181 (by decide +kernel)
theorem dX11_init_104 : decode cX11_init 104 = .ok (.aload_n 0, 1) := zo_42 (by decide +kernel)
theorem dX11_init_105 : decode cX11_init 105 = .ok (.new 52, 3) := zo_187 (by decide +kernel)
theorem dX11_init_108 : decode cX11_init 108 = .ok (.dup, 1) := zo_89 (by decide +kernel)
theorem dX11_init_109 : decode cX11_init 109 = .ok (.invokespecial 54, 3) := zo_183 (by decide +kernel)
theorem dX11_init_112 : decode cX11_init 112 = .ok (.putfield 55, 3) := zo_181 (by decide +kernel)
theorem dX11_init_115 : decode cX11_init 115 = .ok (.aload_n 0, 1) := zo_42 (by decide +kernel)
theorem dX11_init_116 : decode cX11_init 116 = .ok (.new 52, 3) := zo_187 (by decide +kernel)
theorem dX11_init_119 : decode cX11_init 119 = .ok (.dup, 1) := zo_89 (by decide +kernel)
theorem dX11_init_120 : decode cX11_init 120 = .ok (.invokespecial 54, 3) := zo_183 (by decide +kernel)
theorem dX11_init_123 : decode cX11_init 123 = .ok (.putfield 59, 3) := zo_181 (by decide +kernel)
theorem dX11_init_126 : decode cX11_init 126 = .ok (.aload_n 0, 1) := zo_42 (by decide +kernel)
theorem dX11_init_127 : decode cX11_init 127 = .ok (.new 62, 3) := zo_187 (by decide +kernel)
theorem dX11_init_130 : decode cX11_init 130 = .ok (.dup, 1) := zo_89 (by decide +kernel)
theorem dX11_init_131 : decode cX11_init 131 = .ok (.invokespecial 64, 3) := zo_183 (by decide +kernel)
theorem dX11_init_134 : decode cX11_init 134 = .ok (.putfield 65, 3) := zo_181 (by decide +kernel)
theorem dX11_init_137 : decode cX11_init 137 = .ok (.aload_n 0, 1) := zo_42 (by decide +kernel)
theorem dX11_init_138 : decode cX11_init 138 = .ok (.sipush 1000, 3) := zo_17 (by decide +kernel)
theorem dX11_init_141 : decode cX11_init 141 = .ok (.newarray .int, 2) := by decide +kernel
theorem dX11_init_143 : decode cX11_init 143 = .ok (.putfield 69, 3) := zo_181 (by decide +kernel)
theorem dX11_init_146 : decode cX11_init 146 = .ok (.return_, 1) := zo_177 (by decide +kernel)
theorem dX11_trees_0 : decode cX11_trees 0 = .ok (.aload_n 0, 1) := zo_42 (by decide +kernel)
theorem dX11_trees_1 : decode cX11_trees 1 = .ok (.getfield 10, 3) := zo_180 (by decide +kernel)
theorem dX11_trees_4 : decode cX11_trees 4 = .ok (.iload_n 1, 1) := zo_27 (by decide +kernel)
theorem dX11_trees_5 : decode cX11_trees 5 = .ok (.invokevirtual 121, 3) := zo_182 (by decide +kernel)
theorem dX11_trees_8 : decode cX11_trees 8 = .ok (.astore_n 2, 1) := zo_77 (by decide +kernel)
theorem dX11_trees_9 : decode cX11_trees 9 = .ok (.aload_n 2, 1) := zo_44 (by decide +kernel)
theorem dX11_trees_10 : decode cX11_trees 10 = .ok (.ifnonnull 5, 3) := zo_199 (by decide +kernel)
theorem dX11_trees_13 : decode cX11_trees 13 = .ok (.iconst (-1), 1) := zo_2 (by decide +kernel)
theorem dX11_trees_14 : decode cX11_trees 14 = .ok (.ireturn, 1) := zo_172 (by decide +kernel)
theorem dX11_trees_15 : decode cX11_trees 15 = .ok (.iload_n 1, 1) := zo_27 (by decide +kernel)
theorem dX11_trees_16 : decode cX11_trees 16 = .ok (.ifCond .ne 10, 3) := zo_154 (by decide +kernel)
theorem dX11_trees_19 : decode cX11_trees 19 = .ok (.aload_n 0, 1) := zo_42 (by decide +kernel)
theorem dX11_trees_20 : decode cX11_trees 20 = .ok (.getfield 55, 3) := zo_180 (by decide +kernel)
theorem dX11_trees_23 : decode cX11_trees 23 = .ok (.goto 7, 3) := zo_167 (by decide +kernel)
theorem dX11_trees_26 : decode cX11_trees 26 = .ok (.aload_n 0, 1) := zo_42 (by decide +kernel)
theorem dX11_trees_27 : decode cX11_trees 27 = .ok (.getfield 59, 3) := zo_180 (by decide +kernel)
theorem dX11_trees_30 : decode cX11_trees 30 = .ok (.astore_n 3, 1) := zo_78 (by decide +kernel)
theorem dX11_trees_31 : decode cX11_trees 31 = .ok (.aload_n 3, 1) := zo_45 (by decide +kernel)
theorem dX11_trees_32 : decode cX11_trees 32 = .ok (.aload_n 2, 1) := zo_44 (by decide +kernel)
theorem dX11_trees_33 : decode cX11_trees 33 = .ok (.invokevirtual 268, 3) := zo_182 (by decide +kernel)
theorem dX11_trees_36 : decode cX11_trees 36 = .ok (.ireturn, 1) := zo_172 (by decide +kernel)
set_option maxHeartbeats 4000000 in
set_option maxRecDepth 100000 in
theorem c_x_init (l : Launch) (T : zTy) (xo : Nat) : zMv l T yX11_init cX11_init 1 8 201 5797 [.ref xo] [[(xo, .inr (10, [.null, .null, .null, .null, .null, .null, .null, .null, .null, .null, .null]))]] (fun bs => ∃ (t : Nat) (im : Nat) (mk : Nat) (rd : Nat) (po : Nat) (co : Nat) (tr : Nat) (wa : Nat) (wb_ : Nat) (fi : Nat) (cd : Nat) (l0 : Nat) (l1 : Nat) (d0 : Nat) (d1 : Nat) (g0 : Nat) (g1 : Nat) (wt : va_W) (vl0 : va_W) (vl1 : va_W) (vd0 : va_W) (vd1 : va_W) (vg0 : va_W) (vg1 : va_W) (m0 : Nat) (l0a : Nat) (l1a : Nat) (d0a : Nat) (d1a : Nat) (g0a : Nat) (g1a : Nat) (wta : va_W) (vl0a : va_W) (vl1a : va_W) (vd0a : va_W) (vd1a : va_W) (vg0a : va_W) (vg1a : va_W) (m1 : Nat) (l0b : Nat) (l1b : Nat) (d0b : Nat) (d1b : Nat) (g0b : Nat) (g1b : Nat) (wtb : va_W) (vl0b : va_W) (vl1b : va_W) (vd0b : va_W) (vd1b : va_W) (vg0b : va_W) (vg1b : va_W) (m2 : Nat) (l0c : Nat) (l1c : Nat) (d0c : Nat) (d1c : Nat) (g0c : Nat) (g1c : Nat) (wtc : va_W) (vl0c : va_W) (vl1c : va_W) (vd0c : va_W) (vd1c : va_W) (vg0c : va_W) (vg1c : va_W) (qi : Nat → Option Nat) (rl : Nat) (rdd : Nat) (rg : Nat) (tq : Nat) (z : va_W) (wd : va_W) (wg : va_W) (lp : Nat) (wp : va_W) (cpo : Nat) (cla : Nat) (wc : va_W) (cpl : Nat) (wcp : va_W) (tpo : Nat) (wr : va_W) (tpl : Nat) (wrp : va_W) (laA : Nat) (wwA : va_W) (laB : Nat) (wwB : va_W) (wff : va_W), bs = [[zO10 xo t im mk rd po co tr wa wb_ fi cd], wt, vl0, vl1, vd0, vd1, vg0, vg1, wta, vl0a, vl1a, vd0a, vd1a, vg0a, vg1a, wtb, vl0b, vl1b, vd0b, vd1b, vg0b, vg1b, wtc, vl0c, vl1c, vd0c, vd1c, vg0c, vg1c, [zArq T 6 im 3 qi], [zAr T 2 mk 3 (fun _ => 0)], [zO7 rd rl rdd rg 0 0 tq 0 0 0 0 0 0 0], z, wd, wg, wp, wc, wcp, wr, wrp, wwA, wwB, wff, [zAr T 0 cd 1000 (fun _ => 0)]] ∧ bTold T t l0 l1 d0 d1 g0 g1 0 0 (-1) (fun _ => 0) (fun _ => 0) wt ∧ bLand T l0 0 0 (fun _ => 0) (fun _ => 0) (fun _ => 0) (fun _ => 0) vl0 ∧ bLand T l1 0 0 (fun _ => 0) (fun _ => 0) (fun _ => 0) (fun _ => 0) vl1 ∧ bDay T d0 0 (fun _ => 0) (fun _ => 0) (fun _ => 0) vd0 ∧ bDay T d1 0 (fun _ => 0) (fun _ => 0) (fun _ => 0) vd1 ∧ bLog T g0 0 (fun _ => 0) (fun _ => 0) vg0 ∧ bLog T g1 0 (fun _ => 0) (fun _ => 0) vg1 ∧ bTold T m0 l0a l1a d0a d1a g0a g1a 0 0 (-1) (fun _ => 0) (fun _ => 0) wta ∧ bLand T l0a 0 0 (fun _ => 0) (fun _ => 0) (fun _ => 0) (fun _ => 0) vl0a ∧ bLand T l1a 0 0 (fun _ => 0) (fun _ => 0) (fun _ => 0) (fun _ => 0) vl1a ∧ bDay T d0a 0 (fun _ => 0) (fun _ => 0) (fun _ => 0) vd0a ∧ bDay T d1a 0 (fun _ => 0) (fun _ => 0) (fun _ => 0) vd1a ∧ bLog T g0a 0 (fun _ => 0) (fun _ => 0) vg0a ∧ bLog T g1a 0 (fun _ => 0) (fun _ => 0) vg1a ∧ bTold T m1 l0b l1b d0b d1b g0b g1b 0 0 (-1) (fun _ => 0) (fun _ => 0) wtb ∧ bLand T l0b 0 0 (fun _ => 0) (fun _ => 0) (fun _ => 0) (fun _ => 0) vl0b ∧ bLand T l1b 0 0 (fun _ => 0) (fun _ => 0) (fun _ => 0) (fun _ => 0) vl1b ∧ bDay T d0b 0 (fun _ => 0) (fun _ => 0) (fun _ => 0) vd0b ∧ bDay T d1b 0 (fun _ => 0) (fun _ => 0) (fun _ => 0) vd1b ∧ bLog T g0b 0 (fun _ => 0) (fun _ => 0) vg0b ∧ bLog T g1b 0 (fun _ => 0) (fun _ => 0) vg1b ∧ bTold T m2 l0c l1c d0c d1c g0c g1c 0 0 (-1) (fun _ => 0) (fun _ => 0) wtc ∧ bLand T l0c 0 0 (fun _ => 0) (fun _ => 0) (fun _ => 0) (fun _ => 0) vl0c ∧ bLand T l1c 0 0 (fun _ => 0) (fun _ => 0) (fun _ => 0) (fun _ => 0) vl1c ∧ bDay T d0c 0 (fun _ => 0) (fun _ => 0) (fun _ => 0) vd0c ∧ bDay T d1c 0 (fun _ => 0) (fun _ => 0) (fun _ => 0) vd1c ∧ bLog T g0c 0 (fun _ => 0) (fun _ => 0) vg0c ∧ bLog T g1c 0 (fun _ => 0) (fun _ => 0) vg1c ∧ qi 0 = some m0 ∧ qi 1 = some m1 ∧ qi 2 = some m2 ∧ bLand T rl 0 0 (fun _ => 0) (fun _ => 0) (fun _ => 0) (fun _ => 0) z ∧ bDay T rdd 0 (fun _ => 0) (fun _ => 0) (fun _ => 0) wd ∧ bLog T rg 0 (fun _ => 0) (fun _ => 0) wg ∧ bPosts T po lp (fun _ => 0) (fun _ => 0) (fun _ => 0) 0 0 wp ∧ bCourse T co cpo cla (fun _ => 0) 0 0 0 0 0 0 0 0 wc ∧ bPosts T cpo cpl (fun _ => 0) (fun _ => 0) (fun _ => 0) 0 0 wcp ∧ bTrail T tr tpo (fun _ => 0) (fun _ => 0) 0 0 0 0 0 wr ∧ bPosts T tpo tpl (fun _ => 0) (fun _ => 0) (fun _ => 0) 0 0 wrp ∧ bWays T wa laA 0 0 0 (fun _ => 0) (fun _ => 0) (fun _ => 0) (fun _ => 0) (fun _ => 0) (fun _ => 0) 0 wwA ∧ bWays T wb_ laB 0 0 0 (fun _ => 0) (fun _ => 0) (fun _ => 0) (fun _ => 0) (fun _ => 0) (fun _ => 0) 0 wwB ∧ bFit T fi 0 (-1) (-1) 0 0 0 (fun _ => 0) 0 (fun _ => 0) wff) := by
  refine zMv_of (own := RX11) (by decide) rfl (Nat.le_of_ble_eq_true rfl) ?_
  intro p e s m args below meth c A ls C hr hlocks hnm hAe G hl
  refine zHide (fun Qz_ hQz_ => ?_)
  have hx := C.1
  have hb := C.2.1
  have hl : lv_has ls 1 [(0, .ref xo)] := hl
  refine lv_aload_n hx hb dX11_init_0 rfl (lv_at hl 0 rfl) ?_
  refine W.objInit hx hb C.2.2.2.1 (C.2.2.2.2 _ m_ml_RX11_1) (C.2.2.2.2 _ m_im_obj) (C.2.2.2.2 _ m_co_obj) rfl (by rw [C.2.2.1]; exact hl.1) rfl dX11_init_1 (Nat.le_of_ble_eq_true rfl) (Nat.le_of_ble_eq_true rfl) ?_
  refine W.eq (g2 := F0 m 4 ls []) rfl ?_
  refine lv_aload_n hx hb dX11_init_4 rfl (lv_at hl 0 rfl) ?_
  refine z_new C G clX9 (fs := [.null, .int 0, .int 0, .int 0, .null, .null, .null, .null]) m_cl_RX11_7 m_in_RX9 m_ii_RX9 (fun j hj => by match j, hj with | 0, _ => rfl | 1, _ => rfl | 2, _ => rfl | 3, _ => rfl | 4, _ => rfl | 5, _ => rfl | 6, _ => rfl | 7, _ => rfl | j + 8, h => exact absurd h (by omega)) (Nat.le_of_ble_eq_true rfl) (Nat.le_of_ble_eq_true rfl) dX11_init_5 (fun q_1 H G => ?_)
  have G : zS T A s.heap s [[(xo, .inr (10, [.null, .null, .null, .null, .null, .null, .null, .null, .null, .null, .null]))], [(q_1, .inr (8, [.null, .int 0, .int 0, .int 0, .null, .null, .null, .null]))]] _ _ := G
  refine lv_dup hx hb dX11_init_8 rfl ?_
  refine z_Jv (bc := [[(q_1, .inr (8, [.null, .int 0, .int 0, .int 0, .null, .null, .null, .null]))]]) (br := [[(xo, .inr (10, [.null, .null, .null, .null, .null, .null, .null, .null, .null, .null, .null]))]]) (As := []) (rest := [.ref q_1, .ref xo]) C G (c_Told_init l T q_1) (kJ_RX11_9 G.2.2.2.2.2.1 C.2.2.2.2 (Nat.le_of_ble_eq_true rfl) (Nat.le_of_ble_eq_true rfl)) [1] [1] rfl rfl rfl rfl hl.1 dX11_init_9 (Nat.le_of_ble_eq_true rfl) (Nat.le_of_ble_eq_true rfl) (fun b1 H locs hw G => ?_)
  refine zEx13 hw ?_
  intro w_2 l0_3 l1_4 d0_5 d1_6 g0_7 g1_8 w1_9 w2_10 w3_11 w4_12 w5_13 w6_14
  refine zCu8 ?_
  intro hbs9 h_15 h_16 h_17 h_18 h_19 h_20 h_21
  clear hw
  subst hbs9
  have G : zS T A s.heap s [[(xo, .inr (10, [.null, .null, .null, .null, .null, .null, .null, .null, .null, .null, .null]))], w_2, w1_9, w2_10, w3_11, w4_12, w5_13, w6_14] _ _ := G
  refine z_putF C G hnm clX11 0 rfl 0 (by decide) m_fl_RX11_10 rfl rfl rfl rfl (Nat.le_of_ble_eq_true rfl) dX11_init_12 (fun H locs G => ?_)
  have G : zS T A s.heap s [[(xo, .inr (10, [.ref q_1, .null, .null, .null, .null, .null, .null, .null, .null, .null, .null]))], w_2, w1_9, w2_10, w3_11, w4_12, w5_13, w6_14] _ _ := G
  refine lv_aload_n hx hb dX11_init_15 rfl (lv_at hl 0 rfl) ?_
  refine lv_iconst (v := 3) hx hb dX11_init_16 (by decide) ?_
  refine z_newq C G 6 rfl m_cl_RX11_7 (List.mem_of_getElem? (i := 3) rfl) (N' := 3) (by decide) (by decide) (by decide) (Nat.le_of_ble_eq_true rfl) (Nat.le_of_ble_eq_true rfl) dX11_init_17 (fun q_23 H G => ?_)
  have G : zS T A s.heap s [[(xo, .inr (10, [.ref q_1, .null, .null, .null, .null, .null, .null, .null, .null, .null, .null]))], w_2, w1_9, w2_10, w3_11, w4_12, w5_13, w6_14, [zArq T 6 q_23 3 (fun _ => none)]] _ _ := G
  refine lv_dup hx hb dX11_init_20 rfl ?_
  refine lv_iconst (v := 0) hx hb dX11_init_21 (by decide) ?_
  refine z_new C G clX9 (fs := [.null, .int 0, .int 0, .int 0, .null, .null, .null, .null]) m_cl_RX11_7 m_in_RX9 m_ii_RX9 (fun j hj => by match j, hj with | 0, _ => rfl | 1, _ => rfl | 2, _ => rfl | 3, _ => rfl | 4, _ => rfl | 5, _ => rfl | 6, _ => rfl | 7, _ => rfl | j + 8, h => exact absurd h (by omega)) (Nat.le_of_ble_eq_true rfl) (Nat.le_of_ble_eq_true rfl) dX11_init_22 (fun q_24 H G => ?_)
  have G : zS T A s.heap s [[(xo, .inr (10, [.ref q_1, .null, .null, .null, .null, .null, .null, .null, .null, .null, .null]))], w_2, w1_9, w2_10, w3_11, w4_12, w5_13, w6_14, [zArq T 6 q_23 3 (fun _ => none)], [(q_24, .inr (8, [.null, .int 0, .int 0, .int 0, .null, .null, .null, .null]))]] _ _ := G
  refine lv_dup hx hb dX11_init_25 rfl ?_
  refine z_Jv (bc := [[(q_24, .inr (8, [.null, .int 0, .int 0, .int 0, .null, .null, .null, .null]))]]) (br := [[(xo, .inr (10, [.ref q_1, .null, .null, .null, .null, .null, .null, .null, .null, .null, .null]))], w_2, w1_9, w2_10, w3_11, w4_12, w5_13, w6_14, [zArq T 6 q_23 3 (fun _ => none)]]) (As := []) (rest := [.ref q_24, .int 0, .ref q_23, .ref q_23, .ref xo]) C G (c_Told_init l T q_24) (kJ_RX11_9 G.2.2.2.2.2.1 C.2.2.2.2 (Nat.le_of_ble_eq_true rfl) (Nat.le_of_ble_eq_true rfl)) [9] [9] rfl rfl rfl rfl hl.1 dX11_init_26 (Nat.le_of_ble_eq_true rfl) (Nat.le_of_ble_eq_true rfl) (fun b1 H locs hw G => ?_)
  refine zEx13 hw ?_
  intro w_25 l0_26 l1_27 d0_28 d1_29 g0_30 g1_31 w1_32 w2_33 w3_34 w4_35 w5_36 w6_37
  refine zCu8 ?_
  intro hbs9 h_38 h_39 h_40 h_41 h_42 h_43 h_44
  clear hw
  subst hbs9
  have G : zS T A s.heap s [[(xo, .inr (10, [.ref q_1, .null, .null, .null, .null, .null, .null, .null, .null, .null, .null]))], w_2, w1_9, w2_10, w3_11, w4_12, w5_13, w6_14, [zArq T 6 q_23 3 (fun _ => none)], w_25, w1_32, w2_33, w3_34, w4_35, w5_36, w6_37] _ _ := G
  refine z_ast C G 8 6 (ci := 8) (r := (RX9, TX9, 8)) rfl rfl (List.mem_flatten.mpr ⟨_, List.mem_of_getElem? (i := 9) rfl, (bTold_mem h_38).choose_spec⟩) rfl (vp_in_nI (n := 0) (by decide) (by decide)) dX11_init_29 (fun H locs G => ?_)
  have G : zS T A s.heap s [[(xo, .inr (10, [.ref q_1, .null, .null, .null, .null, .null, .null, .null, .null, .null, .null]))], w_2, w1_9, w2_10, w3_11, w4_12, w5_13, w6_14, [zArq T 6 q_23 3 (va_up (fun _ => none) 0 (some q_24))], w_25, w1_32, w2_33, w3_34, w4_35, w5_36, w6_37] _ _ := G
  refine lv_dup hx hb dX11_init_30 rfl ?_
  refine lv_iconst (v := 1) hx hb dX11_init_31 (by decide) ?_
  refine z_new C G clX9 (fs := [.null, .int 0, .int 0, .int 0, .null, .null, .null, .null]) m_cl_RX11_7 m_in_RX9 m_ii_RX9 (fun j hj => by match j, hj with | 0, _ => rfl | 1, _ => rfl | 2, _ => rfl | 3, _ => rfl | 4, _ => rfl | 5, _ => rfl | 6, _ => rfl | 7, _ => rfl | j + 8, h => exact absurd h (by omega)) (Nat.le_of_ble_eq_true rfl) (Nat.le_of_ble_eq_true rfl) dX11_init_32 (fun q_46 H G => ?_)
  have G : zS T A s.heap s [[(xo, .inr (10, [.ref q_1, .null, .null, .null, .null, .null, .null, .null, .null, .null, .null]))], w_2, w1_9, w2_10, w3_11, w4_12, w5_13, w6_14, [zArq T 6 q_23 3 (va_up (fun _ => none) 0 (some q_24))], w_25, w1_32, w2_33, w3_34, w4_35, w5_36, w6_37, [(q_46, .inr (8, [.null, .int 0, .int 0, .int 0, .null, .null, .null, .null]))]] _ _ := G
  refine lv_dup hx hb dX11_init_35 rfl ?_
  refine z_Jv (bc := [[(q_46, .inr (8, [.null, .int 0, .int 0, .int 0, .null, .null, .null, .null]))]]) (br := [[(xo, .inr (10, [.ref q_1, .null, .null, .null, .null, .null, .null, .null, .null, .null, .null]))], w_2, w1_9, w2_10, w3_11, w4_12, w5_13, w6_14, [zArq T 6 q_23 3 (va_up (fun _ => none) 0 (some q_24))], w_25, w1_32, w2_33, w3_34, w4_35, w5_36, w6_37]) (As := []) (rest := [.ref q_46, .int 1, .ref q_23, .ref q_23, .ref xo]) C G (c_Told_init l T q_46) (kJ_RX11_9 G.2.2.2.2.2.1 C.2.2.2.2 (Nat.le_of_ble_eq_true rfl) (Nat.le_of_ble_eq_true rfl)) [16] [16] rfl rfl rfl rfl hl.1 dX11_init_36 (Nat.le_of_ble_eq_true rfl) (Nat.le_of_ble_eq_true rfl) (fun b1 H locs hw G => ?_)
  refine zEx13 hw ?_
  intro w_47 l0_48 l1_49 d0_50 d1_51 g0_52 g1_53 w1_54 w2_55 w3_56 w4_57 w5_58 w6_59
  refine zCu8 ?_
  intro hbs9 h_60 h_61 h_62 h_63 h_64 h_65 h_66
  clear hw
  subst hbs9
  have G : zS T A s.heap s [[(xo, .inr (10, [.ref q_1, .null, .null, .null, .null, .null, .null, .null, .null, .null, .null]))], w_2, w1_9, w2_10, w3_11, w4_12, w5_13, w6_14, [zArq T 6 q_23 3 (va_up (fun _ => none) 0 (some q_24))], w_25, w1_32, w2_33, w3_34, w4_35, w5_36, w6_37, w_47, w1_54, w2_55, w3_56, w4_57, w5_58, w6_59] _ _ := G
  refine z_ast C G 8 6 (ci := 8) (r := (RX9, TX9, 8)) rfl rfl (List.mem_flatten.mpr ⟨_, List.mem_of_getElem? (i := 16) rfl, (bTold_mem h_60).choose_spec⟩) rfl (vp_in_nI (n := 1) (by decide) (by decide)) dX11_init_39 (fun H locs G => ?_)
  have G : zS T A s.heap s [[(xo, .inr (10, [.ref q_1, .null, .null, .null, .null, .null, .null, .null, .null, .null, .null]))], w_2, w1_9, w2_10, w3_11, w4_12, w5_13, w6_14, [zArq T 6 q_23 3 (va_up (va_up (fun _ => none) 0 (some q_24)) 1 (some q_46))], w_25, w1_32, w2_33, w3_34, w4_35, w5_36, w6_37, w_47, w1_54, w2_55, w3_56, w4_57, w5_58, w6_59] _ _ := G
  refine lv_dup hx hb dX11_init_40 rfl ?_
  refine lv_iconst (v := 2) hx hb dX11_init_41 (by decide) ?_
  refine z_new C G clX9 (fs := [.null, .int 0, .int 0, .int 0, .null, .null, .null, .null]) m_cl_RX11_7 m_in_RX9 m_ii_RX9 (fun j hj => by match j, hj with | 0, _ => rfl | 1, _ => rfl | 2, _ => rfl | 3, _ => rfl | 4, _ => rfl | 5, _ => rfl | 6, _ => rfl | 7, _ => rfl | j + 8, h => exact absurd h (by omega)) (Nat.le_of_ble_eq_true rfl) (Nat.le_of_ble_eq_true rfl) dX11_init_42 (fun q_68 H G => ?_)
  have G : zS T A s.heap s [[(xo, .inr (10, [.ref q_1, .null, .null, .null, .null, .null, .null, .null, .null, .null, .null]))], w_2, w1_9, w2_10, w3_11, w4_12, w5_13, w6_14, [zArq T 6 q_23 3 (va_up (va_up (fun _ => none) 0 (some q_24)) 1 (some q_46))], w_25, w1_32, w2_33, w3_34, w4_35, w5_36, w6_37, w_47, w1_54, w2_55, w3_56, w4_57, w5_58, w6_59, [(q_68, .inr (8, [.null, .int 0, .int 0, .int 0, .null, .null, .null, .null]))]] _ _ := G
  refine lv_dup hx hb dX11_init_45 rfl ?_
  refine z_Jv (bc := [[(q_68, .inr (8, [.null, .int 0, .int 0, .int 0, .null, .null, .null, .null]))]]) (br := [[(xo, .inr (10, [.ref q_1, .null, .null, .null, .null, .null, .null, .null, .null, .null, .null]))], w_2, w1_9, w2_10, w3_11, w4_12, w5_13, w6_14, [zArq T 6 q_23 3 (va_up (va_up (fun _ => none) 0 (some q_24)) 1 (some q_46))], w_25, w1_32, w2_33, w3_34, w4_35, w5_36, w6_37, w_47, w1_54, w2_55, w3_56, w4_57, w5_58, w6_59]) (As := []) (rest := [.ref q_68, .int 2, .ref q_23, .ref q_23, .ref xo]) C G (c_Told_init l T q_68) (kJ_RX11_9 G.2.2.2.2.2.1 C.2.2.2.2 (Nat.le_of_ble_eq_true rfl) (Nat.le_of_ble_eq_true rfl)) [23] [23] rfl rfl rfl rfl hl.1 dX11_init_46 (Nat.le_of_ble_eq_true rfl) (Nat.le_of_ble_eq_true rfl) (fun b1 H locs hw G => ?_)
  refine zEx13 hw ?_
  intro w_69 l0_70 l1_71 d0_72 d1_73 g0_74 g1_75 w1_76 w2_77 w3_78 w4_79 w5_80 w6_81
  refine zCu8 ?_
  intro hbs9 h_82 h_83 h_84 h_85 h_86 h_87 h_88
  clear hw
  subst hbs9
  have G : zS T A s.heap s [[(xo, .inr (10, [.ref q_1, .null, .null, .null, .null, .null, .null, .null, .null, .null, .null]))], w_2, w1_9, w2_10, w3_11, w4_12, w5_13, w6_14, [zArq T 6 q_23 3 (va_up (va_up (fun _ => none) 0 (some q_24)) 1 (some q_46))], w_25, w1_32, w2_33, w3_34, w4_35, w5_36, w6_37, w_47, w1_54, w2_55, w3_56, w4_57, w5_58, w6_59, w_69, w1_76, w2_77, w3_78, w4_79, w5_80, w6_81] _ _ := G
  refine z_ast C G 8 6 (ci := 8) (r := (RX9, TX9, 8)) rfl rfl (List.mem_flatten.mpr ⟨_, List.mem_of_getElem? (i := 23) rfl, (bTold_mem h_82).choose_spec⟩) rfl (vp_in_nI (n := 2) (by decide) (by decide)) dX11_init_49 (fun H locs G => ?_)
  have G : zS T A s.heap s [[(xo, .inr (10, [.ref q_1, .null, .null, .null, .null, .null, .null, .null, .null, .null, .null]))], w_2, w1_9, w2_10, w3_11, w4_12, w5_13, w6_14, [zArq T 6 q_23 3 (va_up (va_up (va_up (fun _ => none) 0 (some q_24)) 1 (some q_46)) 2 (some q_68))], w_25, w1_32, w2_33, w3_34, w4_35, w5_36, w6_37, w_47, w1_54, w2_55, w3_56, w4_57, w5_58, w6_59, w_69, w1_76, w2_77, w3_78, w4_79, w5_80, w6_81] _ _ := G
  refine z_putF C G hnm clX11 0 rfl 1 (by decide) m_fl_RX11_16 rfl rfl rfl rfl (Nat.le_of_ble_eq_true rfl) dX11_init_50 (fun H locs G => ?_)
  have G : zS T A s.heap s [[(xo, .inr (10, [.ref q_1, .ref q_23, .null, .null, .null, .null, .null, .null, .null, .null, .null]))], w_2, w1_9, w2_10, w3_11, w4_12, w5_13, w6_14, [zArq T 6 q_23 3 (va_up (va_up (va_up (fun _ => none) 0 (some q_24)) 1 (some q_46)) 2 (some q_68))], w_25, w1_32, w2_33, w3_34, w4_35, w5_36, w6_37, w_47, w1_54, w2_55, w3_56, w4_57, w5_58, w6_59, w_69, w1_76, w2_77, w3_78, w4_79, w5_80, w6_81] _ _ := G
  refine lv_aload_n hx hb dX11_init_53 rfl (lv_at hl 0 rfl) ?_
  refine lv_iconst (v := 3) hx hb dX11_init_54 (by decide) ?_
  refine z_newa C G 2 (ty := .boolean) (N' := 3) (a0 := (3, .inl (fun _ => 0))) rfl z_uboolean m_ar_boolean rfl (fun _ => rfl) (by decide) (by decide) (Nat.le_of_ble_eq_true rfl) (Nat.le_of_ble_eq_true rfl) (Nat.le_of_ble_eq_true rfl) dX11_init_55 (fun q_90 H G => ?_)
  have G : zS T A s.heap s [[(xo, .inr (10, [.ref q_1, .ref q_23, .null, .null, .null, .null, .null, .null, .null, .null, .null]))], w_2, w1_9, w2_10, w3_11, w4_12, w5_13, w6_14, [zArq T 6 q_23 3 (va_up (va_up (va_up (fun _ => none) 0 (some q_24)) 1 (some q_46)) 2 (some q_68))], w_25, w1_32, w2_33, w3_34, w4_35, w5_36, w6_37, w_47, w1_54, w2_55, w3_56, w4_57, w5_58, w6_59, w_69, w1_76, w2_77, w3_78, w4_79, w5_80, w6_81, [zAr T 2 q_90 3 (fun _ => 0)]] _ _ := G
  refine z_putF C G hnm clX11 0 rfl 2 (by decide) m_fl_RX11_20 rfl rfl rfl rfl (Nat.le_of_ble_eq_true rfl) dX11_init_57 (fun H locs G => ?_)
  have G : zS T A s.heap s [[(xo, .inr (10, [.ref q_1, .ref q_23, .ref q_90, .null, .null, .null, .null, .null, .null, .null, .null]))], w_2, w1_9, w2_10, w3_11, w4_12, w5_13, w6_14, [zArq T 6 q_23 3 (va_up (va_up (va_up (fun _ => none) 0 (some q_24)) 1 (some q_46)) 2 (some q_68))], w_25, w1_32, w2_33, w3_34, w4_35, w5_36, w6_37, w_47, w1_54, w2_55, w3_56, w4_57, w5_58, w6_59, w_69, w1_76, w2_77, w3_78, w4_79, w5_80, w6_81, [zAr T 2 q_90 3 (fun _ => 0)]] _ _ := G
  refine lv_aload_n hx hb dX11_init_60 rfl (lv_at hl 0 rfl) ?_
  refine z_new C G clX7 (fs := [.null, .null, .null, .int 0, .int 0, .null, .int 0, .int 0, .int 0, .int 0, .int 0, .int 0, .int 0]) m_cl_RX11_24 m_in_RX7 m_ii_RX7 (fun j hj => by match j, hj with | 0, _ => rfl | 1, _ => rfl | 2, _ => rfl | 3, _ => rfl | 4, _ => rfl | 5, _ => rfl | 6, _ => rfl | 7, _ => rfl | 8, _ => rfl | 9, _ => rfl | 10, _ => rfl | 11, _ => rfl | 12, _ => rfl | j + 13, h => exact absurd h (by omega)) (Nat.le_of_ble_eq_true rfl) (Nat.le_of_ble_eq_true rfl) dX11_init_61 (fun q_91 H G => ?_)
  have G : zS T A s.heap s [[(xo, .inr (10, [.ref q_1, .ref q_23, .ref q_90, .null, .null, .null, .null, .null, .null, .null, .null]))], w_2, w1_9, w2_10, w3_11, w4_12, w5_13, w6_14, [zArq T 6 q_23 3 (va_up (va_up (va_up (fun _ => none) 0 (some q_24)) 1 (some q_46)) 2 (some q_68))], w_25, w1_32, w2_33, w3_34, w4_35, w5_36, w6_37, w_47, w1_54, w2_55, w3_56, w4_57, w5_58, w6_59, w_69, w1_76, w2_77, w3_78, w4_79, w5_80, w6_81, [zAr T 2 q_90 3 (fun _ => 0)], [(q_91, .inr (7, [.null, .null, .null, .int 0, .int 0, .null, .int 0, .int 0, .int 0, .int 0, .int 0, .int 0, .int 0]))]] _ _ := G
  refine lv_dup hx hb dX11_init_64 rfl ?_
  refine z_Jv (bc := [[(q_91, .inr (7, [.null, .null, .null, .int 0, .int 0, .null, .int 0, .int 0, .int 0, .int 0, .int 0, .int 0, .int 0]))]]) (br := [[(xo, .inr (10, [.ref q_1, .ref q_23, .ref q_90, .null, .null, .null, .null, .null, .null, .null, .null]))], w_2, w1_9, w2_10, w3_11, w4_12, w5_13, w6_14, [zArq T 6 q_23 3 (va_up (va_up (va_up (fun _ => none) 0 (some q_24)) 1 (some q_46)) 2 (some q_68))], w_25, w1_32, w2_33, w3_34, w4_35, w5_36, w6_37, w_47, w1_54, w2_55, w3_56, w4_57, w5_58, w6_59, w_69, w1_76, w2_77, w3_78, w4_79, w5_80, w6_81, [zAr T 2 q_90 3 (fun _ => 0)]]) (As := []) (rest := [.ref q_91, .ref xo]) C G (c_Reader_init l T q_91) (kJ_RX11_26 G.2.2.2.2.2.1 C.2.2.2.2 (Nat.le_of_ble_eq_true rfl) (Nat.le_of_ble_eq_true rfl)) [31] [31] rfl rfl rfl rfl hl.1 dX11_init_65 (Nat.le_of_ble_eq_true rfl) (Nat.le_of_ble_eq_true rfl) (fun b1 H locs hw G => ?_)
  refine zEx7 hw ?_
  intro rl_92 rdd_93 rg_94 tp_95 w1_96 w2_97 w3_98
  refine zCu4 ?_
  intro hbs9 h_99 h_100 h_101
  clear hw
  subst hbs9
  have G : zS T A s.heap s [[(xo, .inr (10, [.ref q_1, .ref q_23, .ref q_90, .null, .null, .null, .null, .null, .null, .null, .null]))], w_2, w1_9, w2_10, w3_11, w4_12, w5_13, w6_14, [zArq T 6 q_23 3 (va_up (va_up (va_up (fun _ => none) 0 (some q_24)) 1 (some q_46)) 2 (some q_68))], w_25, w1_32, w2_33, w3_34, w4_35, w5_36, w6_37, w_47, w1_54, w2_55, w3_56, w4_57, w5_58, w6_59, w_69, w1_76, w2_77, w3_78, w4_79, w5_80, w6_81, [zAr T 2 q_90 3 (fun _ => 0)], [zO7 q_91 rl_92 rdd_93 rg_94 0 0 tp_95 0 0 0 0 0 0 0], w1_96, w2_97, w3_98] _ _ := G
  refine z_putF C G hnm clX11 0 rfl 3 (by decide) m_fl_RX11_27 rfl rfl rfl rfl (Nat.le_of_ble_eq_true rfl) dX11_init_68 (fun H locs G => ?_)
  have G : zS T A s.heap s [[(xo, .inr (10, [.ref q_1, .ref q_23, .ref q_90, .ref q_91, .null, .null, .null, .null, .null, .null, .null]))], w_2, w1_9, w2_10, w3_11, w4_12, w5_13, w6_14, [zArq T 6 q_23 3 (va_up (va_up (va_up (fun _ => none) 0 (some q_24)) 1 (some q_46)) 2 (some q_68))], w_25, w1_32, w2_33, w3_34, w4_35, w5_36, w6_37, w_47, w1_54, w2_55, w3_56, w4_57, w5_58, w6_59, w_69, w1_76, w2_77, w3_78, w4_79, w5_80, w6_81, [zAr T 2 q_90 3 (fun _ => 0)], [zO7 q_91 rl_92 rdd_93 rg_94 0 0 tp_95 0 0 0 0 0 0 0], w1_96, w2_97, w3_98] _ _ := G
  refine lv_aload_n hx hb dX11_init_71 rfl (lv_at hl 0 rfl) ?_
  refine z_new C G clX6 (fs := [.null, .null, .null, .int 0, .int 0, .null]) m_cl_RX11_31 m_in_RX6 m_ii_RX6 (fun j hj => by match j, hj with | 0, _ => rfl | 1, _ => rfl | 2, _ => rfl | 3, _ => rfl | 4, _ => rfl | 5, _ => rfl | j + 6, h => exact absurd h (by omega)) (Nat.le_of_ble_eq_true rfl) (Nat.le_of_ble_eq_true rfl) dX11_init_72 (fun q_103 H G => ?_)
  have G : zS T A s.heap s [[(xo, .inr (10, [.ref q_1, .ref q_23, .ref q_90, .ref q_91, .null, .null, .null, .null, .null, .null, .null]))], w_2, w1_9, w2_10, w3_11, w4_12, w5_13, w6_14, [zArq T 6 q_23 3 (va_up (va_up (va_up (fun _ => none) 0 (some q_24)) 1 (some q_46)) 2 (some q_68))], w_25, w1_32, w2_33, w3_34, w4_35, w5_36, w6_37, w_47, w1_54, w2_55, w3_56, w4_57, w5_58, w6_59, w_69, w1_76, w2_77, w3_78, w4_79, w5_80, w6_81, [zAr T 2 q_90 3 (fun _ => 0)], [zO7 q_91 rl_92 rdd_93 rg_94 0 0 tp_95 0 0 0 0 0 0 0], w1_96, w2_97, w3_98, [(q_103, .inr (6, [.null, .null, .null, .int 0, .int 0, .null]))]] _ _ := G
  refine lv_dup hx hb dX11_init_75 rfl ?_
  refine z_Jv (bc := [[(q_103, .inr (6, [.null, .null, .null, .int 0, .int 0, .null]))]]) (br := [[(xo, .inr (10, [.ref q_1, .ref q_23, .ref q_90, .ref q_91, .null, .null, .null, .null, .null, .null, .null]))], w_2, w1_9, w2_10, w3_11, w4_12, w5_13, w6_14, [zArq T 6 q_23 3 (va_up (va_up (va_up (fun _ => none) 0 (some q_24)) 1 (some q_46)) 2 (some q_68))], w_25, w1_32, w2_33, w3_34, w4_35, w5_36, w6_37, w_47, w1_54, w2_55, w3_56, w4_57, w5_58, w6_59, w_69, w1_76, w2_77, w3_78, w4_79, w5_80, w6_81, [zAr T 2 q_90 3 (fun _ => 0)], [zO7 q_91 rl_92 rdd_93 rg_94 0 0 tp_95 0 0 0 0 0 0 0], w1_96, w2_97, w3_98]) (As := []) (rest := [.ref q_103, .ref xo]) C G (c_Posts_init l T q_103) (kJ_RX11_33 G.2.2.2.2.2.1 C.2.2.2.2 (Nat.le_of_ble_eq_true rfl) (Nat.le_of_ble_eq_true rfl)) [35] [35] rfl rfl rfl rfl hl.1 dX11_init_76 (Nat.le_of_ble_eq_true rfl) (Nat.le_of_ble_eq_true rfl) (fun b1 H locs hw G => ?_)
  refine zEx2 hw ?_
  intro w_104 la_105
  refine zCu2 ?_
  intro hbs9 h_106
  clear hw
  subst hbs9
  have G : zS T A s.heap s [[(xo, .inr (10, [.ref q_1, .ref q_23, .ref q_90, .ref q_91, .null, .null, .null, .null, .null, .null, .null]))], w_2, w1_9, w2_10, w3_11, w4_12, w5_13, w6_14, [zArq T 6 q_23 3 (va_up (va_up (va_up (fun _ => none) 0 (some q_24)) 1 (some q_46)) 2 (some q_68))], w_25, w1_32, w2_33, w3_34, w4_35, w5_36, w6_37, w_47, w1_54, w2_55, w3_56, w4_57, w5_58, w6_59, w_69, w1_76, w2_77, w3_78, w4_79, w5_80, w6_81, [zAr T 2 q_90 3 (fun _ => 0)], [zO7 q_91 rl_92 rdd_93 rg_94 0 0 tp_95 0 0 0 0 0 0 0], w1_96, w2_97, w3_98, w_104] _ _ := G
  refine z_putF C G hnm clX11 0 rfl 4 (by decide) m_fl_RX11_34 rfl rfl rfl rfl (Nat.le_of_ble_eq_true rfl) dX11_init_79 (fun H locs G => ?_)
  have G : zS T A s.heap s [[(xo, .inr (10, [.ref q_1, .ref q_23, .ref q_90, .ref q_91, .ref q_103, .null, .null, .null, .null, .null, .null]))], w_2, w1_9, w2_10, w3_11, w4_12, w5_13, w6_14, [zArq T 6 q_23 3 (va_up (va_up (va_up (fun _ => none) 0 (some q_24)) 1 (some q_46)) 2 (some q_68))], w_25, w1_32, w2_33, w3_34, w4_35, w5_36, w6_37, w_47, w1_54, w2_55, w3_56, w4_57, w5_58, w6_59, w_69, w1_76, w2_77, w3_78, w4_79, w5_80, w6_81, [zAr T 2 q_90 3 (fun _ => 0)], [zO7 q_91 rl_92 rdd_93 rg_94 0 0 tp_95 0 0 0 0 0 0 0], w1_96, w2_97, w3_98, w_104] _ _ := G
  refine lv_aload_n hx hb dX11_init_82 rfl (lv_at hl 0 rfl) ?_
  refine z_new C G clX1 (fs := [.null, .null, .int 0, .null, .int 0, .int 0, .int 0, .int 0, .int 0, .int 0, .int 0]) m_cl_RX11_38 m_in_RX1 m_ii_RX1 (fun j hj => by match j, hj with | 0, _ => rfl | 1, _ => rfl | 2, _ => rfl | 3, _ => rfl | 4, _ => rfl | 5, _ => rfl | 6, _ => rfl | 7, _ => rfl | 8, _ => rfl | 9, _ => rfl | 10, _ => rfl | j + 11, h => exact absurd h (by omega)) (Nat.le_of_ble_eq_true rfl) (Nat.le_of_ble_eq_true rfl) dX11_init_83 (fun q_108 H G => ?_)
  have G : zS T A s.heap s [[(xo, .inr (10, [.ref q_1, .ref q_23, .ref q_90, .ref q_91, .ref q_103, .null, .null, .null, .null, .null, .null]))], w_2, w1_9, w2_10, w3_11, w4_12, w5_13, w6_14, [zArq T 6 q_23 3 (va_up (va_up (va_up (fun _ => none) 0 (some q_24)) 1 (some q_46)) 2 (some q_68))], w_25, w1_32, w2_33, w3_34, w4_35, w5_36, w6_37, w_47, w1_54, w2_55, w3_56, w4_57, w5_58, w6_59, w_69, w1_76, w2_77, w3_78, w4_79, w5_80, w6_81, [zAr T 2 q_90 3 (fun _ => 0)], [zO7 q_91 rl_92 rdd_93 rg_94 0 0 tp_95 0 0 0 0 0 0 0], w1_96, w2_97, w3_98, w_104, [(q_108, .inr (1, [.null, .null, .int 0, .null, .int 0, .int 0, .int 0, .int 0, .int 0, .int 0, .int 0]))]] _ _ := G
  refine lv_dup hx hb dX11_init_86 rfl ?_
  refine z_Jv (bc := [[(q_108, .inr (1, [.null, .null, .int 0, .null, .int 0, .int 0, .int 0, .int 0, .int 0, .int 0, .int 0]))]]) (br := [[(xo, .inr (10, [.ref q_1, .ref q_23, .ref q_90, .ref q_91, .ref q_103, .null, .null, .null, .null, .null, .null]))], w_2, w1_9, w2_10, w3_11, w4_12, w5_13, w6_14, [zArq T 6 q_23 3 (va_up (va_up (va_up (fun _ => none) 0 (some q_24)) 1 (some q_46)) 2 (some q_68))], w_25, w1_32, w2_33, w3_34, w4_35, w5_36, w6_37, w_47, w1_54, w2_55, w3_56, w4_57, w5_58, w6_59, w_69, w1_76, w2_77, w3_78, w4_79, w5_80, w6_81, [zAr T 2 q_90 3 (fun _ => 0)], [zO7 q_91 rl_92 rdd_93 rg_94 0 0 tp_95 0 0 0 0 0 0 0], w1_96, w2_97, w3_98, w_104]) (As := []) (rest := [.ref q_108, .ref xo]) C G (c_Course_init l T q_108) (kJ_RX11_40 G.2.2.2.2.2.1 C.2.2.2.2 (Nat.le_of_ble_eq_true rfl) (Nat.le_of_ble_eq_true rfl)) [36] [36] rfl rfl rfl rfl hl.1 dX11_init_87 (Nat.le_of_ble_eq_true rfl) (Nat.le_of_ble_eq_true rfl) (fun b1 H locs hw G => ?_)
  refine zEx5 hw ?_
  intro w_109 po_110 lc_111 la_112 w1_113
  refine zCu3 ?_
  intro hbs9 h_114 h_115
  clear hw
  subst hbs9
  have G : zS T A s.heap s [[(xo, .inr (10, [.ref q_1, .ref q_23, .ref q_90, .ref q_91, .ref q_103, .null, .null, .null, .null, .null, .null]))], w_2, w1_9, w2_10, w3_11, w4_12, w5_13, w6_14, [zArq T 6 q_23 3 (va_up (va_up (va_up (fun _ => none) 0 (some q_24)) 1 (some q_46)) 2 (some q_68))], w_25, w1_32, w2_33, w3_34, w4_35, w5_36, w6_37, w_47, w1_54, w2_55, w3_56, w4_57, w5_58, w6_59, w_69, w1_76, w2_77, w3_78, w4_79, w5_80, w6_81, [zAr T 2 q_90 3 (fun _ => 0)], [zO7 q_91 rl_92 rdd_93 rg_94 0 0 tp_95 0 0 0 0 0 0 0], w1_96, w2_97, w3_98, w_104, w_109, w1_113] _ _ := G
  refine z_putF C G hnm clX11 0 rfl 5 (by decide) m_fl_RX11_41 rfl rfl rfl rfl (Nat.le_of_ble_eq_true rfl) dX11_init_90 (fun H locs G => ?_)
  have G : zS T A s.heap s [[(xo, .inr (10, [.ref q_1, .ref q_23, .ref q_90, .ref q_91, .ref q_103, .ref q_108, .null, .null, .null, .null, .null]))], w_2, w1_9, w2_10, w3_11, w4_12, w5_13, w6_14, [zArq T 6 q_23 3 (va_up (va_up (va_up (fun _ => none) 0 (some q_24)) 1 (some q_46)) 2 (some q_68))], w_25, w1_32, w2_33, w3_34, w4_35, w5_36, w6_37, w_47, w1_54, w2_55, w3_56, w4_57, w5_58, w6_59, w_69, w1_76, w2_77, w3_78, w4_79, w5_80, w6_81, [zAr T 2 q_90 3 (fun _ => 0)], [zO7 q_91 rl_92 rdd_93 rg_94 0 0 tp_95 0 0 0 0 0 0 0], w1_96, w2_97, w3_98, w_104, w_109, w1_113] _ _ := G
  refine lv_aload_n hx hb dX11_init_93 rfl (lv_at hl 0 rfl) ?_
  refine z_new C G clX10 (fs := [.null, .null, .null, .int 0, .int 0, .int 0, .int 0, .int 0]) m_cl_RX11_45 m_in_RX10 m_ii_RX10 (fun j hj => by match j, hj with | 0, _ => rfl | 1, _ => rfl | 2, _ => rfl | 3, _ => rfl | 4, _ => rfl | 5, _ => rfl | 6, _ => rfl | 7, _ => rfl | j + 8, h => exact absurd h (by omega)) (Nat.le_of_ble_eq_true rfl) (Nat.le_of_ble_eq_true rfl) dX11_init_94 (fun q_117 H G => ?_)
  have G : zS T A s.heap s [[(xo, .inr (10, [.ref q_1, .ref q_23, .ref q_90, .ref q_91, .ref q_103, .ref q_108, .null, .null, .null, .null, .null]))], w_2, w1_9, w2_10, w3_11, w4_12, w5_13, w6_14, [zArq T 6 q_23 3 (va_up (va_up (va_up (fun _ => none) 0 (some q_24)) 1 (some q_46)) 2 (some q_68))], w_25, w1_32, w2_33, w3_34, w4_35, w5_36, w6_37, w_47, w1_54, w2_55, w3_56, w4_57, w5_58, w6_59, w_69, w1_76, w2_77, w3_78, w4_79, w5_80, w6_81, [zAr T 2 q_90 3 (fun _ => 0)], [zO7 q_91 rl_92 rdd_93 rg_94 0 0 tp_95 0 0 0 0 0 0 0], w1_96, w2_97, w3_98, w_104, w_109, w1_113, [(q_117, .inr (9, [.null, .null, .null, .int 0, .int 0, .int 0, .int 0, .int 0]))]] _ _ := G
  refine lv_dup hx hb dX11_init_97 rfl ?_
  refine z_Jv (bc := [[(q_117, .inr (9, [.null, .null, .null, .int 0, .int 0, .int 0, .int 0, .int 0]))]]) (br := [[(xo, .inr (10, [.ref q_1, .ref q_23, .ref q_90, .ref q_91, .ref q_103, .ref q_108, .null, .null, .null, .null, .null]))], w_2, w1_9, w2_10, w3_11, w4_12, w5_13, w6_14, [zArq T 6 q_23 3 (va_up (va_up (va_up (fun _ => none) 0 (some q_24)) 1 (some q_46)) 2 (some q_68))], w_25, w1_32, w2_33, w3_34, w4_35, w5_36, w6_37, w_47, w1_54, w2_55, w3_56, w4_57, w5_58, w6_59, w_69, w1_76, w2_77, w3_78, w4_79, w5_80, w6_81, [zAr T 2 q_90 3 (fun _ => 0)], [zO7 q_91 rl_92 rdd_93 rg_94 0 0 tp_95 0 0 0 0 0 0 0], w1_96, w2_97, w3_98, w_104, w_109, w1_113]) (As := []) (rest := [.ref q_117, .ref xo]) C G (c_Trail_init l T q_117) (kJ_RX11_47 G.2.2.2.2.2.1 C.2.2.2.2 (Nat.le_of_ble_eq_true rfl) (Nat.le_of_ble_eq_true rfl)) [38] [38] rfl rfl rfl rfl hl.1 dX11_init_98 (Nat.le_of_ble_eq_true rfl) (Nat.le_of_ble_eq_true rfl) (fun b1 H locs hw G => ?_)
  refine zEx4 hw ?_
  intro w_118 po_119 la_120 w1_121
  refine zCu3 ?_
  intro hbs9 h_122 h_123
  clear hw
  subst hbs9
  have G : zS T A s.heap s [[(xo, .inr (10, [.ref q_1, .ref q_23, .ref q_90, .ref q_91, .ref q_103, .ref q_108, .null, .null, .null, .null, .null]))], w_2, w1_9, w2_10, w3_11, w4_12, w5_13, w6_14, [zArq T 6 q_23 3 (va_up (va_up (va_up (fun _ => none) 0 (some q_24)) 1 (some q_46)) 2 (some q_68))], w_25, w1_32, w2_33, w3_34, w4_35, w5_36, w6_37, w_47, w1_54, w2_55, w3_56, w4_57, w5_58, w6_59, w_69, w1_76, w2_77, w3_78, w4_79, w5_80, w6_81, [zAr T 2 q_90 3 (fun _ => 0)], [zO7 q_91 rl_92 rdd_93 rg_94 0 0 tp_95 0 0 0 0 0 0 0], w1_96, w2_97, w3_98, w_104, w_109, w1_113, w_118, w1_121] _ _ := G
  refine z_putF C G hnm clX11 0 rfl 6 (by decide) m_fl_RX11_48 rfl rfl rfl rfl (Nat.le_of_ble_eq_true rfl) dX11_init_101 (fun H locs G => ?_)
  have G : zS T A s.heap s [[(xo, .inr (10, [.ref q_1, .ref q_23, .ref q_90, .ref q_91, .ref q_103, .ref q_108, .ref q_117, .null, .null, .null, .null]))], w_2, w1_9, w2_10, w3_11, w4_12, w5_13, w6_14, [zArq T 6 q_23 3 (va_up (va_up (va_up (fun _ => none) 0 (some q_24)) 1 (some q_46)) 2 (some q_68))], w_25, w1_32, w2_33, w3_34, w4_35, w5_36, w6_37, w_47, w1_54, w2_55, w3_56, w4_57, w5_58, w6_59, w_69, w1_76, w2_77, w3_78, w4_79, w5_80, w6_81, [zAr T 2 q_90 3 (fun _ => 0)], [zO7 q_91 rl_92 rdd_93 rg_94 0 0 tp_95 0 0 0 0 0 0 0], w1_96, w2_97, w3_98, w_104, w_109, w1_113, w_118, w1_121] _ _ := G
  refine lv_aload_n hx hb dX11_init_104 rfl (lv_at hl 0 rfl) ?_
  refine z_new C G clX0 (fs := [.int 0, .int 0, .null, .int 0, .null, .null, .null, .null, .null, .null]) m_cl_RX11_52 m_in_RX0 m_ii_RX0 (fun j hj => by match j, hj with | 0, _ => rfl | 1, _ => rfl | 2, _ => rfl | 3, _ => rfl | 4, _ => rfl | 5, _ => rfl | 6, _ => rfl | 7, _ => rfl | 8, _ => rfl | 9, _ => rfl | j + 10, h => exact absurd h (by omega)) (Nat.le_of_ble_eq_true rfl) (Nat.le_of_ble_eq_true rfl) dX11_init_105 (fun q_125 H G => ?_)
  have G : zS T A s.heap s [[(xo, .inr (10, [.ref q_1, .ref q_23, .ref q_90, .ref q_91, .ref q_103, .ref q_108, .ref q_117, .null, .null, .null, .null]))], w_2, w1_9, w2_10, w3_11, w4_12, w5_13, w6_14, [zArq T 6 q_23 3 (va_up (va_up (va_up (fun _ => none) 0 (some q_24)) 1 (some q_46)) 2 (some q_68))], w_25, w1_32, w2_33, w3_34, w4_35, w5_36, w6_37, w_47, w1_54, w2_55, w3_56, w4_57, w5_58, w6_59, w_69, w1_76, w2_77, w3_78, w4_79, w5_80, w6_81, [zAr T 2 q_90 3 (fun _ => 0)], [zO7 q_91 rl_92 rdd_93 rg_94 0 0 tp_95 0 0 0 0 0 0 0], w1_96, w2_97, w3_98, w_104, w_109, w1_113, w_118, w1_121, [(q_125, .inr (0, [.int 0, .int 0, .null, .int 0, .null, .null, .null, .null, .null, .null]))]] _ _ := G
  refine lv_dup hx hb dX11_init_108 rfl ?_
  refine z_Jv (bc := [[(q_125, .inr (0, [.int 0, .int 0, .null, .int 0, .null, .null, .null, .null, .null, .null]))]]) (br := [[(xo, .inr (10, [.ref q_1, .ref q_23, .ref q_90, .ref q_91, .ref q_103, .ref q_108, .ref q_117, .null, .null, .null, .null]))], w_2, w1_9, w2_10, w3_11, w4_12, w5_13, w6_14, [zArq T 6 q_23 3 (va_up (va_up (va_up (fun _ => none) 0 (some q_24)) 1 (some q_46)) 2 (some q_68))], w_25, w1_32, w2_33, w3_34, w4_35, w5_36, w6_37, w_47, w1_54, w2_55, w3_56, w4_57, w5_58, w6_59, w_69, w1_76, w2_77, w3_78, w4_79, w5_80, w6_81, [zAr T 2 q_90 3 (fun _ => 0)], [zO7 q_91 rl_92 rdd_93 rg_94 0 0 tp_95 0 0 0 0 0 0 0], w1_96, w2_97, w3_98, w_104, w_109, w1_113, w_118, w1_121]) (As := []) (rest := [.ref q_125, .ref xo]) C G (c_Ways_init l T q_125) (kJ_RX11_54 G.2.2.2.2.2.1 C.2.2.2.2 (Nat.le_of_ble_eq_true rfl) (Nat.le_of_ble_eq_true rfl)) [40] [40] rfl rfl rfl rfl hl.1 dX11_init_109 (Nat.le_of_ble_eq_true rfl) (Nat.le_of_ble_eq_true rfl) (fun b1 H locs hw G => ?_)
  refine zEx2 hw ?_
  intro w_126 la_127
  refine zCu2 ?_
  intro hbs9 h_128
  clear hw
  subst hbs9
  have G : zS T A s.heap s [[(xo, .inr (10, [.ref q_1, .ref q_23, .ref q_90, .ref q_91, .ref q_103, .ref q_108, .ref q_117, .null, .null, .null, .null]))], w_2, w1_9, w2_10, w3_11, w4_12, w5_13, w6_14, [zArq T 6 q_23 3 (va_up (va_up (va_up (fun _ => none) 0 (some q_24)) 1 (some q_46)) 2 (some q_68))], w_25, w1_32, w2_33, w3_34, w4_35, w5_36, w6_37, w_47, w1_54, w2_55, w3_56, w4_57, w5_58, w6_59, w_69, w1_76, w2_77, w3_78, w4_79, w5_80, w6_81, [zAr T 2 q_90 3 (fun _ => 0)], [zO7 q_91 rl_92 rdd_93 rg_94 0 0 tp_95 0 0 0 0 0 0 0], w1_96, w2_97, w3_98, w_104, w_109, w1_113, w_118, w1_121, w_126] _ _ := G
  refine z_putF C G hnm clX11 0 rfl 7 (by decide) m_fl_RX11_55 rfl rfl rfl rfl (Nat.le_of_ble_eq_true rfl) dX11_init_112 (fun H locs G => ?_)
  have G : zS T A s.heap s [[(xo, .inr (10, [.ref q_1, .ref q_23, .ref q_90, .ref q_91, .ref q_103, .ref q_108, .ref q_117, .ref q_125, .null, .null, .null]))], w_2, w1_9, w2_10, w3_11, w4_12, w5_13, w6_14, [zArq T 6 q_23 3 (va_up (va_up (va_up (fun _ => none) 0 (some q_24)) 1 (some q_46)) 2 (some q_68))], w_25, w1_32, w2_33, w3_34, w4_35, w5_36, w6_37, w_47, w1_54, w2_55, w3_56, w4_57, w5_58, w6_59, w_69, w1_76, w2_77, w3_78, w4_79, w5_80, w6_81, [zAr T 2 q_90 3 (fun _ => 0)], [zO7 q_91 rl_92 rdd_93 rg_94 0 0 tp_95 0 0 0 0 0 0 0], w1_96, w2_97, w3_98, w_104, w_109, w1_113, w_118, w1_121, w_126] _ _ := G
  refine lv_aload_n hx hb dX11_init_115 rfl (lv_at hl 0 rfl) ?_
  refine z_new C G clX0 (fs := [.int 0, .int 0, .null, .int 0, .null, .null, .null, .null, .null, .null]) m_cl_RX11_52 m_in_RX0 m_ii_RX0 (fun j hj => by match j, hj with | 0, _ => rfl | 1, _ => rfl | 2, _ => rfl | 3, _ => rfl | 4, _ => rfl | 5, _ => rfl | 6, _ => rfl | 7, _ => rfl | 8, _ => rfl | 9, _ => rfl | j + 10, h => exact absurd h (by omega)) (Nat.le_of_ble_eq_true rfl) (Nat.le_of_ble_eq_true rfl) dX11_init_116 (fun q_130 H G => ?_)
  have G : zS T A s.heap s [[(xo, .inr (10, [.ref q_1, .ref q_23, .ref q_90, .ref q_91, .ref q_103, .ref q_108, .ref q_117, .ref q_125, .null, .null, .null]))], w_2, w1_9, w2_10, w3_11, w4_12, w5_13, w6_14, [zArq T 6 q_23 3 (va_up (va_up (va_up (fun _ => none) 0 (some q_24)) 1 (some q_46)) 2 (some q_68))], w_25, w1_32, w2_33, w3_34, w4_35, w5_36, w6_37, w_47, w1_54, w2_55, w3_56, w4_57, w5_58, w6_59, w_69, w1_76, w2_77, w3_78, w4_79, w5_80, w6_81, [zAr T 2 q_90 3 (fun _ => 0)], [zO7 q_91 rl_92 rdd_93 rg_94 0 0 tp_95 0 0 0 0 0 0 0], w1_96, w2_97, w3_98, w_104, w_109, w1_113, w_118, w1_121, w_126, [(q_130, .inr (0, [.int 0, .int 0, .null, .int 0, .null, .null, .null, .null, .null, .null]))]] _ _ := G
  refine lv_dup hx hb dX11_init_119 rfl ?_
  refine z_Jv (bc := [[(q_130, .inr (0, [.int 0, .int 0, .null, .int 0, .null, .null, .null, .null, .null, .null]))]]) (br := [[(xo, .inr (10, [.ref q_1, .ref q_23, .ref q_90, .ref q_91, .ref q_103, .ref q_108, .ref q_117, .ref q_125, .null, .null, .null]))], w_2, w1_9, w2_10, w3_11, w4_12, w5_13, w6_14, [zArq T 6 q_23 3 (va_up (va_up (va_up (fun _ => none) 0 (some q_24)) 1 (some q_46)) 2 (some q_68))], w_25, w1_32, w2_33, w3_34, w4_35, w5_36, w6_37, w_47, w1_54, w2_55, w3_56, w4_57, w5_58, w6_59, w_69, w1_76, w2_77, w3_78, w4_79, w5_80, w6_81, [zAr T 2 q_90 3 (fun _ => 0)], [zO7 q_91 rl_92 rdd_93 rg_94 0 0 tp_95 0 0 0 0 0 0 0], w1_96, w2_97, w3_98, w_104, w_109, w1_113, w_118, w1_121, w_126]) (As := []) (rest := [.ref q_130, .ref xo]) C G (c_Ways_init l T q_130) (kJ_RX11_54 G.2.2.2.2.2.1 C.2.2.2.2 (Nat.le_of_ble_eq_true rfl) (Nat.le_of_ble_eq_true rfl)) [41] [41] rfl rfl rfl rfl hl.1 dX11_init_120 (Nat.le_of_ble_eq_true rfl) (Nat.le_of_ble_eq_true rfl) (fun b1 H locs hw G => ?_)
  refine zEx2 hw ?_
  intro w_131 la_132
  refine zCu2 ?_
  intro hbs9 h_133
  clear hw
  subst hbs9
  have G : zS T A s.heap s [[(xo, .inr (10, [.ref q_1, .ref q_23, .ref q_90, .ref q_91, .ref q_103, .ref q_108, .ref q_117, .ref q_125, .null, .null, .null]))], w_2, w1_9, w2_10, w3_11, w4_12, w5_13, w6_14, [zArq T 6 q_23 3 (va_up (va_up (va_up (fun _ => none) 0 (some q_24)) 1 (some q_46)) 2 (some q_68))], w_25, w1_32, w2_33, w3_34, w4_35, w5_36, w6_37, w_47, w1_54, w2_55, w3_56, w4_57, w5_58, w6_59, w_69, w1_76, w2_77, w3_78, w4_79, w5_80, w6_81, [zAr T 2 q_90 3 (fun _ => 0)], [zO7 q_91 rl_92 rdd_93 rg_94 0 0 tp_95 0 0 0 0 0 0 0], w1_96, w2_97, w3_98, w_104, w_109, w1_113, w_118, w1_121, w_126, w_131] _ _ := G
  refine z_putF C G hnm clX11 0 rfl 8 (by decide) m_fl_RX11_59 rfl rfl rfl rfl (Nat.le_of_ble_eq_true rfl) dX11_init_123 (fun H locs G => ?_)
  have G : zS T A s.heap s [[(xo, .inr (10, [.ref q_1, .ref q_23, .ref q_90, .ref q_91, .ref q_103, .ref q_108, .ref q_117, .ref q_125, .ref q_130, .null, .null]))], w_2, w1_9, w2_10, w3_11, w4_12, w5_13, w6_14, [zArq T 6 q_23 3 (va_up (va_up (va_up (fun _ => none) 0 (some q_24)) 1 (some q_46)) 2 (some q_68))], w_25, w1_32, w2_33, w3_34, w4_35, w5_36, w6_37, w_47, w1_54, w2_55, w3_56, w4_57, w5_58, w6_59, w_69, w1_76, w2_77, w3_78, w4_79, w5_80, w6_81, [zAr T 2 q_90 3 (fun _ => 0)], [zO7 q_91 rl_92 rdd_93 rg_94 0 0 tp_95 0 0 0 0 0 0 0], w1_96, w2_97, w3_98, w_104, w_109, w1_113, w_118, w1_121, w_126, w_131] _ _ := G
  refine lv_aload_n hx hb dX11_init_126 rfl (lv_at hl 0 rfl) ?_
  refine z_new C G clX3 (fs := [.int 0, .int 0, .int 0, .int 0, .int 0, .int 0, .null, .null]) m_cl_RX11_62 m_in_RX3 m_ii_RX3 (fun j hj => by match j, hj with | 0, _ => rfl | 1, _ => rfl | 2, _ => rfl | 3, _ => rfl | 4, _ => rfl | 5, _ => rfl | 6, _ => rfl | 7, _ => rfl | j + 8, h => exact absurd h (by omega)) (Nat.le_of_ble_eq_true rfl) (Nat.le_of_ble_eq_true rfl) dX11_init_127 (fun q_135 H G => ?_)
  have G : zS T A s.heap s [[(xo, .inr (10, [.ref q_1, .ref q_23, .ref q_90, .ref q_91, .ref q_103, .ref q_108, .ref q_117, .ref q_125, .ref q_130, .null, .null]))], w_2, w1_9, w2_10, w3_11, w4_12, w5_13, w6_14, [zArq T 6 q_23 3 (va_up (va_up (va_up (fun _ => none) 0 (some q_24)) 1 (some q_46)) 2 (some q_68))], w_25, w1_32, w2_33, w3_34, w4_35, w5_36, w6_37, w_47, w1_54, w2_55, w3_56, w4_57, w5_58, w6_59, w_69, w1_76, w2_77, w3_78, w4_79, w5_80, w6_81, [zAr T 2 q_90 3 (fun _ => 0)], [zO7 q_91 rl_92 rdd_93 rg_94 0 0 tp_95 0 0 0 0 0 0 0], w1_96, w2_97, w3_98, w_104, w_109, w1_113, w_118, w1_121, w_126, w_131, [(q_135, .inr (3, [.int 0, .int 0, .int 0, .int 0, .int 0, .int 0, .null, .null]))]] _ _ := G
  refine lv_dup hx hb dX11_init_130 rfl ?_
  refine z_Jv (bc := [[(q_135, .inr (3, [.int 0, .int 0, .int 0, .int 0, .int 0, .int 0, .null, .null]))]]) (br := [[(xo, .inr (10, [.ref q_1, .ref q_23, .ref q_90, .ref q_91, .ref q_103, .ref q_108, .ref q_117, .ref q_125, .ref q_130, .null, .null]))], w_2, w1_9, w2_10, w3_11, w4_12, w5_13, w6_14, [zArq T 6 q_23 3 (va_up (va_up (va_up (fun _ => none) 0 (some q_24)) 1 (some q_46)) 2 (some q_68))], w_25, w1_32, w2_33, w3_34, w4_35, w5_36, w6_37, w_47, w1_54, w2_55, w3_56, w4_57, w5_58, w6_59, w_69, w1_76, w2_77, w3_78, w4_79, w5_80, w6_81, [zAr T 2 q_90 3 (fun _ => 0)], [zO7 q_91 rl_92 rdd_93 rg_94 0 0 tp_95 0 0 0 0 0 0 0], w1_96, w2_97, w3_98, w_104, w_109, w1_113, w_118, w1_121, w_126, w_131]) (As := []) (rest := [.ref q_135, .ref xo]) C G (c_Fit_init l T q_135) (kJ_RX11_64 G.2.2.2.2.2.1 C.2.2.2.2 (Nat.le_of_ble_eq_true rfl) (Nat.le_of_ble_eq_true rfl)) [42] [42] rfl rfl rfl rfl hl.1 dX11_init_131 (Nat.le_of_ble_eq_true rfl) (Nat.le_of_ble_eq_true rfl) (fun b1 H locs hw G => ?_)
  refine zEx1 hw ?_
  intro w_136
  refine zCu2 ?_
  intro hbs9 h_137
  clear hw
  subst hbs9
  have G : zS T A s.heap s [[(xo, .inr (10, [.ref q_1, .ref q_23, .ref q_90, .ref q_91, .ref q_103, .ref q_108, .ref q_117, .ref q_125, .ref q_130, .null, .null]))], w_2, w1_9, w2_10, w3_11, w4_12, w5_13, w6_14, [zArq T 6 q_23 3 (va_up (va_up (va_up (fun _ => none) 0 (some q_24)) 1 (some q_46)) 2 (some q_68))], w_25, w1_32, w2_33, w3_34, w4_35, w5_36, w6_37, w_47, w1_54, w2_55, w3_56, w4_57, w5_58, w6_59, w_69, w1_76, w2_77, w3_78, w4_79, w5_80, w6_81, [zAr T 2 q_90 3 (fun _ => 0)], [zO7 q_91 rl_92 rdd_93 rg_94 0 0 tp_95 0 0 0 0 0 0 0], w1_96, w2_97, w3_98, w_104, w_109, w1_113, w_118, w1_121, w_126, w_131, w_136] _ _ := G
  refine z_putF C G hnm clX11 0 rfl 9 (by decide) m_fl_RX11_65 rfl rfl rfl rfl (Nat.le_of_ble_eq_true rfl) dX11_init_134 (fun H locs G => ?_)
  have G : zS T A s.heap s [[(xo, .inr (10, [.ref q_1, .ref q_23, .ref q_90, .ref q_91, .ref q_103, .ref q_108, .ref q_117, .ref q_125, .ref q_130, .ref q_135, .null]))], w_2, w1_9, w2_10, w3_11, w4_12, w5_13, w6_14, [zArq T 6 q_23 3 (va_up (va_up (va_up (fun _ => none) 0 (some q_24)) 1 (some q_46)) 2 (some q_68))], w_25, w1_32, w2_33, w3_34, w4_35, w5_36, w6_37, w_47, w1_54, w2_55, w3_56, w4_57, w5_58, w6_59, w_69, w1_76, w2_77, w3_78, w4_79, w5_80, w6_81, [zAr T 2 q_90 3 (fun _ => 0)], [zO7 q_91 rl_92 rdd_93 rg_94 0 0 tp_95 0 0 0 0 0 0 0], w1_96, w2_97, w3_98, w_104, w_109, w1_113, w_118, w1_121, w_126, w_131, w_136] _ _ := G
  refine lv_aload_n hx hb dX11_init_137 rfl (lv_at hl 0 rfl) ?_
  refine lv_sipush (v := 1000) hx hb dX11_init_138 (by decide) ?_
  refine z_newa C G 0 (ty := .int) (N' := 1000) (a0 := (1000, .inl (fun _ => 0))) rfl z_uint m_ar_int rfl (fun _ => rfl) (by decide) (by decide) (Nat.le_of_ble_eq_true rfl) (Nat.le_of_ble_eq_true rfl) (Nat.le_of_ble_eq_true rfl) dX11_init_141 (fun q_139 H G => ?_)
  have G : zS T A s.heap s [[(xo, .inr (10, [.ref q_1, .ref q_23, .ref q_90, .ref q_91, .ref q_103, .ref q_108, .ref q_117, .ref q_125, .ref q_130, .ref q_135, .null]))], w_2, w1_9, w2_10, w3_11, w4_12, w5_13, w6_14, [zArq T 6 q_23 3 (va_up (va_up (va_up (fun _ => none) 0 (some q_24)) 1 (some q_46)) 2 (some q_68))], w_25, w1_32, w2_33, w3_34, w4_35, w5_36, w6_37, w_47, w1_54, w2_55, w3_56, w4_57, w5_58, w6_59, w_69, w1_76, w2_77, w3_78, w4_79, w5_80, w6_81, [zAr T 2 q_90 3 (fun _ => 0)], [zO7 q_91 rl_92 rdd_93 rg_94 0 0 tp_95 0 0 0 0 0 0 0], w1_96, w2_97, w3_98, w_104, w_109, w1_113, w_118, w1_121, w_126, w_131, w_136, [zAr T 0 q_139 1000 (fun _ => 0)]] _ _ := G
  refine z_putF C G hnm clX11 0 rfl 10 (by decide) m_fl_RX11_69 rfl rfl rfl rfl (Nat.le_of_ble_eq_true rfl) dX11_init_143 (fun H locs G => ?_)
  have G : zS T A s.heap s [[zO10 xo q_1 q_23 q_90 q_91 q_103 q_108 q_117 q_125 q_130 q_135 q_139], w_2, w1_9, w2_10, w3_11, w4_12, w5_13, w6_14, [zArq T 6 q_23 3 (va_up (va_up (va_up (fun _ => none) 0 (some q_24)) 1 (some q_46)) 2 (some q_68))], w_25, w1_32, w2_33, w3_34, w4_35, w5_36, w6_37, w_47, w1_54, w2_55, w3_56, w4_57, w5_58, w6_59, w_69, w1_76, w2_77, w3_78, w4_79, w5_80, w6_81, [zAr T 2 q_90 3 (fun _ => 0)], [zO7 q_91 rl_92 rdd_93 rg_94 0 0 tp_95 0 0 0 0 0 0 0], w1_96, w2_97, w3_98, w_104, w_109, w1_113, w_118, w1_121, w_126, w_131, w_136, [zAr T 0 q_139 1000 (fun _ => 0)]] _ _ := G
  have G := G.sub (bs' := [[zO10 xo q_1 q_23 q_90 q_91 q_103 q_108 q_117 q_125 q_130 q_135 q_139], w_2, w1_9, w2_10, w3_11, w4_12, w5_13, w6_14, w_25, w1_32, w2_33, w3_34, w4_35, w5_36, w6_37, w_47, w1_54, w2_55, w3_56, w4_57, w5_58, w6_59, w_69, w1_76, w2_77, w3_78, w4_79, w5_80, w6_81, [zArq T 6 q_23 3 (va_up (va_up (va_up (fun _ => none) 0 (some q_24)) 1 (some q_46)) 2 (some q_68))], [zAr T 2 q_90 3 (fun _ => 0)], [zO7 q_91 rl_92 rdd_93 rg_94 0 0 tp_95 0 0 0 0 0 0 0], w1_96, w2_97, w3_98, w_104, w_109, w1_113, w_118, w1_121, w_126, w_131, w_136, [zAr T 0 q_139 1000 (fun _ => 0)]]) [0, 1, 2, 3, 4, 5, 6, 7, 9, 10, 11, 12, 13, 14, 15, 16, 17, 18, 19, 20, 21, 22, 23, 24, 25, 26, 27, 28, 29, 8, 30, 31, 32, 33, 34, 35, 36, 37, 38, 39, 40, 41, 42, 43] rfl
  exact z_back hQz_ (z_vret C hr hlocks G (Nat.le_of_ble_eq_true rfl) (Nat.le_of_ble_eq_true rfl) dX11_init_146 ⟨q_1, q_23, q_90, q_91, q_103, q_108, q_117, q_125, q_130, q_135, q_139, l0_3, l1_4, d0_5, d1_6, g0_7, g1_8, w_2, w1_9, w2_10, w3_11, w4_12, w5_13, w6_14, q_24, l0_26, l1_27, d0_28, d1_29, g0_30, g1_31, w_25, w1_32, w2_33, w3_34, w4_35, w5_36, w6_37, q_46, l0_48, l1_49, d0_50, d1_51, g0_52, g1_53, w_47, w1_54, w2_55, w3_56, w4_57, w5_58, w6_59, q_68, l0_70, l1_71, d0_72, d1_73, g0_74, g1_75, w_69, w1_76, w2_77, w3_78, w4_79, w5_80, w6_81, (va_up (va_up (va_up (fun _ => none) 0 (some q_24)) 1 (some q_46)) 2 (some q_68)), rl_92, rdd_93, rg_94, tp_95, w1_96, w2_97, w3_98, la_105, w_104, po_110, lc_111, w_109, la_112, w1_113, po_119, w_118, la_120, w1_121, la_127, w_126, la_132, w_131, w_136, rfl, h_15, h_16, h_17, h_18, h_19, h_20, h_21, h_38, h_39, h_40, h_41, h_42, h_43, h_44, h_60, h_61, h_62, h_63, h_64, h_65, h_66, h_82, h_83, h_84, h_85, h_86, h_87, h_88, rfl, rfl, rfl, h_99, h_100, h_101, h_106, h_114, h_115, h_122, h_123, h_128, h_133, h_137⟩)
theorem m_co_X3_find : Cond.code yX3_find cX3_find 4 none ∈ zT := zmem1 zsub_5 117 rfl rfl
theorem m_ml_RX11_298 : Cond.methodLink RX11 298 yX3_find ∈ zT := zmem1 zsub_5 114 rfl rfl
theorem m_im_X3_find : Cond.instanceMethod yX3_find ∈ zT := zmem1 zsub_5 115 rfl rfl
theorem m_se_X3_find : Cond.selects RX3 yX3_find yX3_find ∈ zT := zmem1 zsub_5 116 rfl rfl
theorem m_fl_RX11_292 : Cond.fieldLink RX11 292 (TX3 1).1 (TX3 1).2.1 (TX3 1).2.2.1 ∈ zT := zmem1 zsub_2 148 rfl rfl
theorem m_fl_RX11_295 : Cond.fieldLink RX11 295 (TX3 2).1 (TX3 2).2.1 (TX3 2).2.2.1 ∈ zT := zmem1 zsub_2 150 rfl rfl
theorem kV_RX11_298 {R : Room} {s : State} {args : Array Value} {d mc ms : Nat} (hts : ∀ w ∈ zT, w.before args s = true) (h1 : d + 1 ≤ R.frames) (h2 : 8 + (4 + 11) + 40 * d ≤ R.locals) : CallW R s args RX11 RX3 298 yX3_find cX3_find 4 none (zW yX3_find cX3_find 4 none) (zR d mc ms) mc ms 2 := z_cwV hts m_co_X3_find m_ml_RX11_298 m_im_X3_find m_se_X3_find m_ii_RX3 (by decide +kernel) h1 h2
theorem dX11_fit_0 : decode cX11_fit 0 = .ok (.aload_n 0, 1) := zo_42 (by decide +kernel)
theorem dX11_fit_1 : decode cX11_fit 1 = .ok (.getfield 10, 3) := zo_180 (by decide +kernel)
theorem dX11_fit_4 : decode cX11_fit 4 = .ok (.iload_n 1, 1) := zo_27 (by decide +kernel)
theorem dX11_fit_5 : decode cX11_fit 5 = .ok (.invokevirtual 121, 3) := zo_182 (by decide +kernel)
theorem dX11_fit_8 : decode cX11_fit 8 = .ok (.astore_n 3, 1) := zo_78 (by decide +kernel)
theorem dX11_fit_9 : decode cX11_fit 9 = .ok (.aload_n 0, 1) := zo_42 (by decide +kernel)
theorem dX11_fit_10 : decode cX11_fit 10 = .ok (.getfield 10, 3) := zo_180 (by decide +kernel)
theorem dX11_fit_13 : decode cX11_fit 13 = .ok (.iload_n 2, 1) := zo_28 (by decide +kernel)
theorem dX11_fit_14 : decode cX11_fit 14 = .ok (.invokevirtual 138, 3) := zo_182 (by decide +kernel)
theorem dX11_fit_17 : decode cX11_fit 17 = .ok (.astore 4, 2) := zo_58 (by decide +kernel)
theorem dX11_fit_19 : decode cX11_fit 19 = .ok (.aload_n 3, 1) := zo_45 (by decide +kernel)
theorem dX11_fit_20 : decode cX11_fit 20 = .ok (.ifnull 8, 3) := zo_198 (by decide +kernel)
theorem dX11_fit_23 : decode cX11_fit 23 = .ok (.aload 4, 2) := zo_25 (by decide +kernel)
theorem dX11_fit_25 : decode cX11_fit 25 = .ok (.ifnonnull 5, 3) := zo_199 (by decide +kernel)
theorem dX11_fit_28 : decode cX11_fit 28 = .ok (.iconst 0, 1) := zo_3 (by decide +kernel)
theorem dX11_fit_29 : decode cX11_fit 29 = .ok (.ireturn, 1) := zo_172 (by decide +kernel)
theorem dX11_fit_30 : decode cX11_fit 30 = .ok (.aload_n 0, 1) := zo_42 (by decide +kernel)
theorem dX11_fit_31 : decode cX11_fit 31 = .ok (.getfield 65, 3) := zo_180 (by decide +kernel)
theorem dX11_fit_34 : decode cX11_fit 34 = .ok (.getfield 109, 3) := zo_180 (by decide +kernel)
theorem dX11_fit_37 : decode cX11_fit 37 = .ok (.ifCond .eq 25, 3) := zo_153 (by decide +kernel)
theorem dX11_fit_40 : decode cX11_fit 40 = .ok (.aload_n 0, 1) := zo_42 (by decide +kernel)
theorem dX11_fit_41 : decode cX11_fit 41 = .ok (.getfield 65, 3) := zo_180 (by decide +kernel)
theorem dX11_fit_44 : decode cX11_fit 44 = .ok (.getfield 292, 3) := zo_180 (by decide +kernel)
theorem dX11_fit_47 : decode cX11_fit 47 = .ok (.iload_n 1, 1) := zo_27 (by decide +kernel)
theorem dX11_fit_48 : decode cX11_fit 48 = .ok (.if_icmp .ne 14, 3) := zo_160 (by decide +kernel)
theorem dX11_fit_51 : decode cX11_fit 51 = .ok (.aload_n 0, 1) := zo_42 (by decide +kernel)
theorem dX11_fit_52 : decode cX11_fit 52 = .ok (.getfield 65, 3) := zo_180 (by decide +kernel)
theorem dX11_fit_55 : decode cX11_fit 55 = .ok (.getfield 295, 3) := zo_180 (by decide +kernel)
theorem dX11_fit_58 : decode cX11_fit 58 = .ok (.iload_n 2, 1) := zo_28 (by decide +kernel)
theorem dX11_fit_59 : decode cX11_fit 59 = .ok (.if_icmp .eq 42, 3) := zo_159 (by decide +kernel)
theorem dX11_fit_62 : decode cX11_fit 62 = .ok (.aload_n 0, 1) := zo_42 (by decide +kernel)
theorem dX11_fit_63 : decode cX11_fit 63 = .ok (.getfield 65, 3) := zo_180 (by decide +kernel)
theorem dX11_fit_66 : decode cX11_fit 66 = .ok (.aload_n 0, 1) := zo_42 (by decide +kernel)
theorem dX11_fit_67 : decode cX11_fit 67 = .ok (.iload_n 1, 1) := zo_27 (by decide +kernel)
theorem dX11_fit_68 : decode cX11_fit 68 = .ok (.aload_n 3, 1) := zo_45 (by decide +kernel)
theorem dX11_fit_69 : decode cX11_fit 69 = .ok (.invokevirtual 235, 3) := zo_182 (by decide +kernel)
theorem dX11_fit_72 : decode cX11_fit 72 = .ok (.aload 4, 2) := zo_25 (by decide +kernel)
theorem dX11_fit_74 : decode cX11_fit 74 = .ok (.invokevirtual 298, 3) := zo_182 (by decide +kernel)
theorem dX11_fit_77 : decode cX11_fit 77 = .ok (.aload_n 0, 1) := zo_42 (by decide +kernel)
theorem dX11_fit_78 : decode cX11_fit 78 = .ok (.getfield 65, 3) := zo_180 (by decide +kernel)
theorem dX11_fit_81 : decode cX11_fit 81 = .ok (.iload_n 1, 1) := zo_27 (by decide +kernel)
theorem dX11_fit_82 : decode cX11_fit 82 = .ok (.putfield 292, 3) := zo_181 (by decide +kernel)
theorem dX11_fit_85 : decode cX11_fit 85 = .ok (.aload_n 0, 1) := zo_42 (by decide +kernel)
theorem dX11_fit_86 : decode cX11_fit 86 = .ok (.getfield 65, 3) := zo_180 (by decide +kernel)
theorem dX11_fit_89 : decode cX11_fit 89 = .ok (.iload_n 2, 1) := zo_28 (by decide +kernel)
theorem dX11_fit_90 : decode cX11_fit 90 = .ok (.putfield 295, 3) := zo_181 (by decide +kernel)
theorem dX11_fit_93 : decode cX11_fit 93 = .ok (.aload_n 0, 1) := zo_42 (by decide +kernel)
theorem dX11_fit_94 : decode cX11_fit 94 = .ok (.getfield 65, 3) := zo_180 (by decide +kernel)
theorem dX11_fit_97 : decode cX11_fit 97 = .ok (.iconst 1, 1) := zo_4 (by decide +kernel)
theorem dX11_fit_98 : decode cX11_fit 98 = .ok (.putfield 109, 3) := zo_181 (by decide +kernel)
theorem dX11_fit_101 : decode cX11_fit 101 = .ok (.iconst 1, 1) := zo_4 (by decide +kernel)
theorem dX11_fit_102 : decode cX11_fit 102 = .ok (.ireturn, 1) := zo_172 (by decide +kernel)
def zNF (c : Prop) [Decidable c] (n : Nat) (wy : Int32) : Nat := if c then zFl n wy else n
theorem zNF_y {c : Prop} [Decidable c] {n : Nat} {wy : Int32} (h : c) : zNF c n wy = zFl n wy := if_pos h
theorem zNF_n {c : Prop} [Decidable c] {n : Nat} {wy : Int32} (h : ¬ c) : zNF c n wy = n := if_neg h
theorem m_co_X11_fit : Cond.code yX11_fit cX11_fit 5 (some .boolean) ∈ zT := zmem1 zsub_5 113 rfl rfl
theorem m_ml_RX11_302 : Cond.methodLink RX11 302 yX11_fit ∈ zT := zmem1 zsub_5 110 rfl rfl
theorem m_im_X11_fit : Cond.instanceMethod yX11_fit ∈ zT := zmem1 zsub_5 112 rfl rfl
theorem m_se_X11_fit : Cond.selects RX11 yX11_fit yX11_fit ∈ zT := zmem 41 rfl rfl
theorem m_fl_RX11_306 : Cond.fieldLink RX11 306 (TX3 3).1 (TX3 3).2.1 (TX3 3).2.2.1 ∈ zT := zmem1 zsub_2 152 rfl rfl
theorem m_fl_RX11_327 : Cond.fieldLink RX11 327 (TX3 4).1 (TX3 4).2.1 (TX3 4).2.2.1 ∈ zT := zmem1 zsub_2 154 rfl rfl
theorem m_fl_RX11_324 : Cond.fieldLink RX11 324 (TX3 5).1 (TX3 5).2.1 (TX3 5).2.2.1 ∈ zT := zmem1 zsub_2 156 rfl rfl
theorem m_ml_RX11_317 : Cond.methodLink RX11 317 yX3_way ∈ zT := zmem1 zsub_5 157 rfl rfl
theorem m_co_X3_sure : Cond.code yX3_sure cX3_sure 4 (some .int) ∈ zT := zmem1 zsub_5 147 rfl rfl
theorem m_ml_RX11_313 : Cond.methodLink RX11 313 yX3_sure ∈ zT := zmem1 zsub_5 144 rfl rfl
theorem m_im_X3_sure : Cond.instanceMethod yX3_sure ∈ zT := zmem1 zsub_5 145 rfl rfl
theorem m_se_X3_sure : Cond.selects RX3 yX3_sure yX3_sure ∈ zT := zmem1 zsub_5 146 rfl rfl
theorem m_co_X3_ask : Cond.code yX3_ask cX3_ask 6 (some .int) ∈ zT := zmem1 zsub_5 139 rfl rfl
theorem m_ml_RX11_309 : Cond.methodLink RX11 309 yX3_ask ∈ zT := zmem1 zsub_5 136 rfl rfl
theorem m_im_X3_ask : Cond.instanceMethod yX3_ask ∈ zT := zmem1 zsub_5 137 rfl rfl
theorem m_se_X3_ask : Cond.selects RX3 yX3_ask yX3_ask ∈ zT := zmem1 zsub_5 138 rfl rfl
theorem m_ml_RX11_320 : Cond.methodLink RX11 320 yX3_pointing ∈ zT := zmem1 zsub_5 162 rfl rfl
theorem kV_RX11_302 {R : Room} {s : State} {args : Array Value} {d mc ms : Nat} (hts : ∀ w ∈ zT, w.before args s = true) (h1 : d + 1 ≤ R.frames) (h2 : 8 + (5 + 11) + 40 * d ≤ R.locals) : CallW R s args RX11 RX11 302 yX11_fit cX11_fit 5 (some .boolean) (zW yX11_fit cX11_fit 5 (some .boolean)) (zR d mc ms) mc ms 2 := z_cwV hts m_co_X11_fit m_ml_RX11_302 m_im_X11_fit m_se_X11_fit m_ii_RX11 (by decide +kernel) h1 h2
theorem kV_RX11_317 {R : Room} {s : State} {args : Array Value} {d mc ms : Nat} (hts : ∀ w ∈ zT, w.before args s = true) (h1 : d + 1 ≤ R.frames) (h2 : 8 + (2 + 11) + 40 * d ≤ R.locals) : CallW R s args RX11 RX3 317 yX3_way cX3_way 2 (some .int) (zW yX3_way cX3_way 2 (some .int)) (zR d mc ms) mc ms 1 := z_cwV hts m_co_X3_way m_ml_RX11_317 m_im_X3_way m_se_X3_way m_ii_RX3 (by decide +kernel) h1 h2
theorem kV_RX11_313 {R : Room} {s : State} {args : Array Value} {d mc ms : Nat} (hts : ∀ w ∈ zT, w.before args s = true) (h1 : d + 1 ≤ R.frames) (h2 : 8 + (4 + 11) + 40 * d ≤ R.locals) : CallW R s args RX11 RX3 313 yX3_sure cX3_sure 4 (some .int) (zW yX3_sure cX3_sure 4 (some .int)) (zR d mc ms) mc ms 2 := z_cwV hts m_co_X3_sure m_ml_RX11_313 m_im_X3_sure m_se_X3_sure m_ii_RX3 (by decide +kernel) h1 h2
theorem kV_RX11_309 {R : Room} {s : State} {args : Array Value} {d mc ms : Nat} (hts : ∀ w ∈ zT, w.before args s = true) (h1 : d + 1 ≤ R.frames) (h2 : 8 + (6 + 11) + 40 * d ≤ R.locals) : CallW R s args RX11 RX3 309 yX3_ask cX3_ask 6 (some .int) (zW yX3_ask cX3_ask 6 (some .int)) (zR d mc ms) mc ms 1 := z_cwV hts m_co_X3_ask m_ml_RX11_309 m_im_X3_ask m_se_X3_ask m_ii_RX3 (by decide +kernel) h1 h2
theorem kV_RX11_320 {R : Room} {s : State} {args : Array Value} {d mc ms : Nat} (hts : ∀ w ∈ zT, w.before args s = true) (h1 : d + 1 ≤ R.frames) (h2 : 8 + (6 + 11) + 40 * d ≤ R.locals) : CallW R s args RX11 RX3 320 yX3_pointing cX3_pointing 6 (some .int) (zW yX3_pointing cX3_pointing 6 (some .int)) (zR d mc ms) mc ms 3 := z_cwV hts m_co_X3_pointing m_ml_RX11_320 m_im_X3_pointing m_se_X3_pointing m_ii_RX3 (by decide +kernel) h1 h2
theorem dX11_least_0 : decode cX11_least 0 = .ok (.aload_n 0, 1) := zo_42 (by decide +kernel)
theorem dX11_least_1 : decode cX11_least 1 = .ok (.iload_n 1, 1) := zo_27 (by decide +kernel)
theorem dX11_least_2 : decode cX11_least 2 = .ok (.iload_n 2, 1) := zo_28 (by decide +kernel)
theorem dX11_least_3 : decode cX11_least 3 = .ok (.invokevirtual 302, 3) := zo_182 (by decide +kernel)
theorem dX11_least_6 : decode cX11_least 6 = .ok (.ifCond .eq 13, 3) := zo_153 (by decide +kernel)
theorem dX11_least_9 : decode cX11_least 9 = .ok (.aload_n 0, 1) := zo_42 (by decide +kernel)
theorem dX11_least_10 : decode cX11_least 10 = .ok (.getfield 65, 3) := zo_180 (by decide +kernel)
theorem dX11_least_13 : decode cX11_least 13 = .ok (.getfield 306, 3) := zo_180 (by decide +kernel)
theorem dX11_least_16 : decode cX11_least 16 = .ok (.ifCond .ne 5, 3) := zo_154 (by decide +kernel)
theorem dX11_least_19 : decode cX11_least 19 = .ok (.iconst (-1), 1) := zo_2 (by decide +kernel)
theorem dX11_least_20 : decode cX11_least 20 = .ok (.ireturn, 1) := zo_172 (by decide +kernel)
theorem dX11_least_21 : decode cX11_least 21 = .ok (.iload_n 3, 1) := zo_29 (by decide +kernel)
theorem dX11_least_22 : decode cX11_least 22 = .ok (.ifCond .eq 13, 3) := zo_153 (by decide +kernel)
theorem dX11_least_25 : decode cX11_least 25 = .ok (.aload_n 0, 1) := zo_42 (by decide +kernel)
theorem dX11_least_26 : decode cX11_least 26 = .ok (.getfield 65, 3) := zo_180 (by decide +kernel)
theorem dX11_least_29 : decode cX11_least 29 = .ok (.getfield 324, 3) := zo_180 (by decide +kernel)
theorem dX11_least_32 : decode cX11_least 32 = .ok (.goto 10, 3) := zo_167 (by decide +kernel)
theorem dX11_least_35 : decode cX11_least 35 = .ok (.aload_n 0, 1) := zo_42 (by decide +kernel)
theorem dX11_least_36 : decode cX11_least 36 = .ok (.getfield 65, 3) := zo_180 (by decide +kernel)
theorem dX11_least_39 : decode cX11_least 39 = .ok (.getfield 327, 3) := zo_180 (by decide +kernel)
theorem dX11_least_42 : decode cX11_least 42 = .ok (.ireturn, 1) := zo_172 (by decide +kernel)
theorem dX11_fits_0 : decode cX11_fits 0 = .ok (.aload_n 0, 1) := zo_42 (by decide +kernel)
theorem dX11_fits_1 : decode cX11_fits 1 = .ok (.getfield 10, 3) := zo_180 (by decide +kernel)
theorem dX11_fits_4 : decode cX11_fits 4 = .ok (.iload_n 1, 1) := zo_27 (by decide +kernel)
theorem dX11_fits_5 : decode cX11_fits 5 = .ok (.invokevirtual 121, 3) := zo_182 (by decide +kernel)
theorem dX11_fits_8 : decode cX11_fits 8 = .ok (.astore 4, 2) := zo_58 (by decide +kernel)
theorem dX11_fits_10 : decode cX11_fits 10 = .ok (.aload_n 0, 1) := zo_42 (by decide +kernel)
theorem dX11_fits_11 : decode cX11_fits 11 = .ok (.iload_n 1, 1) := zo_27 (by decide +kernel)
theorem dX11_fits_12 : decode cX11_fits 12 = .ok (.iload_n 2, 1) := zo_28 (by decide +kernel)
theorem dX11_fits_13 : decode cX11_fits 13 = .ok (.invokevirtual 302, 3) := zo_182 (by decide +kernel)
theorem dX11_fits_16 : decode cX11_fits 16 = .ok (.ifCond .eq 12, 3) := zo_153 (by decide +kernel)
theorem dX11_fits_19 : decode cX11_fits 19 = .ok (.aload 4, 2) := zo_25 (by decide +kernel)
theorem dX11_fits_21 : decode cX11_fits 21 = .ok (.ifnull 7, 3) := zo_198 (by decide +kernel)
theorem dX11_fits_24 : decode cX11_fits 24 = .ok (.iload_n 3, 1) := zo_29 (by decide +kernel)
theorem dX11_fits_25 : decode cX11_fits 25 = .ok (.ifCond .ge 6, 3) := zo_156 (by decide +kernel)
theorem dX11_fits_28 : decode cX11_fits 28 = .ok (.bipush (-2), 2) := zo_16 (by decide +kernel)
theorem dX11_fits_30 : decode cX11_fits 30 = .ok (.ireturn, 1) := zo_172 (by decide +kernel)
theorem dX11_fits_31 : decode cX11_fits 31 = .ok (.aload_n 0, 1) := zo_42 (by decide +kernel)
theorem dX11_fits_32 : decode cX11_fits 32 = .ok (.iload_n 1, 1) := zo_27 (by decide +kernel)
theorem dX11_fits_33 : decode cX11_fits 33 = .ok (.aload 4, 2) := zo_25 (by decide +kernel)
theorem dX11_fits_35 : decode cX11_fits 35 = .ok (.invokevirtual 235, 3) := zo_182 (by decide +kernel)
theorem dX11_fits_38 : decode cX11_fits 38 = .ok (.astore 5, 2) := zo_58 (by decide +kernel)
theorem dX11_fits_40 : decode cX11_fits 40 = .ok (.iload_n 3, 1) := zo_29 (by decide +kernel)
theorem dX11_fits_41 : decode cX11_fits 41 = .ok (.ifCond .ne 11, 3) := zo_154 (by decide +kernel)
theorem dX11_fits_44 : decode cX11_fits 44 = .ok (.aload_n 0, 1) := zo_42 (by decide +kernel)
theorem dX11_fits_45 : decode cX11_fits 45 = .ok (.getfield 65, 3) := zo_180 (by decide +kernel)
theorem dX11_fits_48 : decode cX11_fits 48 = .ok (.getfield 306, 3) := zo_180 (by decide +kernel)
theorem dX11_fits_51 : decode cX11_fits 51 = .ok (.ireturn, 1) := zo_172 (by decide +kernel)
theorem dX11_fits_52 : decode cX11_fits 52 = .ok (.iload_n 3, 1) := zo_29 (by decide +kernel)
theorem dX11_fits_53 : decode cX11_fits 53 = .ok (.iconst 1, 1) := zo_4 (by decide +kernel)
theorem dX11_fits_54 : decode cX11_fits 54 = .ok (.if_icmp .ne 13, 3) := zo_160 (by decide +kernel)
theorem dX11_fits_57 : decode cX11_fits 57 = .ok (.aload_n 0, 1) := zo_42 (by decide +kernel)
theorem dX11_fits_58 : decode cX11_fits 58 = .ok (.getfield 65, 3) := zo_180 (by decide +kernel)
theorem dX11_fits_61 : decode cX11_fits 61 = .ok (.aload 5, 2) := zo_25 (by decide +kernel)
theorem dX11_fits_63 : decode cX11_fits 63 = .ok (.invokevirtual 309, 3) := zo_182 (by decide +kernel)
theorem dX11_fits_66 : decode cX11_fits 66 = .ok (.ireturn, 1) := zo_172 (by decide +kernel)
theorem dX11_fits_67 : decode cX11_fits 67 = .ok (.iload_n 3, 1) := zo_29 (by decide +kernel)
theorem dX11_fits_68 : decode cX11_fits 68 = .ok (.bipush 9, 2) := zo_16 (by decide +kernel)
theorem dX11_fits_70 : decode cX11_fits 70 = .ok (.if_icmp .ge 16, 3) := zo_162 (by decide +kernel)
theorem dX11_fits_73 : decode cX11_fits 73 = .ok (.aload_n 0, 1) := zo_42 (by decide +kernel)
theorem dX11_fits_74 : decode cX11_fits 74 = .ok (.getfield 65, 3) := zo_180 (by decide +kernel)
theorem dX11_fits_77 : decode cX11_fits 77 = .ok (.aload 5, 2) := zo_25 (by decide +kernel)
theorem dX11_fits_79 : decode cX11_fits 79 = .ok (.iload_n 3, 1) := zo_29 (by decide +kernel)
theorem dX11_fits_80 : decode cX11_fits 80 = .ok (.iconst 2, 1) := zo_5 (by decide +kernel)
theorem dX11_fits_81 : decode cX11_fits 81 = .ok (.isub, 1) := zo_100 (by decide +kernel)
theorem dX11_fits_82 : decode cX11_fits 82 = .ok (.invokevirtual 313, 3) := zo_182 (by decide +kernel)
theorem dX11_fits_85 : decode cX11_fits 85 = .ok (.ireturn, 1) := zo_172 (by decide +kernel)
theorem dX11_fits_86 : decode cX11_fits 86 = .ok (.iload_n 3, 1) := zo_29 (by decide +kernel)
theorem dX11_fits_87 : decode cX11_fits 87 = .ok (.bipush 10, 2) := zo_16 (by decide +kernel)
theorem dX11_fits_89 : decode cX11_fits 89 = .ok (.isub, 1) := zo_100 (by decide +kernel)
theorem dX11_fits_90 : decode cX11_fits 90 = .ok (.istore 6, 2) := zo_54 (by decide +kernel)
theorem dX11_fits_92 : decode cX11_fits 92 = .ok (.iload 6, 2) := zo_21 (by decide +kernel)
theorem dX11_fits_94 : decode cX11_fits 94 = .ok (.ifCond .lt 32, 3) := zo_155 (by decide +kernel)
theorem dX11_fits_97 : decode cX11_fits 97 = .ok (.iload 6, 2) := zo_21 (by decide +kernel)
theorem dX11_fits_99 : decode cX11_fits 99 = .ok (.aload_n 0, 1) := zo_42 (by decide +kernel)
theorem dX11_fits_100 : decode cX11_fits 100 = .ok (.getfield 65, 3) := zo_180 (by decide +kernel)
theorem dX11_fits_103 : decode cX11_fits 103 = .ok (.getfield 306, 3) := zo_180 (by decide +kernel)
theorem dX11_fits_106 : decode cX11_fits 106 = .ok (.if_icmp .ge 20, 3) := zo_162 (by decide +kernel)
theorem dX11_fits_109 : decode cX11_fits 109 = .ok (.aload 5, 2) := zo_25 (by decide +kernel)
theorem dX11_fits_111 : decode cX11_fits 111 = .ok (.aload_n 0, 1) := zo_42 (by decide +kernel)
theorem dX11_fits_112 : decode cX11_fits 112 = .ok (.getfield 65, 3) := zo_180 (by decide +kernel)
theorem dX11_fits_115 : decode cX11_fits 115 = .ok (.iload 6, 2) := zo_21 (by decide +kernel)
theorem dX11_fits_117 : decode cX11_fits 117 = .ok (.invokevirtual 317, 3) := zo_182 (by decide +kernel)
theorem dX11_fits_120 : decode cX11_fits 120 = .ok (.invokevirtual 272, 3) := zo_182 (by decide +kernel)
theorem dX11_fits_123 : decode cX11_fits 123 = .ok (.goto 5, 3) := zo_167 (by decide +kernel)
theorem dX11_fits_126 : decode cX11_fits 126 = .ok (.bipush (-2), 2) := zo_16 (by decide +kernel)
theorem dX11_fits_128 : decode cX11_fits 128 = .ok (.ireturn, 1) := zo_172 (by decide +kernel)
theorem dX11_odds_0 : decode cX11_odds 0 = .ok (.aload_n 0, 1) := zo_42 (by decide +kernel)
theorem dX11_odds_1 : decode cX11_odds 1 = .ok (.getfield 10, 3) := zo_180 (by decide +kernel)
theorem dX11_odds_4 : decode cX11_odds 4 = .ok (.iload_n 1, 1) := zo_27 (by decide +kernel)
theorem dX11_odds_5 : decode cX11_odds 5 = .ok (.invokevirtual 121, 3) := zo_182 (by decide +kernel)
theorem dX11_odds_8 : decode cX11_odds 8 = .ok (.astore 6, 2) := zo_58 (by decide +kernel)
theorem dX11_odds_10 : decode cX11_odds 10 = .ok (.aload_n 0, 1) := zo_42 (by decide +kernel)
theorem dX11_odds_11 : decode cX11_odds 11 = .ok (.iload_n 1, 1) := zo_27 (by decide +kernel)
theorem dX11_odds_12 : decode cX11_odds 12 = .ok (.iload_n 2, 1) := zo_28 (by decide +kernel)
theorem dX11_odds_13 : decode cX11_odds 13 = .ok (.invokevirtual 302, 3) := zo_182 (by decide +kernel)
theorem dX11_odds_16 : decode cX11_odds 16 = .ok (.ifCond .eq 24, 3) := zo_153 (by decide +kernel)
theorem dX11_odds_19 : decode cX11_odds 19 = .ok (.aload 6, 2) := zo_25 (by decide +kernel)
theorem dX11_odds_21 : decode cX11_odds 21 = .ok (.ifnull 19, 3) := zo_198 (by decide +kernel)
theorem dX11_odds_24 : decode cX11_odds 24 = .ok (.iload 4, 2) := zo_21 (by decide +kernel)
theorem dX11_odds_26 : decode cX11_odds 26 = .ok (.ifCond .lt 14, 3) := zo_155 (by decide +kernel)
theorem dX11_odds_29 : decode cX11_odds 29 = .ok (.iload 4, 2) := zo_21 (by decide +kernel)
theorem dX11_odds_31 : decode cX11_odds 31 = .ok (.aload 6, 2) := zo_25 (by decide +kernel)
theorem dX11_odds_33 : decode cX11_odds 33 = .ok (.iload_n 3, 1) := zo_29 (by decide +kernel)
theorem dX11_odds_34 : decode cX11_odds 34 = .ok (.invokevirtual 221, 3) := zo_182 (by decide +kernel)
theorem dX11_odds_37 : decode cX11_odds 37 = .ok (.if_icmp .lt 5, 3) := zo_161 (by decide +kernel)
theorem dX11_odds_40 : decode cX11_odds 40 = .ok (.iconst (-1), 1) := zo_2 (by decide +kernel)
theorem dX11_odds_41 : decode cX11_odds 41 = .ok (.ireturn, 1) := zo_172 (by decide +kernel)
theorem dX11_odds_42 : decode cX11_odds 42 = .ok (.aload_n 0, 1) := zo_42 (by decide +kernel)
theorem dX11_odds_43 : decode cX11_odds 43 = .ok (.getfield 65, 3) := zo_180 (by decide +kernel)
theorem dX11_odds_46 : decode cX11_odds 46 = .ok (.getfield 306, 3) := zo_180 (by decide +kernel)
theorem dX11_odds_49 : decode cX11_odds 49 = .ok (.ifCond .ne 5, 3) := zo_154 (by decide +kernel)
theorem dX11_odds_52 : decode cX11_odds 52 = .ok (.iconst (-1), 1) := zo_2 (by decide +kernel)
theorem dX11_odds_53 : decode cX11_odds 53 = .ok (.ireturn, 1) := zo_172 (by decide +kernel)
theorem dX11_odds_54 : decode cX11_odds 54 = .ok (.aload_n 0, 1) := zo_42 (by decide +kernel)
theorem dX11_odds_55 : decode cX11_odds 55 = .ok (.getfield 65, 3) := zo_180 (by decide +kernel)
theorem dX11_odds_58 : decode cX11_odds 58 = .ok (.aload_n 0, 1) := zo_42 (by decide +kernel)
theorem dX11_odds_59 : decode cX11_odds 59 = .ok (.iload_n 1, 1) := zo_27 (by decide +kernel)
theorem dX11_odds_60 : decode cX11_odds 60 = .ok (.aload 6, 2) := zo_25 (by decide +kernel)
theorem dX11_odds_62 : decode cX11_odds 62 = .ok (.invokevirtual 235, 3) := zo_182 (by decide +kernel)
theorem dX11_odds_65 : decode cX11_odds 65 = .ok (.iload_n 3, 1) := zo_29 (by decide +kernel)
theorem dX11_odds_66 : decode cX11_odds 66 = .ok (.iload 4, 2) := zo_21 (by decide +kernel)
theorem dX11_odds_68 : decode cX11_odds 68 = .ok (.invokevirtual 320, 3) := zo_182 (by decide +kernel)
theorem dX11_odds_71 : decode cX11_odds 71 = .ok (.istore 7, 2) := zo_54 (by decide +kernel)
theorem dX11_odds_73 : decode cX11_odds 73 = .ok (.iload 7, 2) := zo_21 (by decide +kernel)
theorem dX11_odds_75 : decode cX11_odds 75 = .ok (.aload_n 0, 1) := zo_42 (by decide +kernel)
theorem dX11_odds_76 : decode cX11_odds 76 = .ok (.getfield 65, 3) := zo_180 (by decide +kernel)
theorem dX11_odds_79 : decode cX11_odds 79 = .ok (.getfield 306, 3) := zo_180 (by decide +kernel)
theorem dX11_odds_82 : decode cX11_odds 82 = .ok (.iload 5, 2) := zo_21 (by decide +kernel)
theorem dX11_odds_84 : decode cX11_odds 84 = .ok (.invokestatic 262, 3) := zo_184 (by decide +kernel)
theorem dX11_odds_87 : decode cX11_odds 87 = .ok (.ireturn, 1) := zo_172 (by decide +kernel)
theorem m_ml_RX12_1 : Cond.methodLink RX12 1 objectInit ∈ zT := zmem1 zsub_5 234 rfl rfl
theorem m_fl_RX12_7 : Cond.fieldLink RX12 7 (TX12 0).1 (TX12 0).2.1 (TX12 0).2.2.1 ∈ zT := zmem1 zsub_5 235 rfl rfl
theorem m_fl_RX12_13 : Cond.fieldLink RX12 13 (TX12 1).1 (TX12 1).2.1 (TX12 1).2.2.1 ∈ zT := zmem1 zsub_5 236 rfl rfl
theorem m_fl_RX12_17 : Cond.fieldLink RX12 17 (TX12 10).1 (TX12 10).2.1 (TX12 10).2.2.1 ∈ zT := zmem1 zsub_6 5 rfl rfl
theorem m_fl_RX12_20 : Cond.fieldLink RX12 20 (TX12 14).1 (TX12 14).2.1 (TX12 14).2.2.1 ∈ zT := zmem1 zsub_6 9 rfl rfl
theorem m_fl_RX12_23 : Cond.fieldLink RX12 23 (TX12 15).1 (TX12 15).2.1 (TX12 15).2.2.1 ∈ zT := zmem1 zsub_6 10 rfl rfl
theorem m_fl_RX12_26 : Cond.fieldLink RX12 26 (TX12 16).1 (TX12 16).2.1 (TX12 16).2.2.1 ∈ zT := zmem1 zsub_6 11 rfl rfl
theorem m_fl_RX12_29 : Cond.fieldLink RX12 29 (TX12 21).1 (TX12 21).2.1 (TX12 21).2.2.1 ∈ zT := zmem1 zsub_6 16 rfl rfl
theorem m_fl_RX12_32 : Cond.fieldLink RX12 32 (TX12 22).1 (TX12 22).2.1 (TX12 22).2.2.1 ∈ zT := zmem1 zsub_6 17 rfl rfl
theorem m_fl_RX12_35 : Cond.fieldLink RX12 35 (TX12 23).1 (TX12 23).2.1 (TX12 23).2.2.1 ∈ zT := zmem1 zsub_6 18 rfl rfl
theorem m_fl_RX12_38 : Cond.fieldLink RX12 38 (TX12 24).1 (TX12 24).2.1 (TX12 24).2.2.1 ∈ zT := zmem1 zsub_6 19 rfl rfl
theorem m_fl_RX12_41 : Cond.fieldLink RX12 41 (TX12 25).1 (TX12 25).2.1 (TX12 25).2.2.1 ∈ zT := zmem1 zsub_6 20 rfl rfl
theorem m_fl_RX12_44 : Cond.fieldLink RX12 44 (TX12 26).1 (TX12 26).2.1 (TX12 26).2.2.1 ∈ zT := zmem1 zsub_6 21 rfl rfl
theorem m_fl_RX12_47 : Cond.fieldLink RX12 47 (TX12 39).1 (TX12 39).2.1 (TX12 39).2.2.1 ∈ zT := zmem1 zsub_6 34 rfl rfl
theorem m_fl_RX12_50 : Cond.fieldLink RX12 50 (TX12 40).1 (TX12 40).2.1 (TX12 40).2.2.1 ∈ zT := zmem1 zsub_6 35 rfl rfl
theorem m_fl_RX12_53 : Cond.fieldLink RX12 53 (TX12 41).1 (TX12 41).2.1 (TX12 41).2.2.1 ∈ zT := zmem1 zsub_6 36 rfl rfl
theorem dX12_init_0 : decode cX12_init 0 = .ok (.aload_n 0, 1) := zo_42 (by decide +kernel)
theorem dX12_init_1 : decode cX12_init 1 = .ok (.invokespecial 1, 3) := zo_183 (by decide +kernel)
theorem dX12_init_4 : decode cX12_init 4 = .ok (.aload_n 0, 1) := zo_42 (by decide +kernel)
theorem dX12_init_5 : decode cX12_init 5 = .ok (.sipush 3952, 3) := zo_17 (by decide +kernel)
theorem dX12_init_8 : decode cX12_init 8 = .ok (.newarray .int, 2) := by decide +kernel
theorem dX12_init_10 : decode cX12_init 10 = .ok (.putfield 7, 3) := zo_181 (by decide +kernel)
theorem dX12_init_13 : decode cX12_init 13 = .ok (.aload_n 0, 1) := zo_42 (by decide +kernel)
theorem dX12_init_14 : decode cX12_init 14 = .ok (.iconst 3, 1) := zo_6 (by decide +kernel)
theorem dX12_init_15 : decode cX12_init 15 = .ok (.newarray .boolean, 2) := by decide +kernel
theorem dX12_init_17 : decode cX12_init 17 = .ok (.putfield 13, 3) := zo_181 (by decide +kernel)
theorem dX12_init_20 : decode cX12_init 20 = .ok (.aload_n 0, 1) := zo_42 (by decide +kernel)
theorem dX12_init_21 : decode cX12_init 21 = .ok (.bipush 121, 2) := zo_16 (by decide +kernel)
theorem dX12_init_23 : decode cX12_init 23 = .ok (.newarray .int, 2) := by decide +kernel
theorem dX12_init_25 : decode cX12_init 25 = .ok (.putfield 17, 3) := zo_181 (by decide +kernel)
theorem dX12_init_28 : decode cX12_init 28 = .ok (.aload_n 0, 1) := zo_42 (by decide +kernel)
theorem dX12_init_29 : decode cX12_init 29 = .ok (.bipush 7, 2) := zo_16 (by decide +kernel)
theorem dX12_init_31 : decode cX12_init 31 = .ok (.newarray .int, 2) := by decide +kernel
theorem dX12_init_33 : decode cX12_init 33 = .ok (.putfield 20, 3) := zo_181 (by decide +kernel)
theorem dX12_init_36 : decode cX12_init 36 = .ok (.aload_n 0, 1) := zo_42 (by decide +kernel)
theorem dX12_init_37 : decode cX12_init 37 = .ok (.bipush 7, 2) := zo_16 (by decide +kernel)
theorem dX12_init_39 : decode cX12_init 39 = .ok (.newarray .int, 2) := by decide +kernel
theorem dX12_init_41 : decode cX12_init 41 = .ok (.putfield 23, 3) := zo_181 (by decide +kernel)
theorem dX12_init_44 : decode cX12_init 44 = .ok (.aload_n 0, 1) := zo_42 (by decide +kernel)
theorem dX12_init_45 : decode cX12_init 45 = .ok (.bipush 7, 2) := zo_16 (by decide +kernel)
theorem dX12_init_47 : decode cX12_init 47 = .ok (.newarray .int, 2) := by decide +kernel
theorem dX12_init_49 : decode cX12_init 49 = .ok (.putfield 26, 3) := zo_181 (by decide +kernel)
theorem dX12_init_52 : decode cX12_init 52 = .ok (.aload_n 0, 1) := zo_42 (by decide +kernel)
theorem dX12_init_53 : decode cX12_init 53 = .ok (.bipush 7, 2) := zo_16 (by decide +kernel)
theorem dX12_init_55 : decode cX12_init 55 = .ok (.newarray .int, 2) := by decide +kernel
theorem dX12_init_57 : decode cX12_init 57 = .ok (.putfield 29, 3) := zo_181 (by decide +kernel)
theorem dX12_init_60 : decode cX12_init 60 = .ok (.aload_n 0, 1) := zo_42 (by decide +kernel)
theorem dX12_init_61 : decode cX12_init 61 = .ok (.bipush 7, 2) := zo_16 (by decide +kernel)
theorem dX12_init_63 : decode cX12_init 63 = .ok (.newarray .int, 2) := by decide +kernel
theorem dX12_init_65 : decode cX12_init 65 = .ok (.putfield 32, 3) := zo_181 (by decide +kernel)
theorem dX12_init_68 : decode cX12_init 68 = .ok (.aload_n 0, 1) := zo_42 (by decide +kernel)
theorem dX12_init_69 : decode cX12_init 69 = .ok (.sipush 16384, 3) := zo_17 (by decide +kernel)
theorem dX12_init_72 : decode cX12_init 72 = .ok (.newarray .int, 2) := by decide +kernel
theorem dX12_init_74 : decode cX12_init 74 = .ok (.putfield 35, 3) := zo_181 (by decide +kernel)
theorem dX12_init_77 : decode cX12_init 77 = .ok (.aload_n 0, 1) := zo_42 (by decide +kernel)
theorem dX12_init_78 : decode cX12_init 78 = .ok (.sipush 512, 3) := zo_17 (by decide +kernel)
theorem dX12_init_81 : decode cX12_init 81 = .ok (.newarray .int, 2) := by decide +kernel
theorem dX12_init_83 : decode cX12_init 83 = .ok (.putfield 38, 3) := zo_181 (by decide +kernel)
theorem dX12_init_86 : decode cX12_init 86 = .ok (.aload_n 0, 1) := zo_42 (by decide +kernel)
theorem dX12_init_87 : decode cX12_init 87 = .ok (.bipush 49, 2) := zo_16 (by decide +kernel)
theorem dX12_init_89 : decode cX12_init 89 = .ok (.newarray .int, 2) := by decide +kernel
theorem dX12_init_91 : decode cX12_init 91 = .ok (.putfield 41, 3) := zo_181 (by decide +kernel)
theorem dX12_init_94 : decode cX12_init 94 = .ok (.aload_n 0, 1) := zo_42 (by decide +kernel)
theorem dX12_init_95 : decode cX12_init 95 = .ok (.bipush 7, 2) := zo_16 (by decide +kernel)
theorem dX12_init_97 : decode cX12_init 97 = .ok (.newarray .int, 2) := by decide +kernel
theorem dX12_init_99 : decode cX12_init 99 = .ok (.putfield 44, 3) := zo_181 (by decide +kernel)
theorem dX12_init_102 : decode cX12_init 102 = .ok (.aload_n 0, 1) := zo_42 (by decide +kernel)
theorem dX12_init_103 : decode cX12_init 103 = .ok (.bipush 28, 2) := zo_16 (by decide +kernel)
theorem dX12_init_105 : decode cX12_init 105 = .ok (.newarray .int, 2) := by decide +kernel
theorem dX12_init_107 : decode cX12_init 107 = .ok (.putfield 47, 3) := zo_181 (by decide +kernel)
theorem dX12_init_110 : decode cX12_init 110 = .ok (.aload_n 0, 1) := zo_42 (by decide +kernel)
theorem dX12_init_111 : decode cX12_init 111 = .ok (.bipush 49, 2) := zo_16 (by decide +kernel)
theorem dX12_init_113 : decode cX12_init 113 = .ok (.newarray .int, 2) := by decide +kernel
theorem dX12_init_115 : decode cX12_init 115 = .ok (.putfield 50, 3) := zo_181 (by decide +kernel)
theorem dX12_init_118 : decode cX12_init 118 = .ok (.aload_n 0, 1) := zo_42 (by decide +kernel)
theorem dX12_init_119 : decode cX12_init 119 = .ok (.bipush 7, 2) := zo_16 (by decide +kernel)
theorem dX12_init_121 : decode cX12_init 121 = .ok (.newarray .int, 2) := by decide +kernel
theorem dX12_init_123 : decode cX12_init 123 = .ok (.putfield 53, 3) := zo_181 (by decide +kernel)
theorem dX12_init_126 : decode cX12_init 126 = .ok (.aload_n 0, 1) := zo_42 (by decide +kernel)
theorem dX12_init_127 : decode cX12_init 127 = .ok (.getfield 7, 3) := zo_180 (by decide +kernel)
theorem dX12_init_130 : decode cX12_init 130 = .ok (.bipush 6, 2) := zo_16 (by decide +kernel)
theorem dX12_init_132 : decode cX12_init 132 = .ok (.iconst (-1), 1) := zo_2 (by decide +kernel)
theorem dX12_init_133 : decode cX12_init 133 = .ok (.iastore, 1) := zo_79 (by decide +kernel)
theorem dX12_init_134 : decode cX12_init 134 = .ok (.return_, 1) := zo_177 (by decide +kernel)
theorem dX12_end_0 : decode cX12_end 0 = .ok (.iload_n 1, 1) := zo_27 (by decide +kernel)
theorem dX12_end_1 : decode cX12_end 1 = .ok (.ifCond .lt 13, 3) := zo_155 (by decide +kernel)
theorem dX12_end_4 : decode cX12_end 4 = .ok (.iload_n 1, 1) := zo_27 (by decide +kernel)
theorem dX12_end_5 : decode cX12_end 5 = .ok (.aload_n 0, 1) := zo_42 (by decide +kernel)
theorem dX12_end_6 : decode cX12_end 6 = .ok (.getfield 7, 3) := zo_180 (by decide +kernel)
theorem dX12_end_9 : decode cX12_end 9 = .ok (.iconst 4, 1) := zo_7 (by decide +kernel)
theorem dX12_end_10 : decode cX12_end 10 = .ok (.iaload, 1) := zo_46 (by decide +kernel)
theorem dX12_end_11 : decode cX12_end 11 = .ok (.if_icmp .le 5, 3) := zo_164 (by decide +kernel)
theorem dX12_end_14 : decode cX12_end 14 = .ok (.iconst (-1), 1) := zo_2 (by decide +kernel)
theorem dX12_end_15 : decode cX12_end 15 = .ok (.ireturn, 1) := zo_172 (by decide +kernel)
theorem dX12_end_16 : decode cX12_end 16 = .ok (.aload_n 0, 1) := zo_42 (by decide +kernel)
theorem dX12_end_17 : decode cX12_end 17 = .ok (.getfield 7, 3) := zo_180 (by decide +kernel)
theorem dX12_end_20 : decode cX12_end 20 = .ok (.iconst 4, 1) := zo_7 (by decide +kernel)
theorem dX12_end_21 : decode cX12_end 21 = .ok (.iload_n 1, 1) := zo_27 (by decide +kernel)
theorem dX12_end_22 : decode cX12_end 22 = .ok (.iastore, 1) := zo_79 (by decide +kernel)
theorem dX12_end_23 : decode cX12_end 23 = .ok (.iload_n 1, 1) := zo_27 (by decide +kernel)
theorem dX12_end_24 : decode cX12_end 24 = .ok (.ireturn, 1) := zo_172 (by decide +kernel)
set_option maxHeartbeats 4000000 in
set_option maxRecDepth 100000 in
theorem c_m_init (l : Launch) (T : zTy) (mo : Nat) : zMv l T yX12_init cX12_init 1 2 15 21147 [.ref mo] [[(mo, .inr (11, [.null, .null, .int 0, .int 0, .int 0, .int 0, .int 0, .int 0, .int 0, .int 0, .null, .int 0, .int 0, .int 0, .null, .null, .null, .int 0, .int 0, .int 0, .int 0, .null, .null, .null, .null, .null, .null, .int 0, .int 0, .int 0, .int 0, .int 0, .int 0, .int 0, .int 0, .int 0, .int 0, .int 0, .int 0, .null, .null, .null, .int 0]))]] (fun bs => ∃ (m_all : Nat) (m_has : Nat) (m_read : Nat) (m_posts : Nat) (m_shut : Nat) (m_here : Nat) (m_was : Nat) (m_came : Nat) (m_seenAt : Nat) (m_rowWorth : Nat) (m_farBy : Nat) (m_used : Nat) (m_fitPost : Nat) (m_fitEnd : Nat) (m_keptPosts : Nat), bs = [[zO11 mo m_all m_has 0 0 0 0 0 0 0 0 m_read 0 0 0 m_posts m_shut m_here 0 0 0 0 m_was m_came m_seenAt m_rowWorth m_farBy m_used 0 0 0 0 0 0 0 0 0 0 0 0 m_fitPost m_fitEnd m_keptPosts 0], [zAr T 0 m_all 3952 (upd (fun _ => 0) 6 (-1))], [zAr T 2 m_has 3 (fun _ => 0)], [zAr T 0 m_read 121 (fun _ => 0)], [zAr T 0 m_posts 7 (fun _ => 0)], [zAr T 0 m_shut 7 (fun _ => 0)], [zAr T 0 m_here 7 (fun _ => 0)], [zAr T 0 m_was 7 (fun _ => 0)], [zAr T 0 m_came 7 (fun _ => 0)], [zAr T 0 m_seenAt 16384 (fun _ => 0)], [zAr T 0 m_rowWorth 512 (fun _ => 0)], [zAr T 0 m_farBy 49 (fun _ => 0)], [zAr T 0 m_used 7 (fun _ => 0)], [zAr T 0 m_fitPost 28 (fun _ => 0)], [zAr T 0 m_fitEnd 49 (fun _ => 0)], [zAr T 0 m_keptPosts 7 (fun _ => 0)]]) := by
  refine zMv_of (own := RX12) (by decide) rfl (Nat.le_of_ble_eq_true rfl) ?_
  intro p e s m args below meth c A ls C hr hlocks hnm hAe G hl
  refine zHide (fun Qz_ hQz_ => ?_)
  have hx := C.1
  have hb := C.2.1
  have hl : lv_has ls 1 [(0, .ref mo)] := hl
  refine lv_aload_n hx hb dX12_init_0 rfl (lv_at hl 0 rfl) ?_
  refine W.objInit hx hb C.2.2.2.1 (C.2.2.2.2 _ m_ml_RX12_1) (C.2.2.2.2 _ m_im_obj) (C.2.2.2.2 _ m_co_obj) rfl (by rw [C.2.2.1]; exact hl.1) rfl dX12_init_1 (Nat.le_of_ble_eq_true rfl) (Nat.le_of_ble_eq_true rfl) ?_
  refine W.eq (g2 := F0 m 4 ls []) rfl ?_
  refine lv_aload_n hx hb dX12_init_4 rfl (lv_at hl 0 rfl) ?_
  refine lv_sipush (v := 3952) hx hb dX12_init_5 (by decide) ?_
  refine z_newa C G 0 (ty := .int) (N' := 3952) (a0 := (3952, .inl (fun _ => 0))) rfl z_uint m_ar_int rfl (fun _ => rfl) (by decide) (by decide) (Nat.le_of_ble_eq_true rfl) (Nat.le_of_ble_eq_true rfl) (Nat.le_of_ble_eq_true rfl) dX12_init_8 (fun q_1 H G => ?_)
  have G : zS T A s.heap s [[(mo, .inr (11, [.null, .null, .int 0, .int 0, .int 0, .int 0, .int 0, .int 0, .int 0, .int 0, .null, .int 0, .int 0, .int 0, .null, .null, .null, .int 0, .int 0, .int 0, .int 0, .null, .null, .null, .null, .null, .null, .int 0, .int 0, .int 0, .int 0, .int 0, .int 0, .int 0, .int 0, .int 0, .int 0, .int 0, .int 0, .null, .null, .null, .int 0]))], [zAr T 0 q_1 3952 (fun _ => 0)]] _ _ := G
  refine z_putF C G hnm clX12 0 rfl 0 (by decide) m_fl_RX12_7 rfl rfl rfl rfl (Nat.le_of_ble_eq_true rfl) dX12_init_10 (fun H locs G => ?_)
  have G : zS T A s.heap s [[(mo, .inr (11, [.ref q_1, .null, .int 0, .int 0, .int 0, .int 0, .int 0, .int 0, .int 0, .int 0, .null, .int 0, .int 0, .int 0, .null, .null, .null, .int 0, .int 0, .int 0, .int 0, .null, .null, .null, .null, .null, .null, .int 0, .int 0, .int 0, .int 0, .int 0, .int 0, .int 0, .int 0, .int 0, .int 0, .int 0, .int 0, .null, .null, .null, .int 0]))], [zAr T 0 q_1 3952 (fun _ => 0)]] _ _ := G
  refine lv_aload_n hx hb dX12_init_13 rfl (lv_at hl 0 rfl) ?_
  refine lv_iconst (v := 3) hx hb dX12_init_14 (by decide) ?_
  refine z_newa C G 2 (ty := .boolean) (N' := 3) (a0 := (3, .inl (fun _ => 0))) rfl z_uboolean m_ar_boolean rfl (fun _ => rfl) (by decide) (by decide) (Nat.le_of_ble_eq_true rfl) (Nat.le_of_ble_eq_true rfl) (Nat.le_of_ble_eq_true rfl) dX12_init_15 (fun q_2 H G => ?_)
  have G : zS T A s.heap s [[(mo, .inr (11, [.ref q_1, .null, .int 0, .int 0, .int 0, .int 0, .int 0, .int 0, .int 0, .int 0, .null, .int 0, .int 0, .int 0, .null, .null, .null, .int 0, .int 0, .int 0, .int 0, .null, .null, .null, .null, .null, .null, .int 0, .int 0, .int 0, .int 0, .int 0, .int 0, .int 0, .int 0, .int 0, .int 0, .int 0, .int 0, .null, .null, .null, .int 0]))], [zAr T 0 q_1 3952 (fun _ => 0)], [zAr T 2 q_2 3 (fun _ => 0)]] _ _ := G
  refine z_putF C G hnm clX12 0 rfl 1 (by decide) m_fl_RX12_13 rfl rfl rfl rfl (Nat.le_of_ble_eq_true rfl) dX12_init_17 (fun H locs G => ?_)
  have G : zS T A s.heap s [[(mo, .inr (11, [.ref q_1, .ref q_2, .int 0, .int 0, .int 0, .int 0, .int 0, .int 0, .int 0, .int 0, .null, .int 0, .int 0, .int 0, .null, .null, .null, .int 0, .int 0, .int 0, .int 0, .null, .null, .null, .null, .null, .null, .int 0, .int 0, .int 0, .int 0, .int 0, .int 0, .int 0, .int 0, .int 0, .int 0, .int 0, .int 0, .null, .null, .null, .int 0]))], [zAr T 0 q_1 3952 (fun _ => 0)], [zAr T 2 q_2 3 (fun _ => 0)]] _ _ := G
  refine lv_aload_n hx hb dX12_init_20 rfl (lv_at hl 0 rfl) ?_
  refine lv_bipush (v := 121) hx hb dX12_init_21 (by decide) ?_
  refine z_newa C G 0 (ty := .int) (N' := 121) (a0 := (121, .inl (fun _ => 0))) rfl z_uint m_ar_int rfl (fun _ => rfl) (by decide) (by decide) (Nat.le_of_ble_eq_true rfl) (Nat.le_of_ble_eq_true rfl) (Nat.le_of_ble_eq_true rfl) dX12_init_23 (fun q_3 H G => ?_)
  have G : zS T A s.heap s [[(mo, .inr (11, [.ref q_1, .ref q_2, .int 0, .int 0, .int 0, .int 0, .int 0, .int 0, .int 0, .int 0, .null, .int 0, .int 0, .int 0, .null, .null, .null, .int 0, .int 0, .int 0, .int 0, .null, .null, .null, .null, .null, .null, .int 0, .int 0, .int 0, .int 0, .int 0, .int 0, .int 0, .int 0, .int 0, .int 0, .int 0, .int 0, .null, .null, .null, .int 0]))], [zAr T 0 q_1 3952 (fun _ => 0)], [zAr T 2 q_2 3 (fun _ => 0)], [zAr T 0 q_3 121 (fun _ => 0)]] _ _ := G
  refine z_putF C G hnm clX12 0 rfl 10 (by decide) m_fl_RX12_17 rfl rfl rfl rfl (Nat.le_of_ble_eq_true rfl) dX12_init_25 (fun H locs G => ?_)
  have G : zS T A s.heap s [[(mo, .inr (11, [.ref q_1, .ref q_2, .int 0, .int 0, .int 0, .int 0, .int 0, .int 0, .int 0, .int 0, .ref q_3, .int 0, .int 0, .int 0, .null, .null, .null, .int 0, .int 0, .int 0, .int 0, .null, .null, .null, .null, .null, .null, .int 0, .int 0, .int 0, .int 0, .int 0, .int 0, .int 0, .int 0, .int 0, .int 0, .int 0, .int 0, .null, .null, .null, .int 0]))], [zAr T 0 q_1 3952 (fun _ => 0)], [zAr T 2 q_2 3 (fun _ => 0)], [zAr T 0 q_3 121 (fun _ => 0)]] _ _ := G
  refine lv_aload_n hx hb dX12_init_28 rfl (lv_at hl 0 rfl) ?_
  refine lv_bipush (v := 7) hx hb dX12_init_29 (by decide) ?_
  refine z_newa C G 0 (ty := .int) (N' := 7) (a0 := (7, .inl (fun _ => 0))) rfl z_uint m_ar_int rfl (fun _ => rfl) (by decide) (by decide) (Nat.le_of_ble_eq_true rfl) (Nat.le_of_ble_eq_true rfl) (Nat.le_of_ble_eq_true rfl) dX12_init_31 (fun q_4 H G => ?_)
  have G : zS T A s.heap s [[(mo, .inr (11, [.ref q_1, .ref q_2, .int 0, .int 0, .int 0, .int 0, .int 0, .int 0, .int 0, .int 0, .ref q_3, .int 0, .int 0, .int 0, .null, .null, .null, .int 0, .int 0, .int 0, .int 0, .null, .null, .null, .null, .null, .null, .int 0, .int 0, .int 0, .int 0, .int 0, .int 0, .int 0, .int 0, .int 0, .int 0, .int 0, .int 0, .null, .null, .null, .int 0]))], [zAr T 0 q_1 3952 (fun _ => 0)], [zAr T 2 q_2 3 (fun _ => 0)], [zAr T 0 q_3 121 (fun _ => 0)], [zAr T 0 q_4 7 (fun _ => 0)]] _ _ := G
  refine z_putF C G hnm clX12 0 rfl 14 (by decide) m_fl_RX12_20 rfl rfl rfl rfl (Nat.le_of_ble_eq_true rfl) dX12_init_33 (fun H locs G => ?_)
  have G : zS T A s.heap s [[(mo, .inr (11, [.ref q_1, .ref q_2, .int 0, .int 0, .int 0, .int 0, .int 0, .int 0, .int 0, .int 0, .ref q_3, .int 0, .int 0, .int 0, .ref q_4, .null, .null, .int 0, .int 0, .int 0, .int 0, .null, .null, .null, .null, .null, .null, .int 0, .int 0, .int 0, .int 0, .int 0, .int 0, .int 0, .int 0, .int 0, .int 0, .int 0, .int 0, .null, .null, .null, .int 0]))], [zAr T 0 q_1 3952 (fun _ => 0)], [zAr T 2 q_2 3 (fun _ => 0)], [zAr T 0 q_3 121 (fun _ => 0)], [zAr T 0 q_4 7 (fun _ => 0)]] _ _ := G
  refine lv_aload_n hx hb dX12_init_36 rfl (lv_at hl 0 rfl) ?_
  refine lv_bipush (v := 7) hx hb dX12_init_37 (by decide) ?_
  refine z_newa C G 0 (ty := .int) (N' := 7) (a0 := (7, .inl (fun _ => 0))) rfl z_uint m_ar_int rfl (fun _ => rfl) (by decide) (by decide) (Nat.le_of_ble_eq_true rfl) (Nat.le_of_ble_eq_true rfl) (Nat.le_of_ble_eq_true rfl) dX12_init_39 (fun q_5 H G => ?_)
  have G : zS T A s.heap s [[(mo, .inr (11, [.ref q_1, .ref q_2, .int 0, .int 0, .int 0, .int 0, .int 0, .int 0, .int 0, .int 0, .ref q_3, .int 0, .int 0, .int 0, .ref q_4, .null, .null, .int 0, .int 0, .int 0, .int 0, .null, .null, .null, .null, .null, .null, .int 0, .int 0, .int 0, .int 0, .int 0, .int 0, .int 0, .int 0, .int 0, .int 0, .int 0, .int 0, .null, .null, .null, .int 0]))], [zAr T 0 q_1 3952 (fun _ => 0)], [zAr T 2 q_2 3 (fun _ => 0)], [zAr T 0 q_3 121 (fun _ => 0)], [zAr T 0 q_4 7 (fun _ => 0)], [zAr T 0 q_5 7 (fun _ => 0)]] _ _ := G
  refine z_putF C G hnm clX12 0 rfl 15 (by decide) m_fl_RX12_23 rfl rfl rfl rfl (Nat.le_of_ble_eq_true rfl) dX12_init_41 (fun H locs G => ?_)
  have G : zS T A s.heap s [[(mo, .inr (11, [.ref q_1, .ref q_2, .int 0, .int 0, .int 0, .int 0, .int 0, .int 0, .int 0, .int 0, .ref q_3, .int 0, .int 0, .int 0, .ref q_4, .ref q_5, .null, .int 0, .int 0, .int 0, .int 0, .null, .null, .null, .null, .null, .null, .int 0, .int 0, .int 0, .int 0, .int 0, .int 0, .int 0, .int 0, .int 0, .int 0, .int 0, .int 0, .null, .null, .null, .int 0]))], [zAr T 0 q_1 3952 (fun _ => 0)], [zAr T 2 q_2 3 (fun _ => 0)], [zAr T 0 q_3 121 (fun _ => 0)], [zAr T 0 q_4 7 (fun _ => 0)], [zAr T 0 q_5 7 (fun _ => 0)]] _ _ := G
  refine lv_aload_n hx hb dX12_init_44 rfl (lv_at hl 0 rfl) ?_
  refine lv_bipush (v := 7) hx hb dX12_init_45 (by decide) ?_
  refine z_newa C G 0 (ty := .int) (N' := 7) (a0 := (7, .inl (fun _ => 0))) rfl z_uint m_ar_int rfl (fun _ => rfl) (by decide) (by decide) (Nat.le_of_ble_eq_true rfl) (Nat.le_of_ble_eq_true rfl) (Nat.le_of_ble_eq_true rfl) dX12_init_47 (fun q_6 H G => ?_)
  have G : zS T A s.heap s [[(mo, .inr (11, [.ref q_1, .ref q_2, .int 0, .int 0, .int 0, .int 0, .int 0, .int 0, .int 0, .int 0, .ref q_3, .int 0, .int 0, .int 0, .ref q_4, .ref q_5, .null, .int 0, .int 0, .int 0, .int 0, .null, .null, .null, .null, .null, .null, .int 0, .int 0, .int 0, .int 0, .int 0, .int 0, .int 0, .int 0, .int 0, .int 0, .int 0, .int 0, .null, .null, .null, .int 0]))], [zAr T 0 q_1 3952 (fun _ => 0)], [zAr T 2 q_2 3 (fun _ => 0)], [zAr T 0 q_3 121 (fun _ => 0)], [zAr T 0 q_4 7 (fun _ => 0)], [zAr T 0 q_5 7 (fun _ => 0)], [zAr T 0 q_6 7 (fun _ => 0)]] _ _ := G
  refine z_putF C G hnm clX12 0 rfl 16 (by decide) m_fl_RX12_26 rfl rfl rfl rfl (Nat.le_of_ble_eq_true rfl) dX12_init_49 (fun H locs G => ?_)
  have G : zS T A s.heap s [[(mo, .inr (11, [.ref q_1, .ref q_2, .int 0, .int 0, .int 0, .int 0, .int 0, .int 0, .int 0, .int 0, .ref q_3, .int 0, .int 0, .int 0, .ref q_4, .ref q_5, .ref q_6, .int 0, .int 0, .int 0, .int 0, .null, .null, .null, .null, .null, .null, .int 0, .int 0, .int 0, .int 0, .int 0, .int 0, .int 0, .int 0, .int 0, .int 0, .int 0, .int 0, .null, .null, .null, .int 0]))], [zAr T 0 q_1 3952 (fun _ => 0)], [zAr T 2 q_2 3 (fun _ => 0)], [zAr T 0 q_3 121 (fun _ => 0)], [zAr T 0 q_4 7 (fun _ => 0)], [zAr T 0 q_5 7 (fun _ => 0)], [zAr T 0 q_6 7 (fun _ => 0)]] _ _ := G
  refine lv_aload_n hx hb dX12_init_52 rfl (lv_at hl 0 rfl) ?_
  refine lv_bipush (v := 7) hx hb dX12_init_53 (by decide) ?_
  refine z_newa C G 0 (ty := .int) (N' := 7) (a0 := (7, .inl (fun _ => 0))) rfl z_uint m_ar_int rfl (fun _ => rfl) (by decide) (by decide) (Nat.le_of_ble_eq_true rfl) (Nat.le_of_ble_eq_true rfl) (Nat.le_of_ble_eq_true rfl) dX12_init_55 (fun q_7 H G => ?_)
  have G : zS T A s.heap s [[(mo, .inr (11, [.ref q_1, .ref q_2, .int 0, .int 0, .int 0, .int 0, .int 0, .int 0, .int 0, .int 0, .ref q_3, .int 0, .int 0, .int 0, .ref q_4, .ref q_5, .ref q_6, .int 0, .int 0, .int 0, .int 0, .null, .null, .null, .null, .null, .null, .int 0, .int 0, .int 0, .int 0, .int 0, .int 0, .int 0, .int 0, .int 0, .int 0, .int 0, .int 0, .null, .null, .null, .int 0]))], [zAr T 0 q_1 3952 (fun _ => 0)], [zAr T 2 q_2 3 (fun _ => 0)], [zAr T 0 q_3 121 (fun _ => 0)], [zAr T 0 q_4 7 (fun _ => 0)], [zAr T 0 q_5 7 (fun _ => 0)], [zAr T 0 q_6 7 (fun _ => 0)], [zAr T 0 q_7 7 (fun _ => 0)]] _ _ := G
  refine z_putF C G hnm clX12 0 rfl 21 (by decide) m_fl_RX12_29 rfl rfl rfl rfl (Nat.le_of_ble_eq_true rfl) dX12_init_57 (fun H locs G => ?_)
  have G : zS T A s.heap s [[(mo, .inr (11, [.ref q_1, .ref q_2, .int 0, .int 0, .int 0, .int 0, .int 0, .int 0, .int 0, .int 0, .ref q_3, .int 0, .int 0, .int 0, .ref q_4, .ref q_5, .ref q_6, .int 0, .int 0, .int 0, .int 0, .ref q_7, .null, .null, .null, .null, .null, .int 0, .int 0, .int 0, .int 0, .int 0, .int 0, .int 0, .int 0, .int 0, .int 0, .int 0, .int 0, .null, .null, .null, .int 0]))], [zAr T 0 q_1 3952 (fun _ => 0)], [zAr T 2 q_2 3 (fun _ => 0)], [zAr T 0 q_3 121 (fun _ => 0)], [zAr T 0 q_4 7 (fun _ => 0)], [zAr T 0 q_5 7 (fun _ => 0)], [zAr T 0 q_6 7 (fun _ => 0)], [zAr T 0 q_7 7 (fun _ => 0)]] _ _ := G
  refine lv_aload_n hx hb dX12_init_60 rfl (lv_at hl 0 rfl) ?_
  refine lv_bipush (v := 7) hx hb dX12_init_61 (by decide) ?_
  refine z_newa C G 0 (ty := .int) (N' := 7) (a0 := (7, .inl (fun _ => 0))) rfl z_uint m_ar_int rfl (fun _ => rfl) (by decide) (by decide) (Nat.le_of_ble_eq_true rfl) (Nat.le_of_ble_eq_true rfl) (Nat.le_of_ble_eq_true rfl) dX12_init_63 (fun q_8 H G => ?_)
  have G : zS T A s.heap s [[(mo, .inr (11, [.ref q_1, .ref q_2, .int 0, .int 0, .int 0, .int 0, .int 0, .int 0, .int 0, .int 0, .ref q_3, .int 0, .int 0, .int 0, .ref q_4, .ref q_5, .ref q_6, .int 0, .int 0, .int 0, .int 0, .ref q_7, .null, .null, .null, .null, .null, .int 0, .int 0, .int 0, .int 0, .int 0, .int 0, .int 0, .int 0, .int 0, .int 0, .int 0, .int 0, .null, .null, .null, .int 0]))], [zAr T 0 q_1 3952 (fun _ => 0)], [zAr T 2 q_2 3 (fun _ => 0)], [zAr T 0 q_3 121 (fun _ => 0)], [zAr T 0 q_4 7 (fun _ => 0)], [zAr T 0 q_5 7 (fun _ => 0)], [zAr T 0 q_6 7 (fun _ => 0)], [zAr T 0 q_7 7 (fun _ => 0)], [zAr T 0 q_8 7 (fun _ => 0)]] _ _ := G
  refine z_putF C G hnm clX12 0 rfl 22 (by decide) m_fl_RX12_32 rfl rfl rfl rfl (Nat.le_of_ble_eq_true rfl) dX12_init_65 (fun H locs G => ?_)
  have G : zS T A s.heap s [[(mo, .inr (11, [.ref q_1, .ref q_2, .int 0, .int 0, .int 0, .int 0, .int 0, .int 0, .int 0, .int 0, .ref q_3, .int 0, .int 0, .int 0, .ref q_4, .ref q_5, .ref q_6, .int 0, .int 0, .int 0, .int 0, .ref q_7, .ref q_8, .null, .null, .null, .null, .int 0, .int 0, .int 0, .int 0, .int 0, .int 0, .int 0, .int 0, .int 0, .int 0, .int 0, .int 0, .null, .null, .null, .int 0]))], [zAr T 0 q_1 3952 (fun _ => 0)], [zAr T 2 q_2 3 (fun _ => 0)], [zAr T 0 q_3 121 (fun _ => 0)], [zAr T 0 q_4 7 (fun _ => 0)], [zAr T 0 q_5 7 (fun _ => 0)], [zAr T 0 q_6 7 (fun _ => 0)], [zAr T 0 q_7 7 (fun _ => 0)], [zAr T 0 q_8 7 (fun _ => 0)]] _ _ := G
  refine lv_aload_n hx hb dX12_init_68 rfl (lv_at hl 0 rfl) ?_
  refine lv_sipush (v := 16384) hx hb dX12_init_69 (by decide) ?_
  refine z_newa C G 0 (ty := .int) (N' := 16384) (a0 := (16384, .inl (fun _ => 0))) rfl z_uint m_ar_int rfl (fun _ => rfl) (by decide) (by decide) (Nat.le_of_ble_eq_true rfl) (Nat.le_of_ble_eq_true rfl) (Nat.le_of_ble_eq_true rfl) dX12_init_72 (fun q_9 H G => ?_)
  have G : zS T A s.heap s [[(mo, .inr (11, [.ref q_1, .ref q_2, .int 0, .int 0, .int 0, .int 0, .int 0, .int 0, .int 0, .int 0, .ref q_3, .int 0, .int 0, .int 0, .ref q_4, .ref q_5, .ref q_6, .int 0, .int 0, .int 0, .int 0, .ref q_7, .ref q_8, .null, .null, .null, .null, .int 0, .int 0, .int 0, .int 0, .int 0, .int 0, .int 0, .int 0, .int 0, .int 0, .int 0, .int 0, .null, .null, .null, .int 0]))], [zAr T 0 q_1 3952 (fun _ => 0)], [zAr T 2 q_2 3 (fun _ => 0)], [zAr T 0 q_3 121 (fun _ => 0)], [zAr T 0 q_4 7 (fun _ => 0)], [zAr T 0 q_5 7 (fun _ => 0)], [zAr T 0 q_6 7 (fun _ => 0)], [zAr T 0 q_7 7 (fun _ => 0)], [zAr T 0 q_8 7 (fun _ => 0)], [zAr T 0 q_9 16384 (fun _ => 0)]] _ _ := G
  refine z_putF C G hnm clX12 0 rfl 23 (by decide) m_fl_RX12_35 rfl rfl rfl rfl (Nat.le_of_ble_eq_true rfl) dX12_init_74 (fun H locs G => ?_)
  have G : zS T A s.heap s [[(mo, .inr (11, [.ref q_1, .ref q_2, .int 0, .int 0, .int 0, .int 0, .int 0, .int 0, .int 0, .int 0, .ref q_3, .int 0, .int 0, .int 0, .ref q_4, .ref q_5, .ref q_6, .int 0, .int 0, .int 0, .int 0, .ref q_7, .ref q_8, .ref q_9, .null, .null, .null, .int 0, .int 0, .int 0, .int 0, .int 0, .int 0, .int 0, .int 0, .int 0, .int 0, .int 0, .int 0, .null, .null, .null, .int 0]))], [zAr T 0 q_1 3952 (fun _ => 0)], [zAr T 2 q_2 3 (fun _ => 0)], [zAr T 0 q_3 121 (fun _ => 0)], [zAr T 0 q_4 7 (fun _ => 0)], [zAr T 0 q_5 7 (fun _ => 0)], [zAr T 0 q_6 7 (fun _ => 0)], [zAr T 0 q_7 7 (fun _ => 0)], [zAr T 0 q_8 7 (fun _ => 0)], [zAr T 0 q_9 16384 (fun _ => 0)]] _ _ := G
  refine lv_aload_n hx hb dX12_init_77 rfl (lv_at hl 0 rfl) ?_
  refine lv_sipush (v := 512) hx hb dX12_init_78 (by decide) ?_
  refine z_newa C G 0 (ty := .int) (N' := 512) (a0 := (512, .inl (fun _ => 0))) rfl z_uint m_ar_int rfl (fun _ => rfl) (by decide) (by decide) (Nat.le_of_ble_eq_true rfl) (Nat.le_of_ble_eq_true rfl) (Nat.le_of_ble_eq_true rfl) dX12_init_81 (fun q_10 H G => ?_)
  have G : zS T A s.heap s [[(mo, .inr (11, [.ref q_1, .ref q_2, .int 0, .int 0, .int 0, .int 0, .int 0, .int 0, .int 0, .int 0, .ref q_3, .int 0, .int 0, .int 0, .ref q_4, .ref q_5, .ref q_6, .int 0, .int 0, .int 0, .int 0, .ref q_7, .ref q_8, .ref q_9, .null, .null, .null, .int 0, .int 0, .int 0, .int 0, .int 0, .int 0, .int 0, .int 0, .int 0, .int 0, .int 0, .int 0, .null, .null, .null, .int 0]))], [zAr T 0 q_1 3952 (fun _ => 0)], [zAr T 2 q_2 3 (fun _ => 0)], [zAr T 0 q_3 121 (fun _ => 0)], [zAr T 0 q_4 7 (fun _ => 0)], [zAr T 0 q_5 7 (fun _ => 0)], [zAr T 0 q_6 7 (fun _ => 0)], [zAr T 0 q_7 7 (fun _ => 0)], [zAr T 0 q_8 7 (fun _ => 0)], [zAr T 0 q_9 16384 (fun _ => 0)], [zAr T 0 q_10 512 (fun _ => 0)]] _ _ := G
  refine z_putF C G hnm clX12 0 rfl 24 (by decide) m_fl_RX12_38 rfl rfl rfl rfl (Nat.le_of_ble_eq_true rfl) dX12_init_83 (fun H locs G => ?_)
  have G : zS T A s.heap s [[(mo, .inr (11, [.ref q_1, .ref q_2, .int 0, .int 0, .int 0, .int 0, .int 0, .int 0, .int 0, .int 0, .ref q_3, .int 0, .int 0, .int 0, .ref q_4, .ref q_5, .ref q_6, .int 0, .int 0, .int 0, .int 0, .ref q_7, .ref q_8, .ref q_9, .ref q_10, .null, .null, .int 0, .int 0, .int 0, .int 0, .int 0, .int 0, .int 0, .int 0, .int 0, .int 0, .int 0, .int 0, .null, .null, .null, .int 0]))], [zAr T 0 q_1 3952 (fun _ => 0)], [zAr T 2 q_2 3 (fun _ => 0)], [zAr T 0 q_3 121 (fun _ => 0)], [zAr T 0 q_4 7 (fun _ => 0)], [zAr T 0 q_5 7 (fun _ => 0)], [zAr T 0 q_6 7 (fun _ => 0)], [zAr T 0 q_7 7 (fun _ => 0)], [zAr T 0 q_8 7 (fun _ => 0)], [zAr T 0 q_9 16384 (fun _ => 0)], [zAr T 0 q_10 512 (fun _ => 0)]] _ _ := G
  refine lv_aload_n hx hb dX12_init_86 rfl (lv_at hl 0 rfl) ?_
  refine lv_bipush (v := 49) hx hb dX12_init_87 (by decide) ?_
  refine z_newa C G 0 (ty := .int) (N' := 49) (a0 := (49, .inl (fun _ => 0))) rfl z_uint m_ar_int rfl (fun _ => rfl) (by decide) (by decide) (Nat.le_of_ble_eq_true rfl) (Nat.le_of_ble_eq_true rfl) (Nat.le_of_ble_eq_true rfl) dX12_init_89 (fun q_11 H G => ?_)
  have G : zS T A s.heap s [[(mo, .inr (11, [.ref q_1, .ref q_2, .int 0, .int 0, .int 0, .int 0, .int 0, .int 0, .int 0, .int 0, .ref q_3, .int 0, .int 0, .int 0, .ref q_4, .ref q_5, .ref q_6, .int 0, .int 0, .int 0, .int 0, .ref q_7, .ref q_8, .ref q_9, .ref q_10, .null, .null, .int 0, .int 0, .int 0, .int 0, .int 0, .int 0, .int 0, .int 0, .int 0, .int 0, .int 0, .int 0, .null, .null, .null, .int 0]))], [zAr T 0 q_1 3952 (fun _ => 0)], [zAr T 2 q_2 3 (fun _ => 0)], [zAr T 0 q_3 121 (fun _ => 0)], [zAr T 0 q_4 7 (fun _ => 0)], [zAr T 0 q_5 7 (fun _ => 0)], [zAr T 0 q_6 7 (fun _ => 0)], [zAr T 0 q_7 7 (fun _ => 0)], [zAr T 0 q_8 7 (fun _ => 0)], [zAr T 0 q_9 16384 (fun _ => 0)], [zAr T 0 q_10 512 (fun _ => 0)], [zAr T 0 q_11 49 (fun _ => 0)]] _ _ := G
  refine z_putF C G hnm clX12 0 rfl 25 (by decide) m_fl_RX12_41 rfl rfl rfl rfl (Nat.le_of_ble_eq_true rfl) dX12_init_91 (fun H locs G => ?_)
  have G : zS T A s.heap s [[(mo, .inr (11, [.ref q_1, .ref q_2, .int 0, .int 0, .int 0, .int 0, .int 0, .int 0, .int 0, .int 0, .ref q_3, .int 0, .int 0, .int 0, .ref q_4, .ref q_5, .ref q_6, .int 0, .int 0, .int 0, .int 0, .ref q_7, .ref q_8, .ref q_9, .ref q_10, .ref q_11, .null, .int 0, .int 0, .int 0, .int 0, .int 0, .int 0, .int 0, .int 0, .int 0, .int 0, .int 0, .int 0, .null, .null, .null, .int 0]))], [zAr T 0 q_1 3952 (fun _ => 0)], [zAr T 2 q_2 3 (fun _ => 0)], [zAr T 0 q_3 121 (fun _ => 0)], [zAr T 0 q_4 7 (fun _ => 0)], [zAr T 0 q_5 7 (fun _ => 0)], [zAr T 0 q_6 7 (fun _ => 0)], [zAr T 0 q_7 7 (fun _ => 0)], [zAr T 0 q_8 7 (fun _ => 0)], [zAr T 0 q_9 16384 (fun _ => 0)], [zAr T 0 q_10 512 (fun _ => 0)], [zAr T 0 q_11 49 (fun _ => 0)]] _ _ := G
  refine lv_aload_n hx hb dX12_init_94 rfl (lv_at hl 0 rfl) ?_
  refine lv_bipush (v := 7) hx hb dX12_init_95 (by decide) ?_
  refine z_newa C G 0 (ty := .int) (N' := 7) (a0 := (7, .inl (fun _ => 0))) rfl z_uint m_ar_int rfl (fun _ => rfl) (by decide) (by decide) (Nat.le_of_ble_eq_true rfl) (Nat.le_of_ble_eq_true rfl) (Nat.le_of_ble_eq_true rfl) dX12_init_97 (fun q_12 H G => ?_)
  have G : zS T A s.heap s [[(mo, .inr (11, [.ref q_1, .ref q_2, .int 0, .int 0, .int 0, .int 0, .int 0, .int 0, .int 0, .int 0, .ref q_3, .int 0, .int 0, .int 0, .ref q_4, .ref q_5, .ref q_6, .int 0, .int 0, .int 0, .int 0, .ref q_7, .ref q_8, .ref q_9, .ref q_10, .ref q_11, .null, .int 0, .int 0, .int 0, .int 0, .int 0, .int 0, .int 0, .int 0, .int 0, .int 0, .int 0, .int 0, .null, .null, .null, .int 0]))], [zAr T 0 q_1 3952 (fun _ => 0)], [zAr T 2 q_2 3 (fun _ => 0)], [zAr T 0 q_3 121 (fun _ => 0)], [zAr T 0 q_4 7 (fun _ => 0)], [zAr T 0 q_5 7 (fun _ => 0)], [zAr T 0 q_6 7 (fun _ => 0)], [zAr T 0 q_7 7 (fun _ => 0)], [zAr T 0 q_8 7 (fun _ => 0)], [zAr T 0 q_9 16384 (fun _ => 0)], [zAr T 0 q_10 512 (fun _ => 0)], [zAr T 0 q_11 49 (fun _ => 0)], [zAr T 0 q_12 7 (fun _ => 0)]] _ _ := G
  refine z_putF C G hnm clX12 0 rfl 26 (by decide) m_fl_RX12_44 rfl rfl rfl rfl (Nat.le_of_ble_eq_true rfl) dX12_init_99 (fun H locs G => ?_)
  have G : zS T A s.heap s [[(mo, .inr (11, [.ref q_1, .ref q_2, .int 0, .int 0, .int 0, .int 0, .int 0, .int 0, .int 0, .int 0, .ref q_3, .int 0, .int 0, .int 0, .ref q_4, .ref q_5, .ref q_6, .int 0, .int 0, .int 0, .int 0, .ref q_7, .ref q_8, .ref q_9, .ref q_10, .ref q_11, .ref q_12, .int 0, .int 0, .int 0, .int 0, .int 0, .int 0, .int 0, .int 0, .int 0, .int 0, .int 0, .int 0, .null, .null, .null, .int 0]))], [zAr T 0 q_1 3952 (fun _ => 0)], [zAr T 2 q_2 3 (fun _ => 0)], [zAr T 0 q_3 121 (fun _ => 0)], [zAr T 0 q_4 7 (fun _ => 0)], [zAr T 0 q_5 7 (fun _ => 0)], [zAr T 0 q_6 7 (fun _ => 0)], [zAr T 0 q_7 7 (fun _ => 0)], [zAr T 0 q_8 7 (fun _ => 0)], [zAr T 0 q_9 16384 (fun _ => 0)], [zAr T 0 q_10 512 (fun _ => 0)], [zAr T 0 q_11 49 (fun _ => 0)], [zAr T 0 q_12 7 (fun _ => 0)]] _ _ := G
  refine lv_aload_n hx hb dX12_init_102 rfl (lv_at hl 0 rfl) ?_
  refine lv_bipush (v := 28) hx hb dX12_init_103 (by decide) ?_
  refine z_newa C G 0 (ty := .int) (N' := 28) (a0 := (28, .inl (fun _ => 0))) rfl z_uint m_ar_int rfl (fun _ => rfl) (by decide) (by decide) (Nat.le_of_ble_eq_true rfl) (Nat.le_of_ble_eq_true rfl) (Nat.le_of_ble_eq_true rfl) dX12_init_105 (fun q_13 H G => ?_)
  have G : zS T A s.heap s [[(mo, .inr (11, [.ref q_1, .ref q_2, .int 0, .int 0, .int 0, .int 0, .int 0, .int 0, .int 0, .int 0, .ref q_3, .int 0, .int 0, .int 0, .ref q_4, .ref q_5, .ref q_6, .int 0, .int 0, .int 0, .int 0, .ref q_7, .ref q_8, .ref q_9, .ref q_10, .ref q_11, .ref q_12, .int 0, .int 0, .int 0, .int 0, .int 0, .int 0, .int 0, .int 0, .int 0, .int 0, .int 0, .int 0, .null, .null, .null, .int 0]))], [zAr T 0 q_1 3952 (fun _ => 0)], [zAr T 2 q_2 3 (fun _ => 0)], [zAr T 0 q_3 121 (fun _ => 0)], [zAr T 0 q_4 7 (fun _ => 0)], [zAr T 0 q_5 7 (fun _ => 0)], [zAr T 0 q_6 7 (fun _ => 0)], [zAr T 0 q_7 7 (fun _ => 0)], [zAr T 0 q_8 7 (fun _ => 0)], [zAr T 0 q_9 16384 (fun _ => 0)], [zAr T 0 q_10 512 (fun _ => 0)], [zAr T 0 q_11 49 (fun _ => 0)], [zAr T 0 q_12 7 (fun _ => 0)], [zAr T 0 q_13 28 (fun _ => 0)]] _ _ := G
  refine z_putF C G hnm clX12 0 rfl 39 (by decide) m_fl_RX12_47 rfl rfl rfl rfl (Nat.le_of_ble_eq_true rfl) dX12_init_107 (fun H locs G => ?_)
  have G : zS T A s.heap s [[(mo, .inr (11, [.ref q_1, .ref q_2, .int 0, .int 0, .int 0, .int 0, .int 0, .int 0, .int 0, .int 0, .ref q_3, .int 0, .int 0, .int 0, .ref q_4, .ref q_5, .ref q_6, .int 0, .int 0, .int 0, .int 0, .ref q_7, .ref q_8, .ref q_9, .ref q_10, .ref q_11, .ref q_12, .int 0, .int 0, .int 0, .int 0, .int 0, .int 0, .int 0, .int 0, .int 0, .int 0, .int 0, .int 0, .ref q_13, .null, .null, .int 0]))], [zAr T 0 q_1 3952 (fun _ => 0)], [zAr T 2 q_2 3 (fun _ => 0)], [zAr T 0 q_3 121 (fun _ => 0)], [zAr T 0 q_4 7 (fun _ => 0)], [zAr T 0 q_5 7 (fun _ => 0)], [zAr T 0 q_6 7 (fun _ => 0)], [zAr T 0 q_7 7 (fun _ => 0)], [zAr T 0 q_8 7 (fun _ => 0)], [zAr T 0 q_9 16384 (fun _ => 0)], [zAr T 0 q_10 512 (fun _ => 0)], [zAr T 0 q_11 49 (fun _ => 0)], [zAr T 0 q_12 7 (fun _ => 0)], [zAr T 0 q_13 28 (fun _ => 0)]] _ _ := G
  refine lv_aload_n hx hb dX12_init_110 rfl (lv_at hl 0 rfl) ?_
  refine lv_bipush (v := 49) hx hb dX12_init_111 (by decide) ?_
  refine z_newa C G 0 (ty := .int) (N' := 49) (a0 := (49, .inl (fun _ => 0))) rfl z_uint m_ar_int rfl (fun _ => rfl) (by decide) (by decide) (Nat.le_of_ble_eq_true rfl) (Nat.le_of_ble_eq_true rfl) (Nat.le_of_ble_eq_true rfl) dX12_init_113 (fun q_14 H G => ?_)
  have G : zS T A s.heap s [[(mo, .inr (11, [.ref q_1, .ref q_2, .int 0, .int 0, .int 0, .int 0, .int 0, .int 0, .int 0, .int 0, .ref q_3, .int 0, .int 0, .int 0, .ref q_4, .ref q_5, .ref q_6, .int 0, .int 0, .int 0, .int 0, .ref q_7, .ref q_8, .ref q_9, .ref q_10, .ref q_11, .ref q_12, .int 0, .int 0, .int 0, .int 0, .int 0, .int 0, .int 0, .int 0, .int 0, .int 0, .int 0, .int 0, .ref q_13, .null, .null, .int 0]))], [zAr T 0 q_1 3952 (fun _ => 0)], [zAr T 2 q_2 3 (fun _ => 0)], [zAr T 0 q_3 121 (fun _ => 0)], [zAr T 0 q_4 7 (fun _ => 0)], [zAr T 0 q_5 7 (fun _ => 0)], [zAr T 0 q_6 7 (fun _ => 0)], [zAr T 0 q_7 7 (fun _ => 0)], [zAr T 0 q_8 7 (fun _ => 0)], [zAr T 0 q_9 16384 (fun _ => 0)], [zAr T 0 q_10 512 (fun _ => 0)], [zAr T 0 q_11 49 (fun _ => 0)], [zAr T 0 q_12 7 (fun _ => 0)], [zAr T 0 q_13 28 (fun _ => 0)], [zAr T 0 q_14 49 (fun _ => 0)]] _ _ := G
  refine z_putF C G hnm clX12 0 rfl 40 (by decide) m_fl_RX12_50 rfl rfl rfl rfl (Nat.le_of_ble_eq_true rfl) dX12_init_115 (fun H locs G => ?_)
  have G : zS T A s.heap s [[(mo, .inr (11, [.ref q_1, .ref q_2, .int 0, .int 0, .int 0, .int 0, .int 0, .int 0, .int 0, .int 0, .ref q_3, .int 0, .int 0, .int 0, .ref q_4, .ref q_5, .ref q_6, .int 0, .int 0, .int 0, .int 0, .ref q_7, .ref q_8, .ref q_9, .ref q_10, .ref q_11, .ref q_12, .int 0, .int 0, .int 0, .int 0, .int 0, .int 0, .int 0, .int 0, .int 0, .int 0, .int 0, .int 0, .ref q_13, .ref q_14, .null, .int 0]))], [zAr T 0 q_1 3952 (fun _ => 0)], [zAr T 2 q_2 3 (fun _ => 0)], [zAr T 0 q_3 121 (fun _ => 0)], [zAr T 0 q_4 7 (fun _ => 0)], [zAr T 0 q_5 7 (fun _ => 0)], [zAr T 0 q_6 7 (fun _ => 0)], [zAr T 0 q_7 7 (fun _ => 0)], [zAr T 0 q_8 7 (fun _ => 0)], [zAr T 0 q_9 16384 (fun _ => 0)], [zAr T 0 q_10 512 (fun _ => 0)], [zAr T 0 q_11 49 (fun _ => 0)], [zAr T 0 q_12 7 (fun _ => 0)], [zAr T 0 q_13 28 (fun _ => 0)], [zAr T 0 q_14 49 (fun _ => 0)]] _ _ := G
  refine lv_aload_n hx hb dX12_init_118 rfl (lv_at hl 0 rfl) ?_
  refine lv_bipush (v := 7) hx hb dX12_init_119 (by decide) ?_
  refine z_newa C G 0 (ty := .int) (N' := 7) (a0 := (7, .inl (fun _ => 0))) rfl z_uint m_ar_int rfl (fun _ => rfl) (by decide) (by decide) (Nat.le_of_ble_eq_true rfl) (Nat.le_of_ble_eq_true rfl) (Nat.le_of_ble_eq_true rfl) dX12_init_121 (fun q_15 H G => ?_)
  have G : zS T A s.heap s [[(mo, .inr (11, [.ref q_1, .ref q_2, .int 0, .int 0, .int 0, .int 0, .int 0, .int 0, .int 0, .int 0, .ref q_3, .int 0, .int 0, .int 0, .ref q_4, .ref q_5, .ref q_6, .int 0, .int 0, .int 0, .int 0, .ref q_7, .ref q_8, .ref q_9, .ref q_10, .ref q_11, .ref q_12, .int 0, .int 0, .int 0, .int 0, .int 0, .int 0, .int 0, .int 0, .int 0, .int 0, .int 0, .int 0, .ref q_13, .ref q_14, .null, .int 0]))], [zAr T 0 q_1 3952 (fun _ => 0)], [zAr T 2 q_2 3 (fun _ => 0)], [zAr T 0 q_3 121 (fun _ => 0)], [zAr T 0 q_4 7 (fun _ => 0)], [zAr T 0 q_5 7 (fun _ => 0)], [zAr T 0 q_6 7 (fun _ => 0)], [zAr T 0 q_7 7 (fun _ => 0)], [zAr T 0 q_8 7 (fun _ => 0)], [zAr T 0 q_9 16384 (fun _ => 0)], [zAr T 0 q_10 512 (fun _ => 0)], [zAr T 0 q_11 49 (fun _ => 0)], [zAr T 0 q_12 7 (fun _ => 0)], [zAr T 0 q_13 28 (fun _ => 0)], [zAr T 0 q_14 49 (fun _ => 0)], [zAr T 0 q_15 7 (fun _ => 0)]] _ _ := G
  refine z_putF C G hnm clX12 0 rfl 41 (by decide) m_fl_RX12_53 rfl rfl rfl rfl (Nat.le_of_ble_eq_true rfl) dX12_init_123 (fun H locs G => ?_)
  have G : zS T A s.heap s [[zO11 mo q_1 q_2 0 0 0 0 0 0 0 0 q_3 0 0 0 q_4 q_5 q_6 0 0 0 0 q_7 q_8 q_9 q_10 q_11 q_12 0 0 0 0 0 0 0 0 0 0 0 0 q_13 q_14 q_15 0], [zAr T 0 q_1 3952 (fun _ => 0)], [zAr T 2 q_2 3 (fun _ => 0)], [zAr T 0 q_3 121 (fun _ => 0)], [zAr T 0 q_4 7 (fun _ => 0)], [zAr T 0 q_5 7 (fun _ => 0)], [zAr T 0 q_6 7 (fun _ => 0)], [zAr T 0 q_7 7 (fun _ => 0)], [zAr T 0 q_8 7 (fun _ => 0)], [zAr T 0 q_9 16384 (fun _ => 0)], [zAr T 0 q_10 512 (fun _ => 0)], [zAr T 0 q_11 49 (fun _ => 0)], [zAr T 0 q_12 7 (fun _ => 0)], [zAr T 0 q_13 28 (fun _ => 0)], [zAr T 0 q_14 49 (fun _ => 0)], [zAr T 0 q_15 7 (fun _ => 0)]] _ _ := G
  refine lv_aload_n hx hb dX12_init_126 rfl (lv_at hl 0 rfl) ?_
  refine z_get C G clX12 0 rfl 0 (by decide) m_fl_RX12_7 rfl dX12_init_127 ?_
  refine lv_bipush (v := 6) hx hb dX12_init_130 (by decide) ?_
  refine lv_iconst (v := (-1)) hx hb dX12_init_132 (by decide) ?_
  refine z_ist C G 1 rfl (vp_in_nI (n := 6) (by decide) (by decide)) dX12_init_133 (fun H locs G => ?_)
  have G : zS T A s.heap s [[zO11 mo q_1 q_2 0 0 0 0 0 0 0 0 q_3 0 0 0 q_4 q_5 q_6 0 0 0 0 q_7 q_8 q_9 q_10 q_11 q_12 0 0 0 0 0 0 0 0 0 0 0 0 q_13 q_14 q_15 0], [zAr T 0 q_1 3952 (upd (fun _ => 0) 6 (-1))], [zAr T 2 q_2 3 (fun _ => 0)], [zAr T 0 q_3 121 (fun _ => 0)], [zAr T 0 q_4 7 (fun _ => 0)], [zAr T 0 q_5 7 (fun _ => 0)], [zAr T 0 q_6 7 (fun _ => 0)], [zAr T 0 q_7 7 (fun _ => 0)], [zAr T 0 q_8 7 (fun _ => 0)], [zAr T 0 q_9 16384 (fun _ => 0)], [zAr T 0 q_10 512 (fun _ => 0)], [zAr T 0 q_11 49 (fun _ => 0)], [zAr T 0 q_12 7 (fun _ => 0)], [zAr T 0 q_13 28 (fun _ => 0)], [zAr T 0 q_14 49 (fun _ => 0)], [zAr T 0 q_15 7 (fun _ => 0)]] _ _ := G
  exact z_back hQz_ (z_vret C hr hlocks G (Nat.le_of_ble_eq_true rfl) (Nat.le_of_ble_eq_true rfl) dX12_init_134 ⟨q_1, q_2, q_3, q_4, q_5, q_6, q_7, q_8, q_9, q_10, q_11, q_12, q_13, q_14, q_15, rfl⟩)
set_option maxHeartbeats 4000000 in
set_option maxRecDepth 100000 in
/-- c_m_end -/
theorem c_m_end (l : Launch) (T : zTy) (mo : Nat) (m_all : Nat) (m_has : Nat) (i_size : Int32) (i_next : Int32) (i_where : Int32) (i_token : Int32) (i_number : Int32) (i_word : Int32) (i_wrong : Int32) (i_farCrossing : Int32) (m_read : Nat) (i_z0 : Int32) (i_crossings : Int32) (i_inns : Int32) (m_posts : Nat) (m_shut : Nat) (m_here : Nat) (i_steps : Int32) (i_done : Int32) (i_at : Int32) (i_gone : Int32) (m_was : Nat) (m_came : Nat) (m_seenAt : Nat) (m_rowWorth : Nat) (m_farBy : Nat) (m_used : Nat) (i_everywhere : Int32) (i_again0 : Int32) (i_d0 : Int32) (i_never : Int32) (i_firstCame : Int32) (i_longRun : Int32) (i_moved : Int32) (i_crowd : Int32) (i_l0 : Int32) (i_fitMany : Int32) (i_fitLeast : Int32) (i_fitMost : Int32) (m_fitPost : Nat) (m_fitEnd : Nat) (m_keptPosts : Nat) (i_x0 : Int32) (f_all : Nat → Int32) (n : Int32) : zMi l T yX12_end cX12_end 2 (some .int) 1 0 0 [.ref mo, .int n] [[zO11 mo m_all m_has i_size i_next i_where i_token i_number i_word i_wrong i_farCrossing m_read i_z0 i_crossings i_inns m_posts m_shut m_here i_steps i_done i_at i_gone m_was m_came m_seenAt m_rowWorth m_farBy m_used i_everywhere i_again0 i_d0 i_never i_firstCame i_longRun i_moved i_crowd i_l0 i_fitMany i_fitLeast i_fitMost m_fitPost m_fitEnd m_keptPosts i_x0], [zAr T 0 m_all 3952 f_all]] (fun (r : Int32) bs => ∃ (g_all : Nat → Int32), bs = [[zO11 mo m_all m_has i_size i_next i_where i_token i_number i_word i_wrong i_farCrossing m_read i_z0 i_crossings i_inns m_posts m_shut m_here i_steps i_done i_at i_gone m_was m_came m_seenAt m_rowWorth m_farBy m_used i_everywhere i_again0 i_d0 i_never i_firstCame i_longRun i_moved i_crowd i_l0 i_fitMany i_fitLeast i_fitMost m_fitPost m_fitEnd m_keptPosts i_x0], [zAr T 0 m_all 3952 g_all]] ∧ ((n.toInt < 0 ∨ (f_all 4).toInt < n.toInt) ∧ r.toInt = -1 ∧ g_all = f_all ∨ (0 ≤ n.toInt ∧ n.toInt ≤ (f_all 4).toInt) ∧ g_all = upd f_all 4 n ∧ r = n)) := by
  refine zMi_of (own := RX12) (by decide) rfl (Nat.le_of_ble_eq_true rfl) ?_
  intro p e s m args below meth c A ls C hr hlocks hnm hAe G hl
  refine zHide (fun Qz_ hQz_ => ?_)
  have hx := C.1
  have hb := C.2.1
  have hl : lv_has ls 2 [(0, .ref mo), (1, .int n)] := hl
  refine lv_iload_n hx hb dX12_end_0 rfl (lv_at hl 1 rfl) ?_
  refine lv_if_lt (tgt := 14) hx hb dX12_end_1 (by decide) (fun c_1 => ?_) (fun c_1 => ?_)
  · have c_1n : n.toInt < (0 : Int) := (fa_lt _ _).mp c_1
    refine lv_iconst (v := (-1)) hx hb dX12_end_14 (by decide) ?_
    exact z_back hQz_ (z_iret C hr hlocks G (Nat.le_of_ble_eq_true rfl) (Nat.le_of_ble_eq_true rfl) dX12_end_15 ⟨f_all, rfl, (Or.inl ⟨by omega, by decide, rfl⟩)⟩)
  · have c_1n : ¬ n.toInt < (0 : Int) := fun q => c_1 ((fa_lt _ _).mpr q)
    refine lv_iload_n hx hb dX12_end_4 rfl (lv_at hl 1 rfl) ?_
    refine lv_aload_n hx hb dX12_end_5 rfl (lv_at hl 0 rfl) ?_
    refine z_get C G clX12 0 rfl 0 (by decide) m_fl_RX12_7 rfl dX12_end_6 ?_
    refine lv_iconst (v := 4) hx hb dX12_end_9 (by decide) ?_
    refine z_ild C G 1 rfl (vp_in_nI (n := 4) (by decide) (by decide)) dX12_end_10 ?_
    refine lv_topi (fun v_2 ev_2 => ?_)
    rw [show ((4 : Int32).toNatClampNeg) = 4 from rfl] at ev_2
    subst ev_2
    refine lv_icmp_le (tgt := 16) hx hb dX12_end_11 (by decide) (fun c_3 => ?_) (fun c_3 => ?_)
    · have c_3n : n.toInt ≤ (f_all 4).toInt := (fa_le _ _).mp c_3
      refine lv_aload_n hx hb dX12_end_16 rfl (lv_at hl 0 rfl) ?_
      refine z_get C G clX12 0 rfl 0 (by decide) m_fl_RX12_7 rfl dX12_end_17 ?_
      refine lv_iconst (v := 4) hx hb dX12_end_20 (by decide) ?_
      refine lv_iload_n hx hb dX12_end_21 rfl (lv_at hl 1 rfl) ?_
      refine z_ist C G 1 rfl (vp_in_nI (n := 4) (by decide) (by decide)) dX12_end_22 (fun H locs G => ?_)
      have G : zS T A s.heap s [[zO11 mo m_all m_has i_size i_next i_where i_token i_number i_word i_wrong i_farCrossing m_read i_z0 i_crossings i_inns m_posts m_shut m_here i_steps i_done i_at i_gone m_was m_came m_seenAt m_rowWorth m_farBy m_used i_everywhere i_again0 i_d0 i_never i_firstCame i_longRun i_moved i_crowd i_l0 i_fitMany i_fitLeast i_fitMost m_fitPost m_fitEnd m_keptPosts i_x0], [zAr T 0 m_all 3952 (upd f_all 4 n)]] _ _ := G
      refine lv_iload_n hx hb dX12_end_23 rfl (lv_at hl 1 rfl) ?_
      exact z_back hQz_ (z_iret C hr hlocks G (Nat.le_of_ble_eq_true rfl) (Nat.le_of_ble_eq_true rfl) dX12_end_24 ⟨(upd f_all 4 n), rfl, (Or.inr ⟨by omega, rfl, rfl⟩)⟩)
    · have c_3n : ¬ n.toInt ≤ (f_all 4).toInt := fun q => c_3 ((fa_le _ _).mpr q)
      refine lv_iconst (v := (-1)) hx hb dX12_end_14 (by decide) ?_
      exact z_back hQz_ (z_iret C hr hlocks G (Nat.le_of_ble_eq_true rfl) (Nat.le_of_ble_eq_true rfl) dX12_end_15 ⟨f_all, rfl, (Or.inl ⟨by omega, by decide, rfl⟩)⟩)
theorem dX12_feed_0 : decode cX12_feed 0 = .ok (.aload_n 0, 1) := zo_42 (by decide +kernel)
theorem dX12_feed_1 : decode cX12_feed 1 = .ok (.getfield 7, 3) := zo_180 (by decide +kernel)
theorem dX12_feed_4 : decode cX12_feed 4 = .ok (.iconst 4, 1) := zo_7 (by decide +kernel)
theorem dX12_feed_5 : decode cX12_feed 5 = .ok (.iaload, 1) := zo_46 (by decide +kernel)
theorem dX12_feed_6 : decode cX12_feed 6 = .ok (.bipush 20, 2) := zo_16 (by decide +kernel)
theorem dX12_feed_8 : decode cX12_feed 8 = .ok (.iadd, 1) := zo_96 (by decide +kernel)
theorem dX12_feed_9 : decode cX12_feed 9 = .ok (.sipush 600, 3) := zo_17 (by decide +kernel)
theorem dX12_feed_12 : decode cX12_feed 12 = .ok (.if_icmp .le 5, 3) := zo_164 (by decide +kernel)
theorem dX12_feed_15 : decode cX12_feed 15 = .ok (.iconst (-1), 1) := zo_2 (by decide +kernel)
theorem dX12_feed_16 : decode cX12_feed 16 = .ok (.ireturn, 1) := zo_172 (by decide +kernel)
theorem dX12_feed_17 : decode cX12_feed 17 = .ok (.iconst 0, 1) := zo_3 (by decide +kernel)
theorem dX12_feed_18 : decode cX12_feed 18 = .ok (.istore 6, 2) := zo_54 (by decide +kernel)
theorem dX12_feed_20 : decode cX12_feed 20 = .ok (.iload 6, 2) := zo_21 (by decide +kernel)
theorem dX12_feed_22 : decode cX12_feed 22 = .ok (.bipush 20, 2) := zo_16 (by decide +kernel)
theorem dX12_feed_24 : decode cX12_feed 24 = .ok (.if_icmp .ge 98, 3) := zo_162 (by decide +kernel)
theorem dX12_feed_27 : decode cX12_feed 27 = .ok (.iload 6, 2) := zo_21 (by decide +kernel)
theorem dX12_feed_29 : decode cX12_feed 29 = .ok (.iconst 4, 1) := zo_7 (by decide +kernel)
theorem dX12_feed_30 : decode cX12_feed 30 = .ok (.if_icmp .ge 7, 3) := zo_162 (by decide +kernel)
theorem dX12_feed_33 : decode cX12_feed 33 = .ok (.iload_n 1, 1) := zo_27 (by decide +kernel)
theorem dX12_feed_34 : decode cX12_feed 34 = .ok (.goto 39, 3) := zo_167 (by decide +kernel)
theorem dX12_feed_37 : decode cX12_feed 37 = .ok (.iload 6, 2) := zo_21 (by decide +kernel)
theorem dX12_feed_39 : decode cX12_feed 39 = .ok (.bipush 8, 2) := zo_16 (by decide +kernel)
theorem dX12_feed_41 : decode cX12_feed 41 = .ok (.if_icmp .ge 7, 3) := zo_162 (by decide +kernel)
theorem dX12_feed_44 : decode cX12_feed 44 = .ok (.iload_n 2, 1) := zo_28 (by decide +kernel)
theorem dX12_feed_45 : decode cX12_feed 45 = .ok (.goto 28, 3) := zo_167 (by decide +kernel)
theorem dX12_feed_48 : decode cX12_feed 48 = .ok (.iload 6, 2) := zo_21 (by decide +kernel)
theorem dX12_feed_50 : decode cX12_feed 50 = .ok (.bipush 12, 2) := zo_16 (by decide +kernel)
theorem dX12_feed_52 : decode cX12_feed 52 = .ok (.if_icmp .ge 7, 3) := zo_162 (by decide +kernel)
theorem dX12_feed_55 : decode cX12_feed 55 = .ok (.iload_n 3, 1) := zo_29 (by decide +kernel)
theorem dX12_feed_56 : decode cX12_feed 56 = .ok (.goto 17, 3) := zo_167 (by decide +kernel)
theorem dX12_feed_59 : decode cX12_feed 59 = .ok (.iload 6, 2) := zo_21 (by decide +kernel)
theorem dX12_feed_61 : decode cX12_feed 61 = .ok (.bipush 16, 2) := zo_16 (by decide +kernel)
theorem dX12_feed_63 : decode cX12_feed 63 = .ok (.if_icmp .ge 8, 3) := zo_162 (by decide +kernel)
theorem dX12_feed_66 : decode cX12_feed 66 = .ok (.iload 4, 2) := zo_21 (by decide +kernel)
theorem dX12_feed_68 : decode cX12_feed 68 = .ok (.goto 5, 3) := zo_167 (by decide +kernel)
theorem dX12_feed_71 : decode cX12_feed 71 = .ok (.iload 5, 2) := zo_21 (by decide +kernel)
theorem dX12_feed_73 : decode cX12_feed 73 = .ok (.istore 7, 2) := zo_54 (by decide +kernel)
theorem dX12_feed_75 : decode cX12_feed 75 = .ok (.aload_n 0, 1) := zo_42 (by decide +kernel)
theorem dX12_feed_76 : decode cX12_feed 76 = .ok (.getfield 7, 3) := zo_180 (by decide +kernel)
theorem dX12_feed_79 : decode cX12_feed 79 = .ok (.bipush 10, 2) := zo_16 (by decide +kernel)
theorem dX12_feed_81 : decode cX12_feed 81 = .ok (.aload_n 0, 1) := zo_42 (by decide +kernel)
theorem dX12_feed_82 : decode cX12_feed 82 = .ok (.getfield 7, 3) := zo_180 (by decide +kernel)
theorem dX12_feed_85 : decode cX12_feed 85 = .ok (.iconst 4, 1) := zo_7 (by decide +kernel)
theorem dX12_feed_86 : decode cX12_feed 86 = .ok (.iaload, 1) := zo_46 (by decide +kernel)
theorem dX12_feed_87 : decode cX12_feed 87 = .ok (.iadd, 1) := zo_96 (by decide +kernel)
theorem dX12_feed_88 : decode cX12_feed 88 = .ok (.iload 7, 2) := zo_21 (by decide +kernel)
theorem dX12_feed_90 : decode cX12_feed 90 = .ok (.bipush 24, 2) := zo_16 (by decide +kernel)
theorem dX12_feed_92 : decode cX12_feed 92 = .ok (.bipush 8, 2) := zo_16 (by decide +kernel)
theorem dX12_feed_94 : decode cX12_feed 94 = .ok (.iload 6, 2) := zo_21 (by decide +kernel)
theorem dX12_feed_96 : decode cX12_feed 96 = .ok (.iconst 4, 1) := zo_7 (by decide +kernel)
theorem dX12_feed_97 : decode cX12_feed 97 = .ok (.irem, 1) := zo_112 (by decide +kernel)
theorem dX12_feed_98 : decode cX12_feed 98 = .ok (.imul, 1) := zo_104 (by decide +kernel)
theorem dX12_feed_99 : decode cX12_feed 99 = .ok (.isub, 1) := zo_100 (by decide +kernel)
theorem dX12_feed_100 : decode cX12_feed 100 = .ok (.ishr, 1) := zo_122 (by decide +kernel)
theorem dX12_feed_101 : decode cX12_feed 101 = .ok (.sipush 255, 3) := zo_17 (by decide +kernel)
theorem dX12_feed_104 : decode cX12_feed 104 = .ok (.iand, 1) := zo_126 (by decide +kernel)
theorem dX12_feed_105 : decode cX12_feed 105 = .ok (.iastore, 1) := zo_79 (by decide +kernel)
theorem dX12_feed_106 : decode cX12_feed 106 = .ok (.aload_n 0, 1) := zo_42 (by decide +kernel)
theorem dX12_feed_107 : decode cX12_feed 107 = .ok (.getfield 7, 3) := zo_180 (by decide +kernel)
theorem dX12_feed_110 : decode cX12_feed 110 = .ok (.iconst 4, 1) := zo_7 (by decide +kernel)
theorem dX12_feed_111 : decode cX12_feed 111 = .ok (.dup2, 1) := zo_92 (by decide +kernel)
theorem dX12_feed_112 : decode cX12_feed 112 = .ok (.iaload, 1) := zo_46 (by decide +kernel)
theorem dX12_feed_113 : decode cX12_feed 113 = .ok (.iconst 1, 1) := zo_4 (by decide +kernel)
theorem dX12_feed_114 : decode cX12_feed 114 = .ok (.iadd, 1) := zo_96 (by decide +kernel)
theorem dX12_feed_115 : decode cX12_feed 115 = .ok (.iastore, 1) := zo_79 (by decide +kernel)
theorem dX12_feed_116 : decode cX12_feed 116 = .ok (.iinc 6 1, 3) := zo_132 (by decide +kernel)
theorem dX12_feed_119 : decode cX12_feed 119 = .ok (.goto (-99), 3) := zo_167 (by decide +kernel)
theorem dX12_feed_122 : decode cX12_feed 122 = .ok (.aload_n 0, 1) := zo_42 (by decide +kernel)
theorem dX12_feed_123 : decode cX12_feed 123 = .ok (.getfield 7, 3) := zo_180 (by decide +kernel)
theorem dX12_feed_126 : decode cX12_feed 126 = .ok (.iconst 4, 1) := zo_7 (by decide +kernel)
theorem dX12_feed_127 : decode cX12_feed 127 = .ok (.iaload, 1) := zo_46 (by decide +kernel)
theorem dX12_feed_128 : decode cX12_feed 128 = .ok (.ireturn, 1) := zo_172 (by decide +kernel)
theorem m_co_X12_isIn : Cond.code yX12_isIn cX12_isIn 3 (some .boolean) ∈ zT := zmem1 zsub_6 139 rfl rfl
theorem m_ml_RX12_111 : Cond.methodLink RX12 111 yX12_isIn ∈ zT := zmem1 zsub_6 137 rfl rfl
theorem m_st_X12_isIn : Cond.static yX12_isIn ∈ zT := zmem1 zsub_6 138 rfl rfl
theorem m_ii_RX12 : Cond.initialized RX12 ∈ zT := zmem1 zsub_1 12 rfl rfl
theorem kS_RX12_111 {R : Room} {s : State} {args : Array Value} {d mc ms : Nat} (hts : ∀ w ∈ zT, w.before args s = true) (h1 : d + 1 ≤ R.frames) (h2 : 8 + (3 + 11) + 40 * d ≤ R.locals) : CallB R s args RX12 111 yX12_isIn cX12_isIn 3 (some .boolean) (zW yX12_isIn cX12_isIn 3 (some .boolean)) (zR d mc ms) mc ms 3 ∧ (Cond.static yX12_isIn).before args s = true := z_cwS hts m_co_X12_isIn m_ml_RX12_111 m_st_X12_isIn m_ii_RX12 (by decide +kernel) h1 h2
theorem dX12_isIn_0 : decode cX12_isIn 0 = .ok (.iload_n 0, 1) := zo_26 (by decide +kernel)
theorem dX12_isIn_1 : decode cX12_isIn 1 = .ok (.iload_n 1, 1) := zo_27 (by decide +kernel)
theorem dX12_isIn_2 : decode cX12_isIn 2 = .ok (.if_icmp .lt 12, 3) := zo_161 (by decide +kernel)
theorem dX12_isIn_5 : decode cX12_isIn 5 = .ok (.iload_n 0, 1) := zo_26 (by decide +kernel)
theorem dX12_isIn_6 : decode cX12_isIn 6 = .ok (.iload_n 2, 1) := zo_28 (by decide +kernel)
theorem dX12_isIn_7 : decode cX12_isIn 7 = .ok (.if_icmp .gt 7, 3) := zo_163 (by decide +kernel)
theorem dX12_isIn_10 : decode cX12_isIn 10 = .ok (.iconst 1, 1) := zo_4 (by decide +kernel)
theorem dX12_isIn_11 : decode cX12_isIn 11 = .ok (.goto 4, 3) := zo_167 (by decide +kernel)
theorem dX12_isIn_14 : decode cX12_isIn 14 = .ok (.iconst 0, 1) := zo_3 (by decide +kernel)
theorem dX12_isIn_15 : decode cX12_isIn 15 = .ok (.ireturn, 1) := zo_172 (by decide +kernel)
theorem dX12_image_0 : decode cX12_image 0 = .ok (.iload_n 1, 1) := zo_27 (by decide +kernel)
theorem dX12_image_1 : decode cX12_image 1 = .ok (.iconst 0, 1) := zo_3 (by decide +kernel)
theorem dX12_image_2 : decode cX12_image 2 = .ok (.iconst 2, 1) := zo_5 (by decide +kernel)
theorem dX12_image_3 : decode cX12_image 3 = .ok (.invokestatic 111, 3) := zo_184 (by decide +kernel)
theorem dX12_image_6 : decode cX12_image 6 = .ok (.ifCond .ne 5, 3) := zo_154 (by decide +kernel)
theorem dX12_image_9 : decode cX12_image 9 = .ok (.iconst 0, 1) := zo_3 (by decide +kernel)
theorem dX12_image_10 : decode cX12_image 10 = .ok (.ireturn, 1) := zo_172 (by decide +kernel)
theorem dX12_image_11 : decode cX12_image 11 = .ok (.aload_n 0, 1) := zo_42 (by decide +kernel)
theorem dX12_image_12 : decode cX12_image 12 = .ok (.getfield 13, 3) := zo_180 (by decide +kernel)
theorem dX12_image_15 : decode cX12_image 15 = .ok (.iload_n 1, 1) := zo_27 (by decide +kernel)
theorem dX12_image_16 : decode cX12_image 16 = .ok (.iconst 1, 1) := zo_4 (by decide +kernel)
theorem dX12_image_17 : decode cX12_image 17 = .ok (.bastore, 1) := zo_84 (by decide +kernel)
theorem dX12_image_18 : decode cX12_image 18 = .ok (.iconst 0, 1) := zo_3 (by decide +kernel)
theorem dX12_image_19 : decode cX12_image 19 = .ok (.istore_n 2, 1) := zo_61 (by decide +kernel)
theorem dX12_image_20 : decode cX12_image 20 = .ok (.iload_n 2, 1) := zo_28 (by decide +kernel)
theorem dX12_image_21 : decode cX12_image 21 = .ok (.sipush 988, 3) := zo_17 (by decide +kernel)
theorem dX12_image_24 : decode cX12_image 24 = .ok (.if_icmp .ge 29, 3) := zo_162 (by decide +kernel)
theorem dX12_image_27 : decode cX12_image 27 = .ok (.aload_n 0, 1) := zo_42 (by decide +kernel)
theorem dX12_image_28 : decode cX12_image 28 = .ok (.getfield 7, 3) := zo_180 (by decide +kernel)
theorem dX12_image_31 : decode cX12_image 31 = .ok (.sipush 988, 3) := zo_17 (by decide +kernel)
theorem dX12_image_34 : decode cX12_image 34 = .ok (.iload_n 1, 1) := zo_27 (by decide +kernel)
theorem dX12_image_35 : decode cX12_image 35 = .ok (.iconst 1, 1) := zo_4 (by decide +kernel)
theorem dX12_image_36 : decode cX12_image 36 = .ok (.iadd, 1) := zo_96 (by decide +kernel)
theorem dX12_image_37 : decode cX12_image 37 = .ok (.imul, 1) := zo_104 (by decide +kernel)
theorem dX12_image_38 : decode cX12_image 38 = .ok (.iload_n 2, 1) := zo_28 (by decide +kernel)
theorem dX12_image_39 : decode cX12_image 39 = .ok (.iadd, 1) := zo_96 (by decide +kernel)
theorem dX12_image_40 : decode cX12_image 40 = .ok (.aload_n 0, 1) := zo_42 (by decide +kernel)
theorem dX12_image_41 : decode cX12_image 41 = .ok (.getfield 7, 3) := zo_180 (by decide +kernel)
theorem dX12_image_44 : decode cX12_image 44 = .ok (.iload_n 2, 1) := zo_28 (by decide +kernel)
theorem dX12_image_45 : decode cX12_image 45 = .ok (.iaload, 1) := zo_46 (by decide +kernel)
theorem dX12_image_46 : decode cX12_image 46 = .ok (.iastore, 1) := zo_79 (by decide +kernel)
theorem dX12_image_47 : decode cX12_image 47 = .ok (.iinc 2 1, 3) := zo_132 (by decide +kernel)
theorem dX12_image_50 : decode cX12_image 50 = .ok (.goto (-30), 3) := zo_167 (by decide +kernel)
theorem dX12_image_53 : decode cX12_image 53 = .ok (.iconst 1, 1) := zo_4 (by decide +kernel)
theorem dX12_image_54 : decode cX12_image 54 = .ok (.ireturn, 1) := zo_172 (by decide +kernel)
set_option maxHeartbeats 4000000 in
set_option maxRecDepth 100000 in
/-- c_m_isIn -/
theorem c_m_isIn (l : Launch) (T : zTy) (x : Int32) (y : Int32) (z : Int32) : zMi l T yX12_isIn cX12_isIn 3 (some .boolean) 1 0 0 [.int x, .int y, .int z] [] (fun (r : Int32) bs => bs = [] ∧ ((r = 1 ∧ y.toInt ≤ x.toInt ∧ x.toInt ≤ z.toInt) ∨ (r = 0 ∧ (x.toInt < y.toInt ∨ z.toInt < x.toInt)))) := by
  refine zMi_of (own := RX12) (by decide) rfl (Nat.le_of_ble_eq_true rfl) ?_
  intro p e s m args below meth c A ls C hr hlocks hnm hAe G hl
  refine zHide (fun Qz_ hQz_ => ?_)
  have hx := C.1
  have hb := C.2.1
  have hl : lv_has ls 3 [(0, .int x), (1, .int y), (2, .int z)] := hl
  refine lv_iload_n hx hb dX12_isIn_0 rfl (lv_at hl 0 rfl) ?_
  refine lv_iload_n hx hb dX12_isIn_1 rfl (lv_at hl 1 rfl) ?_
  refine lv_icmp_lt (tgt := 14) hx hb dX12_isIn_2 (by decide) (fun c_1 => ?_) (fun c_1 => ?_)
  · have c_1n : x.toInt < y.toInt := (fa_lt _ _).mp c_1
    refine lv_iconst (v := 0) hx hb dX12_isIn_14 (by decide) ?_
    exact z_back hQz_ (z_zret C hr hlocks G (Nat.le_of_ble_eq_true rfl) (Nat.le_of_ble_eq_true rfl) dX12_isIn_15 rfl ⟨rfl, (Or.inr (⟨rfl, (by first | with_reducible assumption | omega | assumption)⟩))⟩)
  · have c_1n : ¬ x.toInt < y.toInt := fun q => c_1 ((fa_lt _ _).mpr q)
    refine lv_iload_n hx hb dX12_isIn_5 rfl (lv_at hl 0 rfl) ?_
    refine lv_iload_n hx hb dX12_isIn_6 rfl (lv_at hl 2 rfl) ?_
    refine lv_icmp_gt (tgt := 14) hx hb dX12_isIn_7 (by decide) (fun c_2 => ?_) (fun c_2 => ?_)
    · have c_2n : z.toInt < x.toInt := (fa_lt _ _).mp c_2
      refine lv_iconst (v := 0) hx hb dX12_isIn_14 (by decide) ?_
      exact z_back hQz_ (z_zret C hr hlocks G (Nat.le_of_ble_eq_true rfl) (Nat.le_of_ble_eq_true rfl) dX12_isIn_15 rfl ⟨rfl, (Or.inr (⟨rfl, (by first | with_reducible assumption | omega | assumption)⟩))⟩)
    · have c_2n : ¬ z.toInt < x.toInt := fun q => c_2 ((fa_lt _ _).mpr q)
      refine lv_iconst (v := 1) hx hb dX12_isIn_10 (by decide) ?_
      refine lv_goto (tgt := 15) hx hb dX12_isIn_11 (by decide) ?_
      exact z_back hQz_ (z_zret C hr hlocks G (Nat.le_of_ble_eq_true rfl) (Nat.le_of_ble_eq_true rfl) dX12_isIn_15 rfl ⟨rfl, (Or.inl (⟨rfl, (by first | with_reducible assumption | omega | assumption), (by first | with_reducible assumption | omega | assumption)⟩))⟩)
theorem z_upS {x f : Nat → Int32} {b i : Nat} {v : Int32} (h : ∀ j, j < i → x (b + j) = f j) (hv : v = f i) : ∀ j, j < i + 1 → upd x (b + i) v (b + j) = f j := by
  intro j hj
  unfold upd
  split
  · rename_i e
    rw [show j = i by omega]
    exact hv
  · exact h j (by omega)
theorem z_upO {x f : Nat → Int32} {p : Nat → Prop} {i : Nat} {v : Int32} (h : ∀ j, p j → x j = f j) (hi : ¬ p i) : ∀ j, p j → upd x i v j = f j := by
  intro j hj
  unfold upd
  split
  · rename_i e
    exact absurd (e ▸ hj) hi
  · exact h j hj
set_option maxHeartbeats 4000000 in
set_option maxRecDepth 100000 in
/-- c_m_image -/
theorem c_m_image (l : Launch) (T : zTy) (mo : Nat) (m_all : Nat) (m_has : Nat) (i_size : Int32) (i_next : Int32) (i_where : Int32) (i_token : Int32) (i_number : Int32) (i_word : Int32) (i_wrong : Int32) (i_farCrossing : Int32) (m_read : Nat) (i_z0 : Int32) (i_crossings : Int32) (i_inns : Int32) (m_posts : Nat) (m_shut : Nat) (m_here : Nat) (i_steps : Int32) (i_done : Int32) (i_at : Int32) (i_gone : Int32) (m_was : Nat) (m_came : Nat) (m_seenAt : Nat) (m_rowWorth : Nat) (m_farBy : Nat) (m_used : Nat) (i_everywhere : Int32) (i_again0 : Int32) (i_d0 : Int32) (i_never : Int32) (i_firstCame : Int32) (i_longRun : Int32) (i_moved : Int32) (i_crowd : Int32) (i_l0 : Int32) (i_fitMany : Int32) (i_fitLeast : Int32) (i_fitMost : Int32) (m_fitPost : Nat) (m_fitEnd : Nat) (m_keptPosts : Nat) (i_x0 : Int32) (f_all : Nat → Int32) (f_has : Nat → Int32) (k_ : Int32) : zMi l T yX12_image cX12_image 3 (some .boolean) 2 0 0 [.ref mo, .int k_] [[zO11 mo m_all m_has i_size i_next i_where i_token i_number i_word i_wrong i_farCrossing m_read i_z0 i_crossings i_inns m_posts m_shut m_here i_steps i_done i_at i_gone m_was m_came m_seenAt m_rowWorth m_farBy m_used i_everywhere i_again0 i_d0 i_never i_firstCame i_longRun i_moved i_crowd i_l0 i_fitMany i_fitLeast i_fitMost m_fitPost m_fitEnd m_keptPosts i_x0], [zAr T 0 m_all 3952 f_all], [zAr T 2 m_has 3 f_has]] (fun (r : Int32) bs => ∃ (g_all : Nat → Int32) (g_has : Nat → Int32), bs = [[zO11 mo m_all m_has i_size i_next i_where i_token i_number i_word i_wrong i_farCrossing m_read i_z0 i_crossings i_inns m_posts m_shut m_here i_steps i_done i_at i_gone m_was m_came m_seenAt m_rowWorth m_farBy m_used i_everywhere i_again0 i_d0 i_never i_firstCame i_longRun i_moved i_crowd i_l0 i_fitMany i_fitLeast i_fitMost m_fitPost m_fitEnd m_keptPosts i_x0], [zAr T 0 m_all 3952 g_all], [zAr T 2 m_has 3 g_has]] ∧ (r = 0 ∧ (k_.toInt < 0 ∨ 3 ≤ k_.toInt) ∧ g_all = f_all ∧ g_has = f_has ∨ r = 1 ∧ (0 ≤ k_.toInt ∧ k_.toInt < 3) ∧ (∀ j, j < 988 → g_all (988 * (k_.toNatClampNeg + 1) + j) = f_all j) ∧ (∀ j, (j < 988 * (k_.toNatClampNeg + 1) ∨ 988 * (k_.toNatClampNeg + 1) + 988 ≤ j) → g_all j = f_all j) ∧ g_has = upd f_has k_.toNatClampNeg 1)) := by
  refine zMi_of (own := RX12) (by decide) rfl (Nat.le_of_ble_eq_true rfl) ?_
  intro p e s m args below meth c A ls C hr hlocks hnm hAe G hl
  refine zHide (fun Qz_ hQz_ => ?_)
  have hx := C.1
  have hb := C.2.1
  have hl : lv_has ls 3 [(0, .ref mo), (1, .int k_)] := hl
  refine lv_iload_n hx hb dX12_image_0 rfl (lv_at hl 1 rfl) ?_
  refine lv_iconst (v := 0) hx hb dX12_image_1 (by decide) ?_
  refine lv_iconst (v := 2) hx hb dX12_image_2 (by decide) ?_
  refine z_Si (bc := []) (br := [[zO11 mo m_all m_has i_size i_next i_where i_token i_number i_word i_wrong i_farCrossing m_read i_z0 i_crossings i_inns m_posts m_shut m_here i_steps i_done i_at i_gone m_was m_came m_seenAt m_rowWorth m_farBy m_used i_everywhere i_again0 i_d0 i_never i_firstCame i_longRun i_moved i_crowd i_l0 i_fitMany i_fitLeast i_fitMost m_fitPost m_fitEnd m_keptPosts i_x0], [zAr T 0 m_all 3952 f_all], [zAr T 2 m_has 3 f_has]]) (As := [.int k_, .int 0, .int 2]) (rest := []) C G (c_m_isIn l T k_ 0 2) (kS_RX12_111 C.2.2.2.2 (Nat.le_of_ble_eq_true rfl) (Nat.le_of_ble_eq_true rfl)) [] [] rfl rfl rfl rfl hl.1 dX12_image_3 (Nat.le_of_ble_eq_true rfl) (Nat.le_of_ble_eq_true rfl) (fun r_2 b1 H locs hw G => ?_)
  refine zAn2 hw ?_
  intro hbs9 hc_1
  clear hw
  subst hbs9
  have G : zS T A s.heap s [[zO11 mo m_all m_has i_size i_next i_where i_token i_number i_word i_wrong i_farCrossing m_read i_z0 i_crossings i_inns m_posts m_shut m_here i_steps i_done i_at i_gone m_was m_came m_seenAt m_rowWorth m_farBy m_used i_everywhere i_again0 i_d0 i_never i_firstCame i_longRun i_moved i_crowd i_l0 i_fitMany i_fitLeast i_fitMost m_fitPost m_fitEnd m_keptPosts i_x0], [zAr T 0 m_all 3952 f_all], [zAr T 2 m_has 3 f_has]] _ _ := G
  rcases hc_1 with ⟨rfl, h_3, h_4⟩ | ⟨rfl, h_5⟩
  · have h_3 : (0 : Int) ≤ k_.toInt := h_3
    have h_4 : k_.toInt ≤ (2 : Int) := h_4
    refine lv_if_ne (tgt := 11) hx hb dX12_image_6 (by decide) (fun _ => ?_) (fun q => absurd q (by decide))
    rcases (show k_.toInt = 0 ∨ k_.toInt = 1 ∨ k_.toInt = 2 from by omega) with hk | hk | hk
    · obtain rfl : k_ = 0 := Int32.toInt_inj.mp hk
      refine lv_aload_n hx hb dX12_image_11 rfl (lv_at hl 0 rfl) ?_
      refine z_get C G clX12 0 rfl 1 (by decide) m_fl_RX12_13 rfl dX12_image_12 ?_
      refine lv_iload_n hx hb dX12_image_15 rfl (lv_at hl 1 rfl) ?_
      refine lv_iconst (v := 1) hx hb dX12_image_16 (by decide) ?_
      refine z_zst C G 2 rfl (vp_in_nI (n := 0) (by decide) (by decide)) dX12_image_17 (fun H locs G => ?_)
      have G : zS T A s.heap s [[zO11 mo m_all m_has i_size i_next i_where i_token i_number i_word i_wrong i_farCrossing m_read i_z0 i_crossings i_inns m_posts m_shut m_here i_steps i_done i_at i_gone m_was m_came m_seenAt m_rowWorth m_farBy m_used i_everywhere i_again0 i_d0 i_never i_firstCame i_longRun i_moved i_crowd i_l0 i_fitMany i_fitLeast i_fitMost m_fitPost m_fitEnd m_keptPosts i_x0], [zAr T 0 m_all 3952 f_all], [zAr T 2 m_has 3 (upd f_has 0 (vp_nar .boolean 1))]] _ _ := G
      refine lv_iconst (v := 0) hx hb dX12_image_18 (by decide) ?_
      refine lv_istore_n (lv' := [(2, .int 0), (0, .ref mo), (1, .int 0)]) hx hb dX12_image_19 rfl hl (by decide) (zLvf_h rfl) (fun ls hl => ?_)
      refine z_lp2 (T := T) 20 (fun (i : Nat) (x : Nat → Int32) => [[zO11 mo m_all m_has i_size i_next i_where i_token i_number i_word i_wrong i_farCrossing m_read i_z0 i_crossings i_inns m_posts m_shut m_here i_steps i_done i_at i_gone m_was m_came m_seenAt m_rowWorth m_farBy m_used i_everywhere i_again0 i_d0 i_never i_firstCame i_longRun i_moved i_crowd i_l0 i_fitMany i_fitLeast i_fitMost m_fitPost m_fitEnd m_keptPosts i_x0], [zAr T 0 m_all 3952 x], [zAr T 2 m_has 3 (upd f_has 0 (vp_nar .boolean 1))]]) (fun (i : Nat) (x : Nat → Int32) => [(2, .int (nI i)), (0, .ref mo), (1, .int 0)]) (fun (i : Nat) (x : Nat → Int32) => i ≤ 988 ∧ (∀ j, j < i → x (988 + j) = f_all j) ∧ (∀ j, (j < 988 ∨ 1976 ≤ j) → x j = f_all j)) (fun (i : Nat) (x : Nat → Int32) => 988 - i) ?_ 0 f_all (show 0 ≤ 988 ∧ (∀ j, j < 0 → f_all (988 + j) = f_all j) ∧ (∀ j, (j < 988 ∨ 1976 ≤ j) → f_all j = f_all j) from ⟨by omega, fun j hj => absurd hj (by omega), fun j _ => rfl⟩) G (lv_sub hl [0, 1, 2] rfl)
      intro i x hI9 ih_20 H locs ls G hl
      replace hI9 : i ≤ 988 ∧ (∀ j, j < i → x (988 + j) = f_all j) ∧ (∀ j, (j < 988 ∨ 1976 ≤ j) → x j = f_all j) := hI9
      refine zAn3 hI9 ?_
      intro hi hS hO
      clear hI9
      replace G : zS T A s.heap s [[zO11 mo m_all m_has i_size i_next i_where i_token i_number i_word i_wrong i_farCrossing m_read i_z0 i_crossings i_inns m_posts m_shut m_here i_steps i_done i_at i_gone m_was m_came m_seenAt m_rowWorth m_farBy m_used i_everywhere i_again0 i_d0 i_never i_firstCame i_longRun i_moved i_crowd i_l0 i_fitMany i_fitLeast i_fitMost m_fitPost m_fitEnd m_keptPosts i_x0], [zAr T 0 m_all 3952 x], [zAr T 2 m_has 3 (upd f_has 0 (vp_nar .boolean 1))]] _ _ := G
      replace hl : lv_has ls 3 [(2, .int (nI i)), (0, .ref mo), (1, .int 0)] := hl
      refine lv_iload_n hx hb dX12_image_20 rfl (lv_at hl 0 rfl) ?_
      refine lv_sipush (v := 988) hx hb dX12_image_21 (by decide) ?_
      refine lv_icmp_ge (tgt := 53) hx hb dX12_image_24 (by decide) (fun c_6 => ?_) (fun c_6 => ?_)
      · have c_6n : 988 ≤ i := (nI_leI (a := 988) (b := i) (by omega) (by omega)).mp c_6
        refine lv_iconst (v := 1) hx hb dX12_image_53 (by decide) ?_
        exact z_back hQz_ (z_zret C hr hlocks G (Nat.le_of_ble_eq_true rfl) (Nat.le_of_ble_eq_true rfl) dX12_image_54 rfl ⟨x, (upd f_has 0 (vp_nar .boolean 1)), rfl, (Or.inr ⟨rfl, by decide, fun j hj => hS j (by omega), hO, rfl⟩)⟩)
      · have c_6n : ¬ 988 ≤ i := fun q => c_6 ((nI_leI (a := 988) (b := i) (by omega) (by omega)).mpr q)
        refine lv_aload_n hx hb dX12_image_27 rfl (lv_at hl 1 rfl) ?_
        refine z_get C G clX12 0 rfl 0 (by decide) m_fl_RX12_7 rfl dX12_image_28 ?_
        refine lv_sipush (v := 988) hx hb dX12_image_31 (by decide) ?_
        refine lv_iload_n hx hb dX12_image_34 rfl (lv_at hl 2 rfl) ?_
        refine lv_iconst (v := 1) hx hb dX12_image_35 (by decide) ?_
        refine lv_iadd hx hb dX12_image_36 ?_
        refine lv_topi (fun y_7 ey_7 => ?_)
        obtain rfl : y_7 = 1 := ey_7.trans (by decide)
        refine lv_imul hx hb dX12_image_37 ?_
        refine lv_topi (fun y_8 ey_8 => ?_)
        obtain rfl : y_8 = 988 := ey_8.trans (by decide)
        refine lv_iload_n hx hb dX12_image_38 rfl (lv_at hl 0 rfl) ?_
        refine lv_iadd hx hb dX12_image_39 ?_
        refine lv_topi (fun y_9 ey_9 => ?_)
        obtain rfl : y_9 = nI (988 + i) := ey_9.trans (z_iaddn 988 i rfl rfl)
        refine lv_aload_n hx hb dX12_image_40 rfl (lv_at hl 1 rfl) ?_
        refine z_get C G clX12 0 rfl 0 (by decide) m_fl_RX12_7 rfl dX12_image_41 ?_
        refine lv_iload_n hx hb dX12_image_44 rfl (lv_at hl 0 rfl) ?_
        refine z_ild C G 1 rfl (vp_in_nI (by omega) (by decide)) dX12_image_45 ?_
        refine lv_topi (fun v_10 ev_10 => ?_)
        rw [nI_clamp (by omega)] at ev_10
        subst ev_10
        refine z_ist C G 1 rfl (vp_in_nI (by omega) (by decide)) dX12_image_46 (fun H locs G => ?_)
        rw [nI_clamp (by omega)] at G
        have G : zS T A s.heap s [[zO11 mo m_all m_has i_size i_next i_where i_token i_number i_word i_wrong i_farCrossing m_read i_z0 i_crossings i_inns m_posts m_shut m_here i_steps i_done i_at i_gone m_was m_came m_seenAt m_rowWorth m_farBy m_used i_everywhere i_again0 i_d0 i_never i_firstCame i_longRun i_moved i_crowd i_l0 i_fitMany i_fitLeast i_fitMost m_fitPost m_fitEnd m_keptPosts i_x0], [zAr T 0 m_all 3952 (upd x (988 + i) (x i))], [zAr T 2 m_has 3 (upd f_has 0 (vp_nar .boolean 1))]] _ _ := G
        refine lv_iinc (v := nI (i + 1)) (lv' := [(2, .int (nI (i + 1))), (0, .ref mo), (1, .int 0)]) hx hb dX12_image_47 hl (k := 0) rfl (z_inc i 1) (by decide) (zLvf_h rfl) (fun ls hl => ?_)
        refine lv_goto (tgt := 20) hx hb dX12_image_50 (by decide) ?_
        exact ih_20 (i + 1) (upd x (988 + i) (x i)) (show (i + 1) ≤ 988 ∧ (∀ j, j < (i + 1) → (upd x (988 + i) (x i)) (988 + j) = f_all j) ∧ (∀ j, (j < 988 ∨ 1976 ≤ j) → (upd x (988 + i) (x i)) j = f_all j) from ⟨by omega, z_upS hS (hO i (by omega)), z_upO hO (by omega)⟩) (show 988 - (i + 1) < 988 - i from by omega) _ _ ls G (lv_sub hl [0, 1, 2] rfl)
    · obtain rfl : k_ = 1 := Int32.toInt_inj.mp hk
      refine lv_aload_n hx hb dX12_image_11 rfl (lv_at hl 0 rfl) ?_
      refine z_get C G clX12 0 rfl 1 (by decide) m_fl_RX12_13 rfl dX12_image_12 ?_
      refine lv_iload_n hx hb dX12_image_15 rfl (lv_at hl 1 rfl) ?_
      refine lv_iconst (v := 1) hx hb dX12_image_16 (by decide) ?_
      refine z_zst C G 2 rfl (vp_in_nI (n := 1) (by decide) (by decide)) dX12_image_17 (fun H locs G => ?_)
      have G : zS T A s.heap s [[zO11 mo m_all m_has i_size i_next i_where i_token i_number i_word i_wrong i_farCrossing m_read i_z0 i_crossings i_inns m_posts m_shut m_here i_steps i_done i_at i_gone m_was m_came m_seenAt m_rowWorth m_farBy m_used i_everywhere i_again0 i_d0 i_never i_firstCame i_longRun i_moved i_crowd i_l0 i_fitMany i_fitLeast i_fitMost m_fitPost m_fitEnd m_keptPosts i_x0], [zAr T 0 m_all 3952 f_all], [zAr T 2 m_has 3 (upd f_has 1 (vp_nar .boolean 1))]] _ _ := G
      refine lv_iconst (v := 0) hx hb dX12_image_18 (by decide) ?_
      refine lv_istore_n (lv' := [(2, .int 0), (0, .ref mo), (1, .int 1)]) hx hb dX12_image_19 rfl hl (by decide) (zLvf_h rfl) (fun ls hl => ?_)
      refine z_lp2 (T := T) 20 (fun (i : Nat) (x : Nat → Int32) => [[zO11 mo m_all m_has i_size i_next i_where i_token i_number i_word i_wrong i_farCrossing m_read i_z0 i_crossings i_inns m_posts m_shut m_here i_steps i_done i_at i_gone m_was m_came m_seenAt m_rowWorth m_farBy m_used i_everywhere i_again0 i_d0 i_never i_firstCame i_longRun i_moved i_crowd i_l0 i_fitMany i_fitLeast i_fitMost m_fitPost m_fitEnd m_keptPosts i_x0], [zAr T 0 m_all 3952 x], [zAr T 2 m_has 3 (upd f_has 1 (vp_nar .boolean 1))]]) (fun (i : Nat) (x : Nat → Int32) => [(2, .int (nI i)), (0, .ref mo), (1, .int 1)]) (fun (i : Nat) (x : Nat → Int32) => i ≤ 988 ∧ (∀ j, j < i → x (1976 + j) = f_all j) ∧ (∀ j, (j < 1976 ∨ 2964 ≤ j) → x j = f_all j)) (fun (i : Nat) (x : Nat → Int32) => 988 - i) ?_ 0 f_all (show 0 ≤ 988 ∧ (∀ j, j < 0 → f_all (1976 + j) = f_all j) ∧ (∀ j, (j < 1976 ∨ 2964 ≤ j) → f_all j = f_all j) from ⟨by omega, fun j hj => absurd hj (by omega), fun j _ => rfl⟩) G (lv_sub hl [0, 1, 2] rfl)
      intro i x hI9 ih_20 H locs ls G hl
      replace hI9 : i ≤ 988 ∧ (∀ j, j < i → x (1976 + j) = f_all j) ∧ (∀ j, (j < 1976 ∨ 2964 ≤ j) → x j = f_all j) := hI9
      refine zAn3 hI9 ?_
      intro hi hS hO
      clear hI9
      replace G : zS T A s.heap s [[zO11 mo m_all m_has i_size i_next i_where i_token i_number i_word i_wrong i_farCrossing m_read i_z0 i_crossings i_inns m_posts m_shut m_here i_steps i_done i_at i_gone m_was m_came m_seenAt m_rowWorth m_farBy m_used i_everywhere i_again0 i_d0 i_never i_firstCame i_longRun i_moved i_crowd i_l0 i_fitMany i_fitLeast i_fitMost m_fitPost m_fitEnd m_keptPosts i_x0], [zAr T 0 m_all 3952 x], [zAr T 2 m_has 3 (upd f_has 1 (vp_nar .boolean 1))]] _ _ := G
      replace hl : lv_has ls 3 [(2, .int (nI i)), (0, .ref mo), (1, .int 1)] := hl
      refine lv_iload_n hx hb dX12_image_20 rfl (lv_at hl 0 rfl) ?_
      refine lv_sipush (v := 988) hx hb dX12_image_21 (by decide) ?_
      refine lv_icmp_ge (tgt := 53) hx hb dX12_image_24 (by decide) (fun c_11 => ?_) (fun c_11 => ?_)
      · have c_11n : 988 ≤ i := (nI_leI (a := 988) (b := i) (by omega) (by omega)).mp c_11
        refine lv_iconst (v := 1) hx hb dX12_image_53 (by decide) ?_
        exact z_back hQz_ (z_zret C hr hlocks G (Nat.le_of_ble_eq_true rfl) (Nat.le_of_ble_eq_true rfl) dX12_image_54 rfl ⟨x, (upd f_has 1 (vp_nar .boolean 1)), rfl, (Or.inr ⟨rfl, by decide, fun j hj => hS j (by omega), hO, rfl⟩)⟩)
      · have c_11n : ¬ 988 ≤ i := fun q => c_11 ((nI_leI (a := 988) (b := i) (by omega) (by omega)).mpr q)
        refine lv_aload_n hx hb dX12_image_27 rfl (lv_at hl 1 rfl) ?_
        refine z_get C G clX12 0 rfl 0 (by decide) m_fl_RX12_7 rfl dX12_image_28 ?_
        refine lv_sipush (v := 988) hx hb dX12_image_31 (by decide) ?_
        refine lv_iload_n hx hb dX12_image_34 rfl (lv_at hl 2 rfl) ?_
        refine lv_iconst (v := 1) hx hb dX12_image_35 (by decide) ?_
        refine lv_iadd hx hb dX12_image_36 ?_
        refine lv_topi (fun y_12 ey_12 => ?_)
        obtain rfl : y_12 = 2 := ey_12.trans (by decide)
        refine lv_imul hx hb dX12_image_37 ?_
        refine lv_topi (fun y_13 ey_13 => ?_)
        obtain rfl : y_13 = 1976 := ey_13.trans (by decide)
        refine lv_iload_n hx hb dX12_image_38 rfl (lv_at hl 0 rfl) ?_
        refine lv_iadd hx hb dX12_image_39 ?_
        refine lv_topi (fun y_14 ey_14 => ?_)
        obtain rfl : y_14 = nI (1976 + i) := ey_14.trans (z_iaddn 1976 i rfl rfl)
        refine lv_aload_n hx hb dX12_image_40 rfl (lv_at hl 1 rfl) ?_
        refine z_get C G clX12 0 rfl 0 (by decide) m_fl_RX12_7 rfl dX12_image_41 ?_
        refine lv_iload_n hx hb dX12_image_44 rfl (lv_at hl 0 rfl) ?_
        refine z_ild C G 1 rfl (vp_in_nI (by omega) (by decide)) dX12_image_45 ?_
        refine lv_topi (fun v_15 ev_15 => ?_)
        rw [nI_clamp (by omega)] at ev_15
        subst ev_15
        refine z_ist C G 1 rfl (vp_in_nI (by omega) (by decide)) dX12_image_46 (fun H locs G => ?_)
        rw [nI_clamp (by omega)] at G
        have G : zS T A s.heap s [[zO11 mo m_all m_has i_size i_next i_where i_token i_number i_word i_wrong i_farCrossing m_read i_z0 i_crossings i_inns m_posts m_shut m_here i_steps i_done i_at i_gone m_was m_came m_seenAt m_rowWorth m_farBy m_used i_everywhere i_again0 i_d0 i_never i_firstCame i_longRun i_moved i_crowd i_l0 i_fitMany i_fitLeast i_fitMost m_fitPost m_fitEnd m_keptPosts i_x0], [zAr T 0 m_all 3952 (upd x (1976 + i) (x i))], [zAr T 2 m_has 3 (upd f_has 1 (vp_nar .boolean 1))]] _ _ := G
        refine lv_iinc (v := nI (i + 1)) (lv' := [(2, .int (nI (i + 1))), (0, .ref mo), (1, .int 1)]) hx hb dX12_image_47 hl (k := 0) rfl (z_inc i 1) (by decide) (zLvf_h rfl) (fun ls hl => ?_)
        refine lv_goto (tgt := 20) hx hb dX12_image_50 (by decide) ?_
        exact ih_20 (i + 1) (upd x (1976 + i) (x i)) (show (i + 1) ≤ 988 ∧ (∀ j, j < (i + 1) → (upd x (1976 + i) (x i)) (1976 + j) = f_all j) ∧ (∀ j, (j < 1976 ∨ 2964 ≤ j) → (upd x (1976 + i) (x i)) j = f_all j) from ⟨by omega, z_upS hS (hO i (by omega)), z_upO hO (by omega)⟩) (show 988 - (i + 1) < 988 - i from by omega) _ _ ls G (lv_sub hl [0, 1, 2] rfl)
    · obtain rfl : k_ = 2 := Int32.toInt_inj.mp hk
      refine lv_aload_n hx hb dX12_image_11 rfl (lv_at hl 0 rfl) ?_
      refine z_get C G clX12 0 rfl 1 (by decide) m_fl_RX12_13 rfl dX12_image_12 ?_
      refine lv_iload_n hx hb dX12_image_15 rfl (lv_at hl 1 rfl) ?_
      refine lv_iconst (v := 1) hx hb dX12_image_16 (by decide) ?_
      refine z_zst C G 2 rfl (vp_in_nI (n := 2) (by decide) (by decide)) dX12_image_17 (fun H locs G => ?_)
      have G : zS T A s.heap s [[zO11 mo m_all m_has i_size i_next i_where i_token i_number i_word i_wrong i_farCrossing m_read i_z0 i_crossings i_inns m_posts m_shut m_here i_steps i_done i_at i_gone m_was m_came m_seenAt m_rowWorth m_farBy m_used i_everywhere i_again0 i_d0 i_never i_firstCame i_longRun i_moved i_crowd i_l0 i_fitMany i_fitLeast i_fitMost m_fitPost m_fitEnd m_keptPosts i_x0], [zAr T 0 m_all 3952 f_all], [zAr T 2 m_has 3 (upd f_has 2 (vp_nar .boolean 1))]] _ _ := G
      refine lv_iconst (v := 0) hx hb dX12_image_18 (by decide) ?_
      refine lv_istore_n (lv' := [(2, .int 0), (0, .ref mo), (1, .int 2)]) hx hb dX12_image_19 rfl hl (by decide) (zLvf_h rfl) (fun ls hl => ?_)
      refine z_lp2 (T := T) 20 (fun (i : Nat) (x : Nat → Int32) => [[zO11 mo m_all m_has i_size i_next i_where i_token i_number i_word i_wrong i_farCrossing m_read i_z0 i_crossings i_inns m_posts m_shut m_here i_steps i_done i_at i_gone m_was m_came m_seenAt m_rowWorth m_farBy m_used i_everywhere i_again0 i_d0 i_never i_firstCame i_longRun i_moved i_crowd i_l0 i_fitMany i_fitLeast i_fitMost m_fitPost m_fitEnd m_keptPosts i_x0], [zAr T 0 m_all 3952 x], [zAr T 2 m_has 3 (upd f_has 2 (vp_nar .boolean 1))]]) (fun (i : Nat) (x : Nat → Int32) => [(2, .int (nI i)), (0, .ref mo), (1, .int 2)]) (fun (i : Nat) (x : Nat → Int32) => i ≤ 988 ∧ (∀ j, j < i → x (2964 + j) = f_all j) ∧ (∀ j, (j < 2964 ∨ 3952 ≤ j) → x j = f_all j)) (fun (i : Nat) (x : Nat → Int32) => 988 - i) ?_ 0 f_all (show 0 ≤ 988 ∧ (∀ j, j < 0 → f_all (2964 + j) = f_all j) ∧ (∀ j, (j < 2964 ∨ 3952 ≤ j) → f_all j = f_all j) from ⟨by omega, fun j hj => absurd hj (by omega), fun j _ => rfl⟩) G (lv_sub hl [0, 1, 2] rfl)
      intro i x hI9 ih_20 H locs ls G hl
      replace hI9 : i ≤ 988 ∧ (∀ j, j < i → x (2964 + j) = f_all j) ∧ (∀ j, (j < 2964 ∨ 3952 ≤ j) → x j = f_all j) := hI9
      refine zAn3 hI9 ?_
      intro hi hS hO
      clear hI9
      replace G : zS T A s.heap s [[zO11 mo m_all m_has i_size i_next i_where i_token i_number i_word i_wrong i_farCrossing m_read i_z0 i_crossings i_inns m_posts m_shut m_here i_steps i_done i_at i_gone m_was m_came m_seenAt m_rowWorth m_farBy m_used i_everywhere i_again0 i_d0 i_never i_firstCame i_longRun i_moved i_crowd i_l0 i_fitMany i_fitLeast i_fitMost m_fitPost m_fitEnd m_keptPosts i_x0], [zAr T 0 m_all 3952 x], [zAr T 2 m_has 3 (upd f_has 2 (vp_nar .boolean 1))]] _ _ := G
      replace hl : lv_has ls 3 [(2, .int (nI i)), (0, .ref mo), (1, .int 2)] := hl
      refine lv_iload_n hx hb dX12_image_20 rfl (lv_at hl 0 rfl) ?_
      refine lv_sipush (v := 988) hx hb dX12_image_21 (by decide) ?_
      refine lv_icmp_ge (tgt := 53) hx hb dX12_image_24 (by decide) (fun c_16 => ?_) (fun c_16 => ?_)
      · have c_16n : 988 ≤ i := (nI_leI (a := 988) (b := i) (by omega) (by omega)).mp c_16
        refine lv_iconst (v := 1) hx hb dX12_image_53 (by decide) ?_
        exact z_back hQz_ (z_zret C hr hlocks G (Nat.le_of_ble_eq_true rfl) (Nat.le_of_ble_eq_true rfl) dX12_image_54 rfl ⟨x, (upd f_has 2 (vp_nar .boolean 1)), rfl, (Or.inr ⟨rfl, by decide, fun j hj => hS j (by omega), hO, rfl⟩)⟩)
      · have c_16n : ¬ 988 ≤ i := fun q => c_16 ((nI_leI (a := 988) (b := i) (by omega) (by omega)).mpr q)
        refine lv_aload_n hx hb dX12_image_27 rfl (lv_at hl 1 rfl) ?_
        refine z_get C G clX12 0 rfl 0 (by decide) m_fl_RX12_7 rfl dX12_image_28 ?_
        refine lv_sipush (v := 988) hx hb dX12_image_31 (by decide) ?_
        refine lv_iload_n hx hb dX12_image_34 rfl (lv_at hl 2 rfl) ?_
        refine lv_iconst (v := 1) hx hb dX12_image_35 (by decide) ?_
        refine lv_iadd hx hb dX12_image_36 ?_
        refine lv_topi (fun y_17 ey_17 => ?_)
        obtain rfl : y_17 = 3 := ey_17.trans (by decide)
        refine lv_imul hx hb dX12_image_37 ?_
        refine lv_topi (fun y_18 ey_18 => ?_)
        obtain rfl : y_18 = 2964 := ey_18.trans (by decide)
        refine lv_iload_n hx hb dX12_image_38 rfl (lv_at hl 0 rfl) ?_
        refine lv_iadd hx hb dX12_image_39 ?_
        refine lv_topi (fun y_19 ey_19 => ?_)
        obtain rfl : y_19 = nI (2964 + i) := ey_19.trans (z_iaddn 2964 i rfl rfl)
        refine lv_aload_n hx hb dX12_image_40 rfl (lv_at hl 1 rfl) ?_
        refine z_get C G clX12 0 rfl 0 (by decide) m_fl_RX12_7 rfl dX12_image_41 ?_
        refine lv_iload_n hx hb dX12_image_44 rfl (lv_at hl 0 rfl) ?_
        refine z_ild C G 1 rfl (vp_in_nI (by omega) (by decide)) dX12_image_45 ?_
        refine lv_topi (fun v_20 ev_20 => ?_)
        rw [nI_clamp (by omega)] at ev_20
        subst ev_20
        refine z_ist C G 1 rfl (vp_in_nI (by omega) (by decide)) dX12_image_46 (fun H locs G => ?_)
        rw [nI_clamp (by omega)] at G
        have G : zS T A s.heap s [[zO11 mo m_all m_has i_size i_next i_where i_token i_number i_word i_wrong i_farCrossing m_read i_z0 i_crossings i_inns m_posts m_shut m_here i_steps i_done i_at i_gone m_was m_came m_seenAt m_rowWorth m_farBy m_used i_everywhere i_again0 i_d0 i_never i_firstCame i_longRun i_moved i_crowd i_l0 i_fitMany i_fitLeast i_fitMost m_fitPost m_fitEnd m_keptPosts i_x0], [zAr T 0 m_all 3952 (upd x (2964 + i) (x i))], [zAr T 2 m_has 3 (upd f_has 2 (vp_nar .boolean 1))]] _ _ := G
        refine lv_iinc (v := nI (i + 1)) (lv' := [(2, .int (nI (i + 1))), (0, .ref mo), (1, .int 2)]) hx hb dX12_image_47 hl (k := 0) rfl (z_inc i 1) (by decide) (zLvf_h rfl) (fun ls hl => ?_)
        refine lv_goto (tgt := 20) hx hb dX12_image_50 (by decide) ?_
        exact ih_20 (i + 1) (upd x (2964 + i) (x i)) (show (i + 1) ≤ 988 ∧ (∀ j, j < (i + 1) → (upd x (2964 + i) (x i)) (2964 + j) = f_all j) ∧ (∀ j, (j < 2964 ∨ 3952 ≤ j) → (upd x (2964 + i) (x i)) j = f_all j) from ⟨by omega, z_upS hS (hO i (by omega)), z_upO hO (by omega)⟩) (show 988 - (i + 1) < 988 - i from by omega) _ _ ls G (lv_sub hl [0, 1, 2] rfl)
  · have h_5 : (k_.toInt < (0 : Int) ∨ (2 : Int) < k_.toInt) := h_5
    refine lv_if_ne (tgt := 11) hx hb dX12_image_6 (by decide) (fun q => absurd (by decide) q) (fun _ => ?_)
    refine lv_iconst (v := 0) hx hb dX12_image_9 (by decide) ?_
    exact z_back hQz_ (z_zret C hr hlocks G (Nat.le_of_ble_eq_true rfl) (Nat.le_of_ble_eq_true rfl) dX12_image_10 rfl ⟨f_all, f_has, rfl, (Or.inl ⟨rfl, by omega, rfl, rfl⟩)⟩)
theorem dX12_again_0 : decode cX12_again 0 = .ok (.iload_n 1, 1) := zo_27 (by decide +kernel)
theorem dX12_again_1 : decode cX12_again 1 = .ok (.iconst 0, 1) := zo_3 (by decide +kernel)
theorem dX12_again_2 : decode cX12_again 2 = .ok (.iconst 2, 1) := zo_5 (by decide +kernel)
theorem dX12_again_3 : decode cX12_again 3 = .ok (.invokestatic 111, 3) := zo_184 (by decide +kernel)
theorem dX12_again_6 : decode cX12_again 6 = .ok (.ifCond .eq 12, 3) := zo_153 (by decide +kernel)
theorem dX12_again_9 : decode cX12_again 9 = .ok (.aload_n 0, 1) := zo_42 (by decide +kernel)
theorem dX12_again_10 : decode cX12_again 10 = .ok (.getfield 13, 3) := zo_180 (by decide +kernel)
theorem dX12_again_13 : decode cX12_again 13 = .ok (.iload_n 1, 1) := zo_27 (by decide +kernel)
theorem dX12_again_14 : decode cX12_again 14 = .ok (.baload, 1) := zo_51 (by decide +kernel)
theorem dX12_again_15 : decode cX12_again 15 = .ok (.ifCond .ne 5, 3) := zo_154 (by decide +kernel)
theorem dX12_again_18 : decode cX12_again 18 = .ok (.iconst 0, 1) := zo_3 (by decide +kernel)
theorem dX12_again_19 : decode cX12_again 19 = .ok (.ireturn, 1) := zo_172 (by decide +kernel)
theorem dX12_again_20 : decode cX12_again 20 = .ok (.iconst 0, 1) := zo_3 (by decide +kernel)
theorem dX12_again_21 : decode cX12_again 21 = .ok (.istore_n 2, 1) := zo_61 (by decide +kernel)
theorem dX12_again_22 : decode cX12_again 22 = .ok (.iload_n 2, 1) := zo_28 (by decide +kernel)
theorem dX12_again_23 : decode cX12_again 23 = .ok (.sipush 988, 3) := zo_17 (by decide +kernel)
theorem dX12_again_26 : decode cX12_again 26 = .ok (.if_icmp .ge 29, 3) := zo_162 (by decide +kernel)
theorem dX12_again_29 : decode cX12_again 29 = .ok (.aload_n 0, 1) := zo_42 (by decide +kernel)
theorem dX12_again_30 : decode cX12_again 30 = .ok (.getfield 7, 3) := zo_180 (by decide +kernel)
theorem dX12_again_33 : decode cX12_again 33 = .ok (.iload_n 2, 1) := zo_28 (by decide +kernel)
theorem dX12_again_34 : decode cX12_again 34 = .ok (.aload_n 0, 1) := zo_42 (by decide +kernel)
theorem dX12_again_35 : decode cX12_again 35 = .ok (.getfield 7, 3) := zo_180 (by decide +kernel)
theorem dX12_again_38 : decode cX12_again 38 = .ok (.sipush 988, 3) := zo_17 (by decide +kernel)
theorem dX12_again_41 : decode cX12_again 41 = .ok (.iload_n 1, 1) := zo_27 (by decide +kernel)
theorem dX12_again_42 : decode cX12_again 42 = .ok (.iconst 1, 1) := zo_4 (by decide +kernel)
theorem dX12_again_43 : decode cX12_again 43 = .ok (.iadd, 1) := zo_96 (by decide +kernel)
theorem dX12_again_44 : decode cX12_again 44 = .ok (.imul, 1) := zo_104 (by decide +kernel)
theorem dX12_again_45 : decode cX12_again 45 = .ok (.iload_n 2, 1) := zo_28 (by decide +kernel)
theorem dX12_again_46 : decode cX12_again 46 = .ok (.iadd, 1) := zo_96 (by decide +kernel)
theorem dX12_again_47 : decode cX12_again 47 = .ok (.iaload, 1) := zo_46 (by decide +kernel)
theorem dX12_again_48 : decode cX12_again 48 = .ok (.iastore, 1) := zo_79 (by decide +kernel)
theorem dX12_again_49 : decode cX12_again 49 = .ok (.iinc 2 1, 3) := zo_132 (by decide +kernel)
theorem dX12_again_52 : decode cX12_again 52 = .ok (.goto (-30), 3) := zo_167 (by decide +kernel)
theorem dX12_again_55 : decode cX12_again 55 = .ok (.iconst 1, 1) := zo_4 (by decide +kernel)
theorem dX12_again_56 : decode cX12_again 56 = .ok (.ireturn, 1) := zo_172 (by decide +kernel)
set_option maxHeartbeats 4000000 in
set_option maxRecDepth 100000 in
/-- c_m_again -/
theorem c_m_again (l : Launch) (T : zTy) (mo : Nat) (m_all : Nat) (m_has : Nat) (i_size : Int32) (i_next : Int32) (i_where : Int32) (i_token : Int32) (i_number : Int32) (i_word : Int32) (i_wrong : Int32) (i_farCrossing : Int32) (m_read : Nat) (i_z0 : Int32) (i_crossings : Int32) (i_inns : Int32) (m_posts : Nat) (m_shut : Nat) (m_here : Nat) (i_steps : Int32) (i_done : Int32) (i_at : Int32) (i_gone : Int32) (m_was : Nat) (m_came : Nat) (m_seenAt : Nat) (m_rowWorth : Nat) (m_farBy : Nat) (m_used : Nat) (i_everywhere : Int32) (i_again0 : Int32) (i_d0 : Int32) (i_never : Int32) (i_firstCame : Int32) (i_longRun : Int32) (i_moved : Int32) (i_crowd : Int32) (i_l0 : Int32) (i_fitMany : Int32) (i_fitLeast : Int32) (i_fitMost : Int32) (m_fitPost : Nat) (m_fitEnd : Nat) (m_keptPosts : Nat) (i_x0 : Int32) (f_all : Nat → Int32) (f_has : Nat → Int32) (k_ : Int32) : zMi l T yX12_again cX12_again 3 (some .boolean) 2 0 0 [.ref mo, .int k_] [[zO11 mo m_all m_has i_size i_next i_where i_token i_number i_word i_wrong i_farCrossing m_read i_z0 i_crossings i_inns m_posts m_shut m_here i_steps i_done i_at i_gone m_was m_came m_seenAt m_rowWorth m_farBy m_used i_everywhere i_again0 i_d0 i_never i_firstCame i_longRun i_moved i_crowd i_l0 i_fitMany i_fitLeast i_fitMost m_fitPost m_fitEnd m_keptPosts i_x0], [zAr T 0 m_all 3952 f_all], [zAr T 2 m_has 3 f_has]] (fun (r : Int32) bs => ∃ (g_all : Nat → Int32), bs = [[zO11 mo m_all m_has i_size i_next i_where i_token i_number i_word i_wrong i_farCrossing m_read i_z0 i_crossings i_inns m_posts m_shut m_here i_steps i_done i_at i_gone m_was m_came m_seenAt m_rowWorth m_farBy m_used i_everywhere i_again0 i_d0 i_never i_firstCame i_longRun i_moved i_crowd i_l0 i_fitMany i_fitLeast i_fitMost m_fitPost m_fitEnd m_keptPosts i_x0], [zAr T 0 m_all 3952 g_all], [zAr T 2 m_has 3 f_has]] ∧ (r = 0 ∧ (k_.toInt < 0 ∨ 3 ≤ k_.toInt ∨ f_has k_.toNatClampNeg = 0) ∧ g_all = f_all ∨ r = 1 ∧ (0 ≤ k_.toInt ∧ k_.toInt < 3) ∧ ¬ f_has k_.toNatClampNeg = 0 ∧ (∀ j, j < 988 → g_all j = f_all (988 * (k_.toNatClampNeg + 1) + j)) ∧ (∀ j, 988 ≤ j → g_all j = f_all j))) := by
  refine zMi_of (own := RX12) (by decide) rfl (Nat.le_of_ble_eq_true rfl) ?_
  intro p e s m args below meth c A ls C hr hlocks hnm hAe G hl
  refine zHide (fun Qz_ hQz_ => ?_)
  have hx := C.1
  have hb := C.2.1
  have hl : lv_has ls 3 [(0, .ref mo), (1, .int k_)] := hl
  refine lv_iload_n hx hb dX12_again_0 rfl (lv_at hl 1 rfl) ?_
  refine lv_iconst (v := 0) hx hb dX12_again_1 (by decide) ?_
  refine lv_iconst (v := 2) hx hb dX12_again_2 (by decide) ?_
  refine z_Si (bc := []) (br := [[zO11 mo m_all m_has i_size i_next i_where i_token i_number i_word i_wrong i_farCrossing m_read i_z0 i_crossings i_inns m_posts m_shut m_here i_steps i_done i_at i_gone m_was m_came m_seenAt m_rowWorth m_farBy m_used i_everywhere i_again0 i_d0 i_never i_firstCame i_longRun i_moved i_crowd i_l0 i_fitMany i_fitLeast i_fitMost m_fitPost m_fitEnd m_keptPosts i_x0], [zAr T 0 m_all 3952 f_all], [zAr T 2 m_has 3 f_has]]) (As := [.int k_, .int 0, .int 2]) (rest := []) C G (c_m_isIn l T k_ 0 2) (kS_RX12_111 C.2.2.2.2 (Nat.le_of_ble_eq_true rfl) (Nat.le_of_ble_eq_true rfl)) [] [] rfl rfl rfl rfl hl.1 dX12_again_3 (Nat.le_of_ble_eq_true rfl) (Nat.le_of_ble_eq_true rfl) (fun r_2 b1 H locs hw G => ?_)
  refine zAn2 hw ?_
  intro hbs9 hc_1
  clear hw
  subst hbs9
  have G : zS T A s.heap s [[zO11 mo m_all m_has i_size i_next i_where i_token i_number i_word i_wrong i_farCrossing m_read i_z0 i_crossings i_inns m_posts m_shut m_here i_steps i_done i_at i_gone m_was m_came m_seenAt m_rowWorth m_farBy m_used i_everywhere i_again0 i_d0 i_never i_firstCame i_longRun i_moved i_crowd i_l0 i_fitMany i_fitLeast i_fitMost m_fitPost m_fitEnd m_keptPosts i_x0], [zAr T 0 m_all 3952 f_all], [zAr T 2 m_has 3 f_has]] _ _ := G
  rcases hc_1 with ⟨rfl, h_3, h_4⟩ | ⟨rfl, h_5⟩
  · have h_3 : (0 : Int) ≤ k_.toInt := h_3
    have h_4 : k_.toInt ≤ (2 : Int) := h_4
    refine lv_if_eq (tgt := 18) hx hb dX12_again_6 (by decide) (fun q => absurd q (by decide)) (fun _ => ?_)
    refine lv_aload_n hx hb dX12_again_9 rfl (lv_at hl 0 rfl) ?_
    refine z_get C G clX12 0 rfl 1 (by decide) m_fl_RX12_13 rfl dX12_again_10 ?_
    refine lv_iload_n hx hb dX12_again_13 rfl (lv_at hl 1 rfl) ?_
    refine z_zld C G 2 rfl (vp_in_iff.mpr ⟨by omega, by omega⟩) dX12_again_14 ?_
    refine lv_topi (fun v_6 ev_6 => ?_)
    subst ev_6
    refine lv_if_ne (tgt := 20) hx hb dX12_again_15 (by decide) (fun c_7 => ?_) (fun c_7 => ?_)
    · have c_7n : ¬ (f_has k_.toNatClampNeg).toInt = (0 : Int) := fun q => c_7 ((fa_eq _ _).mpr q)
      rcases (show k_.toInt = 0 ∨ k_.toInt = 1 ∨ k_.toInt = 2 from by omega) with hk | hk | hk
      · obtain rfl : k_ = 0 := Int32.toInt_inj.mp hk
        refine lv_iconst (v := 0) hx hb dX12_again_20 (by decide) ?_
        refine lv_istore_n (lv' := [(2, .int 0), (0, .ref mo), (1, .int 0)]) hx hb dX12_again_21 rfl hl (by decide) (zLvf_h rfl) (fun ls hl => ?_)
        refine z_lp2 (T := T) 22 (fun (i : Nat) (x : Nat → Int32) => [[zO11 mo m_all m_has i_size i_next i_where i_token i_number i_word i_wrong i_farCrossing m_read i_z0 i_crossings i_inns m_posts m_shut m_here i_steps i_done i_at i_gone m_was m_came m_seenAt m_rowWorth m_farBy m_used i_everywhere i_again0 i_d0 i_never i_firstCame i_longRun i_moved i_crowd i_l0 i_fitMany i_fitLeast i_fitMost m_fitPost m_fitEnd m_keptPosts i_x0], [zAr T 0 m_all 3952 x], [zAr T 2 m_has 3 f_has]]) (fun (i : Nat) (x : Nat → Int32) => [(2, .int (nI i)), (0, .ref mo), (1, .int 0)]) (fun (i : Nat) (x : Nat → Int32) => i ≤ 988 ∧ (∀ j, j < i → x j = f_all (988 + j)) ∧ (∀ j, i ≤ j → x j = f_all j)) (fun (i : Nat) (x : Nat → Int32) => 988 - i) ?_ 0 f_all (show 0 ≤ 988 ∧ (∀ j, j < 0 → f_all j = f_all (988 + j)) ∧ (∀ j, 0 ≤ j → f_all j = f_all j) from ⟨by omega, fun j hj => absurd hj (by omega), fun j _ => rfl⟩) G (lv_sub hl [0, 1, 2] rfl)
        intro i x hI9 ih_22 H locs ls G hl
        replace hI9 : i ≤ 988 ∧ (∀ j, j < i → x j = f_all (988 + j)) ∧ (∀ j, i ≤ j → x j = f_all j) := hI9
        refine zAn3 hI9 ?_
        intro hi hS hO
        clear hI9
        replace G : zS T A s.heap s [[zO11 mo m_all m_has i_size i_next i_where i_token i_number i_word i_wrong i_farCrossing m_read i_z0 i_crossings i_inns m_posts m_shut m_here i_steps i_done i_at i_gone m_was m_came m_seenAt m_rowWorth m_farBy m_used i_everywhere i_again0 i_d0 i_never i_firstCame i_longRun i_moved i_crowd i_l0 i_fitMany i_fitLeast i_fitMost m_fitPost m_fitEnd m_keptPosts i_x0], [zAr T 0 m_all 3952 x], [zAr T 2 m_has 3 f_has]] _ _ := G
        replace hl : lv_has ls 3 [(2, .int (nI i)), (0, .ref mo), (1, .int 0)] := hl
        refine lv_iload_n hx hb dX12_again_22 rfl (lv_at hl 0 rfl) ?_
        refine lv_sipush (v := 988) hx hb dX12_again_23 (by decide) ?_
        refine lv_icmp_ge (tgt := 55) hx hb dX12_again_26 (by decide) (fun c_8 => ?_) (fun c_8 => ?_)
        · have c_8n : 988 ≤ i := (nI_leI (a := 988) (b := i) (by omega) (by omega)).mp c_8
          refine lv_iconst (v := 1) hx hb dX12_again_55 (by decide) ?_
          exact z_back hQz_ (z_zret C hr hlocks G (Nat.le_of_ble_eq_true rfl) (Nat.le_of_ble_eq_true rfl) dX12_again_56 rfl ⟨x, rfl, (Or.inr ⟨rfl, by decide, by first | with_reducible assumption | assumption, fun j hj => hS j (by omega), fun j hj => hO j (by omega)⟩)⟩)
        · have c_8n : ¬ 988 ≤ i := fun q => c_8 ((nI_leI (a := 988) (b := i) (by omega) (by omega)).mpr q)
          refine lv_aload_n hx hb dX12_again_29 rfl (lv_at hl 1 rfl) ?_
          refine z_get C G clX12 0 rfl 0 (by decide) m_fl_RX12_7 rfl dX12_again_30 ?_
          refine lv_iload_n hx hb dX12_again_33 rfl (lv_at hl 0 rfl) ?_
          refine lv_aload_n hx hb dX12_again_34 rfl (lv_at hl 1 rfl) ?_
          refine z_get C G clX12 0 rfl 0 (by decide) m_fl_RX12_7 rfl dX12_again_35 ?_
          refine lv_sipush (v := 988) hx hb dX12_again_38 (by decide) ?_
          refine lv_iload_n hx hb dX12_again_41 rfl (lv_at hl 2 rfl) ?_
          refine lv_iconst (v := 1) hx hb dX12_again_42 (by decide) ?_
          refine lv_iadd hx hb dX12_again_43 ?_
          refine lv_topi (fun y_9 ey_9 => ?_)
          obtain rfl : y_9 = 1 := ey_9.trans (by decide)
          refine lv_imul hx hb dX12_again_44 ?_
          refine lv_topi (fun y_10 ey_10 => ?_)
          obtain rfl : y_10 = 988 := ey_10.trans (by decide)
          refine lv_iload_n hx hb dX12_again_45 rfl (lv_at hl 0 rfl) ?_
          refine lv_iadd hx hb dX12_again_46 ?_
          refine lv_topi (fun y_11 ey_11 => ?_)
          obtain rfl : y_11 = nI (988 + i) := ey_11.trans (z_iaddn 988 i rfl rfl)
          refine z_ild C G 1 rfl (vp_in_nI (by omega) (by decide)) dX12_again_47 ?_
          refine lv_topi (fun v_12 ev_12 => ?_)
          rw [nI_clamp (by omega)] at ev_12
          subst ev_12
          refine z_ist C G 1 rfl (vp_in_nI (by omega) (by decide)) dX12_again_48 (fun H locs G => ?_)
          rw [nI_clamp (by omega)] at G
          have G : zS T A s.heap s [[zO11 mo m_all m_has i_size i_next i_where i_token i_number i_word i_wrong i_farCrossing m_read i_z0 i_crossings i_inns m_posts m_shut m_here i_steps i_done i_at i_gone m_was m_came m_seenAt m_rowWorth m_farBy m_used i_everywhere i_again0 i_d0 i_never i_firstCame i_longRun i_moved i_crowd i_l0 i_fitMany i_fitLeast i_fitMost m_fitPost m_fitEnd m_keptPosts i_x0], [zAr T 0 m_all 3952 (upd x i (x (988 + i)))], [zAr T 2 m_has 3 f_has]] _ _ := G
          refine lv_iinc (v := nI (i + 1)) (lv' := [(2, .int (nI (i + 1))), (0, .ref mo), (1, .int 0)]) hx hb dX12_again_49 hl (k := 0) rfl (z_inc i 1) (by decide) (zLvf_h rfl) (fun ls hl => ?_)
          refine lv_goto (tgt := 22) hx hb dX12_again_52 (by decide) ?_
          exact ih_22 (i + 1) (upd x i (x (988 + i))) (show (i + 1) ≤ 988 ∧ (∀ j, j < (i + 1) → (upd x i (x (988 + i))) j = f_all (988 + j)) ∧ (∀ j, (i + 1) ≤ j → (upd x i (x (988 + i))) j = f_all j) from ⟨by omega, z_updE (F := fun j => f_all (988 + j)) hS (hO (988 + i) (by omega)), fun j hj => (pk_un (by omega)).trans (hO j (by omega))⟩) (show 988 - (i + 1) < 988 - i from by omega) _ _ ls G (lv_sub hl [0, 1, 2] rfl)
      · obtain rfl : k_ = 1 := Int32.toInt_inj.mp hk
        refine lv_iconst (v := 0) hx hb dX12_again_20 (by decide) ?_
        refine lv_istore_n (lv' := [(2, .int 0), (0, .ref mo), (1, .int 1)]) hx hb dX12_again_21 rfl hl (by decide) (zLvf_h rfl) (fun ls hl => ?_)
        refine z_lp2 (T := T) 22 (fun (i : Nat) (x : Nat → Int32) => [[zO11 mo m_all m_has i_size i_next i_where i_token i_number i_word i_wrong i_farCrossing m_read i_z0 i_crossings i_inns m_posts m_shut m_here i_steps i_done i_at i_gone m_was m_came m_seenAt m_rowWorth m_farBy m_used i_everywhere i_again0 i_d0 i_never i_firstCame i_longRun i_moved i_crowd i_l0 i_fitMany i_fitLeast i_fitMost m_fitPost m_fitEnd m_keptPosts i_x0], [zAr T 0 m_all 3952 x], [zAr T 2 m_has 3 f_has]]) (fun (i : Nat) (x : Nat → Int32) => [(2, .int (nI i)), (0, .ref mo), (1, .int 1)]) (fun (i : Nat) (x : Nat → Int32) => i ≤ 988 ∧ (∀ j, j < i → x j = f_all (1976 + j)) ∧ (∀ j, i ≤ j → x j = f_all j)) (fun (i : Nat) (x : Nat → Int32) => 988 - i) ?_ 0 f_all (show 0 ≤ 988 ∧ (∀ j, j < 0 → f_all j = f_all (1976 + j)) ∧ (∀ j, 0 ≤ j → f_all j = f_all j) from ⟨by omega, fun j hj => absurd hj (by omega), fun j _ => rfl⟩) G (lv_sub hl [0, 1, 2] rfl)
        intro i x hI9 ih_22 H locs ls G hl
        replace hI9 : i ≤ 988 ∧ (∀ j, j < i → x j = f_all (1976 + j)) ∧ (∀ j, i ≤ j → x j = f_all j) := hI9
        refine zAn3 hI9 ?_
        intro hi hS hO
        clear hI9
        replace G : zS T A s.heap s [[zO11 mo m_all m_has i_size i_next i_where i_token i_number i_word i_wrong i_farCrossing m_read i_z0 i_crossings i_inns m_posts m_shut m_here i_steps i_done i_at i_gone m_was m_came m_seenAt m_rowWorth m_farBy m_used i_everywhere i_again0 i_d0 i_never i_firstCame i_longRun i_moved i_crowd i_l0 i_fitMany i_fitLeast i_fitMost m_fitPost m_fitEnd m_keptPosts i_x0], [zAr T 0 m_all 3952 x], [zAr T 2 m_has 3 f_has]] _ _ := G
        replace hl : lv_has ls 3 [(2, .int (nI i)), (0, .ref mo), (1, .int 1)] := hl
        refine lv_iload_n hx hb dX12_again_22 rfl (lv_at hl 0 rfl) ?_
        refine lv_sipush (v := 988) hx hb dX12_again_23 (by decide) ?_
        refine lv_icmp_ge (tgt := 55) hx hb dX12_again_26 (by decide) (fun c_13 => ?_) (fun c_13 => ?_)
        · have c_13n : 988 ≤ i := (nI_leI (a := 988) (b := i) (by omega) (by omega)).mp c_13
          refine lv_iconst (v := 1) hx hb dX12_again_55 (by decide) ?_
          exact z_back hQz_ (z_zret C hr hlocks G (Nat.le_of_ble_eq_true rfl) (Nat.le_of_ble_eq_true rfl) dX12_again_56 rfl ⟨x, rfl, (Or.inr ⟨rfl, by decide, by first | with_reducible assumption | assumption, fun j hj => hS j (by omega), fun j hj => hO j (by omega)⟩)⟩)
        · have c_13n : ¬ 988 ≤ i := fun q => c_13 ((nI_leI (a := 988) (b := i) (by omega) (by omega)).mpr q)
          refine lv_aload_n hx hb dX12_again_29 rfl (lv_at hl 1 rfl) ?_
          refine z_get C G clX12 0 rfl 0 (by decide) m_fl_RX12_7 rfl dX12_again_30 ?_
          refine lv_iload_n hx hb dX12_again_33 rfl (lv_at hl 0 rfl) ?_
          refine lv_aload_n hx hb dX12_again_34 rfl (lv_at hl 1 rfl) ?_
          refine z_get C G clX12 0 rfl 0 (by decide) m_fl_RX12_7 rfl dX12_again_35 ?_
          refine lv_sipush (v := 988) hx hb dX12_again_38 (by decide) ?_
          refine lv_iload_n hx hb dX12_again_41 rfl (lv_at hl 2 rfl) ?_
          refine lv_iconst (v := 1) hx hb dX12_again_42 (by decide) ?_
          refine lv_iadd hx hb dX12_again_43 ?_
          refine lv_topi (fun y_14 ey_14 => ?_)
          obtain rfl : y_14 = 2 := ey_14.trans (by decide)
          refine lv_imul hx hb dX12_again_44 ?_
          refine lv_topi (fun y_15 ey_15 => ?_)
          obtain rfl : y_15 = 1976 := ey_15.trans (by decide)
          refine lv_iload_n hx hb dX12_again_45 rfl (lv_at hl 0 rfl) ?_
          refine lv_iadd hx hb dX12_again_46 ?_
          refine lv_topi (fun y_16 ey_16 => ?_)
          obtain rfl : y_16 = nI (1976 + i) := ey_16.trans (z_iaddn 1976 i rfl rfl)
          refine z_ild C G 1 rfl (vp_in_nI (by omega) (by decide)) dX12_again_47 ?_
          refine lv_topi (fun v_17 ev_17 => ?_)
          rw [nI_clamp (by omega)] at ev_17
          subst ev_17
          refine z_ist C G 1 rfl (vp_in_nI (by omega) (by decide)) dX12_again_48 (fun H locs G => ?_)
          rw [nI_clamp (by omega)] at G
          have G : zS T A s.heap s [[zO11 mo m_all m_has i_size i_next i_where i_token i_number i_word i_wrong i_farCrossing m_read i_z0 i_crossings i_inns m_posts m_shut m_here i_steps i_done i_at i_gone m_was m_came m_seenAt m_rowWorth m_farBy m_used i_everywhere i_again0 i_d0 i_never i_firstCame i_longRun i_moved i_crowd i_l0 i_fitMany i_fitLeast i_fitMost m_fitPost m_fitEnd m_keptPosts i_x0], [zAr T 0 m_all 3952 (upd x i (x (1976 + i)))], [zAr T 2 m_has 3 f_has]] _ _ := G
          refine lv_iinc (v := nI (i + 1)) (lv' := [(2, .int (nI (i + 1))), (0, .ref mo), (1, .int 1)]) hx hb dX12_again_49 hl (k := 0) rfl (z_inc i 1) (by decide) (zLvf_h rfl) (fun ls hl => ?_)
          refine lv_goto (tgt := 22) hx hb dX12_again_52 (by decide) ?_
          exact ih_22 (i + 1) (upd x i (x (1976 + i))) (show (i + 1) ≤ 988 ∧ (∀ j, j < (i + 1) → (upd x i (x (1976 + i))) j = f_all (1976 + j)) ∧ (∀ j, (i + 1) ≤ j → (upd x i (x (1976 + i))) j = f_all j) from ⟨by omega, z_updE (F := fun j => f_all (1976 + j)) hS (hO (1976 + i) (by omega)), fun j hj => (pk_un (by omega)).trans (hO j (by omega))⟩) (show 988 - (i + 1) < 988 - i from by omega) _ _ ls G (lv_sub hl [0, 1, 2] rfl)
      · obtain rfl : k_ = 2 := Int32.toInt_inj.mp hk
        refine lv_iconst (v := 0) hx hb dX12_again_20 (by decide) ?_
        refine lv_istore_n (lv' := [(2, .int 0), (0, .ref mo), (1, .int 2)]) hx hb dX12_again_21 rfl hl (by decide) (zLvf_h rfl) (fun ls hl => ?_)
        refine z_lp2 (T := T) 22 (fun (i : Nat) (x : Nat → Int32) => [[zO11 mo m_all m_has i_size i_next i_where i_token i_number i_word i_wrong i_farCrossing m_read i_z0 i_crossings i_inns m_posts m_shut m_here i_steps i_done i_at i_gone m_was m_came m_seenAt m_rowWorth m_farBy m_used i_everywhere i_again0 i_d0 i_never i_firstCame i_longRun i_moved i_crowd i_l0 i_fitMany i_fitLeast i_fitMost m_fitPost m_fitEnd m_keptPosts i_x0], [zAr T 0 m_all 3952 x], [zAr T 2 m_has 3 f_has]]) (fun (i : Nat) (x : Nat → Int32) => [(2, .int (nI i)), (0, .ref mo), (1, .int 2)]) (fun (i : Nat) (x : Nat → Int32) => i ≤ 988 ∧ (∀ j, j < i → x j = f_all (2964 + j)) ∧ (∀ j, i ≤ j → x j = f_all j)) (fun (i : Nat) (x : Nat → Int32) => 988 - i) ?_ 0 f_all (show 0 ≤ 988 ∧ (∀ j, j < 0 → f_all j = f_all (2964 + j)) ∧ (∀ j, 0 ≤ j → f_all j = f_all j) from ⟨by omega, fun j hj => absurd hj (by omega), fun j _ => rfl⟩) G (lv_sub hl [0, 1, 2] rfl)
        intro i x hI9 ih_22 H locs ls G hl
        replace hI9 : i ≤ 988 ∧ (∀ j, j < i → x j = f_all (2964 + j)) ∧ (∀ j, i ≤ j → x j = f_all j) := hI9
        refine zAn3 hI9 ?_
        intro hi hS hO
        clear hI9
        replace G : zS T A s.heap s [[zO11 mo m_all m_has i_size i_next i_where i_token i_number i_word i_wrong i_farCrossing m_read i_z0 i_crossings i_inns m_posts m_shut m_here i_steps i_done i_at i_gone m_was m_came m_seenAt m_rowWorth m_farBy m_used i_everywhere i_again0 i_d0 i_never i_firstCame i_longRun i_moved i_crowd i_l0 i_fitMany i_fitLeast i_fitMost m_fitPost m_fitEnd m_keptPosts i_x0], [zAr T 0 m_all 3952 x], [zAr T 2 m_has 3 f_has]] _ _ := G
        replace hl : lv_has ls 3 [(2, .int (nI i)), (0, .ref mo), (1, .int 2)] := hl
        refine lv_iload_n hx hb dX12_again_22 rfl (lv_at hl 0 rfl) ?_
        refine lv_sipush (v := 988) hx hb dX12_again_23 (by decide) ?_
        refine lv_icmp_ge (tgt := 55) hx hb dX12_again_26 (by decide) (fun c_18 => ?_) (fun c_18 => ?_)
        · have c_18n : 988 ≤ i := (nI_leI (a := 988) (b := i) (by omega) (by omega)).mp c_18
          refine lv_iconst (v := 1) hx hb dX12_again_55 (by decide) ?_
          exact z_back hQz_ (z_zret C hr hlocks G (Nat.le_of_ble_eq_true rfl) (Nat.le_of_ble_eq_true rfl) dX12_again_56 rfl ⟨x, rfl, (Or.inr ⟨rfl, by decide, by first | with_reducible assumption | assumption, fun j hj => hS j (by omega), fun j hj => hO j (by omega)⟩)⟩)
        · have c_18n : ¬ 988 ≤ i := fun q => c_18 ((nI_leI (a := 988) (b := i) (by omega) (by omega)).mpr q)
          refine lv_aload_n hx hb dX12_again_29 rfl (lv_at hl 1 rfl) ?_
          refine z_get C G clX12 0 rfl 0 (by decide) m_fl_RX12_7 rfl dX12_again_30 ?_
          refine lv_iload_n hx hb dX12_again_33 rfl (lv_at hl 0 rfl) ?_
          refine lv_aload_n hx hb dX12_again_34 rfl (lv_at hl 1 rfl) ?_
          refine z_get C G clX12 0 rfl 0 (by decide) m_fl_RX12_7 rfl dX12_again_35 ?_
          refine lv_sipush (v := 988) hx hb dX12_again_38 (by decide) ?_
          refine lv_iload_n hx hb dX12_again_41 rfl (lv_at hl 2 rfl) ?_
          refine lv_iconst (v := 1) hx hb dX12_again_42 (by decide) ?_
          refine lv_iadd hx hb dX12_again_43 ?_
          refine lv_topi (fun y_19 ey_19 => ?_)
          obtain rfl : y_19 = 3 := ey_19.trans (by decide)
          refine lv_imul hx hb dX12_again_44 ?_
          refine lv_topi (fun y_20 ey_20 => ?_)
          obtain rfl : y_20 = 2964 := ey_20.trans (by decide)
          refine lv_iload_n hx hb dX12_again_45 rfl (lv_at hl 0 rfl) ?_
          refine lv_iadd hx hb dX12_again_46 ?_
          refine lv_topi (fun y_21 ey_21 => ?_)
          obtain rfl : y_21 = nI (2964 + i) := ey_21.trans (z_iaddn 2964 i rfl rfl)
          refine z_ild C G 1 rfl (vp_in_nI (by omega) (by decide)) dX12_again_47 ?_
          refine lv_topi (fun v_22 ev_22 => ?_)
          rw [nI_clamp (by omega)] at ev_22
          subst ev_22
          refine z_ist C G 1 rfl (vp_in_nI (by omega) (by decide)) dX12_again_48 (fun H locs G => ?_)
          rw [nI_clamp (by omega)] at G
          have G : zS T A s.heap s [[zO11 mo m_all m_has i_size i_next i_where i_token i_number i_word i_wrong i_farCrossing m_read i_z0 i_crossings i_inns m_posts m_shut m_here i_steps i_done i_at i_gone m_was m_came m_seenAt m_rowWorth m_farBy m_used i_everywhere i_again0 i_d0 i_never i_firstCame i_longRun i_moved i_crowd i_l0 i_fitMany i_fitLeast i_fitMost m_fitPost m_fitEnd m_keptPosts i_x0], [zAr T 0 m_all 3952 (upd x i (x (2964 + i)))], [zAr T 2 m_has 3 f_has]] _ _ := G
          refine lv_iinc (v := nI (i + 1)) (lv' := [(2, .int (nI (i + 1))), (0, .ref mo), (1, .int 2)]) hx hb dX12_again_49 hl (k := 0) rfl (z_inc i 1) (by decide) (zLvf_h rfl) (fun ls hl => ?_)
          refine lv_goto (tgt := 22) hx hb dX12_again_52 (by decide) ?_
          exact ih_22 (i + 1) (upd x i (x (2964 + i))) (show (i + 1) ≤ 988 ∧ (∀ j, j < (i + 1) → (upd x i (x (2964 + i))) j = f_all (2964 + j)) ∧ (∀ j, (i + 1) ≤ j → (upd x i (x (2964 + i))) j = f_all j) from ⟨by omega, z_updE (F := fun j => f_all (2964 + j)) hS (hO (2964 + i) (by omega)), fun j hj => (pk_un (by omega)).trans (hO j (by omega))⟩) (show 988 - (i + 1) < 988 - i from by omega) _ _ ls G (lv_sub hl [0, 1, 2] rfl)
    · have c_7n : (f_has k_.toNatClampNeg).toInt = (0 : Int) := (fa_eq _ _).mp c_7
      refine lv_iconst (v := 0) hx hb dX12_again_18 (by decide) ?_
      exact z_back hQz_ (z_zret C hr hlocks G (Nat.le_of_ble_eq_true rfl) (Nat.le_of_ble_eq_true rfl) dX12_again_19 rfl ⟨f_all, rfl, (Or.inl ⟨rfl, by first | exact Or.inr (Or.inr (by first | with_reducible assumption | assumption)) | omega, rfl⟩)⟩)
  · have h_5 : (k_.toInt < (0 : Int) ∨ (2 : Int) < k_.toInt) := h_5
    refine lv_if_eq (tgt := 18) hx hb dX12_again_6 (by decide) (fun _ => ?_) (fun q => absurd (by decide) q)
    refine lv_iconst (v := 0) hx hb dX12_again_18 (by decide) ?_
    exact z_back hQz_ (z_zret C hr hlocks G (Nat.le_of_ble_eq_true rfl) (Nat.le_of_ble_eq_true rfl) dX12_again_19 rfl ⟨f_all, rfl, (Or.inl ⟨rfl, by first | exact Or.inr (Or.inr (by first | with_reducible assumption | assumption)) | omega, rfl⟩)⟩)
theorem m_fl_RX12_56 : Cond.fieldLink RX12 56 (TX12 2).1 (TX12 2).2.1 (TX12 2).2.2.1 ∈ zT := zmem1 zsub_5 237 rfl rfl
theorem dX12_isLetter_0 : decode cX12_isLetter 0 = .ok (.iload_n 0, 1) := zo_26 (by decide +kernel)
theorem dX12_isLetter_1 : decode cX12_isLetter 1 = .ok (.bipush 97, 2) := zo_16 (by decide +kernel)
theorem dX12_isLetter_3 : decode cX12_isLetter 3 = .ok (.if_icmp .lt 13, 3) := zo_161 (by decide +kernel)
theorem dX12_isLetter_6 : decode cX12_isLetter 6 = .ok (.iload_n 0, 1) := zo_26 (by decide +kernel)
theorem dX12_isLetter_7 : decode cX12_isLetter 7 = .ok (.bipush 122, 2) := zo_16 (by decide +kernel)
theorem dX12_isLetter_9 : decode cX12_isLetter 9 = .ok (.if_icmp .gt 7, 3) := zo_163 (by decide +kernel)
theorem dX12_isLetter_12 : decode cX12_isLetter 12 = .ok (.iconst 1, 1) := zo_4 (by decide +kernel)
theorem dX12_isLetter_13 : decode cX12_isLetter 13 = .ok (.goto 4, 3) := zo_167 (by decide +kernel)
theorem dX12_isLetter_16 : decode cX12_isLetter 16 = .ok (.iconst 0, 1) := zo_3 (by decide +kernel)
theorem dX12_isLetter_17 : decode cX12_isLetter 17 = .ok (.ireturn, 1) := zo_172 (by decide +kernel)
theorem dX12_isDigit_0 : decode cX12_isDigit 0 = .ok (.iload_n 0, 1) := zo_26 (by decide +kernel)
theorem dX12_isDigit_1 : decode cX12_isDigit 1 = .ok (.bipush 48, 2) := zo_16 (by decide +kernel)
theorem dX12_isDigit_3 : decode cX12_isDigit 3 = .ok (.if_icmp .lt 13, 3) := zo_161 (by decide +kernel)
theorem dX12_isDigit_6 : decode cX12_isDigit 6 = .ok (.iload_n 0, 1) := zo_26 (by decide +kernel)
theorem dX12_isDigit_7 : decode cX12_isDigit 7 = .ok (.bipush 57, 2) := zo_16 (by decide +kernel)
theorem dX12_isDigit_9 : decode cX12_isDigit 9 = .ok (.if_icmp .gt 7, 3) := zo_163 (by decide +kernel)
theorem dX12_isDigit_12 : decode cX12_isDigit 12 = .ok (.iconst 1, 1) := zo_4 (by decide +kernel)
theorem dX12_isDigit_13 : decode cX12_isDigit 13 = .ok (.goto 4, 3) := zo_167 (by decide +kernel)
theorem dX12_isDigit_16 : decode cX12_isDigit 16 = .ok (.iconst 0, 1) := zo_3 (by decide +kernel)
theorem dX12_isDigit_17 : decode cX12_isDigit 17 = .ok (.ireturn, 1) := zo_172 (by decide +kernel)
theorem dX12_byteAt_0 : decode cX12_byteAt 0 = .ok (.iload_n 1, 1) := zo_27 (by decide +kernel)
theorem dX12_byteAt_1 : decode cX12_byteAt 1 = .ok (.aload_n 0, 1) := zo_42 (by decide +kernel)
theorem dX12_byteAt_2 : decode cX12_byteAt 2 = .ok (.getfield 56, 3) := zo_180 (by decide +kernel)
theorem dX12_byteAt_5 : decode cX12_byteAt 5 = .ok (.if_icmp .ge 15, 3) := zo_162 (by decide +kernel)
theorem dX12_byteAt_8 : decode cX12_byteAt 8 = .ok (.aload_n 0, 1) := zo_42 (by decide +kernel)
theorem dX12_byteAt_9 : decode cX12_byteAt 9 = .ok (.getfield 7, 3) := zo_180 (by decide +kernel)
theorem dX12_byteAt_12 : decode cX12_byteAt 12 = .ok (.bipush 10, 2) := zo_16 (by decide +kernel)
theorem dX12_byteAt_14 : decode cX12_byteAt 14 = .ok (.iload_n 1, 1) := zo_27 (by decide +kernel)
theorem dX12_byteAt_15 : decode cX12_byteAt 15 = .ok (.iadd, 1) := zo_96 (by decide +kernel)
theorem dX12_byteAt_16 : decode cX12_byteAt 16 = .ok (.iaload, 1) := zo_46 (by decide +kernel)
theorem dX12_byteAt_17 : decode cX12_byteAt 17 = .ok (.goto 4, 3) := zo_167 (by decide +kernel)
theorem dX12_byteAt_20 : decode cX12_byteAt 20 = .ok (.iconst (-1), 1) := zo_2 (by decide +kernel)
theorem dX12_byteAt_21 : decode cX12_byteAt 21 = .ok (.ireturn, 1) := zo_172 (by decide +kernel)
set_option maxHeartbeats 4000000 in
set_option maxRecDepth 100000 in
/-- c_m_isLetter -/
theorem c_m_isLetter (l : Launch) (T : zTy) (x : Int32) : zMi l T yX12_isLetter cX12_isLetter 1 (some .boolean) 1 0 0 [.int x] [] (fun (r : Int32) bs => bs = [] ∧ ((r = 1 ∧ 97 ≤ x.toInt ∧ x.toInt ≤ 122) ∨ (r = 0 ∧ (x.toInt < 97 ∨ 122 < x.toInt)))) := by
  refine zMi_of (own := RX12) (by decide) rfl (Nat.le_of_ble_eq_true rfl) ?_
  intro p e s m args below meth c A ls C hr hlocks hnm hAe G hl
  refine zHide (fun Qz_ hQz_ => ?_)
  have hx := C.1
  have hb := C.2.1
  have hl : lv_has ls 1 [(0, .int x)] := hl
  refine lv_iload_n hx hb dX12_isLetter_0 rfl (lv_at hl 0 rfl) ?_
  refine lv_bipush (v := 97) hx hb dX12_isLetter_1 (by decide) ?_
  refine lv_icmp_lt (tgt := 16) hx hb dX12_isLetter_3 (by decide) (fun c_1 => ?_) (fun c_1 => ?_)
  · have c_1n : x.toInt < (97 : Int) := (fa_lt _ _).mp c_1
    refine lv_iconst (v := 0) hx hb dX12_isLetter_16 (by decide) ?_
    exact z_back hQz_ (z_zret C hr hlocks G (Nat.le_of_ble_eq_true rfl) (Nat.le_of_ble_eq_true rfl) dX12_isLetter_17 rfl ⟨rfl, (Or.inr (⟨rfl, (by first | with_reducible assumption | omega | assumption)⟩))⟩)
  · have c_1n : ¬ x.toInt < (97 : Int) := fun q => c_1 ((fa_lt _ _).mpr q)
    refine lv_iload_n hx hb dX12_isLetter_6 rfl (lv_at hl 0 rfl) ?_
    refine lv_bipush (v := 122) hx hb dX12_isLetter_7 (by decide) ?_
    refine lv_icmp_gt (tgt := 16) hx hb dX12_isLetter_9 (by decide) (fun c_2 => ?_) (fun c_2 => ?_)
    · have c_2n : (122 : Int) < x.toInt := (fa_lt _ _).mp c_2
      refine lv_iconst (v := 0) hx hb dX12_isLetter_16 (by decide) ?_
      exact z_back hQz_ (z_zret C hr hlocks G (Nat.le_of_ble_eq_true rfl) (Nat.le_of_ble_eq_true rfl) dX12_isLetter_17 rfl ⟨rfl, (Or.inr (⟨rfl, (by first | with_reducible assumption | omega | assumption)⟩))⟩)
    · have c_2n : ¬ (122 : Int) < x.toInt := fun q => c_2 ((fa_lt _ _).mpr q)
      refine lv_iconst (v := 1) hx hb dX12_isLetter_12 (by decide) ?_
      refine lv_goto (tgt := 17) hx hb dX12_isLetter_13 (by decide) ?_
      exact z_back hQz_ (z_zret C hr hlocks G (Nat.le_of_ble_eq_true rfl) (Nat.le_of_ble_eq_true rfl) dX12_isLetter_17 rfl ⟨rfl, (Or.inl (⟨rfl, (by first | with_reducible assumption | omega | assumption), (by first | with_reducible assumption | omega | assumption)⟩))⟩)
set_option maxHeartbeats 4000000 in
set_option maxRecDepth 100000 in
/-- c_m_isDigit -/
theorem c_m_isDigit (l : Launch) (T : zTy) (x : Int32) : zMi l T yX12_isDigit cX12_isDigit 1 (some .boolean) 1 0 0 [.int x] [] (fun (r : Int32) bs => bs = [] ∧ ((r = 1 ∧ 48 ≤ x.toInt ∧ x.toInt ≤ 57) ∨ (r = 0 ∧ (x.toInt < 48 ∨ 57 < x.toInt)))) := by
  refine zMi_of (own := RX12) (by decide) rfl (Nat.le_of_ble_eq_true rfl) ?_
  intro p e s m args below meth c A ls C hr hlocks hnm hAe G hl
  refine zHide (fun Qz_ hQz_ => ?_)
  have hx := C.1
  have hb := C.2.1
  have hl : lv_has ls 1 [(0, .int x)] := hl
  refine lv_iload_n hx hb dX12_isDigit_0 rfl (lv_at hl 0 rfl) ?_
  refine lv_bipush (v := 48) hx hb dX12_isDigit_1 (by decide) ?_
  refine lv_icmp_lt (tgt := 16) hx hb dX12_isDigit_3 (by decide) (fun c_1 => ?_) (fun c_1 => ?_)
  · have c_1n : x.toInt < (48 : Int) := (fa_lt _ _).mp c_1
    refine lv_iconst (v := 0) hx hb dX12_isDigit_16 (by decide) ?_
    exact z_back hQz_ (z_zret C hr hlocks G (Nat.le_of_ble_eq_true rfl) (Nat.le_of_ble_eq_true rfl) dX12_isDigit_17 rfl ⟨rfl, (Or.inr (⟨rfl, (by first | with_reducible assumption | omega | assumption)⟩))⟩)
  · have c_1n : ¬ x.toInt < (48 : Int) := fun q => c_1 ((fa_lt _ _).mpr q)
    refine lv_iload_n hx hb dX12_isDigit_6 rfl (lv_at hl 0 rfl) ?_
    refine lv_bipush (v := 57) hx hb dX12_isDigit_7 (by decide) ?_
    refine lv_icmp_gt (tgt := 16) hx hb dX12_isDigit_9 (by decide) (fun c_2 => ?_) (fun c_2 => ?_)
    · have c_2n : (57 : Int) < x.toInt := (fa_lt _ _).mp c_2
      refine lv_iconst (v := 0) hx hb dX12_isDigit_16 (by decide) ?_
      exact z_back hQz_ (z_zret C hr hlocks G (Nat.le_of_ble_eq_true rfl) (Nat.le_of_ble_eq_true rfl) dX12_isDigit_17 rfl ⟨rfl, (Or.inr (⟨rfl, (by first | with_reducible assumption | omega | assumption)⟩))⟩)
    · have c_2n : ¬ (57 : Int) < x.toInt := fun q => c_2 ((fa_lt _ _).mpr q)
      refine lv_iconst (v := 1) hx hb dX12_isDigit_12 (by decide) ?_
      refine lv_goto (tgt := 17) hx hb dX12_isDigit_13 (by decide) ?_
      exact z_back hQz_ (z_zret C hr hlocks G (Nat.le_of_ble_eq_true rfl) (Nat.le_of_ble_eq_true rfl) dX12_isDigit_17 rfl ⟨rfl, (Or.inl (⟨rfl, (by first | with_reducible assumption | omega | assumption), (by first | with_reducible assumption | omega | assumption)⟩))⟩)
theorem m_co_X12_four : Cond.code yX12_four cX12_four 4 (some .long) ∈ zT := zmem1 zsub_6 165 rfl rfl
theorem m_ml_RX12_60 : Cond.methodLink RX12 60 yX12_four ∈ zT := zmem1 zsub_6 163 rfl rfl
theorem m_st_X12_four : Cond.static yX12_four ∈ zT := zmem1 zsub_6 164 rfl rfl
theorem m_kl_RX12_64 : Cond.constantLong RX12 64 1048576 ∈ zT := zmem1 zsub_6 166 rfl rfl
theorem m_co_X12_eight : Cond.code yX12_eight cX12_eight 8 (some .long) ∈ zT := zmem1 zsub_6 162 rfl rfl
theorem m_ml_RX12_66 : Cond.methodLink RX12 66 yX12_eight ∈ zT := zmem1 zsub_6 160 rfl rfl
theorem m_st_X12_eight : Cond.static yX12_eight ∈ zT := zmem1 zsub_6 161 rfl rfl
theorem kS_RX12_60 {R : Room} {s : State} {args : Array Value} {d mc ms : Nat} (hts : ∀ w ∈ zT, w.before args s = true) (h1 : d + 1 ≤ R.frames) (h2 : 8 + (4 + 11) + 40 * d ≤ R.locals) : CallB R s args RX12 60 yX12_four cX12_four 4 (some .long) (zW yX12_four cX12_four 4 (some .long)) (zR d mc ms) mc ms 4 ∧ (Cond.static yX12_four).before args s = true := z_cwS hts m_co_X12_four m_ml_RX12_60 m_st_X12_four m_ii_RX12 (by decide +kernel) h1 h2
theorem kS_RX12_66 {R : Room} {s : State} {args : Array Value} {d mc ms : Nat} (hts : ∀ w ∈ zT, w.before args s = true) (h1 : d + 1 ≤ R.frames) (h2 : 8 + (8 + 11) + 40 * d ≤ R.locals) : CallB R s args RX12 66 yX12_eight cX12_eight 8 (some .long) (zW yX12_eight cX12_eight 8 (some .long)) (zR d mc ms) mc ms 8 ∧ (Cond.static yX12_eight).before args s = true := z_cwS hts m_co_X12_eight m_ml_RX12_66 m_st_X12_eight m_ii_RX12 (by decide +kernel) h1 h2
theorem dX12_four_0 : decode cX12_four 0 = .ok (.iload_n 0, 1) := zo_26 (by decide +kernel)
theorem dX12_four_1 : decode cX12_four 1 = .ok (.bipush 32, 2) := zo_16 (by decide +kernel)
theorem dX12_four_3 : decode cX12_four 3 = .ok (.imul, 1) := zo_104 (by decide +kernel)
theorem dX12_four_4 : decode cX12_four 4 = .ok (.iload_n 1, 1) := zo_27 (by decide +kernel)
theorem dX12_four_5 : decode cX12_four 5 = .ok (.iadd, 1) := zo_96 (by decide +kernel)
theorem dX12_four_6 : decode cX12_four 6 = .ok (.bipush 32, 2) := zo_16 (by decide +kernel)
theorem dX12_four_8 : decode cX12_four 8 = .ok (.imul, 1) := zo_104 (by decide +kernel)
theorem dX12_four_9 : decode cX12_four 9 = .ok (.iload_n 2, 1) := zo_28 (by decide +kernel)
theorem dX12_four_10 : decode cX12_four 10 = .ok (.iadd, 1) := zo_96 (by decide +kernel)
theorem dX12_four_11 : decode cX12_four 11 = .ok (.bipush 32, 2) := zo_16 (by decide +kernel)
theorem dX12_four_13 : decode cX12_four 13 = .ok (.imul, 1) := zo_104 (by decide +kernel)
theorem dX12_four_14 : decode cX12_four 14 = .ok (.iload_n 3, 1) := zo_29 (by decide +kernel)
theorem dX12_four_15 : decode cX12_four 15 = .ok (.iadd, 1) := zo_96 (by decide +kernel)
theorem dX12_four_16 : decode cX12_four 16 = .ok (.i2l, 1) := zo_133 (by decide +kernel)
theorem dX12_four_17 : decode cX12_four 17 = .ok (.lreturn, 1) := zo_173 (by decide +kernel)
theorem dX12_eight_0 : decode cX12_eight 0 = .ok (.iload_n 0, 1) := zo_26 (by decide +kernel)
theorem dX12_eight_1 : decode cX12_eight 1 = .ok (.iload_n 1, 1) := zo_27 (by decide +kernel)
theorem dX12_eight_2 : decode cX12_eight 2 = .ok (.iload_n 2, 1) := zo_28 (by decide +kernel)
theorem dX12_eight_3 : decode cX12_eight 3 = .ok (.iload_n 3, 1) := zo_29 (by decide +kernel)
theorem dX12_eight_4 : decode cX12_eight 4 = .ok (.invokestatic 60, 3) := zo_184 (by decide +kernel)
theorem dX12_eight_7 : decode cX12_eight 7 = .ok (.ldc2_w 64, 3) := zo_20 (by decide +kernel)
theorem dX12_eight_10 : decode cX12_eight 10 = .ok (.lmul, 1) := zo_105 (by decide +kernel)
theorem dX12_eight_11 : decode cX12_eight 11 = .ok (.iload 4, 2) := zo_21 (by decide +kernel)
theorem dX12_eight_13 : decode cX12_eight 13 = .ok (.iload 5, 2) := zo_21 (by decide +kernel)
theorem dX12_eight_15 : decode cX12_eight 15 = .ok (.iload 6, 2) := zo_21 (by decide +kernel)
theorem dX12_eight_17 : decode cX12_eight 17 = .ok (.iload 7, 2) := zo_21 (by decide +kernel)
theorem dX12_eight_19 : decode cX12_eight 19 = .ok (.invokestatic 60, 3) := zo_184 (by decide +kernel)
theorem dX12_eight_22 : decode cX12_eight 22 = .ok (.ladd, 1) := zo_97 (by decide +kernel)
theorem dX12_eight_23 : decode cX12_eight 23 = .ok (.lreturn, 1) := zo_173 (by decide +kernel)
theorem dX12_wordOf_0 : decode cX12_wordOf 0 = .ok (.lload_n 0, 1) := zo_30 (by decide +kernel)
theorem dX12_wordOf_1 : decode cX12_wordOf 1 = .ok (.iconst 0, 1) := zo_3 (by decide +kernel)
theorem dX12_wordOf_2 : decode cX12_wordOf 2 = .ok (.iconst 0, 1) := zo_3 (by decide +kernel)
theorem dX12_wordOf_3 : decode cX12_wordOf 3 = .ok (.iconst 0, 1) := zo_3 (by decide +kernel)
theorem dX12_wordOf_4 : decode cX12_wordOf 4 = .ok (.iconst 3, 1) := zo_6 (by decide +kernel)
theorem dX12_wordOf_5 : decode cX12_wordOf 5 = .ok (.bipush 18, 2) := zo_16 (by decide +kernel)
theorem dX12_wordOf_7 : decode cX12_wordOf 7 = .ok (.bipush 15, 2) := zo_16 (by decide +kernel)
theorem dX12_wordOf_9 : decode cX12_wordOf 9 = .ok (.bipush 19, 2) := zo_16 (by decide +kernel)
theorem dX12_wordOf_11 : decode cX12_wordOf 11 = .ok (.bipush 19, 2) := zo_16 (by decide +kernel)
theorem dX12_wordOf_13 : decode cX12_wordOf 13 = .ok (.invokestatic 66, 3) := zo_184 (by decide +kernel)
theorem dX12_wordOf_16 : decode cX12_wordOf 16 = .ok (.lcmp, 1) := zo_148 (by decide +kernel)
theorem dX12_wordOf_17 : decode cX12_wordOf 17 = .ok (.ifCond .ne 5, 3) := zo_154 (by decide +kernel)
theorem dX12_wordOf_20 : decode cX12_wordOf 20 = .ok (.iconst 1, 1) := zo_4 (by decide +kernel)
theorem dX12_wordOf_21 : decode cX12_wordOf 21 = .ok (.ireturn, 1) := zo_172 (by decide +kernel)
theorem dX12_wordOf_22 : decode cX12_wordOf 22 = .ok (.lload_n 0, 1) := zo_30 (by decide +kernel)
theorem dX12_wordOf_23 : decode cX12_wordOf 23 = .ok (.bipush 16, 2) := zo_16 (by decide +kernel)
theorem dX12_wordOf_25 : decode cX12_wordOf 25 = .ok (.bipush 15, 2) := zo_16 (by decide +kernel)
theorem dX12_wordOf_27 : decode cX12_wordOf 27 = .ok (.bipush 19, 2) := zo_16 (by decide +kernel)
theorem dX12_wordOf_29 : decode cX12_wordOf 29 = .ok (.bipush 20, 2) := zo_16 (by decide +kernel)
theorem dX12_wordOf_31 : decode cX12_wordOf 31 = .ok (.invokestatic 60, 3) := zo_184 (by decide +kernel)
theorem dX12_wordOf_34 : decode cX12_wordOf 34 = .ok (.lcmp, 1) := zo_148 (by decide +kernel)
theorem dX12_wordOf_35 : decode cX12_wordOf 35 = .ok (.ifCond .ne 5, 3) := zo_154 (by decide +kernel)
theorem dX12_wordOf_38 : decode cX12_wordOf 38 = .ok (.iconst 2, 1) := zo_5 (by decide +kernel)
theorem dX12_wordOf_39 : decode cX12_wordOf 39 = .ok (.ireturn, 1) := zo_172 (by decide +kernel)
theorem dX12_wordOf_40 : decode cX12_wordOf 40 = .ok (.lload_n 0, 1) := zo_30 (by decide +kernel)
theorem dX12_wordOf_41 : decode cX12_wordOf 41 = .ok (.iconst 0, 1) := zo_3 (by decide +kernel)
theorem dX12_wordOf_42 : decode cX12_wordOf 42 = .ok (.bipush 23, 2) := zo_16 (by decide +kernel)
theorem dX12_wordOf_44 : decode cX12_wordOf 44 = .ok (.iconst 1, 1) := zo_4 (by decide +kernel)
theorem dX12_wordOf_45 : decode cX12_wordOf 45 = .ok (.bipush 12, 2) := zo_16 (by decide +kernel)
theorem dX12_wordOf_47 : decode cX12_wordOf 47 = .ok (.bipush 11, 2) := zo_16 (by decide +kernel)
theorem dX12_wordOf_49 : decode cX12_wordOf 49 = .ok (.iconst 5, 1) := zo_8 (by decide +kernel)
theorem dX12_wordOf_50 : decode cX12_wordOf 50 = .ok (.bipush 18, 2) := zo_16 (by decide +kernel)
theorem dX12_wordOf_52 : decode cX12_wordOf 52 = .ok (.bipush 19, 2) := zo_16 (by decide +kernel)
theorem dX12_wordOf_54 : decode cX12_wordOf 54 = .ok (.invokestatic 66, 3) := zo_184 (by decide +kernel)
theorem dX12_wordOf_57 : decode cX12_wordOf 57 = .ok (.lcmp, 1) := zo_148 (by decide +kernel)
theorem dX12_wordOf_58 : decode cX12_wordOf 58 = .ok (.ifCond .ne 5, 3) := zo_154 (by decide +kernel)
theorem dX12_wordOf_61 : decode cX12_wordOf 61 = .ok (.iconst 3, 1) := zo_6 (by decide +kernel)
theorem dX12_wordOf_62 : decode cX12_wordOf 62 = .ok (.ireturn, 1) := zo_172 (by decide +kernel)
theorem dX12_wordOf_63 : decode cX12_wordOf 63 = .ok (.lload_n 0, 1) := zo_30 (by decide +kernel)
theorem dX12_wordOf_64 : decode cX12_wordOf 64 = .ok (.iconst 0, 1) := zo_3 (by decide +kernel)
theorem dX12_wordOf_65 : decode cX12_wordOf 65 = .ok (.bipush 9, 2) := zo_16 (by decide +kernel)
theorem dX12_wordOf_67 : decode cX12_wordOf 67 = .ok (.bipush 14, 2) := zo_16 (by decide +kernel)
theorem dX12_wordOf_69 : decode cX12_wordOf 69 = .ok (.bipush 14, 2) := zo_16 (by decide +kernel)
theorem dX12_wordOf_71 : decode cX12_wordOf 71 = .ok (.invokestatic 60, 3) := zo_184 (by decide +kernel)
theorem dX12_wordOf_74 : decode cX12_wordOf 74 = .ok (.lcmp, 1) := zo_148 (by decide +kernel)
theorem dX12_wordOf_75 : decode cX12_wordOf 75 = .ok (.ifCond .ne 5, 3) := zo_154 (by decide +kernel)
theorem dX12_wordOf_78 : decode cX12_wordOf 78 = .ok (.iconst 4, 1) := zo_7 (by decide +kernel)
theorem dX12_wordOf_79 : decode cX12_wordOf 79 = .ok (.ireturn, 1) := zo_172 (by decide +kernel)
theorem dX12_wordOf_80 : decode cX12_wordOf 80 = .ok (.lload_n 0, 1) := zo_30 (by decide +kernel)
theorem dX12_wordOf_81 : decode cX12_wordOf 81 = .ok (.iconst 0, 1) := zo_3 (by decide +kernel)
theorem dX12_wordOf_82 : decode cX12_wordOf 82 = .ok (.iconst 0, 1) := zo_3 (by decide +kernel)
theorem dX12_wordOf_83 : decode cX12_wordOf 83 = .ok (.bipush 7, 2) := zo_16 (by decide +kernel)
theorem dX12_wordOf_85 : decode cX12_wordOf 85 = .ok (.bipush 15, 2) := zo_16 (by decide +kernel)
theorem dX12_wordOf_87 : decode cX12_wordOf 87 = .ok (.invokestatic 60, 3) := zo_184 (by decide +kernel)
theorem dX12_wordOf_90 : decode cX12_wordOf 90 = .ok (.lcmp, 1) := zo_148 (by decide +kernel)
theorem dX12_wordOf_91 : decode cX12_wordOf 91 = .ok (.ifCond .ne 5, 3) := zo_154 (by decide +kernel)
theorem dX12_wordOf_94 : decode cX12_wordOf 94 = .ok (.iconst 5, 1) := zo_8 (by decide +kernel)
theorem dX12_wordOf_95 : decode cX12_wordOf 95 = .ok (.ireturn, 1) := zo_172 (by decide +kernel)
theorem dX12_wordOf_96 : decode cX12_wordOf 96 = .ok (.lload_n 0, 1) := zo_30 (by decide +kernel)
theorem dX12_wordOf_97 : decode cX12_wordOf 97 = .ok (.iconst 0, 1) := zo_3 (by decide +kernel)
theorem dX12_wordOf_98 : decode cX12_wordOf 98 = .ok (.bipush 18, 2) := zo_16 (by decide +kernel)
theorem dX12_wordOf_100 : decode cX12_wordOf 100 = .ok (.bipush 21, 2) := zo_16 (by decide +kernel)
theorem dX12_wordOf_102 : decode cX12_wordOf 102 = .ok (.bipush 14, 2) := zo_16 (by decide +kernel)
theorem dX12_wordOf_104 : decode cX12_wordOf 104 = .ok (.invokestatic 60, 3) := zo_184 (by decide +kernel)
theorem dX12_wordOf_107 : decode cX12_wordOf 107 = .ok (.lcmp, 1) := zo_148 (by decide +kernel)
theorem dX12_wordOf_108 : decode cX12_wordOf 108 = .ok (.ifCond .ne 6, 3) := zo_154 (by decide +kernel)
theorem dX12_wordOf_111 : decode cX12_wordOf 111 = .ok (.bipush 6, 2) := zo_16 (by decide +kernel)
theorem dX12_wordOf_113 : decode cX12_wordOf 113 = .ok (.ireturn, 1) := zo_172 (by decide +kernel)
theorem dX12_wordOf_114 : decode cX12_wordOf 114 = .ok (.lload_n 0, 1) := zo_30 (by decide +kernel)
theorem dX12_wordOf_115 : decode cX12_wordOf 115 = .ok (.bipush 20, 2) := zo_16 (by decide +kernel)
theorem dX12_wordOf_117 : decode cX12_wordOf 117 = .ok (.bipush 21, 2) := zo_16 (by decide +kernel)
theorem dX12_wordOf_119 : decode cX12_wordOf 119 = .ok (.bipush 18, 2) := zo_16 (by decide +kernel)
theorem dX12_wordOf_121 : decode cX12_wordOf 121 = .ok (.bipush 14, 2) := zo_16 (by decide +kernel)
theorem dX12_wordOf_123 : decode cX12_wordOf 123 = .ok (.invokestatic 60, 3) := zo_184 (by decide +kernel)
theorem dX12_wordOf_126 : decode cX12_wordOf 126 = .ok (.lcmp, 1) := zo_148 (by decide +kernel)
theorem dX12_wordOf_127 : decode cX12_wordOf 127 = .ok (.ifCond .ne 6, 3) := zo_154 (by decide +kernel)
theorem dX12_wordOf_130 : decode cX12_wordOf 130 = .ok (.bipush 7, 2) := zo_16 (by decide +kernel)
theorem dX12_wordOf_132 : decode cX12_wordOf 132 = .ok (.ireturn, 1) := zo_172 (by decide +kernel)
theorem dX12_wordOf_133 : decode cX12_wordOf 133 = .ok (.lload_n 0, 1) := zo_30 (by decide +kernel)
theorem dX12_wordOf_134 : decode cX12_wordOf 134 = .ok (.iconst 0, 1) := zo_3 (by decide +kernel)
theorem dX12_wordOf_135 : decode cX12_wordOf 135 = .ok (.iconst 1, 1) := zo_4 (by decide +kernel)
theorem dX12_wordOf_136 : decode cX12_wordOf 136 = .ok (.iconst 4, 1) := zo_7 (by decide +kernel)
theorem dX12_wordOf_137 : decode cX12_wordOf 137 = .ok (.iconst 4, 1) := zo_7 (by decide +kernel)
theorem dX12_wordOf_138 : decode cX12_wordOf 138 = .ok (.invokestatic 60, 3) := zo_184 (by decide +kernel)
theorem dX12_wordOf_141 : decode cX12_wordOf 141 = .ok (.lcmp, 1) := zo_148 (by decide +kernel)
theorem dX12_wordOf_142 : decode cX12_wordOf 142 = .ok (.ifCond .ne 6, 3) := zo_154 (by decide +kernel)
theorem dX12_wordOf_145 : decode cX12_wordOf 145 = .ok (.bipush 8, 2) := zo_16 (by decide +kernel)
theorem dX12_wordOf_147 : decode cX12_wordOf 147 = .ok (.ireturn, 1) := zo_172 (by decide +kernel)
theorem dX12_wordOf_148 : decode cX12_wordOf 148 = .ok (.lload_n 0, 1) := zo_30 (by decide +kernel)
theorem dX12_wordOf_149 : decode cX12_wordOf 149 = .ok (.bipush 19, 2) := zo_16 (by decide +kernel)
theorem dX12_wordOf_151 : decode cX12_wordOf 151 = .ok (.bipush 8, 2) := zo_16 (by decide +kernel)
theorem dX12_wordOf_153 : decode cX12_wordOf 153 = .ok (.bipush 21, 2) := zo_16 (by decide +kernel)
theorem dX12_wordOf_155 : decode cX12_wordOf 155 = .ok (.bipush 20, 2) := zo_16 (by decide +kernel)
theorem dX12_wordOf_157 : decode cX12_wordOf 157 = .ok (.invokestatic 60, 3) := zo_184 (by decide +kernel)
theorem dX12_wordOf_160 : decode cX12_wordOf 160 = .ok (.lcmp, 1) := zo_148 (by decide +kernel)
theorem dX12_wordOf_161 : decode cX12_wordOf 161 = .ok (.ifCond .ne 6, 3) := zo_154 (by decide +kernel)
theorem dX12_wordOf_164 : decode cX12_wordOf 164 = .ok (.bipush 9, 2) := zo_16 (by decide +kernel)
theorem dX12_wordOf_166 : decode cX12_wordOf 166 = .ok (.ireturn, 1) := zo_172 (by decide +kernel)
theorem dX12_wordOf_167 : decode cX12_wordOf 167 = .ok (.lload_n 0, 1) := zo_30 (by decide +kernel)
theorem dX12_wordOf_168 : decode cX12_wordOf 168 = .ok (.bipush 15, 2) := zo_16 (by decide +kernel)
theorem dX12_wordOf_170 : decode cX12_wordOf 170 = .ok (.bipush 16, 2) := zo_16 (by decide +kernel)
theorem dX12_wordOf_172 : decode cX12_wordOf 172 = .ok (.iconst 5, 1) := zo_8 (by decide +kernel)
theorem dX12_wordOf_173 : decode cX12_wordOf 173 = .ok (.bipush 14, 2) := zo_16 (by decide +kernel)
theorem dX12_wordOf_175 : decode cX12_wordOf 175 = .ok (.invokestatic 60, 3) := zo_184 (by decide +kernel)
theorem dX12_wordOf_178 : decode cX12_wordOf 178 = .ok (.lcmp, 1) := zo_148 (by decide +kernel)
theorem dX12_wordOf_179 : decode cX12_wordOf 179 = .ok (.ifCond .ne 6, 3) := zo_154 (by decide +kernel)
theorem dX12_wordOf_182 : decode cX12_wordOf 182 = .ok (.bipush 10, 2) := zo_16 (by decide +kernel)
theorem dX12_wordOf_184 : decode cX12_wordOf 184 = .ok (.ireturn, 1) := zo_172 (by decide +kernel)
theorem dX12_wordOf_185 : decode cX12_wordOf 185 = .ok (.lload_n 0, 1) := zo_30 (by decide +kernel)
theorem dX12_wordOf_186 : decode cX12_wordOf 186 = .ok (.iconst 3, 1) := zo_6 (by decide +kernel)
theorem dX12_wordOf_187 : decode cX12_wordOf 187 = .ok (.iconst 1, 1) := zo_4 (by decide +kernel)
theorem dX12_wordOf_188 : decode cX12_wordOf 188 = .ok (.bipush 13, 2) := zo_16 (by decide +kernel)
theorem dX12_wordOf_190 : decode cX12_wordOf 190 = .ok (.iconst 5, 1) := zo_8 (by decide +kernel)
theorem dX12_wordOf_191 : decode cX12_wordOf 191 = .ok (.invokestatic 60, 3) := zo_184 (by decide +kernel)
theorem dX12_wordOf_194 : decode cX12_wordOf 194 = .ok (.lcmp, 1) := zo_148 (by decide +kernel)
theorem dX12_wordOf_195 : decode cX12_wordOf 195 = .ok (.ifCond .ne 6, 3) := zo_154 (by decide +kernel)
theorem dX12_wordOf_198 : decode cX12_wordOf 198 = .ok (.bipush 11, 2) := zo_16 (by decide +kernel)
theorem dX12_wordOf_200 : decode cX12_wordOf 200 = .ok (.ireturn, 1) := zo_172 (by decide +kernel)
theorem dX12_wordOf_201 : decode cX12_wordOf 201 = .ok (.lload_n 0, 1) := zo_30 (by decide +kernel)
theorem dX12_wordOf_202 : decode cX12_wordOf 202 = .ok (.iconst 0, 1) := zo_3 (by decide +kernel)
theorem dX12_wordOf_203 : decode cX12_wordOf 203 = .ok (.iconst 0, 1) := zo_3 (by decide +kernel)
theorem dX12_wordOf_204 : decode cX12_wordOf 204 = .ok (.iconst 0, 1) := zo_3 (by decide +kernel)
theorem dX12_wordOf_205 : decode cX12_wordOf 205 = .ok (.bipush 14, 2) := zo_16 (by decide +kernel)
theorem dX12_wordOf_207 : decode cX12_wordOf 207 = .ok (.iconst 5, 1) := zo_8 (by decide +kernel)
theorem dX12_wordOf_208 : decode cX12_wordOf 208 = .ok (.bipush 22, 2) := zo_16 (by decide +kernel)
theorem dX12_wordOf_210 : decode cX12_wordOf 210 = .ok (.iconst 5, 1) := zo_8 (by decide +kernel)
theorem dX12_wordOf_211 : decode cX12_wordOf 211 = .ok (.bipush 18, 2) := zo_16 (by decide +kernel)
theorem dX12_wordOf_213 : decode cX12_wordOf 213 = .ok (.invokestatic 66, 3) := zo_184 (by decide +kernel)
theorem dX12_wordOf_216 : decode cX12_wordOf 216 = .ok (.lcmp, 1) := zo_148 (by decide +kernel)
theorem dX12_wordOf_217 : decode cX12_wordOf 217 = .ok (.ifCond .ne 8, 3) := zo_154 (by decide +kernel)
theorem dX12_wordOf_220 : decode cX12_wordOf 220 = .ok (.bipush 12, 2) := zo_16 (by decide +kernel)
theorem dX12_wordOf_222 : decode cX12_wordOf 222 = .ok (.goto 5, 3) := zo_167 (by decide +kernel)
theorem dX12_wordOf_225 : decode cX12_wordOf 225 = .ok (.bipush 99, 2) := zo_16 (by decide +kernel)
theorem dX12_wordOf_227 : decode cX12_wordOf 227 = .ok (.ireturn, 1) := zo_172 (by decide +kernel)

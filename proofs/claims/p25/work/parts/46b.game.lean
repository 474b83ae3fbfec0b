set_option maxHeartbeats 4000000 in
set_option maxRecDepth 100000 in
/-- worth -/
theorem c_worth0 (l : Launch) (T : zTy) (h : Nat) (la : Nat) (md : Int32) (wy : Int32) (pc_ : Int32) (f1 : Nat → Int32) (f2 : Nat → Int32) (f3 : Nat → Int32) (f4 : Nat → Int32) (f5 : Nat → Int32) (f6 : Nat → Int32) (n4 : Nat) (ww : va_W) (cr : Int32) (inn : Int32) (k1 : Nat → Int32) (k2 : Nat → Int32) (k3 : Nat → Int32) (k4 : Nat → Int32) (z : va_W) (x : Int32) (y : Int32) (q : Int32) (hww : bWays T h la md wy pc_ f1 f2 f3 f4 f5 f6 n4 ww) (hz : bLand T la cr inn k1 k2 k3 k4 z) (hI : zLI cr k1 k3) (hn : n4 ≤ 131072) : zMi l T yX11_worth cX11_worth 9 (some .int) 5 0 0 [.ref h, .int x, .int y, .int 0, .int q] [ww, z] (fun (r : Int32) bs => bs = [ww, z]) := by
  refine zMi_of (own := RX11) (by decide) rfl (Nat.le_of_ble_eq_true rfl) ?_
  intro p e s m args below meth c A ls C hr hlocks hnm hAe G hl
  refine zHide (fun Qz_ hQz_ => ?_)
  have hx := C.1
  have hb := C.2.1
  have hl : lv_has ls 9 [(0, .ref h), (1, .int x), (2, .int y), (3, .int 0), (4, .int q)] := hl
  refine lv_iload_n hx hb dX11_worth_0 rfl (lv_at hl 3 rfl) ?_
  refine lv_if_le (tgt := 9) hx hb dX11_worth_1 (by decide) (fun _ => ?_) (fun q => absurd (by decide) q)
  refine lv_aload_n hx hb dX11_worth_9 rfl (lv_at hl 0 rfl) ?_
  refine lv_iload_n hx hb dX11_worth_10 rfl (lv_at hl 1 rfl) ?_
  refine lv_iload_n hx hb dX11_worth_11 rfl (lv_at hl 2 rfl) ?_
  refine z_Vi (bc := [ww, z]) (br := []) (As := [.int x, .int y]) (rest := []) C G (c_stepsOrNever l T h la md wy pc_ f1 f2 f3 f4 f5 f6 n4 ww cr inn k1 k2 k3 k4 z x y hww hz (by first | with_reducible assumption | with_reducible rfl | omega | assumption | rfl)) (kV_RX11_286 C.2.2.2.2 (Nat.le_of_ble_eq_true rfl) (Nat.le_of_ble_eq_true rfl)) [0, 1] [0, 0] rfl rfl (ci := 0) (qc := (RX0, TX0, 10)) rfl rfl (List.mem_flatten.mpr ⟨_, List.mem_of_getElem? (i := 0) rfl, (bWays_mem hww).choose_spec⟩) rfl rfl hl.1 dX11_worth_12 (Nat.le_of_ble_eq_true rfl) (Nat.le_of_ble_eq_true rfl) (fun r_1 b1 H locs hw G => ?_)
  obtain rfl := hw
  have G : zS T A s.heap s [ww, z] _ _ := G
  exact z_back hQz_ (z_iret C hr hlocks G (Nat.le_of_ble_eq_true rfl) (Nat.le_of_ble_eq_true rfl) dX11_worth_15 rfl)
set_option maxHeartbeats 4000000 in
set_option maxRecDepth 100000 in
/-- worth -/
theorem c_worth1 (l : Launch) (T : zTy) (h : Nat) (la : Nat) (md : Int32) (wy : Int32) (pc_ : Int32) (f1 : Nat → Int32) (f2 : Nat → Int32) (f3 : Nat → Int32) (f4 : Nat → Int32) (f5 : Nat → Int32) (f6 : Nat → Int32) (n4 : Nat) (ww : va_W) (cr : Int32) (inn : Int32) (k1 : Nat → Int32) (k2 : Nat → Int32) (k3 : Nat → Int32) (k4 : Nat → Int32) (z : va_W) (x : Int32) (y : Int32) (q : Int32) (hww : bWays T h la md wy pc_ f1 f2 f3 f4 f5 f6 n4 ww) (hz : bLand T la cr inn k1 k2 k3 k4 z) (hI : zLI cr k1 k3) (hn : n4 ≤ 131072) : zMi l T yX11_worth cX11_worth 9 (some .int) 6 0 0 [.ref h, .int x, .int y, .int 1, .int q] [ww, z] (fun (r : Int32) bs => bs = [ww, z]) := by
  refine zMi_of (own := RX11) (by decide) rfl (Nat.le_of_ble_eq_true rfl) ?_
  intro p e s m args below meth c A ls C hr hlocks hnm hAe G hl
  refine zHide (fun Qz_ hQz_ => ?_)
  have hx := C.1
  have hb := C.2.1
  have hl : lv_has ls 9 [(0, .ref h), (1, .int x), (2, .int y), (3, .int 1), (4, .int q)] := hl
  refine lv_iload_n hx hb dX11_worth_0 rfl (lv_at hl 3 rfl) ?_
  refine lv_if_le (tgt := 9) hx hb dX11_worth_1 (by decide) (fun q => absurd q (by decide)) (fun _ => ?_)
  refine lv_iload_n hx hb dX11_worth_4 rfl (lv_at hl 3 rfl) ?_
  refine lv_iconst (v := 3) hx hb dX11_worth_5 (by decide) ?_
  refine lv_icmp_le (tgt := 16) hx hb dX11_worth_6 (by decide) (fun _ => ?_) (fun q => absurd (by decide) q)
  refine lv_iconst (v := (-1)) hx hb dX11_worth_16 (by decide) ?_
  refine lv_istore (lv' := [(5, .int (-1)), (0, .ref h), (1, .int x), (2, .int y), (3, .int 1), (4, .int q)]) hx hb dX11_worth_17 hl (by decide) (zLvf_h rfl) (fun ls hl => ?_)
  refine lv_iconst (v := 0) hx hb dX11_worth_19 (by decide) ?_
  refine lv_istore (lv' := [(6, .int 0), (5, .int (-1)), (0, .ref h), (1, .int x), (2, .int y), (3, .int 1), (4, .int q)]) hx hb dX11_worth_20 hl (by decide) (zLvf_h rfl) (fun ls hl => ?_)
  refine z_lp2 (T := T) 22 (fun (i : Nat) (u : Int32) => [ww, z]) (fun (i : Nat) (u : Int32) => [(6, .int (nI i)), (5, .int u), (0, .ref h), (1, .int x), (2, .int y), (3, .int 1), (4, .int q)]) (fun (i : Nat) (u : Int32) => i ≤ 8) (fun (i : Nat) (u : Int32) => 8 - i) ?_ 0 (-1) (show 0 ≤ 8 from by omega) G (lv_sub hl [0, 1, 2, 3, 4, 5, 6] rfl)
  intro i u hi ih_22 H locs ls G hl
  replace hi : i ≤ 8 := hi
  replace G : zS T A s.heap s [ww, z] _ _ := G
  replace hl : lv_has ls 9 [(6, .int (nI i)), (5, .int u), (0, .ref h), (1, .int x), (2, .int y), (3, .int 1), (4, .int q)] := hl
  refine lv_iload hx hb dX11_worth_22 (lv_at hl 0 rfl) ?_
  refine lv_bipush (v := 7) hx hb dX11_worth_24 (by decide) ?_
  refine lv_icmp_gt (tgt := 120) hx hb dX11_worth_26 (by decide) (fun c_1 => ?_) (fun c_1 => ?_)
  · have c_1n : 7 < i := (nI_ltI (a := 7) (b := i) (by omega) (by omega)).mp c_1
    refine lv_iload hx hb dX11_worth_120 (lv_at hl 1 rfl) ?_
    exact z_back hQz_ (z_iret C hr hlocks G (Nat.le_of_ble_eq_true rfl) (Nat.le_of_ble_eq_true rfl) dX11_worth_122 rfl)
  · have c_1n : ¬ 7 < i := fun q => c_1 ((nI_ltI (a := 7) (b := i) (by omega) (by omega)).mpr q)
    refine lv_iload hx hb dX11_worth_29 (lv_at hl 0 rfl) ?_
    refine lv_bipush (v := 7) hx hb dX11_worth_31 (by decide) ?_
    refine lv_icmp_ne (tgt := 40) hx hb dX11_worth_33 (by decide) (fun c_2 => ?_) (fun c_2 => ?_)
    · have c_2n : ¬ i = 7 := fun q => c_2 ((nI_eq (a := i) (b := 7) (by omega) (by omega)).mpr q)
      refine lv_aload_n hx hb dX11_worth_40 rfl (lv_at hl 2 rfl) ?_
      refine lv_iload_n hx hb dX11_worth_41 rfl (lv_at hl 3 rfl) ?_
      refine lv_iload hx hb dX11_worth_42 (lv_at hl 0 rfl) ?_
      refine z_Vi (bc := [ww, z]) (br := []) (As := [.int x, .int (nI i)]) (rest := []) C G (c_turned l T h la md wy pc_ f1 f2 f3 f4 f5 f6 n4 ww cr inn k1 k2 k3 k4 z x (nI i) hww hz (by first | with_reducible assumption | with_reducible rfl | omega | assumption | rfl)) (kV_RX11_289 C.2.2.2.2 (Nat.le_of_ble_eq_true rfl) (Nat.le_of_ble_eq_true rfl)) [0, 1] [0, 0] rfl rfl (ci := 0) (qc := (RX0, TX0, 10)) rfl rfl (List.mem_flatten.mpr ⟨_, List.mem_of_getElem? (i := 0) rfl, (bWays_mem hww).choose_spec⟩) rfl rfl hl.1 dX11_worth_44 (Nat.le_of_ble_eq_true rfl) (Nat.le_of_ble_eq_true rfl) (fun r_3 b1 H locs hw G => ?_)
      obtain rfl := hw
      have G : zS T A s.heap s [ww, z] _ _ := G
      refine lv_istore (lv' := [(7, .int r_3), (6, .int (nI i)), (5, .int u), (0, .ref h), (1, .int x), (2, .int y), (3, .int 1), (4, .int q)]) hx hb dX11_worth_47 hl (by decide) (zLvf_h rfl) (fun ls hl => ?_)
      refine lv_iload hx hb dX11_worth_49 (lv_at hl 0 rfl) ?_
      refine lv_iconst (v := (-1)) hx hb dX11_worth_51 (by decide) ?_
      refine lv_icmp_eq (tgt := 114) hx hb dX11_worth_52 (by decide) (fun c_4 => ?_) (fun c_4 => ?_)
      · have c_4n : r_3.toInt = (-1 : Int) := (fa_eq _ _).mp c_4
        refine lv_iinc (v := nI (i + 1)) (lv' := [(6, .int (nI (i + 1))), (7, .int r_3), (5, .int u), (0, .ref h), (1, .int x), (2, .int y), (3, .int 1), (4, .int q)]) hx hb dX11_worth_114 hl (k := 1) rfl (z_inc i 1) (by decide) (zLvf_h rfl) (fun ls hl => ?_)
        refine lv_goto (tgt := 22) hx hb dX11_worth_117 (by decide) ?_
        exact ih_22 (i + 1) u (show (i + 1) ≤ 8 from by omega) (show 8 - (i + 1) < 8 - i from by omega) _ _ ls G (lv_sub hl [0, 2, 3, 4, 5, 6, 7] rfl)
      · have c_4n : ¬ r_3.toInt = (-1 : Int) := fun q => c_4 ((fa_eq _ _).mpr q)
        refine lv_aload_n hx hb dX11_worth_55 rfl (lv_at hl 3 rfl) ?_
        refine lv_iload hx hb dX11_worth_56 (lv_at hl 0 rfl) ?_
        refine lv_iload_n hx hb dX11_worth_58 rfl (lv_at hl 5 rfl) ?_
        refine lv_iload_n hx hb dX11_worth_59 rfl (lv_at hl 6 rfl) ?_
        refine lv_iconst (v := 1) hx hb dX11_worth_60 (by decide) ?_
        refine lv_isub hx hb dX11_worth_61 ?_
        refine lv_topi (fun y_5 ey_5 => ?_)
        obtain rfl : y_5 = 0 := ey_5.trans (by decide)
        refine lv_iload hx hb dX11_worth_62 (lv_at hl 7 rfl) ?_
        refine lv_if_ne (tgt := 71) hx hb dX11_worth_64 (by decide) (fun c_6 => ?_) (fun c_6 => ?_)
        · have c_6n : ¬ q.toInt = (0 : Int) := fun q => c_6 ((fa_eq _ _).mpr q)
          refine lv_iconst (v := 0) hx hb dX11_worth_71 (by decide) ?_
          refine z_Si (bc := [ww, z]) (br := []) (As := [.ref h, .int r_3, .int y, .int 0, .int 0]) (rest := []) C G (c_worth0 l T h la md wy pc_ f1 f2 f3 f4 f5 f6 n4 ww cr inn k1 k2 k3 k4 z r_3 y 0 hww hz (by first | with_reducible assumption | with_reducible rfl | omega | assumption | rfl) (by first | with_reducible assumption | with_reducible rfl | omega | assumption | rfl)) (kS_RX11_278 C.2.2.2.2 (Nat.le_of_ble_eq_true rfl) (Nat.le_of_ble_eq_true rfl)) [0, 1] [0, 0] rfl rfl rfl rfl hl.1 dX11_worth_72 (Nat.le_of_ble_eq_true rfl) (Nat.le_of_ble_eq_true rfl) (fun r_7 b1 H locs hw G => ?_)
          obtain rfl := hw
          have G : zS T A s.heap s [ww, z] _ _ := G
          refine lv_istore (lv' := [(8, .int r_7), (7, .int r_3), (6, .int (nI i)), (5, .int u), (0, .ref h), (1, .int x), (2, .int y), (3, .int 1), (4, .int q)]) hx hb dX11_worth_75 hl (by decide) (zLvf_h rfl) (fun ls hl => ?_)
          refine lv_iload hx hb dX11_worth_77 (lv_at hl 3 rfl) ?_
          refine lv_iconst (v := (-1)) hx hb dX11_worth_79 (by decide) ?_
          refine lv_icmp_eq (tgt := 105) hx hb dX11_worth_80 (by decide) (fun c_8 => ?_) (fun c_8 => ?_)
          · have c_8n : u.toInt = (-1 : Int) := (fa_eq _ _).mp c_8
            refine lv_iload hx hb dX11_worth_105 (lv_at hl 0 rfl) ?_
            refine lv_goto (tgt := 112) hx hb dX11_worth_107 (by decide) ?_
            refine lv_istore (lv' := [(5, .int r_7), (8, .int r_7), (7, .int r_3), (6, .int (nI i)), (0, .ref h), (1, .int x), (2, .int y), (3, .int 1), (4, .int q)]) hx hb dX11_worth_112 hl (by decide) (zLvf_h rfl) (fun ls hl => ?_)
            refine lv_iinc (v := nI (i + 1)) (lv' := [(6, .int (nI (i + 1))), (5, .int r_7), (8, .int r_7), (7, .int r_3), (0, .ref h), (1, .int x), (2, .int y), (3, .int 1), (4, .int q)]) hx hb dX11_worth_114 hl (k := 3) rfl (z_inc i 1) (by decide) (zLvf_h rfl) (fun ls hl => ?_)
            refine lv_goto (tgt := 22) hx hb dX11_worth_117 (by decide) ?_
            exact ih_22 (i + 1) r_7 (show (i + 1) ≤ 8 from by omega) (show 8 - (i + 1) < 8 - i from by omega) _ _ ls G (lv_sub hl [0, 1, 4, 5, 6, 7, 8] rfl)
          · have c_8n : ¬ u.toInt = (-1 : Int) := fun q => c_8 ((fa_eq _ _).mpr q)
            refine lv_iload hx hb dX11_worth_83 (lv_at hl 8 rfl) ?_
            refine lv_if_eq (tgt := 98) hx hb dX11_worth_85 (by decide) (fun q => absurd q c_6) (fun _ => ?_)
            refine lv_iload hx hb dX11_worth_88 (lv_at hl 0 rfl) ?_
            refine lv_iload hx hb dX11_worth_90 (lv_at hl 3 rfl) ?_
            refine lv_icmp_ge (tgt := 110) hx hb dX11_worth_92 (by decide) (fun c_9 => ?_) (fun c_9 => ?_)
            · have c_9n : u.toInt ≤ r_7.toInt := (fa_le _ _).mp c_9
              refine lv_iload hx hb dX11_worth_110 (lv_at hl 3 rfl) ?_
              refine lv_istore (lv' := [(5, .int u), (8, .int r_7), (7, .int r_3), (6, .int (nI i)), (0, .ref h), (1, .int x), (2, .int y), (3, .int 1), (4, .int q)]) hx hb dX11_worth_112 hl (by decide) (zLvf_h rfl) (fun ls hl => ?_)
              refine lv_iinc (v := nI (i + 1)) (lv' := [(6, .int (nI (i + 1))), (5, .int u), (8, .int r_7), (7, .int r_3), (0, .ref h), (1, .int x), (2, .int y), (3, .int 1), (4, .int q)]) hx hb dX11_worth_114 hl (k := 3) rfl (z_inc i 1) (by decide) (zLvf_h rfl) (fun ls hl => ?_)
              refine lv_goto (tgt := 22) hx hb dX11_worth_117 (by decide) ?_
              exact ih_22 (i + 1) u (show (i + 1) ≤ 8 from by omega) (show 8 - (i + 1) < 8 - i from by omega) _ _ ls G (lv_sub hl [0, 1, 4, 5, 6, 7, 8] rfl)
            · have c_9n : ¬ u.toInt ≤ r_7.toInt := fun q => c_9 ((fa_le _ _).mpr q)
              refine lv_goto (tgt := 105) hx hb dX11_worth_95 (by decide) ?_
              refine lv_iload hx hb dX11_worth_105 (lv_at hl 0 rfl) ?_
              refine lv_goto (tgt := 112) hx hb dX11_worth_107 (by decide) ?_
              refine lv_istore (lv' := [(5, .int r_7), (8, .int r_7), (7, .int r_3), (6, .int (nI i)), (0, .ref h), (1, .int x), (2, .int y), (3, .int 1), (4, .int q)]) hx hb dX11_worth_112 hl (by decide) (zLvf_h rfl) (fun ls hl => ?_)
              refine lv_iinc (v := nI (i + 1)) (lv' := [(6, .int (nI (i + 1))), (5, .int r_7), (8, .int r_7), (7, .int r_3), (0, .ref h), (1, .int x), (2, .int y), (3, .int 1), (4, .int q)]) hx hb dX11_worth_114 hl (k := 3) rfl (z_inc i 1) (by decide) (zLvf_h rfl) (fun ls hl => ?_)
              refine lv_goto (tgt := 22) hx hb dX11_worth_117 (by decide) ?_
              exact ih_22 (i + 1) r_7 (show (i + 1) ≤ 8 from by omega) (show 8 - (i + 1) < 8 - i from by omega) _ _ ls G (lv_sub hl [0, 1, 4, 5, 6, 7, 8] rfl)
        · have c_6n : q.toInt = (0 : Int) := (fa_eq _ _).mp c_6
          refine lv_iconst (v := 1) hx hb dX11_worth_67 (by decide) ?_
          refine lv_goto (tgt := 72) hx hb dX11_worth_68 (by decide) ?_
          refine z_Si (bc := [ww, z]) (br := []) (As := [.ref h, .int r_3, .int y, .int 0, .int 1]) (rest := []) C G (c_worth0 l T h la md wy pc_ f1 f2 f3 f4 f5 f6 n4 ww cr inn k1 k2 k3 k4 z r_3 y 1 hww hz (by first | with_reducible assumption | with_reducible rfl | omega | assumption | rfl) (by first | with_reducible assumption | with_reducible rfl | omega | assumption | rfl)) (kS_RX11_278 C.2.2.2.2 (Nat.le_of_ble_eq_true rfl) (Nat.le_of_ble_eq_true rfl)) [0, 1] [0, 0] rfl rfl rfl rfl hl.1 dX11_worth_72 (Nat.le_of_ble_eq_true rfl) (Nat.le_of_ble_eq_true rfl) (fun r_10 b1 H locs hw G => ?_)
          obtain rfl := hw
          have G : zS T A s.heap s [ww, z] _ _ := G
          refine lv_istore (lv' := [(8, .int r_10), (7, .int r_3), (6, .int (nI i)), (5, .int u), (0, .ref h), (1, .int x), (2, .int y), (3, .int 1), (4, .int q)]) hx hb dX11_worth_75 hl (by decide) (zLvf_h rfl) (fun ls hl => ?_)
          refine lv_iload hx hb dX11_worth_77 (lv_at hl 3 rfl) ?_
          refine lv_iconst (v := (-1)) hx hb dX11_worth_79 (by decide) ?_
          refine lv_icmp_eq (tgt := 105) hx hb dX11_worth_80 (by decide) (fun c_11 => ?_) (fun c_11 => ?_)
          · have c_11n : u.toInt = (-1 : Int) := (fa_eq _ _).mp c_11
            refine lv_iload hx hb dX11_worth_105 (lv_at hl 0 rfl) ?_
            refine lv_goto (tgt := 112) hx hb dX11_worth_107 (by decide) ?_
            refine lv_istore (lv' := [(5, .int r_10), (8, .int r_10), (7, .int r_3), (6, .int (nI i)), (0, .ref h), (1, .int x), (2, .int y), (3, .int 1), (4, .int q)]) hx hb dX11_worth_112 hl (by decide) (zLvf_h rfl) (fun ls hl => ?_)
            refine lv_iinc (v := nI (i + 1)) (lv' := [(6, .int (nI (i + 1))), (5, .int r_10), (8, .int r_10), (7, .int r_3), (0, .ref h), (1, .int x), (2, .int y), (3, .int 1), (4, .int q)]) hx hb dX11_worth_114 hl (k := 3) rfl (z_inc i 1) (by decide) (zLvf_h rfl) (fun ls hl => ?_)
            refine lv_goto (tgt := 22) hx hb dX11_worth_117 (by decide) ?_
            exact ih_22 (i + 1) r_10 (show (i + 1) ≤ 8 from by omega) (show 8 - (i + 1) < 8 - i from by omega) _ _ ls G (lv_sub hl [0, 1, 4, 5, 6, 7, 8] rfl)
          · have c_11n : ¬ u.toInt = (-1 : Int) := fun q => c_11 ((fa_eq _ _).mpr q)
            refine lv_iload hx hb dX11_worth_83 (lv_at hl 8 rfl) ?_
            refine lv_if_eq (tgt := 98) hx hb dX11_worth_85 (by decide) (fun _ => ?_) (fun q => absurd c_6 q)
            refine lv_iload hx hb dX11_worth_98 (lv_at hl 0 rfl) ?_
            refine lv_iload hx hb dX11_worth_100 (lv_at hl 3 rfl) ?_
            refine lv_icmp_le (tgt := 110) hx hb dX11_worth_102 (by decide) (fun c_12 => ?_) (fun c_12 => ?_)
            · have c_12n : r_10.toInt ≤ u.toInt := (fa_le _ _).mp c_12
              refine lv_iload hx hb dX11_worth_110 (lv_at hl 3 rfl) ?_
              refine lv_istore (lv' := [(5, .int u), (8, .int r_10), (7, .int r_3), (6, .int (nI i)), (0, .ref h), (1, .int x), (2, .int y), (3, .int 1), (4, .int q)]) hx hb dX11_worth_112 hl (by decide) (zLvf_h rfl) (fun ls hl => ?_)
              refine lv_iinc (v := nI (i + 1)) (lv' := [(6, .int (nI (i + 1))), (5, .int u), (8, .int r_10), (7, .int r_3), (0, .ref h), (1, .int x), (2, .int y), (3, .int 1), (4, .int q)]) hx hb dX11_worth_114 hl (k := 3) rfl (z_inc i 1) (by decide) (zLvf_h rfl) (fun ls hl => ?_)
              refine lv_goto (tgt := 22) hx hb dX11_worth_117 (by decide) ?_
              exact ih_22 (i + 1) u (show (i + 1) ≤ 8 from by omega) (show 8 - (i + 1) < 8 - i from by omega) _ _ ls G (lv_sub hl [0, 1, 4, 5, 6, 7, 8] rfl)
            · have c_12n : ¬ r_10.toInt ≤ u.toInt := fun q => c_12 ((fa_le _ _).mpr q)
              refine lv_iload hx hb dX11_worth_105 (lv_at hl 0 rfl) ?_
              refine lv_goto (tgt := 112) hx hb dX11_worth_107 (by decide) ?_
              refine lv_istore (lv' := [(5, .int r_10), (8, .int r_10), (7, .int r_3), (6, .int (nI i)), (0, .ref h), (1, .int x), (2, .int y), (3, .int 1), (4, .int q)]) hx hb dX11_worth_112 hl (by decide) (zLvf_h rfl) (fun ls hl => ?_)
              refine lv_iinc (v := nI (i + 1)) (lv' := [(6, .int (nI (i + 1))), (5, .int r_10), (8, .int r_10), (7, .int r_3), (0, .ref h), (1, .int x), (2, .int y), (3, .int 1), (4, .int q)]) hx hb dX11_worth_114 hl (k := 3) rfl (z_inc i 1) (by decide) (zLvf_h rfl) (fun ls hl => ?_)
              refine lv_goto (tgt := 22) hx hb dX11_worth_117 (by decide) ?_
              exact ih_22 (i + 1) r_10 (show (i + 1) ≤ 8 from by omega) (show 8 - (i + 1) < 8 - i from by omega) _ _ ls G (lv_sub hl [0, 1, 4, 5, 6, 7, 8] rfl)
    · have c_2n : i = 7 := (nI_eq (a := i) (b := 7) (by omega) (by omega)).mp c_2
      refine lv_iload_n hx hb dX11_worth_36 rfl (lv_at hl 3 rfl) ?_
      refine lv_goto (tgt := 47) hx hb dX11_worth_37 (by decide) ?_
      refine lv_istore (lv' := [(7, .int x), (6, .int (nI i)), (5, .int u), (0, .ref h), (1, .int x), (2, .int y), (3, .int 1), (4, .int q)]) hx hb dX11_worth_47 hl (by decide) (zLvf_h rfl) (fun ls hl => ?_)
      refine lv_iload hx hb dX11_worth_49 (lv_at hl 0 rfl) ?_
      refine lv_iconst (v := (-1)) hx hb dX11_worth_51 (by decide) ?_
      refine lv_icmp_eq (tgt := 114) hx hb dX11_worth_52 (by decide) (fun c_13 => ?_) (fun c_13 => ?_)
      · have c_13n : x.toInt = (-1 : Int) := (fa_eq _ _).mp c_13
        refine lv_iinc (v := nI (i + 1)) (lv' := [(6, .int (nI (i + 1))), (7, .int x), (5, .int u), (0, .ref h), (1, .int x), (2, .int y), (3, .int 1), (4, .int q)]) hx hb dX11_worth_114 hl (k := 1) rfl (z_inc i 1) (by decide) (zLvf_h rfl) (fun ls hl => ?_)
        refine lv_goto (tgt := 22) hx hb dX11_worth_117 (by decide) ?_
        exact ih_22 (i + 1) u (show (i + 1) ≤ 8 from by omega) (show 8 - (i + 1) < 8 - i from by omega) _ _ ls G (lv_sub hl [0, 2, 3, 4, 5, 6, 7] rfl)
      · have c_13n : ¬ x.toInt = (-1 : Int) := fun q => c_13 ((fa_eq _ _).mpr q)
        refine lv_aload_n hx hb dX11_worth_55 rfl (lv_at hl 3 rfl) ?_
        refine lv_iload hx hb dX11_worth_56 (lv_at hl 0 rfl) ?_
        refine lv_iload_n hx hb dX11_worth_58 rfl (lv_at hl 5 rfl) ?_
        refine lv_iload_n hx hb dX11_worth_59 rfl (lv_at hl 6 rfl) ?_
        refine lv_iconst (v := 1) hx hb dX11_worth_60 (by decide) ?_
        refine lv_isub hx hb dX11_worth_61 ?_
        refine lv_topi (fun y_14 ey_14 => ?_)
        obtain rfl : y_14 = 0 := ey_14.trans (by decide)
        refine lv_iload hx hb dX11_worth_62 (lv_at hl 7 rfl) ?_
        refine lv_if_ne (tgt := 71) hx hb dX11_worth_64 (by decide) (fun c_15 => ?_) (fun c_15 => ?_)
        · have c_15n : ¬ q.toInt = (0 : Int) := fun q => c_15 ((fa_eq _ _).mpr q)
          refine lv_iconst (v := 0) hx hb dX11_worth_71 (by decide) ?_
          refine z_Si (bc := [ww, z]) (br := []) (As := [.ref h, .int x, .int y, .int 0, .int 0]) (rest := []) C G (c_worth0 l T h la md wy pc_ f1 f2 f3 f4 f5 f6 n4 ww cr inn k1 k2 k3 k4 z x y 0 hww hz (by first | with_reducible assumption | with_reducible rfl | omega | assumption | rfl) (by first | with_reducible assumption | with_reducible rfl | omega | assumption | rfl)) (kS_RX11_278 C.2.2.2.2 (Nat.le_of_ble_eq_true rfl) (Nat.le_of_ble_eq_true rfl)) [0, 1] [0, 0] rfl rfl rfl rfl hl.1 dX11_worth_72 (Nat.le_of_ble_eq_true rfl) (Nat.le_of_ble_eq_true rfl) (fun r_16 b1 H locs hw G => ?_)
          obtain rfl := hw
          have G : zS T A s.heap s [ww, z] _ _ := G
          refine lv_istore (lv' := [(8, .int r_16), (7, .int x), (6, .int (nI i)), (5, .int u), (0, .ref h), (1, .int x), (2, .int y), (3, .int 1), (4, .int q)]) hx hb dX11_worth_75 hl (by decide) (zLvf_h rfl) (fun ls hl => ?_)
          refine lv_iload hx hb dX11_worth_77 (lv_at hl 3 rfl) ?_
          refine lv_iconst (v := (-1)) hx hb dX11_worth_79 (by decide) ?_
          refine lv_icmp_eq (tgt := 105) hx hb dX11_worth_80 (by decide) (fun c_17 => ?_) (fun c_17 => ?_)
          · have c_17n : u.toInt = (-1 : Int) := (fa_eq _ _).mp c_17
            refine lv_iload hx hb dX11_worth_105 (lv_at hl 0 rfl) ?_
            refine lv_goto (tgt := 112) hx hb dX11_worth_107 (by decide) ?_
            refine lv_istore (lv' := [(5, .int r_16), (8, .int r_16), (7, .int x), (6, .int (nI i)), (0, .ref h), (1, .int x), (2, .int y), (3, .int 1), (4, .int q)]) hx hb dX11_worth_112 hl (by decide) (zLvf_h rfl) (fun ls hl => ?_)
            refine lv_iinc (v := nI (i + 1)) (lv' := [(6, .int (nI (i + 1))), (5, .int r_16), (8, .int r_16), (7, .int x), (0, .ref h), (1, .int x), (2, .int y), (3, .int 1), (4, .int q)]) hx hb dX11_worth_114 hl (k := 3) rfl (z_inc i 1) (by decide) (zLvf_h rfl) (fun ls hl => ?_)
            refine lv_goto (tgt := 22) hx hb dX11_worth_117 (by decide) ?_
            exact ih_22 (i + 1) r_16 (show (i + 1) ≤ 8 from by omega) (show 8 - (i + 1) < 8 - i from by omega) _ _ ls G (lv_sub hl [0, 1, 4, 5, 6, 7, 8] rfl)
          · have c_17n : ¬ u.toInt = (-1 : Int) := fun q => c_17 ((fa_eq _ _).mpr q)
            refine lv_iload hx hb dX11_worth_83 (lv_at hl 8 rfl) ?_
            refine lv_if_eq (tgt := 98) hx hb dX11_worth_85 (by decide) (fun q => absurd q c_15) (fun _ => ?_)
            refine lv_iload hx hb dX11_worth_88 (lv_at hl 0 rfl) ?_
            refine lv_iload hx hb dX11_worth_90 (lv_at hl 3 rfl) ?_
            refine lv_icmp_ge (tgt := 110) hx hb dX11_worth_92 (by decide) (fun c_18 => ?_) (fun c_18 => ?_)
            · have c_18n : u.toInt ≤ r_16.toInt := (fa_le _ _).mp c_18
              refine lv_iload hx hb dX11_worth_110 (lv_at hl 3 rfl) ?_
              refine lv_istore (lv' := [(5, .int u), (8, .int r_16), (7, .int x), (6, .int (nI i)), (0, .ref h), (1, .int x), (2, .int y), (3, .int 1), (4, .int q)]) hx hb dX11_worth_112 hl (by decide) (zLvf_h rfl) (fun ls hl => ?_)
              refine lv_iinc (v := nI (i + 1)) (lv' := [(6, .int (nI (i + 1))), (5, .int u), (8, .int r_16), (7, .int x), (0, .ref h), (1, .int x), (2, .int y), (3, .int 1), (4, .int q)]) hx hb dX11_worth_114 hl (k := 3) rfl (z_inc i 1) (by decide) (zLvf_h rfl) (fun ls hl => ?_)
              refine lv_goto (tgt := 22) hx hb dX11_worth_117 (by decide) ?_
              exact ih_22 (i + 1) u (show (i + 1) ≤ 8 from by omega) (show 8 - (i + 1) < 8 - i from by omega) _ _ ls G (lv_sub hl [0, 1, 4, 5, 6, 7, 8] rfl)
            · have c_18n : ¬ u.toInt ≤ r_16.toInt := fun q => c_18 ((fa_le _ _).mpr q)
              refine lv_goto (tgt := 105) hx hb dX11_worth_95 (by decide) ?_
              refine lv_iload hx hb dX11_worth_105 (lv_at hl 0 rfl) ?_
              refine lv_goto (tgt := 112) hx hb dX11_worth_107 (by decide) ?_
              refine lv_istore (lv' := [(5, .int r_16), (8, .int r_16), (7, .int x), (6, .int (nI i)), (0, .ref h), (1, .int x), (2, .int y), (3, .int 1), (4, .int q)]) hx hb dX11_worth_112 hl (by decide) (zLvf_h rfl) (fun ls hl => ?_)
              refine lv_iinc (v := nI (i + 1)) (lv' := [(6, .int (nI (i + 1))), (5, .int r_16), (8, .int r_16), (7, .int x), (0, .ref h), (1, .int x), (2, .int y), (3, .int 1), (4, .int q)]) hx hb dX11_worth_114 hl (k := 3) rfl (z_inc i 1) (by decide) (zLvf_h rfl) (fun ls hl => ?_)
              refine lv_goto (tgt := 22) hx hb dX11_worth_117 (by decide) ?_
              exact ih_22 (i + 1) r_16 (show (i + 1) ≤ 8 from by omega) (show 8 - (i + 1) < 8 - i from by omega) _ _ ls G (lv_sub hl [0, 1, 4, 5, 6, 7, 8] rfl)
        · have c_15n : q.toInt = (0 : Int) := (fa_eq _ _).mp c_15
          refine lv_iconst (v := 1) hx hb dX11_worth_67 (by decide) ?_
          refine lv_goto (tgt := 72) hx hb dX11_worth_68 (by decide) ?_
          refine z_Si (bc := [ww, z]) (br := []) (As := [.ref h, .int x, .int y, .int 0, .int 1]) (rest := []) C G (c_worth0 l T h la md wy pc_ f1 f2 f3 f4 f5 f6 n4 ww cr inn k1 k2 k3 k4 z x y 1 hww hz (by first | with_reducible assumption | with_reducible rfl | omega | assumption | rfl) (by first | with_reducible assumption | with_reducible rfl | omega | assumption | rfl)) (kS_RX11_278 C.2.2.2.2 (Nat.le_of_ble_eq_true rfl) (Nat.le_of_ble_eq_true rfl)) [0, 1] [0, 0] rfl rfl rfl rfl hl.1 dX11_worth_72 (Nat.le_of_ble_eq_true rfl) (Nat.le_of_ble_eq_true rfl) (fun r_19 b1 H locs hw G => ?_)
          obtain rfl := hw
          have G : zS T A s.heap s [ww, z] _ _ := G
          refine lv_istore (lv' := [(8, .int r_19), (7, .int x), (6, .int (nI i)), (5, .int u), (0, .ref h), (1, .int x), (2, .int y), (3, .int 1), (4, .int q)]) hx hb dX11_worth_75 hl (by decide) (zLvf_h rfl) (fun ls hl => ?_)
          refine lv_iload hx hb dX11_worth_77 (lv_at hl 3 rfl) ?_
          refine lv_iconst (v := (-1)) hx hb dX11_worth_79 (by decide) ?_
          refine lv_icmp_eq (tgt := 105) hx hb dX11_worth_80 (by decide) (fun c_20 => ?_) (fun c_20 => ?_)
          · have c_20n : u.toInt = (-1 : Int) := (fa_eq _ _).mp c_20
            refine lv_iload hx hb dX11_worth_105 (lv_at hl 0 rfl) ?_
            refine lv_goto (tgt := 112) hx hb dX11_worth_107 (by decide) ?_
            refine lv_istore (lv' := [(5, .int r_19), (8, .int r_19), (7, .int x), (6, .int (nI i)), (0, .ref h), (1, .int x), (2, .int y), (3, .int 1), (4, .int q)]) hx hb dX11_worth_112 hl (by decide) (zLvf_h rfl) (fun ls hl => ?_)
            refine lv_iinc (v := nI (i + 1)) (lv' := [(6, .int (nI (i + 1))), (5, .int r_19), (8, .int r_19), (7, .int x), (0, .ref h), (1, .int x), (2, .int y), (3, .int 1), (4, .int q)]) hx hb dX11_worth_114 hl (k := 3) rfl (z_inc i 1) (by decide) (zLvf_h rfl) (fun ls hl => ?_)
            refine lv_goto (tgt := 22) hx hb dX11_worth_117 (by decide) ?_
            exact ih_22 (i + 1) r_19 (show (i + 1) ≤ 8 from by omega) (show 8 - (i + 1) < 8 - i from by omega) _ _ ls G (lv_sub hl [0, 1, 4, 5, 6, 7, 8] rfl)
          · have c_20n : ¬ u.toInt = (-1 : Int) := fun q => c_20 ((fa_eq _ _).mpr q)
            refine lv_iload hx hb dX11_worth_83 (lv_at hl 8 rfl) ?_
            refine lv_if_eq (tgt := 98) hx hb dX11_worth_85 (by decide) (fun _ => ?_) (fun q => absurd c_15 q)
            refine lv_iload hx hb dX11_worth_98 (lv_at hl 0 rfl) ?_
            refine lv_iload hx hb dX11_worth_100 (lv_at hl 3 rfl) ?_
            refine lv_icmp_le (tgt := 110) hx hb dX11_worth_102 (by decide) (fun c_21 => ?_) (fun c_21 => ?_)
            · have c_21n : r_19.toInt ≤ u.toInt := (fa_le _ _).mp c_21
              refine lv_iload hx hb dX11_worth_110 (lv_at hl 3 rfl) ?_
              refine lv_istore (lv' := [(5, .int u), (8, .int r_19), (7, .int x), (6, .int (nI i)), (0, .ref h), (1, .int x), (2, .int y), (3, .int 1), (4, .int q)]) hx hb dX11_worth_112 hl (by decide) (zLvf_h rfl) (fun ls hl => ?_)
              refine lv_iinc (v := nI (i + 1)) (lv' := [(6, .int (nI (i + 1))), (5, .int u), (8, .int r_19), (7, .int x), (0, .ref h), (1, .int x), (2, .int y), (3, .int 1), (4, .int q)]) hx hb dX11_worth_114 hl (k := 3) rfl (z_inc i 1) (by decide) (zLvf_h rfl) (fun ls hl => ?_)
              refine lv_goto (tgt := 22) hx hb dX11_worth_117 (by decide) ?_
              exact ih_22 (i + 1) u (show (i + 1) ≤ 8 from by omega) (show 8 - (i + 1) < 8 - i from by omega) _ _ ls G (lv_sub hl [0, 1, 4, 5, 6, 7, 8] rfl)
            · have c_21n : ¬ r_19.toInt ≤ u.toInt := fun q => c_21 ((fa_le _ _).mpr q)
              refine lv_iload hx hb dX11_worth_105 (lv_at hl 0 rfl) ?_
              refine lv_goto (tgt := 112) hx hb dX11_worth_107 (by decide) ?_
              refine lv_istore (lv' := [(5, .int r_19), (8, .int r_19), (7, .int x), (6, .int (nI i)), (0, .ref h), (1, .int x), (2, .int y), (3, .int 1), (4, .int q)]) hx hb dX11_worth_112 hl (by decide) (zLvf_h rfl) (fun ls hl => ?_)
              refine lv_iinc (v := nI (i + 1)) (lv' := [(6, .int (nI (i + 1))), (5, .int r_19), (8, .int r_19), (7, .int x), (0, .ref h), (1, .int x), (2, .int y), (3, .int 1), (4, .int q)]) hx hb dX11_worth_114 hl (k := 3) rfl (z_inc i 1) (by decide) (zLvf_h rfl) (fun ls hl => ?_)
              refine lv_goto (tgt := 22) hx hb dX11_worth_117 (by decide) ?_
              exact ih_22 (i + 1) r_19 (show (i + 1) ≤ 8 from by omega) (show 8 - (i + 1) < 8 - i from by omega) _ _ ls G (lv_sub hl [0, 1, 4, 5, 6, 7, 8] rfl)
set_option maxHeartbeats 4000000 in
set_option maxRecDepth 100000 in
/-- worth -/
theorem c_worth2 (l : Launch) (T : zTy) (h : Nat) (la : Nat) (md : Int32) (wy : Int32) (pc_ : Int32) (f1 : Nat → Int32) (f2 : Nat → Int32) (f3 : Nat → Int32) (f4 : Nat → Int32) (f5 : Nat → Int32) (f6 : Nat → Int32) (n4 : Nat) (ww : va_W) (cr : Int32) (inn : Int32) (k1 : Nat → Int32) (k2 : Nat → Int32) (k3 : Nat → Int32) (k4 : Nat → Int32) (z : va_W) (x : Int32) (y : Int32) (q : Int32) (hww : bWays T h la md wy pc_ f1 f2 f3 f4 f5 f6 n4 ww) (hz : bLand T la cr inn k1 k2 k3 k4 z) (hI : zLI cr k1 k3) (hn : n4 ≤ 131072) : zMi l T yX11_worth cX11_worth 9 (some .int) 7 0 0 [.ref h, .int x, .int y, .int 2, .int q] [ww, z] (fun (r : Int32) bs => bs = [ww, z]) := by
  refine zMi_of (own := RX11) (by decide) rfl (Nat.le_of_ble_eq_true rfl) ?_
  intro p e s m args below meth c A ls C hr hlocks hnm hAe G hl
  refine zHide (fun Qz_ hQz_ => ?_)
  have hx := C.1
  have hb := C.2.1
  have hl : lv_has ls 9 [(0, .ref h), (1, .int x), (2, .int y), (3, .int 2), (4, .int q)] := hl
  refine lv_iload_n hx hb dX11_worth_0 rfl (lv_at hl 3 rfl) ?_
  refine lv_if_le (tgt := 9) hx hb dX11_worth_1 (by decide) (fun q => absurd q (by decide)) (fun _ => ?_)
  refine lv_iload_n hx hb dX11_worth_4 rfl (lv_at hl 3 rfl) ?_
  refine lv_iconst (v := 3) hx hb dX11_worth_5 (by decide) ?_
  refine lv_icmp_le (tgt := 16) hx hb dX11_worth_6 (by decide) (fun _ => ?_) (fun q => absurd (by decide) q)
  refine lv_iconst (v := (-1)) hx hb dX11_worth_16 (by decide) ?_
  refine lv_istore (lv' := [(5, .int (-1)), (0, .ref h), (1, .int x), (2, .int y), (3, .int 2), (4, .int q)]) hx hb dX11_worth_17 hl (by decide) (zLvf_h rfl) (fun ls hl => ?_)
  refine lv_iconst (v := 0) hx hb dX11_worth_19 (by decide) ?_
  refine lv_istore (lv' := [(6, .int 0), (5, .int (-1)), (0, .ref h), (1, .int x), (2, .int y), (3, .int 2), (4, .int q)]) hx hb dX11_worth_20 hl (by decide) (zLvf_h rfl) (fun ls hl => ?_)
  refine z_lp2 (T := T) 22 (fun (i : Nat) (u : Int32) => [ww, z]) (fun (i : Nat) (u : Int32) => [(6, .int (nI i)), (5, .int u), (0, .ref h), (1, .int x), (2, .int y), (3, .int 2), (4, .int q)]) (fun (i : Nat) (u : Int32) => i ≤ 8) (fun (i : Nat) (u : Int32) => 8 - i) ?_ 0 (-1) (show 0 ≤ 8 from by omega) G (lv_sub hl [0, 1, 2, 3, 4, 5, 6] rfl)
  intro i u hi ih_22 H locs ls G hl
  replace hi : i ≤ 8 := hi
  replace G : zS T A s.heap s [ww, z] _ _ := G
  replace hl : lv_has ls 9 [(6, .int (nI i)), (5, .int u), (0, .ref h), (1, .int x), (2, .int y), (3, .int 2), (4, .int q)] := hl
  refine lv_iload hx hb dX11_worth_22 (lv_at hl 0 rfl) ?_
  refine lv_bipush (v := 7) hx hb dX11_worth_24 (by decide) ?_
  refine lv_icmp_gt (tgt := 120) hx hb dX11_worth_26 (by decide) (fun c_1 => ?_) (fun c_1 => ?_)
  · have c_1n : 7 < i := (nI_ltI (a := 7) (b := i) (by omega) (by omega)).mp c_1
    refine lv_iload hx hb dX11_worth_120 (lv_at hl 1 rfl) ?_
    exact z_back hQz_ (z_iret C hr hlocks G (Nat.le_of_ble_eq_true rfl) (Nat.le_of_ble_eq_true rfl) dX11_worth_122 rfl)
  · have c_1n : ¬ 7 < i := fun q => c_1 ((nI_ltI (a := 7) (b := i) (by omega) (by omega)).mpr q)
    refine lv_iload hx hb dX11_worth_29 (lv_at hl 0 rfl) ?_
    refine lv_bipush (v := 7) hx hb dX11_worth_31 (by decide) ?_
    refine lv_icmp_ne (tgt := 40) hx hb dX11_worth_33 (by decide) (fun c_2 => ?_) (fun c_2 => ?_)
    · have c_2n : ¬ i = 7 := fun q => c_2 ((nI_eq (a := i) (b := 7) (by omega) (by omega)).mpr q)
      refine lv_aload_n hx hb dX11_worth_40 rfl (lv_at hl 2 rfl) ?_
      refine lv_iload_n hx hb dX11_worth_41 rfl (lv_at hl 3 rfl) ?_
      refine lv_iload hx hb dX11_worth_42 (lv_at hl 0 rfl) ?_
      refine z_Vi (bc := [ww, z]) (br := []) (As := [.int x, .int (nI i)]) (rest := []) C G (c_turned l T h la md wy pc_ f1 f2 f3 f4 f5 f6 n4 ww cr inn k1 k2 k3 k4 z x (nI i) hww hz (by first | with_reducible assumption | with_reducible rfl | omega | assumption | rfl)) (kV_RX11_289 C.2.2.2.2 (Nat.le_of_ble_eq_true rfl) (Nat.le_of_ble_eq_true rfl)) [0, 1] [0, 0] rfl rfl (ci := 0) (qc := (RX0, TX0, 10)) rfl rfl (List.mem_flatten.mpr ⟨_, List.mem_of_getElem? (i := 0) rfl, (bWays_mem hww).choose_spec⟩) rfl rfl hl.1 dX11_worth_44 (Nat.le_of_ble_eq_true rfl) (Nat.le_of_ble_eq_true rfl) (fun r_3 b1 H locs hw G => ?_)
      obtain rfl := hw
      have G : zS T A s.heap s [ww, z] _ _ := G
      refine lv_istore (lv' := [(7, .int r_3), (6, .int (nI i)), (5, .int u), (0, .ref h), (1, .int x), (2, .int y), (3, .int 2), (4, .int q)]) hx hb dX11_worth_47 hl (by decide) (zLvf_h rfl) (fun ls hl => ?_)
      refine lv_iload hx hb dX11_worth_49 (lv_at hl 0 rfl) ?_
      refine lv_iconst (v := (-1)) hx hb dX11_worth_51 (by decide) ?_
      refine lv_icmp_eq (tgt := 114) hx hb dX11_worth_52 (by decide) (fun c_4 => ?_) (fun c_4 => ?_)
      · have c_4n : r_3.toInt = (-1 : Int) := (fa_eq _ _).mp c_4
        refine lv_iinc (v := nI (i + 1)) (lv' := [(6, .int (nI (i + 1))), (7, .int r_3), (5, .int u), (0, .ref h), (1, .int x), (2, .int y), (3, .int 2), (4, .int q)]) hx hb dX11_worth_114 hl (k := 1) rfl (z_inc i 1) (by decide) (zLvf_h rfl) (fun ls hl => ?_)
        refine lv_goto (tgt := 22) hx hb dX11_worth_117 (by decide) ?_
        exact ih_22 (i + 1) u (show (i + 1) ≤ 8 from by omega) (show 8 - (i + 1) < 8 - i from by omega) _ _ ls G (lv_sub hl [0, 2, 3, 4, 5, 6, 7] rfl)
      · have c_4n : ¬ r_3.toInt = (-1 : Int) := fun q => c_4 ((fa_eq _ _).mpr q)
        refine lv_aload_n hx hb dX11_worth_55 rfl (lv_at hl 3 rfl) ?_
        refine lv_iload hx hb dX11_worth_56 (lv_at hl 0 rfl) ?_
        refine lv_iload_n hx hb dX11_worth_58 rfl (lv_at hl 5 rfl) ?_
        refine lv_iload_n hx hb dX11_worth_59 rfl (lv_at hl 6 rfl) ?_
        refine lv_iconst (v := 1) hx hb dX11_worth_60 (by decide) ?_
        refine lv_isub hx hb dX11_worth_61 ?_
        refine lv_topi (fun y_5 ey_5 => ?_)
        obtain rfl : y_5 = 1 := ey_5.trans (by decide)
        refine lv_iload hx hb dX11_worth_62 (lv_at hl 7 rfl) ?_
        refine lv_if_ne (tgt := 71) hx hb dX11_worth_64 (by decide) (fun c_6 => ?_) (fun c_6 => ?_)
        · have c_6n : ¬ q.toInt = (0 : Int) := fun q => c_6 ((fa_eq _ _).mpr q)
          refine lv_iconst (v := 0) hx hb dX11_worth_71 (by decide) ?_
          refine z_Si (bc := [ww, z]) (br := []) (As := [.ref h, .int r_3, .int y, .int 1, .int 0]) (rest := []) C G (c_worth1 l T h la md wy pc_ f1 f2 f3 f4 f5 f6 n4 ww cr inn k1 k2 k3 k4 z r_3 y 0 hww hz (by first | with_reducible assumption | with_reducible rfl | omega | assumption | rfl) (by first | with_reducible assumption | with_reducible rfl | omega | assumption | rfl)) (kS_RX11_278 C.2.2.2.2 (Nat.le_of_ble_eq_true rfl) (Nat.le_of_ble_eq_true rfl)) [0, 1] [0, 0] rfl rfl rfl rfl hl.1 dX11_worth_72 (Nat.le_of_ble_eq_true rfl) (Nat.le_of_ble_eq_true rfl) (fun r_7 b1 H locs hw G => ?_)
          obtain rfl := hw
          have G : zS T A s.heap s [ww, z] _ _ := G
          refine lv_istore (lv' := [(8, .int r_7), (7, .int r_3), (6, .int (nI i)), (5, .int u), (0, .ref h), (1, .int x), (2, .int y), (3, .int 2), (4, .int q)]) hx hb dX11_worth_75 hl (by decide) (zLvf_h rfl) (fun ls hl => ?_)
          refine lv_iload hx hb dX11_worth_77 (lv_at hl 3 rfl) ?_
          refine lv_iconst (v := (-1)) hx hb dX11_worth_79 (by decide) ?_
          refine lv_icmp_eq (tgt := 105) hx hb dX11_worth_80 (by decide) (fun c_8 => ?_) (fun c_8 => ?_)
          · have c_8n : u.toInt = (-1 : Int) := (fa_eq _ _).mp c_8
            refine lv_iload hx hb dX11_worth_105 (lv_at hl 0 rfl) ?_
            refine lv_goto (tgt := 112) hx hb dX11_worth_107 (by decide) ?_
            refine lv_istore (lv' := [(5, .int r_7), (8, .int r_7), (7, .int r_3), (6, .int (nI i)), (0, .ref h), (1, .int x), (2, .int y), (3, .int 2), (4, .int q)]) hx hb dX11_worth_112 hl (by decide) (zLvf_h rfl) (fun ls hl => ?_)
            refine lv_iinc (v := nI (i + 1)) (lv' := [(6, .int (nI (i + 1))), (5, .int r_7), (8, .int r_7), (7, .int r_3), (0, .ref h), (1, .int x), (2, .int y), (3, .int 2), (4, .int q)]) hx hb dX11_worth_114 hl (k := 3) rfl (z_inc i 1) (by decide) (zLvf_h rfl) (fun ls hl => ?_)
            refine lv_goto (tgt := 22) hx hb dX11_worth_117 (by decide) ?_
            exact ih_22 (i + 1) r_7 (show (i + 1) ≤ 8 from by omega) (show 8 - (i + 1) < 8 - i from by omega) _ _ ls G (lv_sub hl [0, 1, 4, 5, 6, 7, 8] rfl)
          · have c_8n : ¬ u.toInt = (-1 : Int) := fun q => c_8 ((fa_eq _ _).mpr q)
            refine lv_iload hx hb dX11_worth_83 (lv_at hl 8 rfl) ?_
            refine lv_if_eq (tgt := 98) hx hb dX11_worth_85 (by decide) (fun q => absurd q c_6) (fun _ => ?_)
            refine lv_iload hx hb dX11_worth_88 (lv_at hl 0 rfl) ?_
            refine lv_iload hx hb dX11_worth_90 (lv_at hl 3 rfl) ?_
            refine lv_icmp_ge (tgt := 110) hx hb dX11_worth_92 (by decide) (fun c_9 => ?_) (fun c_9 => ?_)
            · have c_9n : u.toInt ≤ r_7.toInt := (fa_le _ _).mp c_9
              refine lv_iload hx hb dX11_worth_110 (lv_at hl 3 rfl) ?_
              refine lv_istore (lv' := [(5, .int u), (8, .int r_7), (7, .int r_3), (6, .int (nI i)), (0, .ref h), (1, .int x), (2, .int y), (3, .int 2), (4, .int q)]) hx hb dX11_worth_112 hl (by decide) (zLvf_h rfl) (fun ls hl => ?_)
              refine lv_iinc (v := nI (i + 1)) (lv' := [(6, .int (nI (i + 1))), (5, .int u), (8, .int r_7), (7, .int r_3), (0, .ref h), (1, .int x), (2, .int y), (3, .int 2), (4, .int q)]) hx hb dX11_worth_114 hl (k := 3) rfl (z_inc i 1) (by decide) (zLvf_h rfl) (fun ls hl => ?_)
              refine lv_goto (tgt := 22) hx hb dX11_worth_117 (by decide) ?_
              exact ih_22 (i + 1) u (show (i + 1) ≤ 8 from by omega) (show 8 - (i + 1) < 8 - i from by omega) _ _ ls G (lv_sub hl [0, 1, 4, 5, 6, 7, 8] rfl)
            · have c_9n : ¬ u.toInt ≤ r_7.toInt := fun q => c_9 ((fa_le _ _).mpr q)
              refine lv_goto (tgt := 105) hx hb dX11_worth_95 (by decide) ?_
              refine lv_iload hx hb dX11_worth_105 (lv_at hl 0 rfl) ?_
              refine lv_goto (tgt := 112) hx hb dX11_worth_107 (by decide) ?_
              refine lv_istore (lv' := [(5, .int r_7), (8, .int r_7), (7, .int r_3), (6, .int (nI i)), (0, .ref h), (1, .int x), (2, .int y), (3, .int 2), (4, .int q)]) hx hb dX11_worth_112 hl (by decide) (zLvf_h rfl) (fun ls hl => ?_)
              refine lv_iinc (v := nI (i + 1)) (lv' := [(6, .int (nI (i + 1))), (5, .int r_7), (8, .int r_7), (7, .int r_3), (0, .ref h), (1, .int x), (2, .int y), (3, .int 2), (4, .int q)]) hx hb dX11_worth_114 hl (k := 3) rfl (z_inc i 1) (by decide) (zLvf_h rfl) (fun ls hl => ?_)
              refine lv_goto (tgt := 22) hx hb dX11_worth_117 (by decide) ?_
              exact ih_22 (i + 1) r_7 (show (i + 1) ≤ 8 from by omega) (show 8 - (i + 1) < 8 - i from by omega) _ _ ls G (lv_sub hl [0, 1, 4, 5, 6, 7, 8] rfl)
        · have c_6n : q.toInt = (0 : Int) := (fa_eq _ _).mp c_6
          refine lv_iconst (v := 1) hx hb dX11_worth_67 (by decide) ?_
          refine lv_goto (tgt := 72) hx hb dX11_worth_68 (by decide) ?_
          refine z_Si (bc := [ww, z]) (br := []) (As := [.ref h, .int r_3, .int y, .int 1, .int 1]) (rest := []) C G (c_worth1 l T h la md wy pc_ f1 f2 f3 f4 f5 f6 n4 ww cr inn k1 k2 k3 k4 z r_3 y 1 hww hz (by first | with_reducible assumption | with_reducible rfl | omega | assumption | rfl) (by first | with_reducible assumption | with_reducible rfl | omega | assumption | rfl)) (kS_RX11_278 C.2.2.2.2 (Nat.le_of_ble_eq_true rfl) (Nat.le_of_ble_eq_true rfl)) [0, 1] [0, 0] rfl rfl rfl rfl hl.1 dX11_worth_72 (Nat.le_of_ble_eq_true rfl) (Nat.le_of_ble_eq_true rfl) (fun r_10 b1 H locs hw G => ?_)
          obtain rfl := hw
          have G : zS T A s.heap s [ww, z] _ _ := G
          refine lv_istore (lv' := [(8, .int r_10), (7, .int r_3), (6, .int (nI i)), (5, .int u), (0, .ref h), (1, .int x), (2, .int y), (3, .int 2), (4, .int q)]) hx hb dX11_worth_75 hl (by decide) (zLvf_h rfl) (fun ls hl => ?_)
          refine lv_iload hx hb dX11_worth_77 (lv_at hl 3 rfl) ?_
          refine lv_iconst (v := (-1)) hx hb dX11_worth_79 (by decide) ?_
          refine lv_icmp_eq (tgt := 105) hx hb dX11_worth_80 (by decide) (fun c_11 => ?_) (fun c_11 => ?_)
          · have c_11n : u.toInt = (-1 : Int) := (fa_eq _ _).mp c_11
            refine lv_iload hx hb dX11_worth_105 (lv_at hl 0 rfl) ?_
            refine lv_goto (tgt := 112) hx hb dX11_worth_107 (by decide) ?_
            refine lv_istore (lv' := [(5, .int r_10), (8, .int r_10), (7, .int r_3), (6, .int (nI i)), (0, .ref h), (1, .int x), (2, .int y), (3, .int 2), (4, .int q)]) hx hb dX11_worth_112 hl (by decide) (zLvf_h rfl) (fun ls hl => ?_)
            refine lv_iinc (v := nI (i + 1)) (lv' := [(6, .int (nI (i + 1))), (5, .int r_10), (8, .int r_10), (7, .int r_3), (0, .ref h), (1, .int x), (2, .int y), (3, .int 2), (4, .int q)]) hx hb dX11_worth_114 hl (k := 3) rfl (z_inc i 1) (by decide) (zLvf_h rfl) (fun ls hl => ?_)
            refine lv_goto (tgt := 22) hx hb dX11_worth_117 (by decide) ?_
            exact ih_22 (i + 1) r_10 (show (i + 1) ≤ 8 from by omega) (show 8 - (i + 1) < 8 - i from by omega) _ _ ls G (lv_sub hl [0, 1, 4, 5, 6, 7, 8] rfl)
          · have c_11n : ¬ u.toInt = (-1 : Int) := fun q => c_11 ((fa_eq _ _).mpr q)
            refine lv_iload hx hb dX11_worth_83 (lv_at hl 8 rfl) ?_
            refine lv_if_eq (tgt := 98) hx hb dX11_worth_85 (by decide) (fun _ => ?_) (fun q => absurd c_6 q)
            refine lv_iload hx hb dX11_worth_98 (lv_at hl 0 rfl) ?_
            refine lv_iload hx hb dX11_worth_100 (lv_at hl 3 rfl) ?_
            refine lv_icmp_le (tgt := 110) hx hb dX11_worth_102 (by decide) (fun c_12 => ?_) (fun c_12 => ?_)
            · have c_12n : r_10.toInt ≤ u.toInt := (fa_le _ _).mp c_12
              refine lv_iload hx hb dX11_worth_110 (lv_at hl 3 rfl) ?_
              refine lv_istore (lv' := [(5, .int u), (8, .int r_10), (7, .int r_3), (6, .int (nI i)), (0, .ref h), (1, .int x), (2, .int y), (3, .int 2), (4, .int q)]) hx hb dX11_worth_112 hl (by decide) (zLvf_h rfl) (fun ls hl => ?_)
              refine lv_iinc (v := nI (i + 1)) (lv' := [(6, .int (nI (i + 1))), (5, .int u), (8, .int r_10), (7, .int r_3), (0, .ref h), (1, .int x), (2, .int y), (3, .int 2), (4, .int q)]) hx hb dX11_worth_114 hl (k := 3) rfl (z_inc i 1) (by decide) (zLvf_h rfl) (fun ls hl => ?_)
              refine lv_goto (tgt := 22) hx hb dX11_worth_117 (by decide) ?_
              exact ih_22 (i + 1) u (show (i + 1) ≤ 8 from by omega) (show 8 - (i + 1) < 8 - i from by omega) _ _ ls G (lv_sub hl [0, 1, 4, 5, 6, 7, 8] rfl)
            · have c_12n : ¬ r_10.toInt ≤ u.toInt := fun q => c_12 ((fa_le _ _).mpr q)
              refine lv_iload hx hb dX11_worth_105 (lv_at hl 0 rfl) ?_
              refine lv_goto (tgt := 112) hx hb dX11_worth_107 (by decide) ?_
              refine lv_istore (lv' := [(5, .int r_10), (8, .int r_10), (7, .int r_3), (6, .int (nI i)), (0, .ref h), (1, .int x), (2, .int y), (3, .int 2), (4, .int q)]) hx hb dX11_worth_112 hl (by decide) (zLvf_h rfl) (fun ls hl => ?_)
              refine lv_iinc (v := nI (i + 1)) (lv' := [(6, .int (nI (i + 1))), (5, .int r_10), (8, .int r_10), (7, .int r_3), (0, .ref h), (1, .int x), (2, .int y), (3, .int 2), (4, .int q)]) hx hb dX11_worth_114 hl (k := 3) rfl (z_inc i 1) (by decide) (zLvf_h rfl) (fun ls hl => ?_)
              refine lv_goto (tgt := 22) hx hb dX11_worth_117 (by decide) ?_
              exact ih_22 (i + 1) r_10 (show (i + 1) ≤ 8 from by omega) (show 8 - (i + 1) < 8 - i from by omega) _ _ ls G (lv_sub hl [0, 1, 4, 5, 6, 7, 8] rfl)
    · have c_2n : i = 7 := (nI_eq (a := i) (b := 7) (by omega) (by omega)).mp c_2
      refine lv_iload_n hx hb dX11_worth_36 rfl (lv_at hl 3 rfl) ?_
      refine lv_goto (tgt := 47) hx hb dX11_worth_37 (by decide) ?_
      refine lv_istore (lv' := [(7, .int x), (6, .int (nI i)), (5, .int u), (0, .ref h), (1, .int x), (2, .int y), (3, .int 2), (4, .int q)]) hx hb dX11_worth_47 hl (by decide) (zLvf_h rfl) (fun ls hl => ?_)
      refine lv_iload hx hb dX11_worth_49 (lv_at hl 0 rfl) ?_
      refine lv_iconst (v := (-1)) hx hb dX11_worth_51 (by decide) ?_
      refine lv_icmp_eq (tgt := 114) hx hb dX11_worth_52 (by decide) (fun c_13 => ?_) (fun c_13 => ?_)
      · have c_13n : x.toInt = (-1 : Int) := (fa_eq _ _).mp c_13
        refine lv_iinc (v := nI (i + 1)) (lv' := [(6, .int (nI (i + 1))), (7, .int x), (5, .int u), (0, .ref h), (1, .int x), (2, .int y), (3, .int 2), (4, .int q)]) hx hb dX11_worth_114 hl (k := 1) rfl (z_inc i 1) (by decide) (zLvf_h rfl) (fun ls hl => ?_)
        refine lv_goto (tgt := 22) hx hb dX11_worth_117 (by decide) ?_
        exact ih_22 (i + 1) u (show (i + 1) ≤ 8 from by omega) (show 8 - (i + 1) < 8 - i from by omega) _ _ ls G (lv_sub hl [0, 2, 3, 4, 5, 6, 7] rfl)
      · have c_13n : ¬ x.toInt = (-1 : Int) := fun q => c_13 ((fa_eq _ _).mpr q)
        refine lv_aload_n hx hb dX11_worth_55 rfl (lv_at hl 3 rfl) ?_
        refine lv_iload hx hb dX11_worth_56 (lv_at hl 0 rfl) ?_
        refine lv_iload_n hx hb dX11_worth_58 rfl (lv_at hl 5 rfl) ?_
        refine lv_iload_n hx hb dX11_worth_59 rfl (lv_at hl 6 rfl) ?_
        refine lv_iconst (v := 1) hx hb dX11_worth_60 (by decide) ?_
        refine lv_isub hx hb dX11_worth_61 ?_
        refine lv_topi (fun y_14 ey_14 => ?_)
        obtain rfl : y_14 = 1 := ey_14.trans (by decide)
        refine lv_iload hx hb dX11_worth_62 (lv_at hl 7 rfl) ?_
        refine lv_if_ne (tgt := 71) hx hb dX11_worth_64 (by decide) (fun c_15 => ?_) (fun c_15 => ?_)
        · have c_15n : ¬ q.toInt = (0 : Int) := fun q => c_15 ((fa_eq _ _).mpr q)
          refine lv_iconst (v := 0) hx hb dX11_worth_71 (by decide) ?_
          refine z_Si (bc := [ww, z]) (br := []) (As := [.ref h, .int x, .int y, .int 1, .int 0]) (rest := []) C G (c_worth1 l T h la md wy pc_ f1 f2 f3 f4 f5 f6 n4 ww cr inn k1 k2 k3 k4 z x y 0 hww hz (by first | with_reducible assumption | with_reducible rfl | omega | assumption | rfl) (by first | with_reducible assumption | with_reducible rfl | omega | assumption | rfl)) (kS_RX11_278 C.2.2.2.2 (Nat.le_of_ble_eq_true rfl) (Nat.le_of_ble_eq_true rfl)) [0, 1] [0, 0] rfl rfl rfl rfl hl.1 dX11_worth_72 (Nat.le_of_ble_eq_true rfl) (Nat.le_of_ble_eq_true rfl) (fun r_16 b1 H locs hw G => ?_)
          obtain rfl := hw
          have G : zS T A s.heap s [ww, z] _ _ := G
          refine lv_istore (lv' := [(8, .int r_16), (7, .int x), (6, .int (nI i)), (5, .int u), (0, .ref h), (1, .int x), (2, .int y), (3, .int 2), (4, .int q)]) hx hb dX11_worth_75 hl (by decide) (zLvf_h rfl) (fun ls hl => ?_)
          refine lv_iload hx hb dX11_worth_77 (lv_at hl 3 rfl) ?_
          refine lv_iconst (v := (-1)) hx hb dX11_worth_79 (by decide) ?_
          refine lv_icmp_eq (tgt := 105) hx hb dX11_worth_80 (by decide) (fun c_17 => ?_) (fun c_17 => ?_)
          · have c_17n : u.toInt = (-1 : Int) := (fa_eq _ _).mp c_17
            refine lv_iload hx hb dX11_worth_105 (lv_at hl 0 rfl) ?_
            refine lv_goto (tgt := 112) hx hb dX11_worth_107 (by decide) ?_
            refine lv_istore (lv' := [(5, .int r_16), (8, .int r_16), (7, .int x), (6, .int (nI i)), (0, .ref h), (1, .int x), (2, .int y), (3, .int 2), (4, .int q)]) hx hb dX11_worth_112 hl (by decide) (zLvf_h rfl) (fun ls hl => ?_)
            refine lv_iinc (v := nI (i + 1)) (lv' := [(6, .int (nI (i + 1))), (5, .int r_16), (8, .int r_16), (7, .int x), (0, .ref h), (1, .int x), (2, .int y), (3, .int 2), (4, .int q)]) hx hb dX11_worth_114 hl (k := 3) rfl (z_inc i 1) (by decide) (zLvf_h rfl) (fun ls hl => ?_)
            refine lv_goto (tgt := 22) hx hb dX11_worth_117 (by decide) ?_
            exact ih_22 (i + 1) r_16 (show (i + 1) ≤ 8 from by omega) (show 8 - (i + 1) < 8 - i from by omega) _ _ ls G (lv_sub hl [0, 1, 4, 5, 6, 7, 8] rfl)
          · have c_17n : ¬ u.toInt = (-1 : Int) := fun q => c_17 ((fa_eq _ _).mpr q)
            refine lv_iload hx hb dX11_worth_83 (lv_at hl 8 rfl) ?_
            refine lv_if_eq (tgt := 98) hx hb dX11_worth_85 (by decide) (fun q => absurd q c_15) (fun _ => ?_)
            refine lv_iload hx hb dX11_worth_88 (lv_at hl 0 rfl) ?_
            refine lv_iload hx hb dX11_worth_90 (lv_at hl 3 rfl) ?_
            refine lv_icmp_ge (tgt := 110) hx hb dX11_worth_92 (by decide) (fun c_18 => ?_) (fun c_18 => ?_)
            · have c_18n : u.toInt ≤ r_16.toInt := (fa_le _ _).mp c_18
              refine lv_iload hx hb dX11_worth_110 (lv_at hl 3 rfl) ?_
              refine lv_istore (lv' := [(5, .int u), (8, .int r_16), (7, .int x), (6, .int (nI i)), (0, .ref h), (1, .int x), (2, .int y), (3, .int 2), (4, .int q)]) hx hb dX11_worth_112 hl (by decide) (zLvf_h rfl) (fun ls hl => ?_)
              refine lv_iinc (v := nI (i + 1)) (lv' := [(6, .int (nI (i + 1))), (5, .int u), (8, .int r_16), (7, .int x), (0, .ref h), (1, .int x), (2, .int y), (3, .int 2), (4, .int q)]) hx hb dX11_worth_114 hl (k := 3) rfl (z_inc i 1) (by decide) (zLvf_h rfl) (fun ls hl => ?_)
              refine lv_goto (tgt := 22) hx hb dX11_worth_117 (by decide) ?_
              exact ih_22 (i + 1) u (show (i + 1) ≤ 8 from by omega) (show 8 - (i + 1) < 8 - i from by omega) _ _ ls G (lv_sub hl [0, 1, 4, 5, 6, 7, 8] rfl)
            · have c_18n : ¬ u.toInt ≤ r_16.toInt := fun q => c_18 ((fa_le _ _).mpr q)
              refine lv_goto (tgt := 105) hx hb dX11_worth_95 (by decide) ?_
              refine lv_iload hx hb dX11_worth_105 (lv_at hl 0 rfl) ?_
              refine lv_goto (tgt := 112) hx hb dX11_worth_107 (by decide) ?_
              refine lv_istore (lv' := [(5, .int r_16), (8, .int r_16), (7, .int x), (6, .int (nI i)), (0, .ref h), (1, .int x), (2, .int y), (3, .int 2), (4, .int q)]) hx hb dX11_worth_112 hl (by decide) (zLvf_h rfl) (fun ls hl => ?_)
              refine lv_iinc (v := nI (i + 1)) (lv' := [(6, .int (nI (i + 1))), (5, .int r_16), (8, .int r_16), (7, .int x), (0, .ref h), (1, .int x), (2, .int y), (3, .int 2), (4, .int q)]) hx hb dX11_worth_114 hl (k := 3) rfl (z_inc i 1) (by decide) (zLvf_h rfl) (fun ls hl => ?_)
              refine lv_goto (tgt := 22) hx hb dX11_worth_117 (by decide) ?_
              exact ih_22 (i + 1) r_16 (show (i + 1) ≤ 8 from by omega) (show 8 - (i + 1) < 8 - i from by omega) _ _ ls G (lv_sub hl [0, 1, 4, 5, 6, 7, 8] rfl)
        · have c_15n : q.toInt = (0 : Int) := (fa_eq _ _).mp c_15
          refine lv_iconst (v := 1) hx hb dX11_worth_67 (by decide) ?_
          refine lv_goto (tgt := 72) hx hb dX11_worth_68 (by decide) ?_
          refine z_Si (bc := [ww, z]) (br := []) (As := [.ref h, .int x, .int y, .int 1, .int 1]) (rest := []) C G (c_worth1 l T h la md wy pc_ f1 f2 f3 f4 f5 f6 n4 ww cr inn k1 k2 k3 k4 z x y 1 hww hz (by first | with_reducible assumption | with_reducible rfl | omega | assumption | rfl) (by first | with_reducible assumption | with_reducible rfl | omega | assumption | rfl)) (kS_RX11_278 C.2.2.2.2 (Nat.le_of_ble_eq_true rfl) (Nat.le_of_ble_eq_true rfl)) [0, 1] [0, 0] rfl rfl rfl rfl hl.1 dX11_worth_72 (Nat.le_of_ble_eq_true rfl) (Nat.le_of_ble_eq_true rfl) (fun r_19 b1 H locs hw G => ?_)
          obtain rfl := hw
          have G : zS T A s.heap s [ww, z] _ _ := G
          refine lv_istore (lv' := [(8, .int r_19), (7, .int x), (6, .int (nI i)), (5, .int u), (0, .ref h), (1, .int x), (2, .int y), (3, .int 2), (4, .int q)]) hx hb dX11_worth_75 hl (by decide) (zLvf_h rfl) (fun ls hl => ?_)
          refine lv_iload hx hb dX11_worth_77 (lv_at hl 3 rfl) ?_
          refine lv_iconst (v := (-1)) hx hb dX11_worth_79 (by decide) ?_
          refine lv_icmp_eq (tgt := 105) hx hb dX11_worth_80 (by decide) (fun c_20 => ?_) (fun c_20 => ?_)
          · have c_20n : u.toInt = (-1 : Int) := (fa_eq _ _).mp c_20
            refine lv_iload hx hb dX11_worth_105 (lv_at hl 0 rfl) ?_
            refine lv_goto (tgt := 112) hx hb dX11_worth_107 (by decide) ?_
            refine lv_istore (lv' := [(5, .int r_19), (8, .int r_19), (7, .int x), (6, .int (nI i)), (0, .ref h), (1, .int x), (2, .int y), (3, .int 2), (4, .int q)]) hx hb dX11_worth_112 hl (by decide) (zLvf_h rfl) (fun ls hl => ?_)
            refine lv_iinc (v := nI (i + 1)) (lv' := [(6, .int (nI (i + 1))), (5, .int r_19), (8, .int r_19), (7, .int x), (0, .ref h), (1, .int x), (2, .int y), (3, .int 2), (4, .int q)]) hx hb dX11_worth_114 hl (k := 3) rfl (z_inc i 1) (by decide) (zLvf_h rfl) (fun ls hl => ?_)
            refine lv_goto (tgt := 22) hx hb dX11_worth_117 (by decide) ?_
            exact ih_22 (i + 1) r_19 (show (i + 1) ≤ 8 from by omega) (show 8 - (i + 1) < 8 - i from by omega) _ _ ls G (lv_sub hl [0, 1, 4, 5, 6, 7, 8] rfl)
          · have c_20n : ¬ u.toInt = (-1 : Int) := fun q => c_20 ((fa_eq _ _).mpr q)
            refine lv_iload hx hb dX11_worth_83 (lv_at hl 8 rfl) ?_
            refine lv_if_eq (tgt := 98) hx hb dX11_worth_85 (by decide) (fun _ => ?_) (fun q => absurd c_15 q)
            refine lv_iload hx hb dX11_worth_98 (lv_at hl 0 rfl) ?_
            refine lv_iload hx hb dX11_worth_100 (lv_at hl 3 rfl) ?_
            refine lv_icmp_le (tgt := 110) hx hb dX11_worth_102 (by decide) (fun c_21 => ?_) (fun c_21 => ?_)
            · have c_21n : r_19.toInt ≤ u.toInt := (fa_le _ _).mp c_21
              refine lv_iload hx hb dX11_worth_110 (lv_at hl 3 rfl) ?_
              refine lv_istore (lv' := [(5, .int u), (8, .int r_19), (7, .int x), (6, .int (nI i)), (0, .ref h), (1, .int x), (2, .int y), (3, .int 2), (4, .int q)]) hx hb dX11_worth_112 hl (by decide) (zLvf_h rfl) (fun ls hl => ?_)
              refine lv_iinc (v := nI (i + 1)) (lv' := [(6, .int (nI (i + 1))), (5, .int u), (8, .int r_19), (7, .int x), (0, .ref h), (1, .int x), (2, .int y), (3, .int 2), (4, .int q)]) hx hb dX11_worth_114 hl (k := 3) rfl (z_inc i 1) (by decide) (zLvf_h rfl) (fun ls hl => ?_)
              refine lv_goto (tgt := 22) hx hb dX11_worth_117 (by decide) ?_
              exact ih_22 (i + 1) u (show (i + 1) ≤ 8 from by omega) (show 8 - (i + 1) < 8 - i from by omega) _ _ ls G (lv_sub hl [0, 1, 4, 5, 6, 7, 8] rfl)
            · have c_21n : ¬ r_19.toInt ≤ u.toInt := fun q => c_21 ((fa_le _ _).mpr q)
              refine lv_iload hx hb dX11_worth_105 (lv_at hl 0 rfl) ?_
              refine lv_goto (tgt := 112) hx hb dX11_worth_107 (by decide) ?_
              refine lv_istore (lv' := [(5, .int r_19), (8, .int r_19), (7, .int x), (6, .int (nI i)), (0, .ref h), (1, .int x), (2, .int y), (3, .int 2), (4, .int q)]) hx hb dX11_worth_112 hl (by decide) (zLvf_h rfl) (fun ls hl => ?_)
              refine lv_iinc (v := nI (i + 1)) (lv' := [(6, .int (nI (i + 1))), (5, .int r_19), (8, .int r_19), (7, .int x), (0, .ref h), (1, .int x), (2, .int y), (3, .int 2), (4, .int q)]) hx hb dX11_worth_114 hl (k := 3) rfl (z_inc i 1) (by decide) (zLvf_h rfl) (fun ls hl => ?_)
              refine lv_goto (tgt := 22) hx hb dX11_worth_117 (by decide) ?_
              exact ih_22 (i + 1) r_19 (show (i + 1) ≤ 8 from by omega) (show 8 - (i + 1) < 8 - i from by omega) _ _ ls G (lv_sub hl [0, 1, 4, 5, 6, 7, 8] rfl)
theorem m_co_X0_make : Cond.code yX0_make cX0_make 3 none ∈ zT := zmem1 zsub_4 214 rfl rfl
theorem m_ml_RX11_232 : Cond.methodLink RX11 232 yX0_make ∈ zT := zmem1 zsub_4 211 rfl rfl
theorem m_im_X0_make : Cond.instanceMethod yX0_make ∈ zT := zmem1 zsub_4 212 rfl rfl
theorem m_se_X0_make : Cond.selects RX0 yX0_make yX0_make ∈ zT := zmem1 zsub_4 213 rfl rfl
theorem m_co_X11_waysIn : Cond.code yX11_waysIn cX11_waysIn 4 (some (.object "TurnedPosts$AllWays")) ∈ zT := zmem1 zsub_4 210 rfl rfl
theorem m_ml_RX11_235 : Cond.methodLink RX11 235 yX11_waysIn ∈ zT := zmem1 zsub_4 207 rfl rfl
theorem m_im_X11_waysIn : Cond.instanceMethod yX11_waysIn ∈ zT := zmem1 zsub_4 209 rfl rfl
theorem m_se_X11_waysIn : Cond.selects RX11 yX11_waysIn yX11_waysIn ∈ zT := zmem 31 rfl rfl
theorem m_fl_RX11_257 : Cond.fieldLink RX11 257 (TX0 1).1 (TX0 1).2.1 (TX0 1).2.2.1 ∈ zT := zmem1 zsub_2 109 rfl rfl
theorem m_co_X11_inLeastTerms : Cond.code yX11_inLeastTerms cX11_inLeastTerms 7 (some .int) ∈ zT := zmem1 zsub_5 44 rfl rfl
theorem m_ml_RX11_262 : Cond.methodLink RX11 262 yX11_inLeastTerms ∈ zT := zmem1 zsub_5 42 rfl rfl
theorem m_st_X11_inLeastTerms : Cond.static yX11_inLeastTerms ∈ zT := zmem1 zsub_5 43 rfl rfl
theorem m_ml_RX11_260 : Cond.methodLink RX11 260 yX0_where ∈ zT := zmem1 zsub_5 41 rfl rfl
theorem kV_RX11_232 {R : Room} {s : State} {args : Array Value} {d mc ms : Nat} (hts : ∀ w ∈ zT, w.before args s = true) (h1 : d + 1 ≤ R.frames) (h2 : 8 + (3 + 11) + 40 * d ≤ R.locals) : CallW R s args RX11 RX0 232 yX0_make cX0_make 3 none (zW yX0_make cX0_make 3 none) (zR d mc ms) mc ms 1 := z_cwV hts m_co_X0_make m_ml_RX11_232 m_im_X0_make m_se_X0_make m_ii_RX0 (by decide +kernel) h1 h2
theorem kV_RX11_235 {R : Room} {s : State} {args : Array Value} {d mc ms : Nat} (hts : ∀ w ∈ zT, w.before args s = true) (h1 : d + 1 ≤ R.frames) (h2 : 8 + (4 + 11) + 40 * d ≤ R.locals) : CallW R s args RX11 RX11 235 yX11_waysIn cX11_waysIn 4 (some (.object "TurnedPosts$AllWays")) (zW yX11_waysIn cX11_waysIn 4 (some (.object "TurnedPosts$AllWays"))) (zR d mc ms) mc ms 2 := z_cwV hts m_co_X11_waysIn m_ml_RX11_235 m_im_X11_waysIn m_se_X11_waysIn m_ii_RX11 (by decide +kernel) h1 h2
theorem kS_RX11_262 {R : Room} {s : State} {args : Array Value} {d mc ms : Nat} (hts : ∀ w ∈ zT, w.before args s = true) (h1 : d + 1 ≤ R.frames) (h2 : 8 + (7 + 11) + 40 * d ≤ R.locals) : CallB R s args RX11 262 yX11_inLeastTerms cX11_inLeastTerms 7 (some .int) (zW yX11_inLeastTerms cX11_inLeastTerms 7 (some .int)) (zR d mc ms) mc ms 3 ∧ (Cond.static yX11_inLeastTerms).before args s = true := z_cwS hts m_co_X11_inLeastTerms m_ml_RX11_262 m_st_X11_inLeastTerms m_ii_RX11 (by decide +kernel) h1 h2
theorem kV_RX11_260 {R : Room} {s : State} {args : Array Value} {d mc ms : Nat} (hts : ∀ w ∈ zT, w.before args s = true) (h1 : d + 1 ≤ R.frames) (h2 : 8 + (3 + 11) + 40 * d ≤ R.locals) : CallW R s args RX11 RX0 260 yX0_where cX0_where 3 (some .int) (zW yX0_where cX0_where 3 (some .int)) (zR d mc ms) mc ms 2 := z_cwV hts m_co_X0_where m_ml_RX11_260 m_im_X0_where m_se_X0_where m_ii_RX0 (by decide +kernel) h1 h2
theorem dX11_waysIn_0 : decode cX11_waysIn 0 = .ok (.iload_n 1, 1) := zo_27 (by decide +kernel)
theorem dX11_waysIn_1 : decode cX11_waysIn 1 = .ok (.ifCond .ne 10, 3) := zo_154 (by decide +kernel)
theorem dX11_waysIn_4 : decode cX11_waysIn 4 = .ok (.aload_n 0, 1) := zo_42 (by decide +kernel)
theorem dX11_waysIn_5 : decode cX11_waysIn 5 = .ok (.getfield 55, 3) := zo_180 (by decide +kernel)
theorem dX11_waysIn_8 : decode cX11_waysIn 8 = .ok (.goto 7, 3) := zo_167 (by decide +kernel)
theorem dX11_waysIn_11 : decode cX11_waysIn 11 = .ok (.aload_n 0, 1) := zo_42 (by decide +kernel)
theorem dX11_waysIn_12 : decode cX11_waysIn 12 = .ok (.getfield 59, 3) := zo_180 (by decide +kernel)
theorem dX11_waysIn_15 : decode cX11_waysIn 15 = .ok (.astore_n 3, 1) := zo_78 (by decide +kernel)
theorem dX11_waysIn_16 : decode cX11_waysIn 16 = .ok (.aload_n 3, 1) := zo_45 (by decide +kernel)
theorem dX11_waysIn_17 : decode cX11_waysIn 17 = .ok (.aload_n 2, 1) := zo_44 (by decide +kernel)
theorem dX11_waysIn_18 : decode cX11_waysIn 18 = .ok (.invokevirtual 232, 3) := zo_182 (by decide +kernel)
theorem dX11_waysIn_21 : decode cX11_waysIn 21 = .ok (.aload_n 3, 1) := zo_45 (by decide +kernel)
theorem dX11_waysIn_22 : decode cX11_waysIn 22 = .ok (.areturn, 1) := zo_176 (by decide +kernel)
theorem dX11_lot_0 : decode cX11_lot 0 = .ok (.aload_n 0, 1) := zo_42 (by decide +kernel)
theorem dX11_lot_1 : decode cX11_lot 1 = .ok (.getfield 10, 3) := zo_180 (by decide +kernel)
theorem dX11_lot_4 : decode cX11_lot 4 = .ok (.iload_n 1, 1) := zo_27 (by decide +kernel)
theorem dX11_lot_5 : decode cX11_lot 5 = .ok (.invokevirtual 121, 3) := zo_182 (by decide +kernel)
theorem dX11_lot_8 : decode cX11_lot 8 = .ok (.astore 5, 2) := zo_58 (by decide +kernel)
theorem dX11_lot_10 : decode cX11_lot 10 = .ok (.aload 5, 2) := zo_25 (by decide +kernel)
theorem dX11_lot_12 : decode cX11_lot 12 = .ok (.ifnull 21, 3) := zo_198 (by decide +kernel)
theorem dX11_lot_15 : decode cX11_lot 15 = .ok (.aload 5, 2) := zo_25 (by decide +kernel)
theorem dX11_lot_17 : decode cX11_lot 17 = .ok (.iload_n 2, 1) := zo_28 (by decide +kernel)
theorem dX11_lot_18 : decode cX11_lot 18 = .ok (.invokevirtual 160, 3) := zo_182 (by decide +kernel)
theorem dX11_lot_21 : decode cX11_lot 21 = .ok (.ifCond .eq 12, 3) := zo_153 (by decide +kernel)
theorem dX11_lot_24 : decode cX11_lot 24 = .ok (.aload 5, 2) := zo_25 (by decide +kernel)
theorem dX11_lot_26 : decode cX11_lot 26 = .ok (.iload_n 3, 1) := zo_29 (by decide +kernel)
theorem dX11_lot_27 : decode cX11_lot 27 = .ok (.invokevirtual 174, 3) := zo_182 (by decide +kernel)
theorem dX11_lot_30 : decode cX11_lot 30 = .ok (.ifCond .ne 5, 3) := zo_154 (by decide +kernel)
theorem dX11_lot_33 : decode cX11_lot 33 = .ok (.iconst (-1), 1) := zo_2 (by decide +kernel)
theorem dX11_lot_34 : decode cX11_lot 34 = .ok (.ireturn, 1) := zo_172 (by decide +kernel)
theorem dX11_lot_35 : decode cX11_lot 35 = .ok (.aload_n 0, 1) := zo_42 (by decide +kernel)
theorem dX11_lot_36 : decode cX11_lot 36 = .ok (.iload_n 1, 1) := zo_27 (by decide +kernel)
theorem dX11_lot_37 : decode cX11_lot 37 = .ok (.aload 5, 2) := zo_25 (by decide +kernel)
theorem dX11_lot_39 : decode cX11_lot 39 = .ok (.invokevirtual 235, 3) := zo_182 (by decide +kernel)
theorem dX11_lot_42 : decode cX11_lot 42 = .ok (.astore 6, 2) := zo_58 (by decide +kernel)
theorem dX11_lot_44 : decode cX11_lot 44 = .ok (.iconst 0, 1) := zo_3 (by decide +kernel)
theorem dX11_lot_45 : decode cX11_lot 45 = .ok (.istore 7, 2) := zo_54 (by decide +kernel)
theorem dX11_lot_47 : decode cX11_lot 47 = .ok (.iconst 0, 1) := zo_3 (by decide +kernel)
theorem dX11_lot_48 : decode cX11_lot 48 = .ok (.istore 8, 2) := zo_54 (by decide +kernel)
theorem dX11_lot_50 : decode cX11_lot 50 = .ok (.iload 8, 2) := zo_21 (by decide +kernel)
theorem dX11_lot_52 : decode cX11_lot 52 = .ok (.aload 6, 2) := zo_25 (by decide +kernel)
theorem dX11_lot_54 : decode cX11_lot 54 = .ok (.getfield 257, 3) := zo_180 (by decide +kernel)
theorem dX11_lot_57 : decode cX11_lot 57 = .ok (.if_icmp .ge 24, 3) := zo_162 (by decide +kernel)
theorem dX11_lot_60 : decode cX11_lot 60 = .ok (.aload 6, 2) := zo_25 (by decide +kernel)
theorem dX11_lot_62 : decode cX11_lot 62 = .ok (.iload 8, 2) := zo_21 (by decide +kernel)
theorem dX11_lot_64 : decode cX11_lot 64 = .ok (.iload_n 2, 1) := zo_28 (by decide +kernel)
theorem dX11_lot_65 : decode cX11_lot 65 = .ok (.invokevirtual 260, 3) := zo_182 (by decide +kernel)
theorem dX11_lot_68 : decode cX11_lot 68 = .ok (.iload_n 3, 1) := zo_29 (by decide +kernel)
theorem dX11_lot_69 : decode cX11_lot 69 = .ok (.if_icmp .ne 6, 3) := zo_160 (by decide +kernel)
theorem dX11_lot_72 : decode cX11_lot 72 = .ok (.iinc 7 1, 3) := zo_132 (by decide +kernel)
theorem dX11_lot_75 : decode cX11_lot 75 = .ok (.iinc 8 1, 3) := zo_132 (by decide +kernel)
theorem dX11_lot_78 : decode cX11_lot 78 = .ok (.goto (-28), 3) := zo_167 (by decide +kernel)
theorem dX11_lot_81 : decode cX11_lot 81 = .ok (.iload 7, 2) := zo_21 (by decide +kernel)
theorem dX11_lot_83 : decode cX11_lot 83 = .ok (.aload 6, 2) := zo_25 (by decide +kernel)
theorem dX11_lot_85 : decode cX11_lot 85 = .ok (.getfield 257, 3) := zo_180 (by decide +kernel)
theorem dX11_lot_88 : decode cX11_lot 88 = .ok (.iload 4, 2) := zo_21 (by decide +kernel)
theorem dX11_lot_90 : decode cX11_lot 90 = .ok (.invokestatic 262, 3) := zo_184 (by decide +kernel)
theorem dX11_lot_93 : decode cX11_lot 93 = .ok (.ireturn, 1) := zo_172 (by decide +kernel)
def zNA (c : Prop) [Decidable c] (md : Int32) (n : Nat) (pl : Int32) : Nat := if c then zMk md n pl else n
theorem zNA_y {c : Prop} [Decidable c] {md : Int32} {n : Nat} {pl : Int32} (h : c) : zNA c md n pl = zMk md n pl := if_pos h
theorem zNA_n {c : Prop} [Decidable c] {md : Int32} {n : Nat} {pl : Int32} (h : ¬ c) : zNA c md n pl = n := if_neg h
theorem zNA_ge {c : Prop} [Decidable c] {md : Int32} {n : Nat} {pl : Int32} (h : zPw n) : zPw (zNA c md n pl) := by
  unfold zNA
  split
  · exact zMk_pw h
  · exact h
set_option maxHeartbeats 4000000 in
set_option maxRecDepth 100000 in
/-- c_waysInA -/
theorem c_waysInA (l : Launch) (T : zTy) (xo : Nat) (t : Nat) (im : Nat) (mk : Nat) (rd : Nat) (po : Nat) (co : Nat) (tr : Nat) (wa : Nat) (wb_ : Nat) (fi : Nat) (cd : Nat) (i1 : Int32) (laA : Nat) (mdA : Int32) (wyA : Int32) (pc_A : Int32) (f1A : Nat → Int32) (f2A : Nat → Int32) (f3A : Nat → Int32) (f4A : Nat → Int32) (f5A : Nat → Int32) (f6A : Nat → Int32) (n4A : Nat) (wwA : va_W) (o : Nat) (cr : Int32) (inn : Int32) (k1 : Nat → Int32) (k2 : Nat → Int32) (k3 : Nat → Int32) (k4 : Nat → Int32) (z : va_W) (hwwA : bWays T wa laA mdA wyA pc_A f1A f2A f3A f4A f5A f6A n4A wwA) (hz : bLand T o cr inn k1 k2 k3 k4 z) (hI : zLI cr k1 k3) (hpw : zPw n4A) (hmd : mdA = 0 ∨ laA = o) (hwm : 0 ≤ wyA.toInt ∧ wyA.toInt ≤ 16384) (hi1 : i1.toInt = 0) : zMq l T yX11_waysIn cX11_waysIn 4 (some (.object "TurnedPosts$AllWays")) 6 3 (6 * (zMk mdA n4A (zPl cr inn k1) - n4A)) [.ref xo, .int i1, .ref o] [[zO10 xo t im mk rd po co tr wa wb_ fi cd], wwA, z] (fun (r : Option Nat) bs => ∃ (w2 : va_W) (m2 : Int32) (wy2 : Int32) (pc2 : Int32) (g1 : Nat → Int32) (g2 : Nat → Int32) (g4 : Nat → Int32) (g5 : Nat → Int32) (g6 : Nat → Int32), bs = [[zO10 xo t im mk rd po co tr wa wb_ fi cd], w2, z] ∧ r = some wa ∧ bWays T wa o m2 wy2 pc2 g1 g2 f3A g4 g5 g6 (zMk mdA n4A (zPl cr inn k1)) w2 ∧ (0 ≤ wy2.toInt ∧ wy2.toInt ≤ 16384) ∧ wy2 = zMw mdA wyA cr inn k1 ∧ ¬ m2 = 0) := by
  refine zMq_of (own := RX11) (by decide) rfl (Nat.le_of_ble_eq_true rfl) ?_
  intro p e s m args below meth c A ls C hr hlocks hnm hAe G hl
  refine zHide (fun Qz_ hQz_ => ?_)
  have hx := C.1
  have hb := C.2.1
  replace hmd : zHd (mdA = 0 ∨ laA = o) := hmd
  have hl : lv_has ls 4 [(0, .ref xo), (1, .int i1), (2, .ref o)] := hl
  refine lv_iload_n hx hb dX11_waysIn_0 rfl (lv_at hl 1 rfl) ?_
  refine lv_if_ne (tgt := 11) hx hb dX11_waysIn_1 (by decide) (fun q => absurd ((fa_eq i1 (0 : Int32)).mpr (by show i1.toInt = (0 : Int); omega)) q) (fun _ => ?_)
  refine lv_aload_n hx hb dX11_waysIn_4 rfl (lv_at hl 0 rfl) ?_
  refine z_get C G clX11 0 rfl 7 (by decide) m_fl_RX11_55 rfl dX11_waysIn_5 ?_
  refine lv_goto (tgt := 15) hx hb dX11_waysIn_8 (by decide) ?_
  refine lv_astore_n (lv' := [(3, .ref wa), (0, .ref xo), (1, .int i1), (2, .ref o)]) hx hb dX11_waysIn_15 rfl hl (by decide) (zLvf_h rfl) (fun ls hl => ?_)
  refine lv_aload_n hx hb dX11_waysIn_16 rfl (lv_at hl 0 rfl) ?_
  refine lv_aload_n hx hb dX11_waysIn_17 rfl (lv_at hl 3 rfl) ?_
  refine z_Vv (bc := [wwA, z]) (br := [[zO10 xo t im mk rd po co tr wa wb_ fi cd]]) (As := [.ref o]) (rest := []) C G (c_make l T wa laA mdA wyA pc_A f1A f2A f3A f4A f5A f6A n4A wwA o cr inn k1 k2 k3 k4 z hwwA hz (by first | with_reducible assumption | with_reducible rfl | omega | assumption | rfl) hpw hmd hwm) (kV_RX11_232 C.2.2.2.2 (Nat.le_of_ble_eq_true rfl) (Nat.le_of_ble_eq_true rfl)) [1, 2] [1, 0] rfl rfl (ci := 0) (qc := (RX0, TX0, 10)) rfl rfl (List.mem_flatten.mpr ⟨_, List.mem_of_getElem? (i := 0) rfl, (bWays_mem hwwA).choose_spec⟩) rfl rfl hl.1 dX11_waysIn_18 (Nat.le_of_ble_eq_true rfl) (by show _ + (6 * (zMk mdA n4A (zPl cr inn k1) - n4A)) ≤ 6 * (zMk mdA n4A (zPl cr inn k1) - n4A); omega) (fun b1 H locs hw G => ?_)
  refine zEx9 hw ?_
  intro w2_1 m2_2 wy2_3 pc2_4 g1_5 g2_6 g4_7 g5_8 g6_9
  refine zCu5 ?_
  intro hbs9 h_10 h_11 h_12 h_13
  clear hw
  subst hbs9
  have G : zS T A s.heap s [[zO10 xo t im mk rd po co tr wa wb_ fi cd], w2_1, z] _ _ := G
  refine lv_aload_n hx hb dX11_waysIn_21 rfl (lv_at hl 0 rfl) ?_
  exact z_back hQz_ (z_aret (r := (some wa)) C hr (Or.inl ⟨_, rfl⟩) hlocks G (Nat.le_of_ble_eq_true rfl) (by omega) dX11_waysIn_22 ⟨w2_1, m2_2, wy2_3, pc2_4, g1_5, g2_6, g4_7, g5_8, g6_9, rfl, rfl, h_10, (by first | with_reducible assumption | omega | trivial | assumption), (by first | with_reducible assumption | omega | trivial | assumption), (by first | with_reducible assumption | omega | trivial | assumption)⟩)
set_option maxHeartbeats 4000000 in
set_option maxRecDepth 100000 in
/-- c_waysInB -/
theorem c_waysInB (l : Launch) (T : zTy) (xo : Nat) (t : Nat) (im : Nat) (mk : Nat) (rd : Nat) (po : Nat) (co : Nat) (tr : Nat) (wa : Nat) (wb_ : Nat) (fi : Nat) (cd : Nat) (i1 : Int32) (laB : Nat) (mdB : Int32) (wyB : Int32) (pc_B : Int32) (f1B : Nat → Int32) (f2B : Nat → Int32) (f3B : Nat → Int32) (f4B : Nat → Int32) (f5B : Nat → Int32) (f6B : Nat → Int32) (n4B : Nat) (wwB : va_W) (o : Nat) (cr : Int32) (inn : Int32) (k1 : Nat → Int32) (k2 : Nat → Int32) (k3 : Nat → Int32) (k4 : Nat → Int32) (z : va_W) (hwwB : bWays T wb_ laB mdB wyB pc_B f1B f2B f3B f4B f5B f6B n4B wwB) (hz : bLand T o cr inn k1 k2 k3 k4 z) (hI : zLI cr k1 k3) (hpw : zPw n4B) (hmd : mdB = 0 ∨ laB = o) (hwm : 0 ≤ wyB.toInt ∧ wyB.toInt ≤ 16384) (hi1 : i1.toInt = 1) : zMq l T yX11_waysIn cX11_waysIn 4 (some (.object "TurnedPosts$AllWays")) 6 3 (6 * (zMk mdB n4B (zPl cr inn k1) - n4B)) [.ref xo, .int i1, .ref o] [[zO10 xo t im mk rd po co tr wa wb_ fi cd], wwB, z] (fun (r : Option Nat) bs => ∃ (w2 : va_W) (m2 : Int32) (wy2 : Int32) (pc2 : Int32) (g1 : Nat → Int32) (g2 : Nat → Int32) (g4 : Nat → Int32) (g5 : Nat → Int32) (g6 : Nat → Int32), bs = [[zO10 xo t im mk rd po co tr wa wb_ fi cd], w2, z] ∧ r = some wb_ ∧ bWays T wb_ o m2 wy2 pc2 g1 g2 f3B g4 g5 g6 (zMk mdB n4B (zPl cr inn k1)) w2 ∧ (0 ≤ wy2.toInt ∧ wy2.toInt ≤ 16384) ∧ wy2 = zMw mdB wyB cr inn k1 ∧ ¬ m2 = 0) := by
  refine zMq_of (own := RX11) (by decide) rfl (Nat.le_of_ble_eq_true rfl) ?_
  intro p e s m args below meth c A ls C hr hlocks hnm hAe G hl
  refine zHide (fun Qz_ hQz_ => ?_)
  have hx := C.1
  have hb := C.2.1
  replace hmd : zHd (mdB = 0 ∨ laB = o) := hmd
  have hl : lv_has ls 4 [(0, .ref xo), (1, .int i1), (2, .ref o)] := hl
  refine lv_iload_n hx hb dX11_waysIn_0 rfl (lv_at hl 1 rfl) ?_
  refine lv_if_ne (tgt := 11) hx hb dX11_waysIn_1 (by decide) (fun _ => ?_) (fun q => absurd q (fun q2 => absurd (show i1.toInt = (0 : Int) from (fa_eq i1 (0 : Int32)).mp q2) (by omega)))
  refine lv_aload_n hx hb dX11_waysIn_11 rfl (lv_at hl 0 rfl) ?_
  refine z_get C G clX11 0 rfl 8 (by decide) m_fl_RX11_59 rfl dX11_waysIn_12 ?_
  refine lv_astore_n (lv' := [(3, .ref wb_), (0, .ref xo), (1, .int i1), (2, .ref o)]) hx hb dX11_waysIn_15 rfl hl (by decide) (zLvf_h rfl) (fun ls hl => ?_)
  refine lv_aload_n hx hb dX11_waysIn_16 rfl (lv_at hl 0 rfl) ?_
  refine lv_aload_n hx hb dX11_waysIn_17 rfl (lv_at hl 3 rfl) ?_
  refine z_Vv (bc := [wwB, z]) (br := [[zO10 xo t im mk rd po co tr wa wb_ fi cd]]) (As := [.ref o]) (rest := []) C G (c_make l T wb_ laB mdB wyB pc_B f1B f2B f3B f4B f5B f6B n4B wwB o cr inn k1 k2 k3 k4 z hwwB hz (by first | with_reducible assumption | with_reducible rfl | omega | assumption | rfl) hpw hmd hwm) (kV_RX11_232 C.2.2.2.2 (Nat.le_of_ble_eq_true rfl) (Nat.le_of_ble_eq_true rfl)) [1, 2] [1, 0] rfl rfl (ci := 0) (qc := (RX0, TX0, 10)) rfl rfl (List.mem_flatten.mpr ⟨_, List.mem_of_getElem? (i := 0) rfl, (bWays_mem hwwB).choose_spec⟩) rfl rfl hl.1 dX11_waysIn_18 (Nat.le_of_ble_eq_true rfl) (by show _ + (6 * (zMk mdB n4B (zPl cr inn k1) - n4B)) ≤ 6 * (zMk mdB n4B (zPl cr inn k1) - n4B); omega) (fun b1 H locs hw G => ?_)
  refine zEx9 hw ?_
  intro w2_1 m2_2 wy2_3 pc2_4 g1_5 g2_6 g4_7 g5_8 g6_9
  refine zCu5 ?_
  intro hbs9 h_10 h_11 h_12 h_13
  clear hw
  subst hbs9
  have G : zS T A s.heap s [[zO10 xo t im mk rd po co tr wa wb_ fi cd], w2_1, z] _ _ := G
  refine lv_aload_n hx hb dX11_waysIn_21 rfl (lv_at hl 0 rfl) ?_
  exact z_back hQz_ (z_aret (r := (some wb_)) C hr (Or.inl ⟨_, rfl⟩) hlocks G (Nat.le_of_ble_eq_true rfl) (by omega) dX11_waysIn_22 ⟨w2_1, m2_2, wy2_3, pc2_4, g1_5, g2_6, g4_7, g5_8, g6_9, rfl, rfl, h_10, (by first | with_reducible assumption | omega | trivial | assumption), (by first | with_reducible assumption | omega | trivial | assumption), (by first | with_reducible assumption | omega | trivial | assumption)⟩)
set_option maxHeartbeats 4000000 in
set_option maxRecDepth 100000 in
/-- c_lot -/
theorem c_lot (l : Launch) (T : zTy) (xo : Nat) (t : Nat) (im : Nat) (mk : Nat) (rd : Nat) (po : Nat) (co : Nat) (tr : Nat) (wa : Nat) (wb_ : Nat) (fi : Nat) (cd : Nat) (l0 : Nat) (l1 : Nat) (d0 : Nat) (d1 : Nat) (g0 : Nat) (g1 : Nat) (ln : Int32) (fl : Int32) (pl : Int32) (ft : Nat → Int32) (fk : Nat → Int32) (wt : va_W) (cr0_ : Int32) (inn0_ : Int32) (k10_ : Nat → Int32) (k20_ : Nat → Int32) (k30_ : Nat → Int32) (k40_ : Nat → Int32) (z0_ : va_W) (cr1_ : Int32) (inn1_ : Int32) (k11_ : Nat → Int32) (k21_ : Nat → Int32) (k31_ : Nat → Int32) (k41_ : Nat → Int32) (z1_ : va_W) (laA : Nat) (mdA : Int32) (wyA : Int32) (pc_A : Int32) (f1A : Nat → Int32) (f2A : Nat → Int32) (f3A : Nat → Int32) (f4A : Nat → Int32) (f5A : Nat → Int32) (f6A : Nat → Int32) (n4A : Nat) (wwA : va_W) (laB : Nat) (mdB : Int32) (wyB : Int32) (pc_B : Int32) (f1B : Nat → Int32) (f2B : Nat → Int32) (f3B : Nat → Int32) (f4B : Nat → Int32) (f5B : Nat → Int32) (f6B : Nat → Int32) (n4B : Nat) (wwB : va_W) (i1 : Int32) (a_ : Int32) (b_ : Int32) (w_ : Int32) (ht : bTold T t l0 l1 d0 d1 g0 g1 ln fl pl ft fk wt) (hK : zKT fk) (hz0_ : bLand T l0 cr0_ inn0_ k10_ k20_ k30_ k40_ z0_) (hI0_ : zLI cr0_ k10_ k30_) (hz1_ : bLand T l1 cr1_ inn1_ k11_ k21_ k31_ k41_ z1_) (hI1_ : zLI cr1_ k11_ k31_) (hwwA : bWays T wa laA mdA wyA pc_A f1A f2A f3A f4A f5A f6A n4A wwA) (hpwA : zPw n4A) (hmdA : mdA = 0 ∨ laA = l0) (hwmA : 0 ≤ wyA.toInt ∧ wyA.toInt ≤ 16384) (hwwB : bWays T wb_ laB mdB wyB pc_B f1B f2B f3B f4B f5B f6B n4B wwB) (hpwB : zPw n4B) (hmdB : mdB = 0 ∨ laB = l1) (hwmB : 0 ≤ wyB.toInt ∧ wyB.toInt ≤ 16384) : zMi l T yX11_lot cX11_lot 9 (some .int) 7 3 (6 * (zNA (i1.toInt = 0 ∧ 0 < (fk 0).toInt ∧ 0 ≤ a_.toInt ∧ a_.toInt < cr0_.toInt ∧ a_.toInt < 7 ∧ 0 ≤ b_.toInt ∧ b_.toInt < cr0_.toInt ∧ b_.toInt < 7 ∧ ¬ zBit inn0_ b_ = 0) mdA n4A (zPl cr0_ inn0_ k10_) - n4A) + 6 * (zNA (i1.toInt = 1 ∧ 1 < (fk 0).toInt ∧ 0 ≤ a_.toInt ∧ a_.toInt < cr1_.toInt ∧ a_.toInt < 7 ∧ 0 ≤ b_.toInt ∧ b_.toInt < cr1_.toInt ∧ b_.toInt < 7 ∧ ¬ zBit inn1_ b_ = 0) mdB n4B (zPl cr1_ inn1_ k11_) - n4B)) [.ref xo, .int i1, .int a_, .int b_, .int w_] [[zO10 xo t im mk rd po co tr wa wb_ fi cd], wt, z0_, z1_, wwA, wwB] (fun (r : Int32) bs => ∃ (laA_2 : Nat) (mdA_2 : Int32) (wyA_2 : Int32) (pc_A_2 : Int32) (f1A_2 : Nat → Int32) (f2A_2 : Nat → Int32) (f3A_2 : Nat → Int32) (f4A_2 : Nat → Int32) (f5A_2 : Nat → Int32) (f6A_2 : Nat → Int32) (n4A_2 : Nat) (wwA_2 : va_W) (laB_2 : Nat) (mdB_2 : Int32) (wyB_2 : Int32) (pc_B_2 : Int32) (f1B_2 : Nat → Int32) (f2B_2 : Nat → Int32) (f3B_2 : Nat → Int32) (f4B_2 : Nat → Int32) (f5B_2 : Nat → Int32) (f6B_2 : Nat → Int32) (n4B_2 : Nat) (wwB_2 : va_W), bs = [[zO10 xo t im mk rd po co tr wa wb_ fi cd], wt, z0_, z1_, wwA_2, wwB_2] ∧ bWays T wa laA_2 mdA_2 wyA_2 pc_A_2 f1A_2 f2A_2 f3A_2 f4A_2 f5A_2 f6A_2 n4A_2 wwA_2 ∧ (mdA_2 = 0 ∨ laA_2 = l0) ∧ (0 ≤ wyA_2.toInt ∧ wyA_2.toInt ≤ 16384) ∧ n4A_2 = zNA (i1.toInt = 0 ∧ 0 < (fk 0).toInt ∧ 0 ≤ a_.toInt ∧ a_.toInt < cr0_.toInt ∧ a_.toInt < 7 ∧ 0 ≤ b_.toInt ∧ b_.toInt < cr0_.toInt ∧ b_.toInt < 7 ∧ ¬ zBit inn0_ b_ = 0) mdA n4A (zPl cr0_ inn0_ k10_) ∧ zPw n4A_2 ∧ (¬ mdA = 0 → ¬ mdA_2 = 0) ∧ bWays T wb_ laB_2 mdB_2 wyB_2 pc_B_2 f1B_2 f2B_2 f3B_2 f4B_2 f5B_2 f6B_2 n4B_2 wwB_2 ∧ (mdB_2 = 0 ∨ laB_2 = l1) ∧ (0 ≤ wyB_2.toInt ∧ wyB_2.toInt ≤ 16384) ∧ n4B_2 = zNA (i1.toInt = 1 ∧ 1 < (fk 0).toInt ∧ 0 ≤ a_.toInt ∧ a_.toInt < cr1_.toInt ∧ a_.toInt < 7 ∧ 0 ≤ b_.toInt ∧ b_.toInt < cr1_.toInt ∧ b_.toInt < 7 ∧ ¬ zBit inn1_ b_ = 0) mdB n4B (zPl cr1_ inn1_ k11_) ∧ zPw n4B_2 ∧ (¬ mdB = 0 → ¬ mdB_2 = 0)) := by
  refine zMi_of (own := RX11) (by decide) rfl (Nat.le_of_ble_eq_true rfl) ?_
  intro p e s m args below meth c A ls C hr hlocks hnm hAe G hl
  refine zHide (fun Qz_ hQz_ => ?_)
  have hx := C.1
  have hb := C.2.1
  replace hmdA : zHd (mdA = 0 ∨ laA = l0) := hmdA
  replace hmdB : zHd (mdB = 0 ∨ laB = l1) := hmdB
  have hl : lv_has ls 9 [(0, .ref xo), (1, .int i1), (2, .int a_), (3, .int b_), (4, .int w_)] := hl
  refine lv_aload_n hx hb dX11_lot_0 rfl (lv_at hl 0 rfl) ?_
  refine z_get C G clX11 0 rfl 0 (by decide) m_fl_RX11_10 rfl dX11_lot_1 ?_
  refine lv_iload_n hx hb dX11_lot_4 rfl (lv_at hl 1 rfl) ?_
  refine z_Vq (bc := [wt]) (br := [[zO10 xo t im mk rd po co tr wa wb_ fi cd], z0_, z1_, wwA, wwB]) (As := [.int i1]) (rest := []) C G (c_landAt l T t l0 l1 d0 d1 g0 g1 ln fl pl ft fk wt i1 ht) (kV_RX11_121 C.2.2.2.2 (Nat.le_of_ble_eq_true rfl) (Nat.le_of_ble_eq_true rfl)) [1] [1] rfl rfl (ci := 8) (qc := (RX9, TX9, 8)) rfl rfl (List.mem_flatten.mpr ⟨_, List.mem_of_getElem? (i := 0) rfl, (bTold_mem ht).choose_spec⟩) rfl rfl hl.1 dX11_lot_5 (Nat.le_of_ble_eq_true rfl) (by show _ + 0 ≤ 6 * (zNA (i1.toInt = 0 ∧ 0 < (fk 0).toInt ∧ 0 ≤ a_.toInt ∧ a_.toInt < cr0_.toInt ∧ a_.toInt < 7 ∧ 0 ≤ b_.toInt ∧ b_.toInt < cr0_.toInt ∧ b_.toInt < 7 ∧ ¬ zBit inn0_ b_ = 0) mdA n4A (zPl cr0_ inn0_ k10_) - n4A) + 6 * (zNA (i1.toInt = 1 ∧ 1 < (fk 0).toInt ∧ 0 ≤ a_.toInt ∧ a_.toInt < cr1_.toInt ∧ a_.toInt < 7 ∧ 0 ≤ b_.toInt ∧ b_.toInt < cr1_.toInt ∧ b_.toInt < 7 ∧ ¬ zBit inn1_ b_ = 0) mdB n4B (zPl cr1_ inn1_ k11_) - n4B); omega) (fun r_2 b1 H locs hw G => ?_)
  refine zAn2 hw ?_
  intro hbs9 hc_1
  clear hw
  subst hbs9
  have G : zS T A s.heap s [[zO10 xo t im mk rd po co tr wa wb_ fi cd], z0_, z1_, wwA, wwB, wt] _ _ := G
  rcases hc_1 with ⟨rfl, h_3⟩ | ⟨rfl, h_4, h_5⟩ | ⟨rfl, h_6, h_7⟩
  · have h_3 : (i1.toInt < 0 ∨ (fk 0).toInt ≤ i1.toInt ∨ 2 ≤ i1.toInt) := h_3
    refine lv_astoreN (lv' := [(5, .null), (0, .ref xo), (1, .int i1), (2, .int a_), (3, .int b_), (4, .int w_)]) hx hb dX11_lot_8 hl (by decide) (zLvf_h rfl) (fun ls hl => ?_)
    refine lv_aloadN hx hb dX11_lot_10 (lv_at hl 0 rfl) ?_
    refine lv_ifnullN (tgt := 33) hx hb dX11_lot_12 (by decide) ?_
    refine lv_iconst (v := (-1)) hx hb dX11_lot_33 (by decide) ?_
    have G := G.sub (bs' := [[zO10 xo t im mk rd po co tr wa wb_ fi cd], wt, z0_, z1_, wwA, wwB]) [0, 5, 1, 2, 3, 4] rfl
    exact z_back hQz_ (z_iret C hr hlocks G (Nat.le_of_ble_eq_true rfl) (by omega) dX11_lot_34 ⟨laA, mdA, wyA, pc_A, f1A, f2A, f3A, f4A, f5A, f6A, n4A, wwA, laB, mdB, wyB, pc_B, f1B, f2B, f3B, f4B, f5B, f6B, n4B, wwB, rfl, hwwA, hmdA, hwmA, (by first | exact hNAo.symm | exact (zNA_n (by first | omega | grind)).symm), hpwA, (fun q => q), hwwB, hmdB, hwmB, (by first | exact hNAo.symm | exact (zNA_n (by first | omega | grind)).symm), hpwB, (fun q => q)⟩)
  · have h_4 : i1.toInt = 0 := h_4
    have h_5 : 0 < (fk 0).toInt := h_5
    refine lv_astore (lv' := [(5, .ref l0), (0, .ref xo), (1, .int i1), (2, .int a_), (3, .int b_), (4, .int w_)]) hx hb dX11_lot_8 hl (by decide) (zLvf_h rfl) (fun ls hl => ?_)
    refine lv_aload hx hb dX11_lot_10 (lv_at hl 0 rfl) ?_
    refine lv_ifnull hx hb dX11_lot_12 ?_
    refine lv_aload hx hb dX11_lot_15 (lv_at hl 0 rfl) ?_
    refine lv_iload_n hx hb dX11_lot_17 rfl (lv_at hl 3 rfl) ?_
    refine z_Vi (bc := [z0_]) (br := [[zO10 xo t im mk rd po co tr wa wb_ fi cd], z1_, wwA, wwB, wt]) (As := [.int a_]) (rest := []) C G (c_has l T l0 cr0_ inn0_ k10_ k20_ k30_ k40_ z0_ a_ hz0_) (kV_RX11_160 C.2.2.2.2 (Nat.le_of_ble_eq_true rfl) (Nat.le_of_ble_eq_true rfl)) [1] [1] rfl rfl (ci := 4) (qc := (RX4, TX4, 6)) rfl rfl (List.mem_flatten.mpr ⟨_, List.mem_of_getElem? (i := 0) rfl, (bLand_mem hz0_).choose_spec⟩) rfl rfl hl.1 dX11_lot_18 (Nat.le_of_ble_eq_true rfl) (by show _ + 0 ≤ 6 * (zNA (i1.toInt = 0 ∧ 0 < (fk 0).toInt ∧ 0 ≤ a_.toInt ∧ a_.toInt < cr0_.toInt ∧ a_.toInt < 7 ∧ 0 ≤ b_.toInt ∧ b_.toInt < cr0_.toInt ∧ b_.toInt < 7 ∧ ¬ zBit inn0_ b_ = 0) mdA n4A (zPl cr0_ inn0_ k10_) - n4A) + 6 * (zNA (i1.toInt = 1 ∧ 1 < (fk 0).toInt ∧ 0 ≤ a_.toInt ∧ a_.toInt < cr1_.toInt ∧ a_.toInt < 7 ∧ 0 ≤ b_.toInt ∧ b_.toInt < cr1_.toInt ∧ b_.toInt < 7 ∧ ¬ zBit inn1_ b_ = 0) mdB n4B (zPl cr1_ inn1_ k11_) - n4B); omega) (fun r_9 b1 H locs hw G => ?_)
    refine zAn2 hw ?_
    intro hbs9 hc_8
    clear hw
    subst hbs9
    have G : zS T A s.heap s [[zO10 xo t im mk rd po co tr wa wb_ fi cd], z1_, wwA, wwB, wt, z0_] _ _ := G
    rcases hc_8 with ⟨rfl, h_10, h_11, h_12⟩ | ⟨rfl, h_13⟩
    · have h_10 : 0 ≤ a_.toInt := h_10
      have h_11 : a_.toInt < cr0_.toInt := h_11
      have h_12 : a_.toInt < 7 := h_12
      refine lv_if_eq (tgt := 33) hx hb dX11_lot_21 (by decide) (fun q => absurd q (by decide)) (fun _ => ?_)
      refine lv_aload hx hb dX11_lot_24 (lv_at hl 0 rfl) ?_
      refine lv_iload_n hx hb dX11_lot_26 rfl (lv_at hl 4 rfl) ?_
      refine z_Vi (bc := [z0_]) (br := [[zO10 xo t im mk rd po co tr wa wb_ fi cd], z1_, wwA, wwB, wt]) (As := [.int b_]) (rest := []) C G (c_isInn l T l0 cr0_ inn0_ k10_ k20_ k30_ k40_ z0_ b_ hz0_) (kV_RX11_174 C.2.2.2.2 (Nat.le_of_ble_eq_true rfl) (Nat.le_of_ble_eq_true rfl)) [5] [5] rfl rfl (ci := 4) (qc := (RX4, TX4, 6)) rfl rfl (List.mem_flatten.mpr ⟨_, List.mem_of_getElem? (i := 0) rfl, (bLand_mem hz0_).choose_spec⟩) rfl rfl hl.1 dX11_lot_27 (Nat.le_of_ble_eq_true rfl) (by show _ + 0 ≤ 6 * (zNA (i1.toInt = 0 ∧ 0 < (fk 0).toInt ∧ 0 ≤ a_.toInt ∧ a_.toInt < cr0_.toInt ∧ a_.toInt < 7 ∧ 0 ≤ b_.toInt ∧ b_.toInt < cr0_.toInt ∧ b_.toInt < 7 ∧ ¬ zBit inn0_ b_ = 0) mdA n4A (zPl cr0_ inn0_ k10_) - n4A) + 6 * (zNA (i1.toInt = 1 ∧ 1 < (fk 0).toInt ∧ 0 ≤ a_.toInt ∧ a_.toInt < cr1_.toInt ∧ a_.toInt < 7 ∧ 0 ≤ b_.toInt ∧ b_.toInt < cr1_.toInt ∧ b_.toInt < 7 ∧ ¬ zBit inn1_ b_ = 0) mdB n4B (zPl cr1_ inn1_ k11_) - n4B); omega) (fun r_15 b1 H locs hw G => ?_)
      refine zAn2 hw ?_
      intro hbs9 hc_14
      clear hw
      subst hbs9
      have G : zS T A s.heap s [[zO10 xo t im mk rd po co tr wa wb_ fi cd], z1_, wwA, wwB, wt, z0_] _ _ := G
      rcases hc_14 with ⟨rfl, h_16, h_17, h_18, h_19⟩ | ⟨rfl, h_20⟩
      · have h_16 : 0 ≤ b_.toInt := h_16
        have h_17 : b_.toInt < cr0_.toInt := h_17
        have h_18 : b_.toInt < 7 := h_18
        have h_19 : ¬ zBit inn0_ b_ = 0 := h_19
        refine lv_if_ne (tgt := 35) hx hb dX11_lot_30 (by decide) (fun _ => ?_) (fun q => absurd q (by decide))
        refine lv_aload_n hx hb dX11_lot_35 rfl (lv_at hl 1 rfl) ?_
        refine lv_iload_n hx hb dX11_lot_36 rfl (lv_at hl 2 rfl) ?_
        refine lv_aload hx hb dX11_lot_37 (lv_at hl 0 rfl) ?_
        have hNAm : zNA (i1.toInt = 0 ∧ 0 < (fk 0).toInt ∧ 0 ≤ a_.toInt ∧ a_.toInt < cr0_.toInt ∧ a_.toInt < 7 ∧ 0 ≤ b_.toInt ∧ b_.toInt < cr0_.toInt ∧ b_.toInt < 7 ∧ ¬ zBit inn0_ b_ = 0) mdA n4A (zPl cr0_ inn0_ k10_) = zMk mdA n4A (zPl cr0_ inn0_ k10_) := zNA_y (by first | omega | (repeat' (first | omega | assumption | constructor)))
        have hNAo : zNA (i1.toInt = 1 ∧ 1 < (fk 0).toInt ∧ 0 ≤ a_.toInt ∧ a_.toInt < cr1_.toInt ∧ a_.toInt < 7 ∧ 0 ≤ b_.toInt ∧ b_.toInt < cr1_.toInt ∧ b_.toInt < 7 ∧ ¬ zBit inn1_ b_ = 0) mdB n4B (zPl cr1_ inn1_ k11_) = n4B := zNA_n (by omega)
        have hn9 : zMk mdA n4A (zPl cr0_ inn0_ k10_) ≤ 131072 := zPw_le (zMk_pw hpwA)
        refine z_Vq (bc := [[zO10 xo t im mk rd po co tr wa wb_ fi cd], wwA, z0_]) (br := [z1_, wwB, wt]) (As := [.int i1, .ref l0]) (rest := []) C G (c_waysInA l T xo t im mk rd po co tr wa wb_ fi cd i1 laA mdA wyA pc_A f1A f2A f3A f4A f5A f6A n4A wwA l0 cr0_ inn0_ k10_ k20_ k30_ k40_ z0_ hwwA hz0_ hI0_ hpwA hmdA hwmA (by omega)) (kV_RX11_235 C.2.2.2.2 (Nat.le_of_ble_eq_true rfl) (Nat.le_of_ble_eq_true rfl)) [0, 2, 5] [0, 1, 2] rfl rfl (ci := 10) (qc := (RX11, TX11, 11)) rfl rfl (List.mem_flatten.mpr ⟨_, List.mem_of_getElem? (i := 0) rfl, List.mem_cons_self⟩) rfl rfl hl.1 dX11_lot_39 (Nat.le_of_ble_eq_true rfl) (by show _ + (6 * (zMk mdA n4A (zPl cr0_ inn0_ k10_) - n4A)) ≤ 6 * (zNA (i1.toInt = 0 ∧ 0 < (fk 0).toInt ∧ 0 ≤ a_.toInt ∧ a_.toInt < cr0_.toInt ∧ a_.toInt < 7 ∧ 0 ≤ b_.toInt ∧ b_.toInt < cr0_.toInt ∧ b_.toInt < 7 ∧ ¬ zBit inn0_ b_ = 0) mdA n4A (zPl cr0_ inn0_ k10_) - n4A) + 6 * (zNA (i1.toInt = 1 ∧ 1 < (fk 0).toInt ∧ 0 ≤ a_.toInt ∧ a_.toInt < cr1_.toInt ∧ a_.toInt < 7 ∧ 0 ≤ b_.toInt ∧ b_.toInt < cr1_.toInt ∧ b_.toInt < 7 ∧ ¬ zBit inn1_ b_ = 0) mdB n4B (zPl cr1_ inn1_ k11_) - n4B); omega) (fun r_35 b1 H locs hw G => ?_)
        refine zEx9 hw ?_
        intro w2_21 m2_22 wy2_23 pc2_24 g1_25 g2_26 g4_27 g5_28 g6_29
        refine zCu6 ?_
        intro hbs9 h_30 h_31 h_32 h_33 h_34
        clear hw
        subst hbs9
        have G : zS T A s.heap s [z1_, wwB, wt, [zO10 xo t im mk rd po co tr wa wb_ fi cd], w2_21, z0_] _ _ := G
        subst h_30
        have hwy9 := h_32
        refine lv_astore (lv' := [(6, .ref wa), (5, .ref l0), (0, .ref xo), (1, .int i1), (2, .int a_), (3, .int b_), (4, .int w_)]) hx hb dX11_lot_42 hl (by decide) (zLvf_h rfl) (fun ls hl => ?_)
        refine lv_iconst (v := 0) hx hb dX11_lot_44 (by decide) ?_
        refine lv_istore (lv' := [(7, .int 0), (6, .ref wa), (5, .ref l0), (0, .ref xo), (1, .int i1), (2, .int a_), (3, .int b_), (4, .int w_)]) hx hb dX11_lot_45 hl (by decide) (zLvf_h rfl) (fun ls hl => ?_)
        refine lv_iconst (v := 0) hx hb dX11_lot_47 (by decide) ?_
        refine lv_istore (lv' := [(8, .int 0), (7, .int 0), (6, .ref wa), (5, .ref l0), (0, .ref xo), (1, .int i1), (2, .int a_), (3, .int b_), (4, .int w_)]) hx hb dX11_lot_48 hl (by decide) (zLvf_h rfl) (fun ls hl => ?_)
        refine zEx6 h_31 ?_
        intro a1_36 a2_37 a3_38 a4_39 a5_40 a6_41 hbs9
        clear h_31
        subst hbs9
        have G : zS T A s.heap s [z1_, wwB, wt, [zO10 xo t im mk rd po co tr wa wb_ fi cd], [zO0 wa m2_22 wy2_23 l0 pc2_24 a1_36 a2_37 a3_38 a4_39 a5_40 a6_41], [zAr T 0 a1_36 7 g1_25], [zAr T 0 a2_37 7 g2_26], [zAr T 0 a3_38 7 f3A], [zAr T 0 a4_39 (zMk mdA n4A (zPl cr0_ inn0_ k10_)) g4_27], [zAr T 0 a5_40 (zMk mdA n4A (zPl cr0_ inn0_ k10_)) g5_28], [zAr T 0 a6_41 (zMk mdA n4A (zPl cr0_ inn0_ k10_)) g6_29], z0_] _ _ := G.re rfl
        have hw_42 : bWays T wa l0 m2_22 wy2_23 pc2_24 g1_25 g2_26 f3A g4_27 g5_28 g6_29 (zMk mdA n4A (zPl cr0_ inn0_ k10_)) [zO0 wa m2_22 wy2_23 l0 pc2_24 a1_36 a2_37 a3_38 a4_39 a5_40 a6_41, zAr T 0 a1_36 7 g1_25, zAr T 0 a2_37 7 g2_26, zAr T 0 a3_38 7 f3A, zAr T 0 a4_39 (zMk mdA n4A (zPl cr0_ inn0_ k10_)) g4_27, zAr T 0 a5_40 (zMk mdA n4A (zPl cr0_ inn0_ k10_)) g5_28, zAr T 0 a6_41 (zMk mdA n4A (zPl cr0_ inn0_ k10_)) g6_29] := ⟨a1_36, a2_37, a3_38, a4_39, a5_40, a6_41, rfl⟩
        have G : zS T A s.heap s [z1_, wwB, wt, [zO10 xo t im mk rd po co tr wa wb_ fi cd], [zO0 wa m2_22 wy2_23 l0 pc2_24 a1_36 a2_37 a3_38 a4_39 a5_40 a6_41, zAr T 0 a1_36 7 g1_25, zAr T 0 a2_37 7 g2_26, zAr T 0 a3_38 7 f3A, zAr T 0 a4_39 (zMk mdA n4A (zPl cr0_ inn0_ k10_)) g4_27, zAr T 0 a5_40 (zMk mdA n4A (zPl cr0_ inn0_ k10_)) g5_28, zAr T 0 a6_41 (zMk mdA n4A (zPl cr0_ inn0_ k10_)) g6_29], z0_] _ _ := G.re rfl
        refine z_lp2 (T := T) 50 (fun (i : Nat) (u7 : Int32) => [z1_, wwB, wt, [zO10 xo t im mk rd po co tr wa wb_ fi cd], [zO0 wa m2_22 wy2_23 l0 pc2_24 a1_36 a2_37 a3_38 a4_39 a5_40 a6_41, zAr T 0 a1_36 7 g1_25, zAr T 0 a2_37 7 g2_26, zAr T 0 a3_38 7 f3A, zAr T 0 a4_39 (zMk mdA n4A (zPl cr0_ inn0_ k10_)) g4_27, zAr T 0 a5_40 (zMk mdA n4A (zPl cr0_ inn0_ k10_)) g5_28, zAr T 0 a6_41 (zMk mdA n4A (zPl cr0_ inn0_ k10_)) g6_29], z0_]) (fun (i : Nat) (u7 : Int32) => [(8, .int (nI i)), (7, .int u7), (6, .ref wa), (5, .ref l0), (0, .ref xo), (1, .int i1), (2, .int a_), (3, .int b_), (4, .int w_)]) (fun (i : Nat) (u7 : Int32) => i ≤ 16384) (fun (i : Nat) (u7 : Int32) => 16384 - i) ?_ 0 0 (show 0 ≤ 16384 from by omega) G (lv_sub hl [0, 1, 2, 3, 4, 5, 6, 7, 8] rfl)
        intro i u7 hi ih_50 H locs ls G hl
        replace hi : i ≤ 16384 := hi
        replace G : zS T A s.heap s [z1_, wwB, wt, [zO10 xo t im mk rd po co tr wa wb_ fi cd], [zO0 wa m2_22 wy2_23 l0 pc2_24 a1_36 a2_37 a3_38 a4_39 a5_40 a6_41, zAr T 0 a1_36 7 g1_25, zAr T 0 a2_37 7 g2_26, zAr T 0 a3_38 7 f3A, zAr T 0 a4_39 (zMk mdA n4A (zPl cr0_ inn0_ k10_)) g4_27, zAr T 0 a5_40 (zMk mdA n4A (zPl cr0_ inn0_ k10_)) g5_28, zAr T 0 a6_41 (zMk mdA n4A (zPl cr0_ inn0_ k10_)) g6_29], z0_] _ _ := G
        replace hl : lv_has ls 9 [(8, .int (nI i)), (7, .int u7), (6, .ref wa), (5, .ref l0), (0, .ref xo), (1, .int i1), (2, .int a_), (3, .int b_), (4, .int w_)] := hl
        refine lv_iload hx hb dX11_lot_50 (lv_at hl 0 rfl) ?_
        refine lv_aload hx hb dX11_lot_52 (lv_at hl 2 rfl) ?_
        have G : zS T A s.heap s [z1_, wwB, wt, [zO10 xo t im mk rd po co tr wa wb_ fi cd], [zO0 wa m2_22 wy2_23 l0 pc2_24 a1_36 a2_37 a3_38 a4_39 a5_40 a6_41], [zAr T 0 a1_36 7 g1_25], [zAr T 0 a2_37 7 g2_26], [zAr T 0 a3_38 7 f3A], [zAr T 0 a4_39 (zMk mdA n4A (zPl cr0_ inn0_ k10_)) g4_27], [zAr T 0 a5_40 (zMk mdA n4A (zPl cr0_ inn0_ k10_)) g5_28], [zAr T 0 a6_41 (zMk mdA n4A (zPl cr0_ inn0_ k10_)) g6_29], z0_] _ _ := G.re rfl
        refine z_get C G clX0 4 rfl 1 (by decide) m_fl_RX11_257 rfl dX11_lot_54 ?_
        refine lv_icmp_ge (tgt := 81) hx hb dX11_lot_57 (by decide) (fun c_43 => ?_) (fun c_43 => ?_)
        · have c_43n : wy2_23.toInt ≤ (i : Int) := by have q := (fa_le _ _).mp c_43; rw [nI_toInt (n := i) (by omega)] at q; exact q
          refine lv_iload hx hb dX11_lot_81 (lv_at hl 1 rfl) ?_
          refine lv_aload hx hb dX11_lot_83 (lv_at hl 2 rfl) ?_
          refine z_get C G clX0 4 rfl 1 (by decide) m_fl_RX11_257 rfl dX11_lot_85 ?_
          refine lv_iload hx hb dX11_lot_88 (lv_at hl 8 rfl) ?_
          refine z_Si (bc := []) (br := [z1_, wwB, wt, [zO10 xo t im mk rd po co tr wa wb_ fi cd], [zO0 wa m2_22 wy2_23 l0 pc2_24 a1_36 a2_37 a3_38 a4_39 a5_40 a6_41], [zAr T 0 a1_36 7 g1_25], [zAr T 0 a2_37 7 g2_26], [zAr T 0 a3_38 7 f3A], [zAr T 0 a4_39 (zMk mdA n4A (zPl cr0_ inn0_ k10_)) g4_27], [zAr T 0 a5_40 (zMk mdA n4A (zPl cr0_ inn0_ k10_)) g5_28], [zAr T 0 a6_41 (zMk mdA n4A (zPl cr0_ inn0_ k10_)) g6_29], z0_]) (As := [.int u7, .int wy2_23, .int w_]) (rest := []) C G (c_inLeastTerms l T u7 wy2_23 w_) (kS_RX11_262 C.2.2.2.2 (Nat.le_of_ble_eq_true rfl) (Nat.le_of_ble_eq_true rfl)) [] [] rfl rfl rfl rfl hl.1 dX11_lot_90 (Nat.le_of_ble_eq_true rfl) (by show _ + 0 ≤ 6 * (zNA (i1.toInt = 0 ∧ 0 < (fk 0).toInt ∧ 0 ≤ a_.toInt ∧ a_.toInt < cr0_.toInt ∧ a_.toInt < 7 ∧ 0 ≤ b_.toInt ∧ b_.toInt < cr0_.toInt ∧ b_.toInt < 7 ∧ ¬ zBit inn0_ b_ = 0) mdA n4A (zPl cr0_ inn0_ k10_) - n4A) + 6 * (zNA (i1.toInt = 1 ∧ 1 < (fk 0).toInt ∧ 0 ≤ a_.toInt ∧ a_.toInt < cr1_.toInt ∧ a_.toInt < 7 ∧ 0 ≤ b_.toInt ∧ b_.toInt < cr1_.toInt ∧ b_.toInt < 7 ∧ ¬ zBit inn1_ b_ = 0) mdB n4B (zPl cr1_ inn1_ k11_) - n4B); omega) (fun r_44 b1 H locs hw G => ?_)
          obtain rfl := hw
          have G : zS T A s.heap s [z1_, wwB, wt, [zO10 xo t im mk rd po co tr wa wb_ fi cd], [zO0 wa m2_22 wy2_23 l0 pc2_24 a1_36 a2_37 a3_38 a4_39 a5_40 a6_41], [zAr T 0 a1_36 7 g1_25], [zAr T 0 a2_37 7 g2_26], [zAr T 0 a3_38 7 f3A], [zAr T 0 a4_39 (zMk mdA n4A (zPl cr0_ inn0_ k10_)) g4_27], [zAr T 0 a5_40 (zMk mdA n4A (zPl cr0_ inn0_ k10_)) g5_28], [zAr T 0 a6_41 (zMk mdA n4A (zPl cr0_ inn0_ k10_)) g6_29], z0_] _ _ := G
          have hw_45 : bWays T wa l0 m2_22 wy2_23 pc2_24 g1_25 g2_26 f3A g4_27 g5_28 g6_29 (zMk mdA n4A (zPl cr0_ inn0_ k10_)) [zO0 wa m2_22 wy2_23 l0 pc2_24 a1_36 a2_37 a3_38 a4_39 a5_40 a6_41, zAr T 0 a1_36 7 g1_25, zAr T 0 a2_37 7 g2_26, zAr T 0 a3_38 7 f3A, zAr T 0 a4_39 (zMk mdA n4A (zPl cr0_ inn0_ k10_)) g4_27, zAr T 0 a5_40 (zMk mdA n4A (zPl cr0_ inn0_ k10_)) g5_28, zAr T 0 a6_41 (zMk mdA n4A (zPl cr0_ inn0_ k10_)) g6_29] := ⟨a1_36, a2_37, a3_38, a4_39, a5_40, a6_41, rfl⟩
          have G : zS T A s.heap s [z1_, wwB, wt, [zO10 xo t im mk rd po co tr wa wb_ fi cd], [zO0 wa m2_22 wy2_23 l0 pc2_24 a1_36 a2_37 a3_38 a4_39 a5_40 a6_41, zAr T 0 a1_36 7 g1_25, zAr T 0 a2_37 7 g2_26, zAr T 0 a3_38 7 f3A, zAr T 0 a4_39 (zMk mdA n4A (zPl cr0_ inn0_ k10_)) g4_27, zAr T 0 a5_40 (zMk mdA n4A (zPl cr0_ inn0_ k10_)) g5_28, zAr T 0 a6_41 (zMk mdA n4A (zPl cr0_ inn0_ k10_)) g6_29], z0_] _ _ := G.re rfl
          have G := G.sub (bs' := [[zO10 xo t im mk rd po co tr wa wb_ fi cd], wt, z0_, z1_, [zO0 wa m2_22 wy2_23 l0 pc2_24 a1_36 a2_37 a3_38 a4_39 a5_40 a6_41, zAr T 0 a1_36 7 g1_25, zAr T 0 a2_37 7 g2_26, zAr T 0 a3_38 7 f3A, zAr T 0 a4_39 (zMk mdA n4A (zPl cr0_ inn0_ k10_)) g4_27, zAr T 0 a5_40 (zMk mdA n4A (zPl cr0_ inn0_ k10_)) g5_28, zAr T 0 a6_41 (zMk mdA n4A (zPl cr0_ inn0_ k10_)) g6_29], wwB]) [3, 2, 5, 0, 4, 1] rfl
          exact z_back hQz_ (z_iret C hr hlocks G (Nat.le_of_ble_eq_true rfl) (by omega) dX11_lot_93 ⟨l0, m2_22, wy2_23, pc2_24, g1_25, g2_26, f3A, g4_27, g5_28, g6_29, (zMk mdA n4A (zPl cr0_ inn0_ k10_)), ([zO0 wa m2_22 wy2_23 l0 pc2_24 a1_36 a2_37 a3_38 a4_39 a5_40 a6_41, zAr T 0 a1_36 7 g1_25, zAr T 0 a2_37 7 g2_26, zAr T 0 a3_38 7 f3A, zAr T 0 a4_39 (zMk mdA n4A (zPl cr0_ inn0_ k10_)) g4_27, zAr T 0 a5_40 (zMk mdA n4A (zPl cr0_ inn0_ k10_)) g5_28, zAr T 0 a6_41 (zMk mdA n4A (zPl cr0_ inn0_ k10_)) g6_29]), laB, mdB, wyB, pc_B, f1B, f2B, f3B, f4B, f5B, f6B, n4B, wwB, rfl, hw_45, (Or.inr rfl), hwy9, hNAm.symm, (zMk_pw hpwA), (fun _ => h_34), hwwB, hmdB, hwmB, (by first | exact hNAo.symm | exact (zNA_n (by first | omega | grind)).symm), hpwB, (fun q => q)⟩)
        · have c_43n : ¬ wy2_23.toInt ≤ (i : Int) := fun q => c_43 ((fa_le _ _).mpr (by rw [nI_toInt (n := i) (by omega)]; exact q))
          refine lv_aload hx hb dX11_lot_60 (lv_at hl 2 rfl) ?_
          refine lv_iload hx hb dX11_lot_62 (lv_at hl 0 rfl) ?_
          refine lv_iload_n hx hb dX11_lot_64 rfl (lv_at hl 6 rfl) ?_
          have hw_46 : bWays T wa l0 m2_22 wy2_23 pc2_24 g1_25 g2_26 f3A g4_27 g5_28 g6_29 (zMk mdA n4A (zPl cr0_ inn0_ k10_)) [zO0 wa m2_22 wy2_23 l0 pc2_24 a1_36 a2_37 a3_38 a4_39 a5_40 a6_41, zAr T 0 a1_36 7 g1_25, zAr T 0 a2_37 7 g2_26, zAr T 0 a3_38 7 f3A, zAr T 0 a4_39 (zMk mdA n4A (zPl cr0_ inn0_ k10_)) g4_27, zAr T 0 a5_40 (zMk mdA n4A (zPl cr0_ inn0_ k10_)) g5_28, zAr T 0 a6_41 (zMk mdA n4A (zPl cr0_ inn0_ k10_)) g6_29] := ⟨a1_36, a2_37, a3_38, a4_39, a5_40, a6_41, rfl⟩
          have G : zS T A s.heap s [z1_, wwB, wt, [zO10 xo t im mk rd po co tr wa wb_ fi cd], [zO0 wa m2_22 wy2_23 l0 pc2_24 a1_36 a2_37 a3_38 a4_39 a5_40 a6_41, zAr T 0 a1_36 7 g1_25, zAr T 0 a2_37 7 g2_26, zAr T 0 a3_38 7 f3A, zAr T 0 a4_39 (zMk mdA n4A (zPl cr0_ inn0_ k10_)) g4_27, zAr T 0 a5_40 (zMk mdA n4A (zPl cr0_ inn0_ k10_)) g5_28, zAr T 0 a6_41 (zMk mdA n4A (zPl cr0_ inn0_ k10_)) g6_29], z0_] _ _ := G.re rfl
          refine z_Vi (bc := [[zO0 wa m2_22 wy2_23 l0 pc2_24 a1_36 a2_37 a3_38 a4_39 a5_40 a6_41, zAr T 0 a1_36 7 g1_25, zAr T 0 a2_37 7 g2_26, zAr T 0 a3_38 7 f3A, zAr T 0 a4_39 (zMk mdA n4A (zPl cr0_ inn0_ k10_)) g4_27, zAr T 0 a5_40 (zMk mdA n4A (zPl cr0_ inn0_ k10_)) g5_28, zAr T 0 a6_41 (zMk mdA n4A (zPl cr0_ inn0_ k10_)) g6_29]]) (br := [z1_, wwB, wt, [zO10 xo t im mk rd po co tr wa wb_ fi cd], z0_]) (As := [.int (nI i), .int a_]) (rest := []) C G (c_where l T wa l0 m2_22 wy2_23 pc2_24 g1_25 g2_26 f3A g4_27 g5_28 g6_29 (zMk mdA n4A (zPl cr0_ inn0_ k10_)) ([zO0 wa m2_22 wy2_23 l0 pc2_24 a1_36 a2_37 a3_38 a4_39 a5_40 a6_41, zAr T 0 a1_36 7 g1_25, zAr T 0 a2_37 7 g2_26, zAr T 0 a3_38 7 f3A, zAr T 0 a4_39 (zMk mdA n4A (zPl cr0_ inn0_ k10_)) g4_27, zAr T 0 a5_40 (zMk mdA n4A (zPl cr0_ inn0_ k10_)) g5_28, zAr T 0 a6_41 (zMk mdA n4A (zPl cr0_ inn0_ k10_)) g6_29]) (nI i) a_ hw_46 (by first | with_reducible assumption | with_reducible rfl | omega | assumption | rfl)) (kV_RX11_260 C.2.2.2.2 (Nat.le_of_ble_eq_true rfl) (Nat.le_of_ble_eq_true rfl)) [4] [4] rfl rfl (ci := 0) (qc := (RX0, TX0, 10)) rfl rfl (List.mem_flatten.mpr ⟨_, List.mem_of_getElem? (i := 0) rfl, (bWays_mem hw_46).choose_spec⟩) rfl rfl hl.1 dX11_lot_65 (Nat.le_of_ble_eq_true rfl) (by show _ + 0 ≤ 6 * (zNA (i1.toInt = 0 ∧ 0 < (fk 0).toInt ∧ 0 ≤ a_.toInt ∧ a_.toInt < cr0_.toInt ∧ a_.toInt < 7 ∧ 0 ≤ b_.toInt ∧ b_.toInt < cr0_.toInt ∧ b_.toInt < 7 ∧ ¬ zBit inn0_ b_ = 0) mdA n4A (zPl cr0_ inn0_ k10_) - n4A) + 6 * (zNA (i1.toInt = 1 ∧ 1 < (fk 0).toInt ∧ 0 ≤ a_.toInt ∧ a_.toInt < cr1_.toInt ∧ a_.toInt < 7 ∧ 0 ≤ b_.toInt ∧ b_.toInt < cr1_.toInt ∧ b_.toInt < 7 ∧ ¬ zBit inn1_ b_ = 0) mdB n4B (zPl cr1_ inn1_ k11_) - n4B); omega) (fun r_48 b1 H locs hw G => ?_)
          refine zAn2 hw ?_
          intro hbs9 h_47
          clear hw
          subst hbs9
          have G : zS T A s.heap s [z1_, wwB, wt, [zO10 xo t im mk rd po co tr wa wb_ fi cd], z0_, [zO0 wa m2_22 wy2_23 l0 pc2_24 a1_36 a2_37 a3_38 a4_39 a5_40 a6_41, zAr T 0 a1_36 7 g1_25, zAr T 0 a2_37 7 g2_26, zAr T 0 a3_38 7 f3A, zAr T 0 a4_39 (zMk mdA n4A (zPl cr0_ inn0_ k10_)) g4_27, zAr T 0 a5_40 (zMk mdA n4A (zPl cr0_ inn0_ k10_)) g5_28, zAr T 0 a6_41 (zMk mdA n4A (zPl cr0_ inn0_ k10_)) g6_29]] _ _ := G
          subst h_47
          refine lv_iload_n hx hb dX11_lot_68 rfl (lv_at hl 7 rfl) ?_
          refine lv_icmp_ne (tgt := 75) hx hb dX11_lot_69 (by decide) (fun c_49 => ?_) (fun c_49 => ?_)
          · have c_49n : ¬ (zEntry g5_28 (zMk mdA n4A (zPl cr0_ inn0_ k10_)) (nI i) a_ &&& 7).toInt = b_.toInt := fun q => c_49 ((fa_eq _ _).mpr q)
            refine lv_iinc (v := nI (i + 1)) (lv' := [(8, .int (nI (i + 1))), (7, .int u7), (6, .ref wa), (5, .ref l0), (0, .ref xo), (1, .int i1), (2, .int a_), (3, .int b_), (4, .int w_)]) hx hb dX11_lot_75 hl (k := 0) rfl (z_inc i 1) (by decide) (zLvf_h rfl) (fun ls hl => ?_)
            refine lv_goto (tgt := 50) hx hb dX11_lot_78 (by decide) ?_
            have G := G.sub (bs' := [z1_, wwB, wt, [zO10 xo t im mk rd po co tr wa wb_ fi cd], [zO0 wa m2_22 wy2_23 l0 pc2_24 a1_36 a2_37 a3_38 a4_39 a5_40 a6_41, zAr T 0 a1_36 7 g1_25, zAr T 0 a2_37 7 g2_26, zAr T 0 a3_38 7 f3A, zAr T 0 a4_39 (zMk mdA n4A (zPl cr0_ inn0_ k10_)) g4_27, zAr T 0 a5_40 (zMk mdA n4A (zPl cr0_ inn0_ k10_)) g5_28, zAr T 0 a6_41 (zMk mdA n4A (zPl cr0_ inn0_ k10_)) g6_29], z0_]) [0, 1, 2, 3, 5, 4] rfl
            exact ih_50 (i + 1) u7 (show (i + 1) ≤ 16384 from by omega) (show 16384 - (i + 1) < 16384 - i from by omega) _ _ ls G (lv_sub hl [0, 1, 2, 3, 4, 5, 6, 7, 8] rfl)
          · have c_49n : (zEntry g5_28 (zMk mdA n4A (zPl cr0_ inn0_ k10_)) (nI i) a_ &&& 7).toInt = b_.toInt := (fa_eq _ _).mp c_49
            refine lv_iinc (v := u7 + 1) (lv' := [(7, .int (u7 + 1)), (8, .int (nI i)), (6, .ref wa), (5, .ref l0), (0, .ref xo), (1, .int i1), (2, .int a_), (3, .int b_), (4, .int w_)]) hx hb dX11_lot_72 hl (k := 1) rfl rfl (by decide) (zLvf_h rfl) (fun ls hl => ?_)
            refine lv_iinc (v := nI (i + 1)) (lv' := [(8, .int (nI (i + 1))), (7, .int (u7 + 1)), (6, .ref wa), (5, .ref l0), (0, .ref xo), (1, .int i1), (2, .int a_), (3, .int b_), (4, .int w_)]) hx hb dX11_lot_75 hl (k := 1) rfl (z_inc i 1) (by decide) (zLvf_h rfl) (fun ls hl => ?_)
            refine lv_goto (tgt := 50) hx hb dX11_lot_78 (by decide) ?_
            have G := G.sub (bs' := [z1_, wwB, wt, [zO10 xo t im mk rd po co tr wa wb_ fi cd], [zO0 wa m2_22 wy2_23 l0 pc2_24 a1_36 a2_37 a3_38 a4_39 a5_40 a6_41, zAr T 0 a1_36 7 g1_25, zAr T 0 a2_37 7 g2_26, zAr T 0 a3_38 7 f3A, zAr T 0 a4_39 (zMk mdA n4A (zPl cr0_ inn0_ k10_)) g4_27, zAr T 0 a5_40 (zMk mdA n4A (zPl cr0_ inn0_ k10_)) g5_28, zAr T 0 a6_41 (zMk mdA n4A (zPl cr0_ inn0_ k10_)) g6_29], z0_]) [0, 1, 2, 3, 5, 4] rfl
            exact ih_50 (i + 1) (u7 + 1) (show (i + 1) ≤ 16384 from by omega) (show 16384 - (i + 1) < 16384 - i from by omega) _ _ ls G (lv_sub hl [0, 1, 2, 3, 4, 5, 6, 7, 8] rfl)
      · have h_20 : (b_.toInt < 0 ∨ cr0_.toInt ≤ b_.toInt ∨ 7 ≤ b_.toInt ∨ zBit inn0_ b_ = 0) := h_20
        refine lv_if_ne (tgt := 35) hx hb dX11_lot_30 (by decide) (fun q => absurd (by decide) q) (fun _ => ?_)
        refine lv_iconst (v := (-1)) hx hb dX11_lot_33 (by decide) ?_
        have G := G.sub (bs' := [[zO10 xo t im mk rd po co tr wa wb_ fi cd], wt, z0_, z1_, wwA, wwB]) [0, 4, 5, 1, 2, 3] rfl
        exact z_back hQz_ (z_iret C hr hlocks G (Nat.le_of_ble_eq_true rfl) (by omega) dX11_lot_34 ⟨laA, mdA, wyA, pc_A, f1A, f2A, f3A, f4A, f5A, f6A, n4A, wwA, laB, mdB, wyB, pc_B, f1B, f2B, f3B, f4B, f5B, f6B, n4B, wwB, rfl, hwwA, hmdA, hwmA, (by first | exact hNAo.symm | exact (zNA_n (by first | omega | grind)).symm), hpwA, (fun q => q), hwwB, hmdB, hwmB, (by first | exact hNAo.symm | exact (zNA_n (by first | omega | grind)).symm), hpwB, (fun q => q)⟩)
    · have h_13 : (a_.toInt < 0 ∨ cr0_.toInt ≤ a_.toInt ∨ 7 ≤ a_.toInt) := h_13
      refine lv_if_eq (tgt := 33) hx hb dX11_lot_21 (by decide) (fun _ => ?_) (fun q => absurd (by decide) q)
      refine lv_iconst (v := (-1)) hx hb dX11_lot_33 (by decide) ?_
      have G := G.sub (bs' := [[zO10 xo t im mk rd po co tr wa wb_ fi cd], wt, z0_, z1_, wwA, wwB]) [0, 4, 5, 1, 2, 3] rfl
      exact z_back hQz_ (z_iret C hr hlocks G (Nat.le_of_ble_eq_true rfl) (by omega) dX11_lot_34 ⟨laA, mdA, wyA, pc_A, f1A, f2A, f3A, f4A, f5A, f6A, n4A, wwA, laB, mdB, wyB, pc_B, f1B, f2B, f3B, f4B, f5B, f6B, n4B, wwB, rfl, hwwA, hmdA, hwmA, (by first | exact hNAo.symm | exact (zNA_n (by first | omega | grind)).symm), hpwA, (fun q => q), hwwB, hmdB, hwmB, (by first | exact hNAo.symm | exact (zNA_n (by first | omega | grind)).symm), hpwB, (fun q => q)⟩)
  · have h_6 : i1.toInt = 1 := h_6
    have h_7 : 1 < (fk 0).toInt := h_7
    refine lv_astore (lv' := [(5, .ref l1), (0, .ref xo), (1, .int i1), (2, .int a_), (3, .int b_), (4, .int w_)]) hx hb dX11_lot_8 hl (by decide) (zLvf_h rfl) (fun ls hl => ?_)
    refine lv_aload hx hb dX11_lot_10 (lv_at hl 0 rfl) ?_
    refine lv_ifnull hx hb dX11_lot_12 ?_
    refine lv_aload hx hb dX11_lot_15 (lv_at hl 0 rfl) ?_
    refine lv_iload_n hx hb dX11_lot_17 rfl (lv_at hl 3 rfl) ?_
    refine z_Vi (bc := [z1_]) (br := [[zO10 xo t im mk rd po co tr wa wb_ fi cd], z0_, wwA, wwB, wt]) (As := [.int a_]) (rest := []) C G (c_has l T l1 cr1_ inn1_ k11_ k21_ k31_ k41_ z1_ a_ hz1_) (kV_RX11_160 C.2.2.2.2 (Nat.le_of_ble_eq_true rfl) (Nat.le_of_ble_eq_true rfl)) [2] [2] rfl rfl (ci := 4) (qc := (RX4, TX4, 6)) rfl rfl (List.mem_flatten.mpr ⟨_, List.mem_of_getElem? (i := 0) rfl, (bLand_mem hz1_).choose_spec⟩) rfl rfl hl.1 dX11_lot_18 (Nat.le_of_ble_eq_true rfl) (by show _ + 0 ≤ 6 * (zNA (i1.toInt = 0 ∧ 0 < (fk 0).toInt ∧ 0 ≤ a_.toInt ∧ a_.toInt < cr0_.toInt ∧ a_.toInt < 7 ∧ 0 ≤ b_.toInt ∧ b_.toInt < cr0_.toInt ∧ b_.toInt < 7 ∧ ¬ zBit inn0_ b_ = 0) mdA n4A (zPl cr0_ inn0_ k10_) - n4A) + 6 * (zNA (i1.toInt = 1 ∧ 1 < (fk 0).toInt ∧ 0 ≤ a_.toInt ∧ a_.toInt < cr1_.toInt ∧ a_.toInt < 7 ∧ 0 ≤ b_.toInt ∧ b_.toInt < cr1_.toInt ∧ b_.toInt < 7 ∧ ¬ zBit inn1_ b_ = 0) mdB n4B (zPl cr1_ inn1_ k11_) - n4B); omega) (fun r_51 b1 H locs hw G => ?_)
    refine zAn2 hw ?_
    intro hbs9 hc_50
    clear hw
    subst hbs9
    have G : zS T A s.heap s [[zO10 xo t im mk rd po co tr wa wb_ fi cd], z0_, wwA, wwB, wt, z1_] _ _ := G
    rcases hc_50 with ⟨rfl, h_52, h_53, h_54⟩ | ⟨rfl, h_55⟩
    · have h_52 : 0 ≤ a_.toInt := h_52
      have h_53 : a_.toInt < cr1_.toInt := h_53
      have h_54 : a_.toInt < 7 := h_54
      refine lv_if_eq (tgt := 33) hx hb dX11_lot_21 (by decide) (fun q => absurd q (by decide)) (fun _ => ?_)
      refine lv_aload hx hb dX11_lot_24 (lv_at hl 0 rfl) ?_
      refine lv_iload_n hx hb dX11_lot_26 rfl (lv_at hl 4 rfl) ?_
      refine z_Vi (bc := [z1_]) (br := [[zO10 xo t im mk rd po co tr wa wb_ fi cd], z0_, wwA, wwB, wt]) (As := [.int b_]) (rest := []) C G (c_isInn l T l1 cr1_ inn1_ k11_ k21_ k31_ k41_ z1_ b_ hz1_) (kV_RX11_174 C.2.2.2.2 (Nat.le_of_ble_eq_true rfl) (Nat.le_of_ble_eq_true rfl)) [5] [5] rfl rfl (ci := 4) (qc := (RX4, TX4, 6)) rfl rfl (List.mem_flatten.mpr ⟨_, List.mem_of_getElem? (i := 0) rfl, (bLand_mem hz1_).choose_spec⟩) rfl rfl hl.1 dX11_lot_27 (Nat.le_of_ble_eq_true rfl) (by show _ + 0 ≤ 6 * (zNA (i1.toInt = 0 ∧ 0 < (fk 0).toInt ∧ 0 ≤ a_.toInt ∧ a_.toInt < cr0_.toInt ∧ a_.toInt < 7 ∧ 0 ≤ b_.toInt ∧ b_.toInt < cr0_.toInt ∧ b_.toInt < 7 ∧ ¬ zBit inn0_ b_ = 0) mdA n4A (zPl cr0_ inn0_ k10_) - n4A) + 6 * (zNA (i1.toInt = 1 ∧ 1 < (fk 0).toInt ∧ 0 ≤ a_.toInt ∧ a_.toInt < cr1_.toInt ∧ a_.toInt < 7 ∧ 0 ≤ b_.toInt ∧ b_.toInt < cr1_.toInt ∧ b_.toInt < 7 ∧ ¬ zBit inn1_ b_ = 0) mdB n4B (zPl cr1_ inn1_ k11_) - n4B); omega) (fun r_57 b1 H locs hw G => ?_)
      refine zAn2 hw ?_
      intro hbs9 hc_56
      clear hw
      subst hbs9
      have G : zS T A s.heap s [[zO10 xo t im mk rd po co tr wa wb_ fi cd], z0_, wwA, wwB, wt, z1_] _ _ := G
      rcases hc_56 with ⟨rfl, h_58, h_59, h_60, h_61⟩ | ⟨rfl, h_62⟩
      · have h_58 : 0 ≤ b_.toInt := h_58
        have h_59 : b_.toInt < cr1_.toInt := h_59
        have h_60 : b_.toInt < 7 := h_60
        have h_61 : ¬ zBit inn1_ b_ = 0 := h_61
        refine lv_if_ne (tgt := 35) hx hb dX11_lot_30 (by decide) (fun _ => ?_) (fun q => absurd q (by decide))
        refine lv_aload_n hx hb dX11_lot_35 rfl (lv_at hl 1 rfl) ?_
        refine lv_iload_n hx hb dX11_lot_36 rfl (lv_at hl 2 rfl) ?_
        refine lv_aload hx hb dX11_lot_37 (lv_at hl 0 rfl) ?_
        have hNAm : zNA (i1.toInt = 1 ∧ 1 < (fk 0).toInt ∧ 0 ≤ a_.toInt ∧ a_.toInt < cr1_.toInt ∧ a_.toInt < 7 ∧ 0 ≤ b_.toInt ∧ b_.toInt < cr1_.toInt ∧ b_.toInt < 7 ∧ ¬ zBit inn1_ b_ = 0) mdB n4B (zPl cr1_ inn1_ k11_) = zMk mdB n4B (zPl cr1_ inn1_ k11_) := zNA_y (by first | omega | (repeat' (first | omega | assumption | constructor)))
        have hNAo : zNA (i1.toInt = 0 ∧ 0 < (fk 0).toInt ∧ 0 ≤ a_.toInt ∧ a_.toInt < cr0_.toInt ∧ a_.toInt < 7 ∧ 0 ≤ b_.toInt ∧ b_.toInt < cr0_.toInt ∧ b_.toInt < 7 ∧ ¬ zBit inn0_ b_ = 0) mdA n4A (zPl cr0_ inn0_ k10_) = n4A := zNA_n (by omega)
        have hn9 : zMk mdB n4B (zPl cr1_ inn1_ k11_) ≤ 131072 := zPw_le (zMk_pw hpwB)
        refine z_Vq (bc := [[zO10 xo t im mk rd po co tr wa wb_ fi cd], wwB, z1_]) (br := [z0_, wwA, wt]) (As := [.int i1, .ref l1]) (rest := []) C G (c_waysInB l T xo t im mk rd po co tr wa wb_ fi cd i1 laB mdB wyB pc_B f1B f2B f3B f4B f5B f6B n4B wwB l1 cr1_ inn1_ k11_ k21_ k31_ k41_ z1_ hwwB hz1_ hI1_ hpwB hmdB hwmB (by omega)) (kV_RX11_235 C.2.2.2.2 (Nat.le_of_ble_eq_true rfl) (Nat.le_of_ble_eq_true rfl)) [0, 3, 5] [0, 2, 1] rfl rfl (ci := 10) (qc := (RX11, TX11, 11)) rfl rfl (List.mem_flatten.mpr ⟨_, List.mem_of_getElem? (i := 0) rfl, List.mem_cons_self⟩) rfl rfl hl.1 dX11_lot_39 (Nat.le_of_ble_eq_true rfl) (by show _ + (6 * (zMk mdB n4B (zPl cr1_ inn1_ k11_) - n4B)) ≤ 6 * (zNA (i1.toInt = 0 ∧ 0 < (fk 0).toInt ∧ 0 ≤ a_.toInt ∧ a_.toInt < cr0_.toInt ∧ a_.toInt < 7 ∧ 0 ≤ b_.toInt ∧ b_.toInt < cr0_.toInt ∧ b_.toInt < 7 ∧ ¬ zBit inn0_ b_ = 0) mdA n4A (zPl cr0_ inn0_ k10_) - n4A) + 6 * (zNA (i1.toInt = 1 ∧ 1 < (fk 0).toInt ∧ 0 ≤ a_.toInt ∧ a_.toInt < cr1_.toInt ∧ a_.toInt < 7 ∧ 0 ≤ b_.toInt ∧ b_.toInt < cr1_.toInt ∧ b_.toInt < 7 ∧ ¬ zBit inn1_ b_ = 0) mdB n4B (zPl cr1_ inn1_ k11_) - n4B); omega) (fun r_77 b1 H locs hw G => ?_)
        refine zEx9 hw ?_
        intro w2_63 m2_64 wy2_65 pc2_66 g1_67 g2_68 g4_69 g5_70 g6_71
        refine zCu6 ?_
        intro hbs9 h_72 h_73 h_74 h_75 h_76
        clear hw
        subst hbs9
        have G : zS T A s.heap s [z0_, wwA, wt, [zO10 xo t im mk rd po co tr wa wb_ fi cd], w2_63, z1_] _ _ := G
        subst h_72
        have hwy9 := h_74
        refine lv_astore (lv' := [(6, .ref wb_), (5, .ref l1), (0, .ref xo), (1, .int i1), (2, .int a_), (3, .int b_), (4, .int w_)]) hx hb dX11_lot_42 hl (by decide) (zLvf_h rfl) (fun ls hl => ?_)
        refine lv_iconst (v := 0) hx hb dX11_lot_44 (by decide) ?_
        refine lv_istore (lv' := [(7, .int 0), (6, .ref wb_), (5, .ref l1), (0, .ref xo), (1, .int i1), (2, .int a_), (3, .int b_), (4, .int w_)]) hx hb dX11_lot_45 hl (by decide) (zLvf_h rfl) (fun ls hl => ?_)
        refine lv_iconst (v := 0) hx hb dX11_lot_47 (by decide) ?_
        refine lv_istore (lv' := [(8, .int 0), (7, .int 0), (6, .ref wb_), (5, .ref l1), (0, .ref xo), (1, .int i1), (2, .int a_), (3, .int b_), (4, .int w_)]) hx hb dX11_lot_48 hl (by decide) (zLvf_h rfl) (fun ls hl => ?_)
        refine zEx6 h_73 ?_
        intro a1_78 a2_79 a3_80 a4_81 a5_82 a6_83 hbs9
        clear h_73
        subst hbs9
        have G : zS T A s.heap s [z0_, wwA, wt, [zO10 xo t im mk rd po co tr wa wb_ fi cd], [zO0 wb_ m2_64 wy2_65 l1 pc2_66 a1_78 a2_79 a3_80 a4_81 a5_82 a6_83], [zAr T 0 a1_78 7 g1_67], [zAr T 0 a2_79 7 g2_68], [zAr T 0 a3_80 7 f3B], [zAr T 0 a4_81 (zMk mdB n4B (zPl cr1_ inn1_ k11_)) g4_69], [zAr T 0 a5_82 (zMk mdB n4B (zPl cr1_ inn1_ k11_)) g5_70], [zAr T 0 a6_83 (zMk mdB n4B (zPl cr1_ inn1_ k11_)) g6_71], z1_] _ _ := G.re rfl
        have hw_84 : bWays T wb_ l1 m2_64 wy2_65 pc2_66 g1_67 g2_68 f3B g4_69 g5_70 g6_71 (zMk mdB n4B (zPl cr1_ inn1_ k11_)) [zO0 wb_ m2_64 wy2_65 l1 pc2_66 a1_78 a2_79 a3_80 a4_81 a5_82 a6_83, zAr T 0 a1_78 7 g1_67, zAr T 0 a2_79 7 g2_68, zAr T 0 a3_80 7 f3B, zAr T 0 a4_81 (zMk mdB n4B (zPl cr1_ inn1_ k11_)) g4_69, zAr T 0 a5_82 (zMk mdB n4B (zPl cr1_ inn1_ k11_)) g5_70, zAr T 0 a6_83 (zMk mdB n4B (zPl cr1_ inn1_ k11_)) g6_71] := ⟨a1_78, a2_79, a3_80, a4_81, a5_82, a6_83, rfl⟩
        have G : zS T A s.heap s [z0_, wwA, wt, [zO10 xo t im mk rd po co tr wa wb_ fi cd], [zO0 wb_ m2_64 wy2_65 l1 pc2_66 a1_78 a2_79 a3_80 a4_81 a5_82 a6_83, zAr T 0 a1_78 7 g1_67, zAr T 0 a2_79 7 g2_68, zAr T 0 a3_80 7 f3B, zAr T 0 a4_81 (zMk mdB n4B (zPl cr1_ inn1_ k11_)) g4_69, zAr T 0 a5_82 (zMk mdB n4B (zPl cr1_ inn1_ k11_)) g5_70, zAr T 0 a6_83 (zMk mdB n4B (zPl cr1_ inn1_ k11_)) g6_71], z1_] _ _ := G.re rfl
        refine z_lp2 (T := T) 50 (fun (i : Nat) (u7 : Int32) => [z0_, wwA, wt, [zO10 xo t im mk rd po co tr wa wb_ fi cd], [zO0 wb_ m2_64 wy2_65 l1 pc2_66 a1_78 a2_79 a3_80 a4_81 a5_82 a6_83, zAr T 0 a1_78 7 g1_67, zAr T 0 a2_79 7 g2_68, zAr T 0 a3_80 7 f3B, zAr T 0 a4_81 (zMk mdB n4B (zPl cr1_ inn1_ k11_)) g4_69, zAr T 0 a5_82 (zMk mdB n4B (zPl cr1_ inn1_ k11_)) g5_70, zAr T 0 a6_83 (zMk mdB n4B (zPl cr1_ inn1_ k11_)) g6_71], z1_]) (fun (i : Nat) (u7 : Int32) => [(8, .int (nI i)), (7, .int u7), (6, .ref wb_), (5, .ref l1), (0, .ref xo), (1, .int i1), (2, .int a_), (3, .int b_), (4, .int w_)]) (fun (i : Nat) (u7 : Int32) => i ≤ 16384) (fun (i : Nat) (u7 : Int32) => 16384 - i) ?_ 0 0 (show 0 ≤ 16384 from by omega) G (lv_sub hl [0, 1, 2, 3, 4, 5, 6, 7, 8] rfl)
        intro i u7 hi ih_50 H locs ls G hl
        replace hi : i ≤ 16384 := hi
        replace G : zS T A s.heap s [z0_, wwA, wt, [zO10 xo t im mk rd po co tr wa wb_ fi cd], [zO0 wb_ m2_64 wy2_65 l1 pc2_66 a1_78 a2_79 a3_80 a4_81 a5_82 a6_83, zAr T 0 a1_78 7 g1_67, zAr T 0 a2_79 7 g2_68, zAr T 0 a3_80 7 f3B, zAr T 0 a4_81 (zMk mdB n4B (zPl cr1_ inn1_ k11_)) g4_69, zAr T 0 a5_82 (zMk mdB n4B (zPl cr1_ inn1_ k11_)) g5_70, zAr T 0 a6_83 (zMk mdB n4B (zPl cr1_ inn1_ k11_)) g6_71], z1_] _ _ := G
        replace hl : lv_has ls 9 [(8, .int (nI i)), (7, .int u7), (6, .ref wb_), (5, .ref l1), (0, .ref xo), (1, .int i1), (2, .int a_), (3, .int b_), (4, .int w_)] := hl
        refine lv_iload hx hb dX11_lot_50 (lv_at hl 0 rfl) ?_
        refine lv_aload hx hb dX11_lot_52 (lv_at hl 2 rfl) ?_
        have G : zS T A s.heap s [z0_, wwA, wt, [zO10 xo t im mk rd po co tr wa wb_ fi cd], [zO0 wb_ m2_64 wy2_65 l1 pc2_66 a1_78 a2_79 a3_80 a4_81 a5_82 a6_83], [zAr T 0 a1_78 7 g1_67], [zAr T 0 a2_79 7 g2_68], [zAr T 0 a3_80 7 f3B], [zAr T 0 a4_81 (zMk mdB n4B (zPl cr1_ inn1_ k11_)) g4_69], [zAr T 0 a5_82 (zMk mdB n4B (zPl cr1_ inn1_ k11_)) g5_70], [zAr T 0 a6_83 (zMk mdB n4B (zPl cr1_ inn1_ k11_)) g6_71], z1_] _ _ := G.re rfl
        refine z_get C G clX0 4 rfl 1 (by decide) m_fl_RX11_257 rfl dX11_lot_54 ?_
        refine lv_icmp_ge (tgt := 81) hx hb dX11_lot_57 (by decide) (fun c_85 => ?_) (fun c_85 => ?_)
        · have c_85n : wy2_65.toInt ≤ (i : Int) := by have q := (fa_le _ _).mp c_85; rw [nI_toInt (n := i) (by omega)] at q; exact q
          refine lv_iload hx hb dX11_lot_81 (lv_at hl 1 rfl) ?_
          refine lv_aload hx hb dX11_lot_83 (lv_at hl 2 rfl) ?_
          refine z_get C G clX0 4 rfl 1 (by decide) m_fl_RX11_257 rfl dX11_lot_85 ?_
          refine lv_iload hx hb dX11_lot_88 (lv_at hl 8 rfl) ?_
          refine z_Si (bc := []) (br := [z0_, wwA, wt, [zO10 xo t im mk rd po co tr wa wb_ fi cd], [zO0 wb_ m2_64 wy2_65 l1 pc2_66 a1_78 a2_79 a3_80 a4_81 a5_82 a6_83], [zAr T 0 a1_78 7 g1_67], [zAr T 0 a2_79 7 g2_68], [zAr T 0 a3_80 7 f3B], [zAr T 0 a4_81 (zMk mdB n4B (zPl cr1_ inn1_ k11_)) g4_69], [zAr T 0 a5_82 (zMk mdB n4B (zPl cr1_ inn1_ k11_)) g5_70], [zAr T 0 a6_83 (zMk mdB n4B (zPl cr1_ inn1_ k11_)) g6_71], z1_]) (As := [.int u7, .int wy2_65, .int w_]) (rest := []) C G (c_inLeastTerms l T u7 wy2_65 w_) (kS_RX11_262 C.2.2.2.2 (Nat.le_of_ble_eq_true rfl) (Nat.le_of_ble_eq_true rfl)) [] [] rfl rfl rfl rfl hl.1 dX11_lot_90 (Nat.le_of_ble_eq_true rfl) (by show _ + 0 ≤ 6 * (zNA (i1.toInt = 0 ∧ 0 < (fk 0).toInt ∧ 0 ≤ a_.toInt ∧ a_.toInt < cr0_.toInt ∧ a_.toInt < 7 ∧ 0 ≤ b_.toInt ∧ b_.toInt < cr0_.toInt ∧ b_.toInt < 7 ∧ ¬ zBit inn0_ b_ = 0) mdA n4A (zPl cr0_ inn0_ k10_) - n4A) + 6 * (zNA (i1.toInt = 1 ∧ 1 < (fk 0).toInt ∧ 0 ≤ a_.toInt ∧ a_.toInt < cr1_.toInt ∧ a_.toInt < 7 ∧ 0 ≤ b_.toInt ∧ b_.toInt < cr1_.toInt ∧ b_.toInt < 7 ∧ ¬ zBit inn1_ b_ = 0) mdB n4B (zPl cr1_ inn1_ k11_) - n4B); omega) (fun r_86 b1 H locs hw G => ?_)
          obtain rfl := hw
          have G : zS T A s.heap s [z0_, wwA, wt, [zO10 xo t im mk rd po co tr wa wb_ fi cd], [zO0 wb_ m2_64 wy2_65 l1 pc2_66 a1_78 a2_79 a3_80 a4_81 a5_82 a6_83], [zAr T 0 a1_78 7 g1_67], [zAr T 0 a2_79 7 g2_68], [zAr T 0 a3_80 7 f3B], [zAr T 0 a4_81 (zMk mdB n4B (zPl cr1_ inn1_ k11_)) g4_69], [zAr T 0 a5_82 (zMk mdB n4B (zPl cr1_ inn1_ k11_)) g5_70], [zAr T 0 a6_83 (zMk mdB n4B (zPl cr1_ inn1_ k11_)) g6_71], z1_] _ _ := G
          have hw_87 : bWays T wb_ l1 m2_64 wy2_65 pc2_66 g1_67 g2_68 f3B g4_69 g5_70 g6_71 (zMk mdB n4B (zPl cr1_ inn1_ k11_)) [zO0 wb_ m2_64 wy2_65 l1 pc2_66 a1_78 a2_79 a3_80 a4_81 a5_82 a6_83, zAr T 0 a1_78 7 g1_67, zAr T 0 a2_79 7 g2_68, zAr T 0 a3_80 7 f3B, zAr T 0 a4_81 (zMk mdB n4B (zPl cr1_ inn1_ k11_)) g4_69, zAr T 0 a5_82 (zMk mdB n4B (zPl cr1_ inn1_ k11_)) g5_70, zAr T 0 a6_83 (zMk mdB n4B (zPl cr1_ inn1_ k11_)) g6_71] := ⟨a1_78, a2_79, a3_80, a4_81, a5_82, a6_83, rfl⟩
          have G : zS T A s.heap s [z0_, wwA, wt, [zO10 xo t im mk rd po co tr wa wb_ fi cd], [zO0 wb_ m2_64 wy2_65 l1 pc2_66 a1_78 a2_79 a3_80 a4_81 a5_82 a6_83, zAr T 0 a1_78 7 g1_67, zAr T 0 a2_79 7 g2_68, zAr T 0 a3_80 7 f3B, zAr T 0 a4_81 (zMk mdB n4B (zPl cr1_ inn1_ k11_)) g4_69, zAr T 0 a5_82 (zMk mdB n4B (zPl cr1_ inn1_ k11_)) g5_70, zAr T 0 a6_83 (zMk mdB n4B (zPl cr1_ inn1_ k11_)) g6_71], z1_] _ _ := G.re rfl
          have G := G.sub (bs' := [[zO10 xo t im mk rd po co tr wa wb_ fi cd], wt, z0_, z1_, wwA, [zO0 wb_ m2_64 wy2_65 l1 pc2_66 a1_78 a2_79 a3_80 a4_81 a5_82 a6_83, zAr T 0 a1_78 7 g1_67, zAr T 0 a2_79 7 g2_68, zAr T 0 a3_80 7 f3B, zAr T 0 a4_81 (zMk mdB n4B (zPl cr1_ inn1_ k11_)) g4_69, zAr T 0 a5_82 (zMk mdB n4B (zPl cr1_ inn1_ k11_)) g5_70, zAr T 0 a6_83 (zMk mdB n4B (zPl cr1_ inn1_ k11_)) g6_71]]) [3, 2, 0, 5, 1, 4] rfl
          exact z_back hQz_ (z_iret C hr hlocks G (Nat.le_of_ble_eq_true rfl) (by omega) dX11_lot_93 ⟨laA, mdA, wyA, pc_A, f1A, f2A, f3A, f4A, f5A, f6A, n4A, wwA, l1, m2_64, wy2_65, pc2_66, g1_67, g2_68, f3B, g4_69, g5_70, g6_71, (zMk mdB n4B (zPl cr1_ inn1_ k11_)), ([zO0 wb_ m2_64 wy2_65 l1 pc2_66 a1_78 a2_79 a3_80 a4_81 a5_82 a6_83, zAr T 0 a1_78 7 g1_67, zAr T 0 a2_79 7 g2_68, zAr T 0 a3_80 7 f3B, zAr T 0 a4_81 (zMk mdB n4B (zPl cr1_ inn1_ k11_)) g4_69, zAr T 0 a5_82 (zMk mdB n4B (zPl cr1_ inn1_ k11_)) g5_70, zAr T 0 a6_83 (zMk mdB n4B (zPl cr1_ inn1_ k11_)) g6_71]), rfl, hwwA, hmdA, hwmA, (by first | exact hNAo.symm | exact (zNA_n (by first | omega | grind)).symm), hpwA, (fun q => q), hw_87, (Or.inr rfl), hwy9, hNAm.symm, (zMk_pw hpwB), (fun _ => h_76)⟩)
        · have c_85n : ¬ wy2_65.toInt ≤ (i : Int) := fun q => c_85 ((fa_le _ _).mpr (by rw [nI_toInt (n := i) (by omega)]; exact q))
          refine lv_aload hx hb dX11_lot_60 (lv_at hl 2 rfl) ?_
          refine lv_iload hx hb dX11_lot_62 (lv_at hl 0 rfl) ?_
          refine lv_iload_n hx hb dX11_lot_64 rfl (lv_at hl 6 rfl) ?_
          have hw_88 : bWays T wb_ l1 m2_64 wy2_65 pc2_66 g1_67 g2_68 f3B g4_69 g5_70 g6_71 (zMk mdB n4B (zPl cr1_ inn1_ k11_)) [zO0 wb_ m2_64 wy2_65 l1 pc2_66 a1_78 a2_79 a3_80 a4_81 a5_82 a6_83, zAr T 0 a1_78 7 g1_67, zAr T 0 a2_79 7 g2_68, zAr T 0 a3_80 7 f3B, zAr T 0 a4_81 (zMk mdB n4B (zPl cr1_ inn1_ k11_)) g4_69, zAr T 0 a5_82 (zMk mdB n4B (zPl cr1_ inn1_ k11_)) g5_70, zAr T 0 a6_83 (zMk mdB n4B (zPl cr1_ inn1_ k11_)) g6_71] := ⟨a1_78, a2_79, a3_80, a4_81, a5_82, a6_83, rfl⟩
          have G : zS T A s.heap s [z0_, wwA, wt, [zO10 xo t im mk rd po co tr wa wb_ fi cd], [zO0 wb_ m2_64 wy2_65 l1 pc2_66 a1_78 a2_79 a3_80 a4_81 a5_82 a6_83, zAr T 0 a1_78 7 g1_67, zAr T 0 a2_79 7 g2_68, zAr T 0 a3_80 7 f3B, zAr T 0 a4_81 (zMk mdB n4B (zPl cr1_ inn1_ k11_)) g4_69, zAr T 0 a5_82 (zMk mdB n4B (zPl cr1_ inn1_ k11_)) g5_70, zAr T 0 a6_83 (zMk mdB n4B (zPl cr1_ inn1_ k11_)) g6_71], z1_] _ _ := G.re rfl
          refine z_Vi (bc := [[zO0 wb_ m2_64 wy2_65 l1 pc2_66 a1_78 a2_79 a3_80 a4_81 a5_82 a6_83, zAr T 0 a1_78 7 g1_67, zAr T 0 a2_79 7 g2_68, zAr T 0 a3_80 7 f3B, zAr T 0 a4_81 (zMk mdB n4B (zPl cr1_ inn1_ k11_)) g4_69, zAr T 0 a5_82 (zMk mdB n4B (zPl cr1_ inn1_ k11_)) g5_70, zAr T 0 a6_83 (zMk mdB n4B (zPl cr1_ inn1_ k11_)) g6_71]]) (br := [z0_, wwA, wt, [zO10 xo t im mk rd po co tr wa wb_ fi cd], z1_]) (As := [.int (nI i), .int a_]) (rest := []) C G (c_where l T wb_ l1 m2_64 wy2_65 pc2_66 g1_67 g2_68 f3B g4_69 g5_70 g6_71 (zMk mdB n4B (zPl cr1_ inn1_ k11_)) ([zO0 wb_ m2_64 wy2_65 l1 pc2_66 a1_78 a2_79 a3_80 a4_81 a5_82 a6_83, zAr T 0 a1_78 7 g1_67, zAr T 0 a2_79 7 g2_68, zAr T 0 a3_80 7 f3B, zAr T 0 a4_81 (zMk mdB n4B (zPl cr1_ inn1_ k11_)) g4_69, zAr T 0 a5_82 (zMk mdB n4B (zPl cr1_ inn1_ k11_)) g5_70, zAr T 0 a6_83 (zMk mdB n4B (zPl cr1_ inn1_ k11_)) g6_71]) (nI i) a_ hw_88 (by first | with_reducible assumption | with_reducible rfl | omega | assumption | rfl)) (kV_RX11_260 C.2.2.2.2 (Nat.le_of_ble_eq_true rfl) (Nat.le_of_ble_eq_true rfl)) [4] [4] rfl rfl (ci := 0) (qc := (RX0, TX0, 10)) rfl rfl (List.mem_flatten.mpr ⟨_, List.mem_of_getElem? (i := 0) rfl, (bWays_mem hw_88).choose_spec⟩) rfl rfl hl.1 dX11_lot_65 (Nat.le_of_ble_eq_true rfl) (by show _ + 0 ≤ 6 * (zNA (i1.toInt = 0 ∧ 0 < (fk 0).toInt ∧ 0 ≤ a_.toInt ∧ a_.toInt < cr0_.toInt ∧ a_.toInt < 7 ∧ 0 ≤ b_.toInt ∧ b_.toInt < cr0_.toInt ∧ b_.toInt < 7 ∧ ¬ zBit inn0_ b_ = 0) mdA n4A (zPl cr0_ inn0_ k10_) - n4A) + 6 * (zNA (i1.toInt = 1 ∧ 1 < (fk 0).toInt ∧ 0 ≤ a_.toInt ∧ a_.toInt < cr1_.toInt ∧ a_.toInt < 7 ∧ 0 ≤ b_.toInt ∧ b_.toInt < cr1_.toInt ∧ b_.toInt < 7 ∧ ¬ zBit inn1_ b_ = 0) mdB n4B (zPl cr1_ inn1_ k11_) - n4B); omega) (fun r_90 b1 H locs hw G => ?_)
          refine zAn2 hw ?_
          intro hbs9 h_89
          clear hw
          subst hbs9
          have G : zS T A s.heap s [z0_, wwA, wt, [zO10 xo t im mk rd po co tr wa wb_ fi cd], z1_, [zO0 wb_ m2_64 wy2_65 l1 pc2_66 a1_78 a2_79 a3_80 a4_81 a5_82 a6_83, zAr T 0 a1_78 7 g1_67, zAr T 0 a2_79 7 g2_68, zAr T 0 a3_80 7 f3B, zAr T 0 a4_81 (zMk mdB n4B (zPl cr1_ inn1_ k11_)) g4_69, zAr T 0 a5_82 (zMk mdB n4B (zPl cr1_ inn1_ k11_)) g5_70, zAr T 0 a6_83 (zMk mdB n4B (zPl cr1_ inn1_ k11_)) g6_71]] _ _ := G
          subst h_89
          refine lv_iload_n hx hb dX11_lot_68 rfl (lv_at hl 7 rfl) ?_
          refine lv_icmp_ne (tgt := 75) hx hb dX11_lot_69 (by decide) (fun c_91 => ?_) (fun c_91 => ?_)
          · have c_91n : ¬ (zEntry g5_70 (zMk mdB n4B (zPl cr1_ inn1_ k11_)) (nI i) a_ &&& 7).toInt = b_.toInt := fun q => c_91 ((fa_eq _ _).mpr q)
            refine lv_iinc (v := nI (i + 1)) (lv' := [(8, .int (nI (i + 1))), (7, .int u7), (6, .ref wb_), (5, .ref l1), (0, .ref xo), (1, .int i1), (2, .int a_), (3, .int b_), (4, .int w_)]) hx hb dX11_lot_75 hl (k := 0) rfl (z_inc i 1) (by decide) (zLvf_h rfl) (fun ls hl => ?_)
            refine lv_goto (tgt := 50) hx hb dX11_lot_78 (by decide) ?_
            have G := G.sub (bs' := [z0_, wwA, wt, [zO10 xo t im mk rd po co tr wa wb_ fi cd], [zO0 wb_ m2_64 wy2_65 l1 pc2_66 a1_78 a2_79 a3_80 a4_81 a5_82 a6_83, zAr T 0 a1_78 7 g1_67, zAr T 0 a2_79 7 g2_68, zAr T 0 a3_80 7 f3B, zAr T 0 a4_81 (zMk mdB n4B (zPl cr1_ inn1_ k11_)) g4_69, zAr T 0 a5_82 (zMk mdB n4B (zPl cr1_ inn1_ k11_)) g5_70, zAr T 0 a6_83 (zMk mdB n4B (zPl cr1_ inn1_ k11_)) g6_71], z1_]) [0, 1, 2, 3, 5, 4] rfl
            exact ih_50 (i + 1) u7 (show (i + 1) ≤ 16384 from by omega) (show 16384 - (i + 1) < 16384 - i from by omega) _ _ ls G (lv_sub hl [0, 1, 2, 3, 4, 5, 6, 7, 8] rfl)
          · have c_91n : (zEntry g5_70 (zMk mdB n4B (zPl cr1_ inn1_ k11_)) (nI i) a_ &&& 7).toInt = b_.toInt := (fa_eq _ _).mp c_91
            refine lv_iinc (v := u7 + 1) (lv' := [(7, .int (u7 + 1)), (8, .int (nI i)), (6, .ref wb_), (5, .ref l1), (0, .ref xo), (1, .int i1), (2, .int a_), (3, .int b_), (4, .int w_)]) hx hb dX11_lot_72 hl (k := 1) rfl rfl (by decide) (zLvf_h rfl) (fun ls hl => ?_)
            refine lv_iinc (v := nI (i + 1)) (lv' := [(8, .int (nI (i + 1))), (7, .int (u7 + 1)), (6, .ref wb_), (5, .ref l1), (0, .ref xo), (1, .int i1), (2, .int a_), (3, .int b_), (4, .int w_)]) hx hb dX11_lot_75 hl (k := 1) rfl (z_inc i 1) (by decide) (zLvf_h rfl) (fun ls hl => ?_)
            refine lv_goto (tgt := 50) hx hb dX11_lot_78 (by decide) ?_
            have G := G.sub (bs' := [z0_, wwA, wt, [zO10 xo t im mk rd po co tr wa wb_ fi cd], [zO0 wb_ m2_64 wy2_65 l1 pc2_66 a1_78 a2_79 a3_80 a4_81 a5_82 a6_83, zAr T 0 a1_78 7 g1_67, zAr T 0 a2_79 7 g2_68, zAr T 0 a3_80 7 f3B, zAr T 0 a4_81 (zMk mdB n4B (zPl cr1_ inn1_ k11_)) g4_69, zAr T 0 a5_82 (zMk mdB n4B (zPl cr1_ inn1_ k11_)) g5_70, zAr T 0 a6_83 (zMk mdB n4B (zPl cr1_ inn1_ k11_)) g6_71], z1_]) [0, 1, 2, 3, 5, 4] rfl
            exact ih_50 (i + 1) (u7 + 1) (show (i + 1) ≤ 16384 from by omega) (show 16384 - (i + 1) < 16384 - i from by omega) _ _ ls G (lv_sub hl [0, 1, 2, 3, 4, 5, 6, 7, 8] rfl)
      · have h_62 : (b_.toInt < 0 ∨ cr1_.toInt ≤ b_.toInt ∨ 7 ≤ b_.toInt ∨ zBit inn1_ b_ = 0) := h_62
        refine lv_if_ne (tgt := 35) hx hb dX11_lot_30 (by decide) (fun q => absurd (by decide) q) (fun _ => ?_)
        refine lv_iconst (v := (-1)) hx hb dX11_lot_33 (by decide) ?_
        have G := G.sub (bs' := [[zO10 xo t im mk rd po co tr wa wb_ fi cd], wt, z0_, z1_, wwA, wwB]) [0, 4, 1, 5, 2, 3] rfl
        exact z_back hQz_ (z_iret C hr hlocks G (Nat.le_of_ble_eq_true rfl) (by omega) dX11_lot_34 ⟨laA, mdA, wyA, pc_A, f1A, f2A, f3A, f4A, f5A, f6A, n4A, wwA, laB, mdB, wyB, pc_B, f1B, f2B, f3B, f4B, f5B, f6B, n4B, wwB, rfl, hwwA, hmdA, hwmA, (by first | exact hNAo.symm | exact (zNA_n (by first | omega | grind)).symm), hpwA, (fun q => q), hwwB, hmdB, hwmB, (by first | exact hNAo.symm | exact (zNA_n (by first | omega | grind)).symm), hpwB, (fun q => q)⟩)
    · have h_55 : (a_.toInt < 0 ∨ cr1_.toInt ≤ a_.toInt ∨ 7 ≤ a_.toInt) := h_55
      refine lv_if_eq (tgt := 33) hx hb dX11_lot_21 (by decide) (fun _ => ?_) (fun q => absurd (by decide) q)
      refine lv_iconst (v := (-1)) hx hb dX11_lot_33 (by decide) ?_
      have G := G.sub (bs' := [[zO10 xo t im mk rd po co tr wa wb_ fi cd], wt, z0_, z1_, wwA, wwB]) [0, 4, 1, 5, 2, 3] rfl
      exact z_back hQz_ (z_iret C hr hlocks G (Nat.le_of_ble_eq_true rfl) (by omega) dX11_lot_34 ⟨laA, mdA, wyA, pc_A, f1A, f2A, f3A, f4A, f5A, f6A, n4A, wwA, laB, mdB, wyB, pc_B, f1B, f2B, f3B, f4B, f5B, f6B, n4B, wwB, rfl, hwwA, hmdA, hwmA, (by first | exact hNAo.symm | exact (zNA_n (by first | omega | grind)).symm), hpwA, (fun q => q), hwwB, hmdB, hwmB, (by first | exact hNAo.symm | exact (zNA_n (by first | omega | grind)).symm), hpwB, (fun q => q)⟩)
theorem m_ml_RX11_266 : Cond.methodLink RX11 266 yX0_steps ∈ zT := zmem1 zsub_5 49 rfl rfl
theorem m_co_X0_number : Cond.code yX0_number cX0_number 4 (some .int) ∈ zT := zmem1 zsub_5 81 rfl rfl
theorem m_ml_RX11_272 : Cond.methodLink RX11 272 yX0_number ∈ zT := zmem1 zsub_5 78 rfl rfl
theorem m_im_X0_number : Cond.instanceMethod yX0_number ∈ zT := zmem1 zsub_5 79 rfl rfl
theorem m_se_X0_number : Cond.selects RX0 yX0_number yX0_number ∈ zT := zmem1 zsub_5 80 rfl rfl
theorem m_ml_RX11_242 : Cond.methodLink RX11 242 yX0_wayTold ∈ zT := zmem1 zsub_5 33 rfl rfl
theorem m_ml_RX11_275 : Cond.methodLink RX11 275 yX0_wayAfter ∈ zT := zmem1 zsub_5 86 rfl rfl
theorem m_co_X0_nearestWay : Cond.code yX0_nearestWay cX0_nearestWay 9 (some .int) ∈ zT := zmem1 zsub_5 15 rfl rfl
theorem m_ml_RX11_239 : Cond.methodLink RX11 239 yX0_nearestWay ∈ zT := zmem1 zsub_5 12 rfl rfl
theorem m_im_X0_nearestWay : Cond.instanceMethod yX0_nearestWay ∈ zT := zmem1 zsub_5 13 rfl rfl
theorem m_se_X0_nearestWay : Cond.selects RX0 yX0_nearestWay yX0_nearestWay ∈ zT := zmem1 zsub_5 14 rfl rfl
theorem m_ml_RX11_245 : Cond.methodLink RX11 245 yX0_unlike ∈ zT := zmem1 zsub_5 34 rfl rfl
theorem m_ml_RX11_253 : Cond.methodLink RX11 253 yX0_road ∈ zT := zmem1 zsub_5 36 rfl rfl
theorem m_ml_RX11_248 : Cond.methodLink RX11 248 yJ6_bitCount_0f7a4 ∈ zT := zmem1 zsub_5 35 rfl rfl
theorem m_co_X11_bestTurn : Cond.code yX11_bestTurn cX11_bestTurn 7 (some .int) ∈ zT := zmem1 zsub_5 105 rfl rfl
theorem m_ml_RX11_282 : Cond.methodLink RX11 282 yX11_bestTurn ∈ zT := zmem1 zsub_5 103 rfl rfl
theorem m_st_X11_bestTurn : Cond.static yX11_bestTurn ∈ zT := zmem1 zsub_5 104 rfl rfl
theorem kV_RX11_266 {R : Room} {s : State} {args : Array Value} {d mc ms : Nat} (hts : ∀ w ∈ zT, w.before args s = true) (h1 : d + 1 ≤ R.frames) (h2 : 8 + (3 + 11) + 40 * d ≤ R.locals) : CallW R s args RX11 RX0 266 yX0_steps cX0_steps 3 (some .int) (zW yX0_steps cX0_steps 3 (some .int)) (zR d mc ms) mc ms 2 := z_cwV hts m_co_X0_steps m_ml_RX11_266 m_im_X0_steps m_se_X0_steps m_ii_RX0 (by decide +kernel) h1 h2
theorem kV_RX11_272 {R : Room} {s : State} {args : Array Value} {d mc ms : Nat} (hts : ∀ w ∈ zT, w.before args s = true) (h1 : d + 1 ≤ R.frames) (h2 : 8 + (4 + 11) + 40 * d ≤ R.locals) : CallW R s args RX11 RX0 272 yX0_number cX0_number 4 (some .int) (zW yX0_number cX0_number 4 (some .int)) (zR d mc ms) mc ms 1 := z_cwV hts m_co_X0_number m_ml_RX11_272 m_im_X0_number m_se_X0_number m_ii_RX0 (by decide +kernel) h1 h2
theorem kV_RX11_242 {R : Room} {s : State} {args : Array Value} {d mc ms : Nat} (hts : ∀ w ∈ zT, w.before args s = true) (h1 : d + 1 ≤ R.frames) (h2 : 8 + (3 + 11) + 40 * d ≤ R.locals) : CallW R s args RX11 RX0 242 yX0_wayTold cX0_wayTold 3 (some .int) (zW yX0_wayTold cX0_wayTold 3 (some .int)) (zR d mc ms) mc ms 0 := z_cwV hts m_co_X0_wayTold m_ml_RX11_242 m_im_X0_wayTold m_se_X0_wayTold m_ii_RX0 (by decide +kernel) h1 h2
theorem kV_RX11_275 {R : Room} {s : State} {args : Array Value} {d mc ms : Nat} (hts : ∀ w ∈ zT, w.before args s = true) (h1 : d + 1 ≤ R.frames) (h2 : 8 + (3 + 11) + 40 * d ≤ R.locals) : CallW R s args RX11 RX0 275 yX0_wayAfter cX0_wayAfter 3 (some .int) (zW yX0_wayAfter cX0_wayAfter 3 (some .int)) (zR d mc ms) mc ms 2 := z_cwV hts m_co_X0_wayAfter m_ml_RX11_275 m_im_X0_wayAfter m_se_X0_wayAfter m_ii_RX0 (by decide +kernel) h1 h2
theorem kV_RX11_239 {R : Room} {s : State} {args : Array Value} {d mc ms : Nat} (hts : ∀ w ∈ zT, w.before args s = true) (h1 : d + 1 ≤ R.frames) (h2 : 8 + (9 + 11) + 40 * d ≤ R.locals) : CallW R s args RX11 RX0 239 yX0_nearestWay cX0_nearestWay 9 (some .int) (zW yX0_nearestWay cX0_nearestWay 9 (some .int)) (zR d mc ms) mc ms 2 := z_cwV hts m_co_X0_nearestWay m_ml_RX11_239 m_im_X0_nearestWay m_se_X0_nearestWay m_ii_RX0 (by decide +kernel) h1 h2
theorem kV_RX11_245 {R : Room} {s : State} {args : Array Value} {d mc ms : Nat} (hts : ∀ w ∈ zT, w.before args s = true) (h1 : d + 1 ≤ R.frames) (h2 : 8 + (5 + 11) + 40 * d ≤ R.locals) : CallW R s args RX11 RX0 245 yX0_unlike cX0_unlike 5 (some .int) (zW yX0_unlike cX0_unlike 5 (some .int)) (zR d mc ms) mc ms 2 := z_cwV hts m_co_X0_unlike m_ml_RX11_245 m_im_X0_unlike m_se_X0_unlike m_ii_RX0 (by decide +kernel) h1 h2
theorem kV_RX11_253 {R : Room} {s : State} {args : Array Value} {d mc ms : Nat} (hts : ∀ w ∈ zT, w.before args s = true) (h1 : d + 1 ≤ R.frames) (h2 : 8 + (3 + 11) + 40 * d ≤ R.locals) : CallW R s args RX11 RX0 253 yX0_road cX0_road 3 (some .int) (zW yX0_road cX0_road 3 (some .int)) (zR d mc ms) mc ms 2 := z_cwV hts m_co_X0_road m_ml_RX11_253 m_im_X0_road m_se_X0_road m_ii_RX0 (by decide +kernel) h1 h2
theorem kS_RX11_248 {R : Room} {s : State} {args : Array Value} {d mc ms : Nat} (hts : ∀ w ∈ zT, w.before args s = true) (h1 : d + 1 ≤ R.frames) (h2 : 8 + (1 + 11) + 40 * d ≤ R.locals) : CallB R s args RX11 248 yJ6_bitCount_0f7a4 cJ6_bitCount_0f7a4 1 (some .int) (zW yJ6_bitCount_0f7a4 cJ6_bitCount_0f7a4 1 (some .int)) (zR d mc ms) mc ms 1 ∧ (Cond.static yJ6_bitCount_0f7a4).before args s = true := z_cwS hts m_co_J6_bitCount_0f7a4 m_ml_RX11_248 m_st_J6_bitCount_0f7a4 m_ii_RJ6 (by decide +kernel) h1 h2
theorem kS_RX11_282 {R : Room} {s : State} {args : Array Value} {d mc ms : Nat} (hts : ∀ w ∈ zT, w.before args s = true) (h1 : d + 1 ≤ R.frames) (h2 : 8 + (7 + 11) + 40 * d ≤ R.locals) : CallB R s args RX11 282 yX11_bestTurn cX11_bestTurn 7 (some .int) (zW yX11_bestTurn cX11_bestTurn 7 (some .int)) (zR d mc ms) mc ms 5 ∧ (Cond.static yX11_bestTurn).before args s = true := z_cwS hts m_co_X11_bestTurn m_ml_RX11_282 m_st_X11_bestTurn m_ii_RX11 (by decide +kernel) h1 h2
theorem dX11_mean_0 : decode cX11_mean 0 = .ok (.aload_n 0, 1) := zo_42 (by decide +kernel)
theorem dX11_mean_1 : decode cX11_mean 1 = .ok (.getfield 10, 3) := zo_180 (by decide +kernel)
theorem dX11_mean_4 : decode cX11_mean 4 = .ok (.iload_n 1, 1) := zo_27 (by decide +kernel)
theorem dX11_mean_5 : decode cX11_mean 5 = .ok (.invokevirtual 121, 3) := zo_182 (by decide +kernel)
theorem dX11_mean_8 : decode cX11_mean 8 = .ok (.astore 4, 2) := zo_58 (by decide +kernel)
theorem dX11_mean_10 : decode cX11_mean 10 = .ok (.aload 4, 2) := zo_25 (by decide +kernel)
theorem dX11_mean_12 : decode cX11_mean 12 = .ok (.ifnull 12, 3) := zo_198 (by decide +kernel)
theorem dX11_mean_15 : decode cX11_mean 15 = .ok (.aload 4, 2) := zo_25 (by decide +kernel)
theorem dX11_mean_17 : decode cX11_mean 17 = .ok (.iload_n 2, 1) := zo_28 (by decide +kernel)
theorem dX11_mean_18 : decode cX11_mean 18 = .ok (.invokevirtual 160, 3) := zo_182 (by decide +kernel)
theorem dX11_mean_21 : decode cX11_mean 21 = .ok (.ifCond .ne 5, 3) := zo_154 (by decide +kernel)
theorem dX11_mean_24 : decode cX11_mean 24 = .ok (.iconst (-1), 1) := zo_2 (by decide +kernel)
theorem dX11_mean_25 : decode cX11_mean 25 = .ok (.ireturn, 1) := zo_172 (by decide +kernel)
theorem dX11_mean_26 : decode cX11_mean 26 = .ok (.aload_n 0, 1) := zo_42 (by decide +kernel)
theorem dX11_mean_27 : decode cX11_mean 27 = .ok (.iload_n 1, 1) := zo_27 (by decide +kernel)
theorem dX11_mean_28 : decode cX11_mean 28 = .ok (.aload 4, 2) := zo_25 (by decide +kernel)
theorem dX11_mean_30 : decode cX11_mean 30 = .ok (.invokevirtual 235, 3) := zo_182 (by decide +kernel)
theorem dX11_mean_33 : decode cX11_mean 33 = .ok (.astore 5, 2) := zo_58 (by decide +kernel)
theorem dX11_mean_35 : decode cX11_mean 35 = .ok (.iconst 0, 1) := zo_3 (by decide +kernel)
theorem dX11_mean_36 : decode cX11_mean 36 = .ok (.istore 6, 2) := zo_54 (by decide +kernel)
theorem dX11_mean_38 : decode cX11_mean 38 = .ok (.iconst 0, 1) := zo_3 (by decide +kernel)
theorem dX11_mean_39 : decode cX11_mean 39 = .ok (.istore 7, 2) := zo_54 (by decide +kernel)
theorem dX11_mean_41 : decode cX11_mean 41 = .ok (.iload 7, 2) := zo_21 (by decide +kernel)
theorem dX11_mean_43 : decode cX11_mean 43 = .ok (.aload 5, 2) := zo_25 (by decide +kernel)
theorem dX11_mean_45 : decode cX11_mean 45 = .ok (.getfield 257, 3) := zo_180 (by decide +kernel)
theorem dX11_mean_48 : decode cX11_mean 48 = .ok (.if_icmp .ge 40, 3) := zo_162 (by decide +kernel)
theorem dX11_mean_51 : decode cX11_mean 51 = .ok (.aload 4, 2) := zo_25 (by decide +kernel)
theorem dX11_mean_53 : decode cX11_mean 53 = .ok (.aload 5, 2) := zo_25 (by decide +kernel)
theorem dX11_mean_55 : decode cX11_mean 55 = .ok (.iload 7, 2) := zo_21 (by decide +kernel)
theorem dX11_mean_57 : decode cX11_mean 57 = .ok (.iload_n 2, 1) := zo_28 (by decide +kernel)
theorem dX11_mean_58 : decode cX11_mean 58 = .ok (.invokevirtual 260, 3) := zo_182 (by decide +kernel)
theorem dX11_mean_61 : decode cX11_mean 61 = .ok (.invokevirtual 174, 3) := zo_182 (by decide +kernel)
theorem dX11_mean_64 : decode cX11_mean 64 = .ok (.ifCond .ne 5, 3) := zo_154 (by decide +kernel)
theorem dX11_mean_67 : decode cX11_mean 67 = .ok (.iconst (-1), 1) := zo_2 (by decide +kernel)
theorem dX11_mean_68 : decode cX11_mean 68 = .ok (.ireturn, 1) := zo_172 (by decide +kernel)
theorem dX11_mean_69 : decode cX11_mean 69 = .ok (.iload 6, 2) := zo_21 (by decide +kernel)
theorem dX11_mean_71 : decode cX11_mean 71 = .ok (.aload 5, 2) := zo_25 (by decide +kernel)
theorem dX11_mean_73 : decode cX11_mean 73 = .ok (.iload 7, 2) := zo_21 (by decide +kernel)
theorem dX11_mean_75 : decode cX11_mean 75 = .ok (.iload_n 2, 1) := zo_28 (by decide +kernel)
theorem dX11_mean_76 : decode cX11_mean 76 = .ok (.invokevirtual 266, 3) := zo_182 (by decide +kernel)
theorem dX11_mean_79 : decode cX11_mean 79 = .ok (.iadd, 1) := zo_96 (by decide +kernel)
theorem dX11_mean_80 : decode cX11_mean 80 = .ok (.istore 6, 2) := zo_54 (by decide +kernel)
theorem dX11_mean_82 : decode cX11_mean 82 = .ok (.iinc 7 1, 3) := zo_132 (by decide +kernel)
theorem dX11_mean_85 : decode cX11_mean 85 = .ok (.goto (-44), 3) := zo_167 (by decide +kernel)
theorem dX11_mean_88 : decode cX11_mean 88 = .ok (.iload 6, 2) := zo_21 (by decide +kernel)
theorem dX11_mean_90 : decode cX11_mean 90 = .ok (.aload 5, 2) := zo_25 (by decide +kernel)
theorem dX11_mean_92 : decode cX11_mean 92 = .ok (.getfield 257, 3) := zo_180 (by decide +kernel)
theorem dX11_mean_95 : decode cX11_mean 95 = .ok (.iload_n 3, 1) := zo_29 (by decide +kernel)
theorem dX11_mean_96 : decode cX11_mean 96 = .ok (.invokestatic 262, 3) := zo_184 (by decide +kernel)
theorem dX11_mean_99 : decode cX11_mean 99 = .ok (.ireturn, 1) := zo_172 (by decide +kernel)
theorem dX11_longest_0 : decode cX11_longest 0 = .ok (.aload_n 0, 1) := zo_42 (by decide +kernel)
theorem dX11_longest_1 : decode cX11_longest 1 = .ok (.getfield 10, 3) := zo_180 (by decide +kernel)
theorem dX11_longest_4 : decode cX11_longest 4 = .ok (.iload_n 1, 1) := zo_27 (by decide +kernel)
theorem dX11_longest_5 : decode cX11_longest 5 = .ok (.invokevirtual 121, 3) := zo_182 (by decide +kernel)
theorem dX11_longest_8 : decode cX11_longest 8 = .ok (.astore 5, 2) := zo_58 (by decide +kernel)
theorem dX11_longest_10 : decode cX11_longest 10 = .ok (.aload 5, 2) := zo_25 (by decide +kernel)
theorem dX11_longest_12 : decode cX11_longest 12 = .ok (.ifnull 12, 3) := zo_198 (by decide +kernel)
theorem dX11_longest_15 : decode cX11_longest 15 = .ok (.aload 5, 2) := zo_25 (by decide +kernel)
theorem dX11_longest_17 : decode cX11_longest 17 = .ok (.iload_n 2, 1) := zo_28 (by decide +kernel)
theorem dX11_longest_18 : decode cX11_longest 18 = .ok (.invokevirtual 160, 3) := zo_182 (by decide +kernel)
theorem dX11_longest_21 : decode cX11_longest 21 = .ok (.ifCond .ne 5, 3) := zo_154 (by decide +kernel)
theorem dX11_longest_24 : decode cX11_longest 24 = .ok (.iconst (-1), 1) := zo_2 (by decide +kernel)
theorem dX11_longest_25 : decode cX11_longest 25 = .ok (.ireturn, 1) := zo_172 (by decide +kernel)
theorem dX11_longest_26 : decode cX11_longest 26 = .ok (.aload_n 0, 1) := zo_42 (by decide +kernel)
theorem dX11_longest_27 : decode cX11_longest 27 = .ok (.iload_n 1, 1) := zo_27 (by decide +kernel)
theorem dX11_longest_28 : decode cX11_longest 28 = .ok (.aload 5, 2) := zo_25 (by decide +kernel)
theorem dX11_longest_30 : decode cX11_longest 30 = .ok (.invokevirtual 235, 3) := zo_182 (by decide +kernel)
theorem dX11_longest_33 : decode cX11_longest 33 = .ok (.astore 6, 2) := zo_58 (by decide +kernel)
theorem dX11_longest_35 : decode cX11_longest 35 = .ok (.iconst (-1), 1) := zo_2 (by decide +kernel)
theorem dX11_longest_36 : decode cX11_longest 36 = .ok (.istore 7, 2) := zo_54 (by decide +kernel)
theorem dX11_longest_38 : decode cX11_longest 38 = .ok (.iconst (-1), 1) := zo_2 (by decide +kernel)
theorem dX11_longest_39 : decode cX11_longest 39 = .ok (.istore 8, 2) := zo_54 (by decide +kernel)
theorem dX11_longest_41 : decode cX11_longest 41 = .ok (.iconst 0, 1) := zo_3 (by decide +kernel)
theorem dX11_longest_42 : decode cX11_longest 42 = .ok (.istore 9, 2) := zo_54 (by decide +kernel)
theorem dX11_longest_44 : decode cX11_longest 44 = .ok (.iload 9, 2) := zo_21 (by decide +kernel)
theorem dX11_longest_46 : decode cX11_longest 46 = .ok (.aload 6, 2) := zo_25 (by decide +kernel)
theorem dX11_longest_48 : decode cX11_longest 48 = .ok (.getfield 257, 3) := zo_180 (by decide +kernel)
theorem dX11_longest_51 : decode cX11_longest 51 = .ok (.if_icmp .ge 82, 3) := zo_162 (by decide +kernel)
theorem dX11_longest_54 : decode cX11_longest 54 = .ok (.aload 6, 2) := zo_25 (by decide +kernel)
theorem dX11_longest_56 : decode cX11_longest 56 = .ok (.iload 9, 2) := zo_21 (by decide +kernel)
theorem dX11_longest_58 : decode cX11_longest 58 = .ok (.iload_n 2, 1) := zo_28 (by decide +kernel)
theorem dX11_longest_59 : decode cX11_longest 59 = .ok (.invokevirtual 266, 3) := zo_182 (by decide +kernel)
theorem dX11_longest_62 : decode cX11_longest 62 = .ok (.istore 10, 2) := zo_54 (by decide +kernel)
theorem dX11_longest_64 : decode cX11_longest 64 = .ok (.iload 7, 2) := zo_21 (by decide +kernel)
theorem dX11_longest_66 : decode cX11_longest 66 = .ok (.iconst (-1), 1) := zo_2 (by decide +kernel)
theorem dX11_longest_67 : decode cX11_longest 67 = .ok (.if_icmp .eq 24, 3) := zo_159 (by decide +kernel)
theorem dX11_longest_70 : decode cX11_longest 70 = .ok (.iload_n 3, 1) := zo_29 (by decide +kernel)
theorem dX11_longest_71 : decode cX11_longest 71 = .ok (.ifCond .eq 13, 3) := zo_153 (by decide +kernel)
theorem dX11_longest_74 : decode cX11_longest 74 = .ok (.iload 10, 2) := zo_21 (by decide +kernel)
theorem dX11_longest_76 : decode cX11_longest 76 = .ok (.iload 7, 2) := zo_21 (by decide +kernel)
theorem dX11_longest_78 : decode cX11_longest 78 = .ok (.if_icmp .ge 17, 3) := zo_162 (by decide +kernel)
theorem dX11_longest_81 : decode cX11_longest 81 = .ok (.goto 10, 3) := zo_167 (by decide +kernel)
theorem dX11_longest_84 : decode cX11_longest 84 = .ok (.iload 10, 2) := zo_21 (by decide +kernel)
theorem dX11_longest_86 : decode cX11_longest 86 = .ok (.iload 7, 2) := zo_21 (by decide +kernel)
theorem dX11_longest_88 : decode cX11_longest 88 = .ok (.if_icmp .le 7, 3) := zo_164 (by decide +kernel)
theorem dX11_longest_91 : decode cX11_longest 91 = .ok (.iconst 1, 1) := zo_4 (by decide +kernel)
theorem dX11_longest_92 : decode cX11_longest 92 = .ok (.goto 4, 3) := zo_167 (by decide +kernel)
theorem dX11_longest_95 : decode cX11_longest 95 = .ok (.iconst 0, 1) := zo_3 (by decide +kernel)
theorem dX11_longest_96 : decode cX11_longest 96 = .ok (.istore 11, 2) := zo_54 (by decide +kernel)
theorem dX11_longest_98 : decode cX11_longest 98 = .ok (.iload 11, 2) := zo_21 (by decide +kernel)
theorem dX11_longest_100 : decode cX11_longest 100 = .ok (.ifCond .eq 27, 3) := zo_153 (by decide +kernel)
theorem dX11_longest_103 : decode cX11_longest 103 = .ok (.aload 5, 2) := zo_25 (by decide +kernel)
theorem dX11_longest_105 : decode cX11_longest 105 = .ok (.aload 6, 2) := zo_25 (by decide +kernel)
theorem dX11_longest_107 : decode cX11_longest 107 = .ok (.iload 9, 2) := zo_21 (by decide +kernel)
theorem dX11_longest_109 : decode cX11_longest 109 = .ok (.iload_n 2, 1) := zo_28 (by decide +kernel)
theorem dX11_longest_110 : decode cX11_longest 110 = .ok (.invokevirtual 260, 3) := zo_182 (by decide +kernel)
theorem dX11_longest_113 : decode cX11_longest 113 = .ok (.invokevirtual 174, 3) := zo_182 (by decide +kernel)
theorem dX11_longest_116 : decode cX11_longest 116 = .ok (.ifCond .eq 11, 3) := zo_153 (by decide +kernel)
theorem dX11_longest_119 : decode cX11_longest 119 = .ok (.iload 10, 2) := zo_21 (by decide +kernel)
theorem dX11_longest_121 : decode cX11_longest 121 = .ok (.istore 7, 2) := zo_54 (by decide +kernel)
theorem dX11_longest_123 : decode cX11_longest 123 = .ok (.iload 9, 2) := zo_21 (by decide +kernel)
theorem dX11_longest_125 : decode cX11_longest 125 = .ok (.istore 8, 2) := zo_54 (by decide +kernel)
theorem dX11_longest_127 : decode cX11_longest 127 = .ok (.iinc 9 1, 3) := zo_132 (by decide +kernel)
theorem dX11_longest_130 : decode cX11_longest 130 = .ok (.goto (-86), 3) := zo_167 (by decide +kernel)
theorem dX11_longest_133 : decode cX11_longest 133 = .ok (.iload 4, 2) := zo_21 (by decide +kernel)
theorem dX11_longest_135 : decode cX11_longest 135 = .ok (.ifCond .eq 19, 3) := zo_153 (by decide +kernel)
theorem dX11_longest_138 : decode cX11_longest 138 = .ok (.iload 8, 2) := zo_21 (by decide +kernel)
theorem dX11_longest_140 : decode cX11_longest 140 = .ok (.iconst (-1), 1) := zo_2 (by decide +kernel)
theorem dX11_longest_141 : decode cX11_longest 141 = .ok (.if_icmp .eq 13, 3) := zo_159 (by decide +kernel)
theorem dX11_longest_144 : decode cX11_longest 144 = .ok (.aload 6, 2) := zo_25 (by decide +kernel)
theorem dX11_longest_146 : decode cX11_longest 146 = .ok (.iload 8, 2) := zo_21 (by decide +kernel)
theorem dX11_longest_148 : decode cX11_longest 148 = .ok (.invokevirtual 272, 3) := zo_182 (by decide +kernel)
theorem dX11_longest_151 : decode cX11_longest 151 = .ok (.goto 5, 3) := zo_167 (by decide +kernel)
theorem dX11_longest_154 : decode cX11_longest 154 = .ok (.iload 7, 2) := zo_21 (by decide +kernel)
theorem dX11_longest_156 : decode cX11_longest 156 = .ok (.ireturn, 1) := zo_172 (by decide +kernel)
theorem dX11_back_0 : decode cX11_back 0 = .ok (.aload_n 0, 1) := zo_42 (by decide +kernel)
theorem dX11_back_1 : decode cX11_back 1 = .ok (.getfield 10, 3) := zo_180 (by decide +kernel)
theorem dX11_back_4 : decode cX11_back 4 = .ok (.iload_n 1, 1) := zo_27 (by decide +kernel)
theorem dX11_back_5 : decode cX11_back 5 = .ok (.invokevirtual 121, 3) := zo_182 (by decide +kernel)
theorem dX11_back_8 : decode cX11_back 8 = .ok (.astore_n 3, 1) := zo_78 (by decide +kernel)
theorem dX11_back_9 : decode cX11_back 9 = .ok (.aload_n 3, 1) := zo_45 (by decide +kernel)
theorem dX11_back_10 : decode cX11_back 10 = .ok (.ifnull 11, 3) := zo_198 (by decide +kernel)
theorem dX11_back_13 : decode cX11_back 13 = .ok (.aload_n 3, 1) := zo_45 (by decide +kernel)
theorem dX11_back_14 : decode cX11_back 14 = .ok (.iload_n 2, 1) := zo_28 (by decide +kernel)
theorem dX11_back_15 : decode cX11_back 15 = .ok (.invokevirtual 160, 3) := zo_182 (by decide +kernel)
theorem dX11_back_18 : decode cX11_back 18 = .ok (.ifCond .ne 5, 3) := zo_154 (by decide +kernel)
theorem dX11_back_21 : decode cX11_back 21 = .ok (.iconst (-1), 1) := zo_2 (by decide +kernel)
theorem dX11_back_22 : decode cX11_back 22 = .ok (.ireturn, 1) := zo_172 (by decide +kernel)
theorem dX11_back_23 : decode cX11_back 23 = .ok (.aload_n 0, 1) := zo_42 (by decide +kernel)
theorem dX11_back_24 : decode cX11_back 24 = .ok (.iload_n 1, 1) := zo_27 (by decide +kernel)
theorem dX11_back_25 : decode cX11_back 25 = .ok (.aload_n 3, 1) := zo_45 (by decide +kernel)
theorem dX11_back_26 : decode cX11_back 26 = .ok (.invokevirtual 235, 3) := zo_182 (by decide +kernel)
theorem dX11_back_29 : decode cX11_back 29 = .ok (.astore 4, 2) := zo_58 (by decide +kernel)
theorem dX11_back_31 : decode cX11_back 31 = .ok (.aload 4, 2) := zo_25 (by decide +kernel)
theorem dX11_back_33 : decode cX11_back 33 = .ok (.invokevirtual 242, 3) := zo_182 (by decide +kernel)
theorem dX11_back_36 : decode cX11_back 36 = .ok (.istore 5, 2) := zo_54 (by decide +kernel)
theorem dX11_back_38 : decode cX11_back 38 = .ok (.iconst 0, 1) := zo_3 (by decide +kernel)
theorem dX11_back_39 : decode cX11_back 39 = .ok (.istore 6, 2) := zo_54 (by decide +kernel)
theorem dX11_back_41 : decode cX11_back 41 = .ok (.iconst 0, 1) := zo_3 (by decide +kernel)
theorem dX11_back_42 : decode cX11_back 42 = .ok (.istore 7, 2) := zo_54 (by decide +kernel)
theorem dX11_back_44 : decode cX11_back 44 = .ok (.iload 7, 2) := zo_21 (by decide +kernel)
theorem dX11_back_46 : decode cX11_back 46 = .ok (.aload 4, 2) := zo_25 (by decide +kernel)
theorem dX11_back_48 : decode cX11_back 48 = .ok (.getfield 257, 3) := zo_180 (by decide +kernel)
theorem dX11_back_51 : decode cX11_back 51 = .ok (.if_icmp .ge 25, 3) := zo_162 (by decide +kernel)
theorem dX11_back_54 : decode cX11_back 54 = .ok (.aload 4, 2) := zo_25 (by decide +kernel)
theorem dX11_back_56 : decode cX11_back 56 = .ok (.iload 7, 2) := zo_21 (by decide +kernel)
theorem dX11_back_58 : decode cX11_back 58 = .ok (.iload_n 2, 1) := zo_28 (by decide +kernel)
theorem dX11_back_59 : decode cX11_back 59 = .ok (.invokevirtual 275, 3) := zo_182 (by decide +kernel)
theorem dX11_back_62 : decode cX11_back 62 = .ok (.iload 5, 2) := zo_21 (by decide +kernel)
theorem dX11_back_64 : decode cX11_back 64 = .ok (.if_icmp .ne 6, 3) := zo_160 (by decide +kernel)
theorem dX11_back_67 : decode cX11_back 67 = .ok (.iinc 6 1, 3) := zo_132 (by decide +kernel)
theorem dX11_back_70 : decode cX11_back 70 = .ok (.iinc 7 1, 3) := zo_132 (by decide +kernel)
theorem dX11_back_73 : decode cX11_back 73 = .ok (.goto (-29), 3) := zo_167 (by decide +kernel)
theorem dX11_back_76 : decode cX11_back 76 = .ok (.iload 6, 2) := zo_21 (by decide +kernel)
theorem dX11_back_78 : decode cX11_back 78 = .ok (.ireturn, 1) := zo_172 (by decide +kernel)
theorem dX11_set_0 : decode cX11_set 0 = .ok (.aload_n 0, 1) := zo_42 (by decide +kernel)
theorem dX11_set_1 : decode cX11_set 1 = .ok (.getfield 10, 3) := zo_180 (by decide +kernel)
theorem dX11_set_4 : decode cX11_set 4 = .ok (.iload_n 1, 1) := zo_27 (by decide +kernel)
theorem dX11_set_5 : decode cX11_set 5 = .ok (.invokevirtual 121, 3) := zo_182 (by decide +kernel)
theorem dX11_set_8 : decode cX11_set 8 = .ok (.astore 5, 2) := zo_58 (by decide +kernel)
theorem dX11_set_10 : decode cX11_set 10 = .ok (.aload 5, 2) := zo_25 (by decide +kernel)
theorem dX11_set_12 : decode cX11_set 12 = .ok (.ifnull 21, 3) := zo_198 (by decide +kernel)
theorem dX11_set_15 : decode cX11_set 15 = .ok (.aload 5, 2) := zo_25 (by decide +kernel)
theorem dX11_set_17 : decode cX11_set 17 = .ok (.iload_n 2, 1) := zo_28 (by decide +kernel)
theorem dX11_set_18 : decode cX11_set 18 = .ok (.invokevirtual 160, 3) := zo_182 (by decide +kernel)
theorem dX11_set_21 : decode cX11_set 21 = .ok (.ifCond .eq 12, 3) := zo_153 (by decide +kernel)
theorem dX11_set_24 : decode cX11_set 24 = .ok (.aload 5, 2) := zo_25 (by decide +kernel)
theorem dX11_set_26 : decode cX11_set 26 = .ok (.iload_n 3, 1) := zo_29 (by decide +kernel)
theorem dX11_set_27 : decode cX11_set 27 = .ok (.invokevirtual 174, 3) := zo_182 (by decide +kernel)
theorem dX11_set_30 : decode cX11_set 30 = .ok (.ifCond .ne 5, 3) := zo_154 (by decide +kernel)
theorem dX11_set_33 : decode cX11_set 33 = .ok (.iconst (-1), 1) := zo_2 (by decide +kernel)
theorem dX11_set_34 : decode cX11_set 34 = .ok (.ireturn, 1) := zo_172 (by decide +kernel)
theorem dX11_set_35 : decode cX11_set 35 = .ok (.aload_n 0, 1) := zo_42 (by decide +kernel)
theorem dX11_set_36 : decode cX11_set 36 = .ok (.iload_n 1, 1) := zo_27 (by decide +kernel)
theorem dX11_set_37 : decode cX11_set 37 = .ok (.aload 5, 2) := zo_25 (by decide +kernel)
theorem dX11_set_39 : decode cX11_set 39 = .ok (.invokevirtual 235, 3) := zo_182 (by decide +kernel)
theorem dX11_set_42 : decode cX11_set 42 = .ok (.astore 6, 2) := zo_58 (by decide +kernel)
theorem dX11_set_44 : decode cX11_set 44 = .ok (.aload 6, 2) := zo_25 (by decide +kernel)
theorem dX11_set_46 : decode cX11_set 46 = .ok (.iload_n 2, 1) := zo_28 (by decide +kernel)
theorem dX11_set_47 : decode cX11_set 47 = .ok (.iload_n 3, 1) := zo_29 (by decide +kernel)
theorem dX11_set_48 : decode cX11_set 48 = .ok (.invokevirtual 239, 3) := zo_182 (by decide +kernel)
theorem dX11_set_51 : decode cX11_set 51 = .ok (.istore 7, 2) := zo_54 (by decide +kernel)
theorem dX11_set_53 : decode cX11_set 53 = .ok (.iload 7, 2) := zo_21 (by decide +kernel)
theorem dX11_set_55 : decode cX11_set 55 = .ok (.iconst (-1), 1) := zo_2 (by decide +kernel)
theorem dX11_set_56 : decode cX11_set 56 = .ok (.if_icmp .ne 5, 3) := zo_160 (by decide +kernel)
theorem dX11_set_59 : decode cX11_set 59 = .ok (.iconst (-1), 1) := zo_2 (by decide +kernel)
theorem dX11_set_60 : decode cX11_set 60 = .ok (.ireturn, 1) := zo_172 (by decide +kernel)
theorem dX11_set_61 : decode cX11_set 61 = .ok (.aload 6, 2) := zo_25 (by decide +kernel)
theorem dX11_set_63 : decode cX11_set 63 = .ok (.iload 7, 2) := zo_21 (by decide +kernel)
theorem dX11_set_65 : decode cX11_set 65 = .ok (.aload 6, 2) := zo_25 (by decide +kernel)
theorem dX11_set_67 : decode cX11_set 67 = .ok (.invokevirtual 242, 3) := zo_182 (by decide +kernel)
theorem dX11_set_70 : decode cX11_set 70 = .ok (.invokevirtual 245, 3) := zo_182 (by decide +kernel)
theorem dX11_set_73 : decode cX11_set 73 = .ok (.istore 8, 2) := zo_54 (by decide +kernel)
theorem dX11_set_75 : decode cX11_set 75 = .ok (.iload 4, 2) := zo_21 (by decide +kernel)
theorem dX11_set_77 : decode cX11_set 77 = .ok (.ifCond .ne 9, 3) := zo_154 (by decide +kernel)
theorem dX11_set_80 : decode cX11_set 80 = .ok (.iload 8, 2) := zo_21 (by decide +kernel)
theorem dX11_set_82 : decode cX11_set 82 = .ok (.invokestatic 248, 3) := zo_184 (by decide +kernel)
theorem dX11_set_85 : decode cX11_set 85 = .ok (.ireturn, 1) := zo_172 (by decide +kernel)
theorem dX11_set_86 : decode cX11_set 86 = .ok (.iload 4, 2) := zo_21 (by decide +kernel)
theorem dX11_set_88 : decode cX11_set 88 = .ok (.iconst 1, 1) := zo_4 (by decide +kernel)
theorem dX11_set_89 : decode cX11_set 89 = .ok (.if_icmp .ne 6, 3) := zo_160 (by decide +kernel)
theorem dX11_set_92 : decode cX11_set 92 = .ok (.iload 8, 2) := zo_21 (by decide +kernel)
theorem dX11_set_94 : decode cX11_set 94 = .ok (.ireturn, 1) := zo_172 (by decide +kernel)
theorem dX11_set_95 : decode cX11_set 95 = .ok (.iload 4, 2) := zo_21 (by decide +kernel)
theorem dX11_set_97 : decode cX11_set 97 = .ok (.bipush 10, 2) := zo_16 (by decide +kernel)
theorem dX11_set_99 : decode cX11_set 99 = .ok (.isub, 1) := zo_100 (by decide +kernel)
theorem dX11_set_100 : decode cX11_set 100 = .ok (.istore 9, 2) := zo_54 (by decide +kernel)
theorem dX11_set_102 : decode cX11_set 102 = .ok (.aload 5, 2) := zo_25 (by decide +kernel)
theorem dX11_set_104 : decode cX11_set 104 = .ok (.iload 9, 2) := zo_21 (by decide +kernel)
theorem dX11_set_106 : decode cX11_set 106 = .ok (.invokevirtual 160, 3) := zo_182 (by decide +kernel)
theorem dX11_set_109 : decode cX11_set 109 = .ok (.ifCond .ne 5, 3) := zo_154 (by decide +kernel)
theorem dX11_set_112 : decode cX11_set 112 = .ok (.iconst (-1), 1) := zo_2 (by decide +kernel)
theorem dX11_set_113 : decode cX11_set 113 = .ok (.ireturn, 1) := zo_172 (by decide +kernel)
theorem dX11_set_114 : decode cX11_set 114 = .ok (.aload 5, 2) := zo_25 (by decide +kernel)
theorem dX11_set_116 : decode cX11_set 116 = .ok (.iload 9, 2) := zo_21 (by decide +kernel)
theorem dX11_set_118 : decode cX11_set 118 = .ok (.invokevirtual 221, 3) := zo_182 (by decide +kernel)
theorem dX11_set_121 : decode cX11_set 121 = .ok (.ifCond .le 15, 3) := zo_158 (by decide +kernel)
theorem dX11_set_124 : decode cX11_set 124 = .ok (.aload 6, 2) := zo_25 (by decide +kernel)
theorem dX11_set_126 : decode cX11_set 126 = .ok (.iload 7, 2) := zo_21 (by decide +kernel)
theorem dX11_set_128 : decode cX11_set 128 = .ok (.iload 9, 2) := zo_21 (by decide +kernel)
theorem dX11_set_130 : decode cX11_set 130 = .ok (.invokevirtual 253, 3) := zo_182 (by decide +kernel)
theorem dX11_set_133 : decode cX11_set 133 = .ok (.goto 11, 3) := zo_167 (by decide +kernel)
theorem dX11_set_136 : decode cX11_set 136 = .ok (.aload 5, 2) := zo_25 (by decide +kernel)
theorem dX11_set_138 : decode cX11_set 138 = .ok (.getfield 256, 3) := zo_180 (by decide +kernel)
theorem dX11_set_141 : decode cX11_set 141 = .ok (.iload 9, 2) := zo_21 (by decide +kernel)
theorem dX11_set_143 : decode cX11_set 143 = .ok (.iaload, 1) := zo_46 (by decide +kernel)
theorem dX11_set_144 : decode cX11_set 144 = .ok (.ireturn, 1) := zo_172 (by decide +kernel)
theorem dX11_game_0 : decode cX11_game 0 = .ok (.aload_n 0, 1) := zo_42 (by decide +kernel)
theorem dX11_game_1 : decode cX11_game 1 = .ok (.getfield 10, 3) := zo_180 (by decide +kernel)
theorem dX11_game_4 : decode cX11_game 4 = .ok (.iload_n 1, 1) := zo_27 (by decide +kernel)
theorem dX11_game_5 : decode cX11_game 5 = .ok (.invokevirtual 121, 3) := zo_182 (by decide +kernel)
theorem dX11_game_8 : decode cX11_game 8 = .ok (.astore 5, 2) := zo_58 (by decide +kernel)
theorem dX11_game_10 : decode cX11_game 10 = .ok (.aload 5, 2) := zo_25 (by decide +kernel)
theorem dX11_game_12 : decode cX11_game 12 = .ok (.ifnull 21, 3) := zo_198 (by decide +kernel)
theorem dX11_game_15 : decode cX11_game 15 = .ok (.aload 5, 2) := zo_25 (by decide +kernel)
theorem dX11_game_17 : decode cX11_game 17 = .ok (.iload_n 2, 1) := zo_28 (by decide +kernel)
theorem dX11_game_18 : decode cX11_game 18 = .ok (.invokevirtual 160, 3) := zo_182 (by decide +kernel)
theorem dX11_game_21 : decode cX11_game 21 = .ok (.ifCond .eq 12, 3) := zo_153 (by decide +kernel)
theorem dX11_game_24 : decode cX11_game 24 = .ok (.iload_n 3, 1) := zo_29 (by decide +kernel)
theorem dX11_game_25 : decode cX11_game 25 = .ok (.ifCond .lt 8, 3) := zo_155 (by decide +kernel)
theorem dX11_game_28 : decode cX11_game 28 = .ok (.iload_n 3, 1) := zo_29 (by decide +kernel)
theorem dX11_game_29 : decode cX11_game 29 = .ok (.iconst 3, 1) := zo_6 (by decide +kernel)
theorem dX11_game_30 : decode cX11_game 30 = .ok (.if_icmp .le 6, 3) := zo_164 (by decide +kernel)
theorem dX11_game_33 : decode cX11_game 33 = .ok (.bipush (-9), 2) := zo_16 (by decide +kernel)
theorem dX11_game_35 : decode cX11_game 35 = .ok (.ireturn, 1) := zo_172 (by decide +kernel)
theorem dX11_game_36 : decode cX11_game 36 = .ok (.aload_n 0, 1) := zo_42 (by decide +kernel)
theorem dX11_game_37 : decode cX11_game 37 = .ok (.iload_n 1, 1) := zo_27 (by decide +kernel)
theorem dX11_game_38 : decode cX11_game 38 = .ok (.aload 5, 2) := zo_25 (by decide +kernel)
theorem dX11_game_40 : decode cX11_game 40 = .ok (.invokevirtual 235, 3) := zo_182 (by decide +kernel)
theorem dX11_game_43 : decode cX11_game 43 = .ok (.astore 6, 2) := zo_58 (by decide +kernel)
theorem dX11_game_45 : decode cX11_game 45 = .ok (.aload 6, 2) := zo_25 (by decide +kernel)
theorem dX11_game_47 : decode cX11_game 47 = .ok (.invokevirtual 242, 3) := zo_182 (by decide +kernel)
theorem dX11_game_50 : decode cX11_game 50 = .ok (.istore 7, 2) := zo_54 (by decide +kernel)
theorem dX11_game_52 : decode cX11_game 52 = .ok (.aload 6, 2) := zo_25 (by decide +kernel)
theorem dX11_game_54 : decode cX11_game 54 = .ok (.iload 7, 2) := zo_21 (by decide +kernel)
theorem dX11_game_56 : decode cX11_game 56 = .ok (.iload_n 2, 1) := zo_28 (by decide +kernel)
theorem dX11_game_57 : decode cX11_game 57 = .ok (.iload_n 3, 1) := zo_29 (by decide +kernel)
theorem dX11_game_58 : decode cX11_game 58 = .ok (.iconst 1, 1) := zo_4 (by decide +kernel)
theorem dX11_game_59 : decode cX11_game 59 = .ok (.invokestatic 278, 3) := zo_184 (by decide +kernel)
theorem dX11_game_62 : decode cX11_game 62 = .ok (.istore 8, 2) := zo_54 (by decide +kernel)
theorem dX11_game_64 : decode cX11_game 64 = .ok (.iload 4, 2) := zo_21 (by decide +kernel)
theorem dX11_game_66 : decode cX11_game 66 = .ok (.ifCond .ne 6, 3) := zo_154 (by decide +kernel)
theorem dX11_game_69 : decode cX11_game 69 = .ok (.iload 8, 2) := zo_21 (by decide +kernel)
theorem dX11_game_71 : decode cX11_game 71 = .ok (.ireturn, 1) := zo_172 (by decide +kernel)
theorem dX11_game_72 : decode cX11_game 72 = .ok (.iload_n 3, 1) := zo_29 (by decide +kernel)
theorem dX11_game_73 : decode cX11_game 73 = .ok (.ifCond .ne 7, 3) := zo_154 (by decide +kernel)
theorem dX11_game_76 : decode cX11_game 76 = .ok (.iconst (-1), 1) := zo_2 (by decide +kernel)
theorem dX11_game_77 : decode cX11_game 77 = .ok (.goto 14, 3) := zo_167 (by decide +kernel)
theorem dX11_game_80 : decode cX11_game 80 = .ok (.aload 6, 2) := zo_25 (by decide +kernel)
theorem dX11_game_82 : decode cX11_game 82 = .ok (.iload 7, 2) := zo_21 (by decide +kernel)
theorem dX11_game_84 : decode cX11_game 84 = .ok (.iload_n 2, 1) := zo_28 (by decide +kernel)
theorem dX11_game_85 : decode cX11_game 85 = .ok (.iload_n 3, 1) := zo_29 (by decide +kernel)
theorem dX11_game_86 : decode cX11_game 86 = .ok (.iload 8, 2) := zo_21 (by decide +kernel)
theorem dX11_game_88 : decode cX11_game 88 = .ok (.invokestatic 282, 3) := zo_184 (by decide +kernel)
theorem dX11_game_91 : decode cX11_game 91 = .ok (.ireturn, 1) := zo_172 (by decide +kernel)

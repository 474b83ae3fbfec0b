set_option maxHeartbeats 4000000 in
set_option maxRecDepth 100000 in
/-- worth -/
theorem c_worth0 (l : Launch) (T : zTy) (h : Nat) (la : Nat) (md : Int32) (wy : Int32) (pc_ : Int32) (f1 : Nat → Int32) (f2 : Nat → Int32) (f3 : Nat → Int32) (f4 : Nat → Int32) (f5 : Nat → Int32) (f6 : Nat → Int32) (n4 : Nat) (ww : va_W) (cr : Int32) (inn : Int32) (k1 : Nat → Int32) (k2 : Nat → Int32) (k3 : Nat → Int32) (k4 : Nat → Int32) (z : va_W) (x : Int32) (y : Int32) (q : Int32) (hww : bWays T h la md wy pc_ f1 f2 f3 f4 f5 f6 n4 ww) (hz : bLand T la cr inn k1 k2 k3 k4 z) (hI : zLI cr k1 k3) (hn : n4 ≤ 131072) : zMi l T yX11_worth cX11_worth 9 (some .int) 5 0 0 [.ref h, .int x, .int y, .int 0, .int q] [ww, z] (fun (r : Int32) bs => bs = [ww, z]) := by
  refine zMi_of (own := RX11) (by decide) rfl (Nat.le_of_ble_eq_true rfl) ?_
  intro p e s m args below meth c A ls C hr hlocks hnm hAe G hl
  have hx := C.1
  have hb := C.2.1
  have hl : lv_has ls 9 [(0, .ref h), (1, .int x), (2, .int y), (3, .int 0), (4, .int q)] := hl
  refine lv_iload_n hx hb dX11_worth_0 rfl (lv_at hl 3 rfl) ?_
  refine lv_if_le (tgt := 9) hx hb dX11_worth_1 (by decide) (fun _ => ?_) (fun q => absurd (by decide) q)
  refine lv_aload_n hx hb dX11_worth_9 rfl (lv_at hl 0 rfl) ?_
  refine lv_iload_n hx hb dX11_worth_10 rfl (lv_at hl 1 rfl) ?_
  refine lv_iload_n hx hb dX11_worth_11 rfl (lv_at hl 2 rfl) ?_
  refine z_Vi (bc := [ww, z]) (br := []) (As := [.int x, .int y]) (rest := []) C G (c_stepsOrNever l T h la md wy pc_ f1 f2 f3 f4 f5 f6 n4 ww cr inn k1 k2 k3 k4 z x y hww hz (by first | assumption | omega | rfl)) (kV_RX11_286 C.2.2.2.2 (Nat.le_of_ble_eq_true rfl) (Nat.le_of_ble_eq_true rfl)) [0, 1] [] rfl rfl (ci := 0) (qc := (RX0, TX0, 10)) rfl rfl (List.mem_flatten.mpr ⟨_, List.mem_of_getElem? (i := 0) rfl, (bWays_mem hww).choose_spec⟩) rfl rfl hl.1 dX11_worth_12 (Nat.le_of_ble_eq_true rfl) (Nat.le_of_ble_eq_true rfl) (fun r_1 b1 H locs hw G => ?_)
  obtain rfl := hw
  have G : zS T A s.heap s [ww, z] _ _ := G
  exact z_iret C hr hlocks G (Nat.le_of_ble_eq_true rfl) (Nat.le_of_ble_eq_true rfl) dX11_worth_15 rfl
set_option maxHeartbeats 4000000 in
set_option maxRecDepth 100000 in
/-- worth -/
theorem c_worth1 (l : Launch) (T : zTy) (h : Nat) (la : Nat) (md : Int32) (wy : Int32) (pc_ : Int32) (f1 : Nat → Int32) (f2 : Nat → Int32) (f3 : Nat → Int32) (f4 : Nat → Int32) (f5 : Nat → Int32) (f6 : Nat → Int32) (n4 : Nat) (ww : va_W) (cr : Int32) (inn : Int32) (k1 : Nat → Int32) (k2 : Nat → Int32) (k3 : Nat → Int32) (k4 : Nat → Int32) (z : va_W) (x : Int32) (y : Int32) (q : Int32) (hww : bWays T h la md wy pc_ f1 f2 f3 f4 f5 f6 n4 ww) (hz : bLand T la cr inn k1 k2 k3 k4 z) (hI : zLI cr k1 k3) (hn : n4 ≤ 131072) : zMi l T yX11_worth cX11_worth 9 (some .int) 6 0 0 [.ref h, .int x, .int y, .int 1, .int q] [ww, z] (fun (r : Int32) bs => bs = [ww, z]) := by
  refine zMi_of (own := RX11) (by decide) rfl (Nat.le_of_ble_eq_true rfl) ?_
  intro p e s m args below meth c A ls C hr hlocks hnm hAe G hl
  have hx := C.1
  have hb := C.2.1
  have hl : lv_has ls 9 [(0, .ref h), (1, .int x), (2, .int y), (3, .int 1), (4, .int q)] := hl
  refine lv_iload_n hx hb dX11_worth_0 rfl (lv_at hl 3 rfl) ?_
  refine lv_if_le (tgt := 9) hx hb dX11_worth_1 (by decide) (fun q => absurd q (by decide)) (fun _ => ?_)
  refine lv_iload_n hx hb dX11_worth_4 rfl (lv_at hl 3 rfl) ?_
  refine lv_iconst (v := 3) hx hb dX11_worth_5 (by decide) ?_
  refine lv_icmp_le (tgt := 16) hx hb dX11_worth_6 (by decide) (fun _ => ?_) (fun q => absurd (by decide) q)
  refine lv_iconst (v := (-1)) hx hb dX11_worth_16 (by decide) ?_
  refine lv_istore (lv' := [(5, .int (-1)), (0, .ref h), (1, .int x), (2, .int y), (3, .int 1), (4, .int q)]) hx hb dX11_worth_17 hl (by decide) rfl (fun ls hl => ?_)
  refine lv_iconst (v := 0) hx hb dX11_worth_19 (by decide) ?_
  refine lv_istore (lv' := [(6, .int 0), (5, .int (-1)), (0, .ref h), (1, .int x), (2, .int y), (3, .int 1), (4, .int q)]) hx hb dX11_worth_20 hl (by decide) rfl (fun ls hl => ?_)
  refine z_loop (T := T) (α := Nat × Int32) 22 (fun (i, u) => [ww, z]) (fun (i, u) => [(6, .int (nI i)), (5, .int u), (0, .ref h), (1, .int x), (2, .int y), (3, .int 1), (4, .int q)]) (fun (i, u) => i ≤ 8) (fun (i, u) => 8 - i) ?_ (0, (-1)) (show 0 ≤ 8 from by omega) G (lv_sub hl [0, 1, 2, 3, 4, 5, 6] rfl)
  rintro ⟨i, u⟩ hi ih_22 H locs ls G hl
  replace hi : i ≤ 8 := hi
  replace G : zS T A s.heap s [ww, z] _ _ := G
  replace hl : lv_has ls 9 [(6, .int (nI i)), (5, .int u), (0, .ref h), (1, .int x), (2, .int y), (3, .int 1), (4, .int q)] := hl
  refine lv_iload hx hb dX11_worth_22 (lv_at hl 0 rfl) ?_
  refine lv_bipush (v := 7) hx hb dX11_worth_24 (by decide) ?_
  refine lv_icmp_gt (tgt := 120) hx hb dX11_worth_26 (by decide) (fun c_1 => ?_) (fun c_1 => ?_)
  · have c_1n : 7 < i := (nI_ltI (a := 7) (b := i) (by omega) (by omega)).mp c_1
    refine lv_iload hx hb dX11_worth_120 (lv_at hl 1 rfl) ?_
    exact z_iret C hr hlocks G (Nat.le_of_ble_eq_true rfl) (Nat.le_of_ble_eq_true rfl) dX11_worth_122 rfl
  · have c_1n : ¬ 7 < i := fun q => c_1 ((nI_ltI (a := 7) (b := i) (by omega) (by omega)).mpr q)
    refine lv_iload hx hb dX11_worth_29 (lv_at hl 0 rfl) ?_
    refine lv_bipush (v := 7) hx hb dX11_worth_31 (by decide) ?_
    refine lv_icmp_ne (tgt := 40) hx hb dX11_worth_33 (by decide) (fun c_2 => ?_) (fun c_2 => ?_)
    · have c_2n : ¬ i = 7 := fun q => c_2 ((nI_eq (a := i) (b := 7) (by omega) (by omega)).mpr q)
      refine lv_aload_n hx hb dX11_worth_40 rfl (lv_at hl 2 rfl) ?_
      refine lv_iload_n hx hb dX11_worth_41 rfl (lv_at hl 3 rfl) ?_
      refine lv_iload hx hb dX11_worth_42 (lv_at hl 0 rfl) ?_
      refine z_Vi (bc := [ww, z]) (br := []) (As := [.int x, .int (nI i)]) (rest := []) C G (c_turned l T h la md wy pc_ f1 f2 f3 f4 f5 f6 n4 ww cr inn k1 k2 k3 k4 z x (nI i) hww hz (by first | assumption | omega | rfl)) (kV_RX11_289 C.2.2.2.2 (Nat.le_of_ble_eq_true rfl) (Nat.le_of_ble_eq_true rfl)) [0, 1] [] rfl rfl (ci := 0) (qc := (RX0, TX0, 10)) rfl rfl (List.mem_flatten.mpr ⟨_, List.mem_of_getElem? (i := 0) rfl, (bWays_mem hww).choose_spec⟩) rfl rfl hl.1 dX11_worth_44 (Nat.le_of_ble_eq_true rfl) (Nat.le_of_ble_eq_true rfl) (fun r_3 b1 H locs hw G => ?_)
      obtain rfl := hw
      have G : zS T A s.heap s [ww, z] _ _ := G
      refine lv_istore (lv' := [(7, .int r_3), (6, .int (nI i)), (5, .int u), (0, .ref h), (1, .int x), (2, .int y), (3, .int 1), (4, .int q)]) hx hb dX11_worth_47 hl (by decide) rfl (fun ls hl => ?_)
      refine lv_iload hx hb dX11_worth_49 (lv_at hl 0 rfl) ?_
      refine lv_iconst (v := (-1)) hx hb dX11_worth_51 (by decide) ?_
      refine lv_icmp_eq (tgt := 114) hx hb dX11_worth_52 (by decide) (fun c_4 => ?_) (fun c_4 => ?_)
      · have c_4n : r_3.toInt = (-1 : Int) := (fa_eq _ _).mp c_4
        refine lv_iinc (v := nI (i + 1)) (lv' := [(6, .int (nI (i + 1))), (7, .int r_3), (5, .int u), (0, .ref h), (1, .int x), (2, .int y), (3, .int 1), (4, .int q)]) hx hb dX11_worth_114 hl (k := 1) rfl (z_inc i 1) (by decide) rfl (fun ls hl => ?_)
        refine lv_goto (tgt := 22) hx hb dX11_worth_117 (by decide) ?_
        exact ih_22 ((i + 1), u) (show (i + 1) ≤ 8 from by omega) (show 8 - (i + 1) < 8 - i from by omega) _ _ ls G (lv_sub hl [0, 2, 3, 4, 5, 6, 7] rfl)
      · have c_4n : ¬ r_3.toInt = (-1 : Int) := fun q => c_4 ((fa_eq _ _).mpr q)
        refine lv_aload_n hx hb dX11_worth_55 rfl (lv_at hl 3 rfl) ?_
        refine lv_iload hx hb dX11_worth_56 (lv_at hl 0 rfl) ?_
        refine lv_iload_n hx hb dX11_worth_58 rfl (lv_at hl 5 rfl) ?_
        refine lv_iload_n hx hb dX11_worth_59 rfl (lv_at hl 6 rfl) ?_
        refine lv_iconst (v := 1) hx hb dX11_worth_60 (by decide) ?_
        refine lv_isub hx hb dX11_worth_61 ?_
        refine lv_topi (fun y_5 ey_5 => ?_)
        obtain rfl : y_5 = 0 := ey_5.trans (by decide)
        refine lv_iload hx hb dX11_worth_62 (lv_at hl 7 rfl) ?_
        refine lv_if_ne (tgt := 71) hx hb dX11_worth_64 (by decide) (fun c_6 => ?_) (fun c_6 => ?_)
        · have c_6n : ¬ q.toInt = (0 : Int) := fun q => c_6 ((fa_eq _ _).mpr q)
          refine lv_iconst (v := 0) hx hb dX11_worth_71 (by decide) ?_
          refine z_Si (bc := [ww, z]) (br := []) (As := [.ref h, .int r_3, .int y, .int 0, .int 0]) (rest := []) C G (c_worth0 l T h la md wy pc_ f1 f2 f3 f4 f5 f6 n4 ww cr inn k1 k2 k3 k4 z r_3 y 0 hww hz (by first | assumption | omega | rfl) (by first | assumption | omega | rfl)) (kS_RX11_278 C.2.2.2.2 (Nat.le_of_ble_eq_true rfl) (Nat.le_of_ble_eq_true rfl)) [0, 1] [] rfl rfl rfl rfl hl.1 dX11_worth_72 (Nat.le_of_ble_eq_true rfl) (Nat.le_of_ble_eq_true rfl) (fun r_7 b1 H locs hw G => ?_)
          obtain rfl := hw
          have G : zS T A s.heap s [ww, z] _ _ := G
          refine lv_istore (lv' := [(8, .int r_7), (7, .int r_3), (6, .int (nI i)), (5, .int u), (0, .ref h), (1, .int x), (2, .int y), (3, .int 1), (4, .int q)]) hx hb dX11_worth_75 hl (by decide) rfl (fun ls hl => ?_)
          refine lv_iload hx hb dX11_worth_77 (lv_at hl 3 rfl) ?_
          refine lv_iconst (v := (-1)) hx hb dX11_worth_79 (by decide) ?_
          refine lv_icmp_eq (tgt := 105) hx hb dX11_worth_80 (by decide) (fun c_8 => ?_) (fun c_8 => ?_)
          · have c_8n : u.toInt = (-1 : Int) := (fa_eq _ _).mp c_8
            refine lv_iload hx hb dX11_worth_105 (lv_at hl 0 rfl) ?_
            refine lv_goto (tgt := 112) hx hb dX11_worth_107 (by decide) ?_
            refine lv_istore (lv' := [(5, .int r_7), (8, .int r_7), (7, .int r_3), (6, .int (nI i)), (0, .ref h), (1, .int x), (2, .int y), (3, .int 1), (4, .int q)]) hx hb dX11_worth_112 hl (by decide) rfl (fun ls hl => ?_)
            refine lv_iinc (v := nI (i + 1)) (lv' := [(6, .int (nI (i + 1))), (5, .int r_7), (8, .int r_7), (7, .int r_3), (0, .ref h), (1, .int x), (2, .int y), (3, .int 1), (4, .int q)]) hx hb dX11_worth_114 hl (k := 3) rfl (z_inc i 1) (by decide) rfl (fun ls hl => ?_)
            refine lv_goto (tgt := 22) hx hb dX11_worth_117 (by decide) ?_
            exact ih_22 ((i + 1), r_7) (show (i + 1) ≤ 8 from by omega) (show 8 - (i + 1) < 8 - i from by omega) _ _ ls G (lv_sub hl [0, 1, 4, 5, 6, 7, 8] rfl)
          · have c_8n : ¬ u.toInt = (-1 : Int) := fun q => c_8 ((fa_eq _ _).mpr q)
            refine lv_iload hx hb dX11_worth_83 (lv_at hl 8 rfl) ?_
            refine lv_if_eq (tgt := 98) hx hb dX11_worth_85 (by decide) (fun q => absurd q c_6) (fun _ => ?_)
            refine lv_iload hx hb dX11_worth_88 (lv_at hl 0 rfl) ?_
            refine lv_iload hx hb dX11_worth_90 (lv_at hl 3 rfl) ?_
            refine lv_icmp_ge (tgt := 110) hx hb dX11_worth_92 (by decide) (fun c_9 => ?_) (fun c_9 => ?_)
            · have c_9n : u.toInt ≤ r_7.toInt := (fa_le _ _).mp c_9
              refine lv_iload hx hb dX11_worth_110 (lv_at hl 3 rfl) ?_
              refine lv_istore (lv' := [(5, .int u), (8, .int r_7), (7, .int r_3), (6, .int (nI i)), (0, .ref h), (1, .int x), (2, .int y), (3, .int 1), (4, .int q)]) hx hb dX11_worth_112 hl (by decide) rfl (fun ls hl => ?_)
              refine lv_iinc (v := nI (i + 1)) (lv' := [(6, .int (nI (i + 1))), (5, .int u), (8, .int r_7), (7, .int r_3), (0, .ref h), (1, .int x), (2, .int y), (3, .int 1), (4, .int q)]) hx hb dX11_worth_114 hl (k := 3) rfl (z_inc i 1) (by decide) rfl (fun ls hl => ?_)
              refine lv_goto (tgt := 22) hx hb dX11_worth_117 (by decide) ?_
              exact ih_22 ((i + 1), u) (show (i + 1) ≤ 8 from by omega) (show 8 - (i + 1) < 8 - i from by omega) _ _ ls G (lv_sub hl [0, 1, 4, 5, 6, 7, 8] rfl)
            · have c_9n : ¬ u.toInt ≤ r_7.toInt := fun q => c_9 ((fa_le _ _).mpr q)
              refine lv_goto (tgt := 105) hx hb dX11_worth_95 (by decide) ?_
              refine lv_iload hx hb dX11_worth_105 (lv_at hl 0 rfl) ?_
              refine lv_goto (tgt := 112) hx hb dX11_worth_107 (by decide) ?_
              refine lv_istore (lv' := [(5, .int r_7), (8, .int r_7), (7, .int r_3), (6, .int (nI i)), (0, .ref h), (1, .int x), (2, .int y), (3, .int 1), (4, .int q)]) hx hb dX11_worth_112 hl (by decide) rfl (fun ls hl => ?_)
              refine lv_iinc (v := nI (i + 1)) (lv' := [(6, .int (nI (i + 1))), (5, .int r_7), (8, .int r_7), (7, .int r_3), (0, .ref h), (1, .int x), (2, .int y), (3, .int 1), (4, .int q)]) hx hb dX11_worth_114 hl (k := 3) rfl (z_inc i 1) (by decide) rfl (fun ls hl => ?_)
              refine lv_goto (tgt := 22) hx hb dX11_worth_117 (by decide) ?_
              exact ih_22 ((i + 1), r_7) (show (i + 1) ≤ 8 from by omega) (show 8 - (i + 1) < 8 - i from by omega) _ _ ls G (lv_sub hl [0, 1, 4, 5, 6, 7, 8] rfl)
        · have c_6n : q.toInt = (0 : Int) := (fa_eq _ _).mp c_6
          refine lv_iconst (v := 1) hx hb dX11_worth_67 (by decide) ?_
          refine lv_goto (tgt := 72) hx hb dX11_worth_68 (by decide) ?_
          refine z_Si (bc := [ww, z]) (br := []) (As := [.ref h, .int r_3, .int y, .int 0, .int 1]) (rest := []) C G (c_worth0 l T h la md wy pc_ f1 f2 f3 f4 f5 f6 n4 ww cr inn k1 k2 k3 k4 z r_3 y 1 hww hz (by first | assumption | omega | rfl) (by first | assumption | omega | rfl)) (kS_RX11_278 C.2.2.2.2 (Nat.le_of_ble_eq_true rfl) (Nat.le_of_ble_eq_true rfl)) [0, 1] [] rfl rfl rfl rfl hl.1 dX11_worth_72 (Nat.le_of_ble_eq_true rfl) (Nat.le_of_ble_eq_true rfl) (fun r_10 b1 H locs hw G => ?_)
          obtain rfl := hw
          have G : zS T A s.heap s [ww, z] _ _ := G
          refine lv_istore (lv' := [(8, .int r_10), (7, .int r_3), (6, .int (nI i)), (5, .int u), (0, .ref h), (1, .int x), (2, .int y), (3, .int 1), (4, .int q)]) hx hb dX11_worth_75 hl (by decide) rfl (fun ls hl => ?_)
          refine lv_iload hx hb dX11_worth_77 (lv_at hl 3 rfl) ?_
          refine lv_iconst (v := (-1)) hx hb dX11_worth_79 (by decide) ?_
          refine lv_icmp_eq (tgt := 105) hx hb dX11_worth_80 (by decide) (fun c_11 => ?_) (fun c_11 => ?_)
          · have c_11n : u.toInt = (-1 : Int) := (fa_eq _ _).mp c_11
            refine lv_iload hx hb dX11_worth_105 (lv_at hl 0 rfl) ?_
            refine lv_goto (tgt := 112) hx hb dX11_worth_107 (by decide) ?_
            refine lv_istore (lv' := [(5, .int r_10), (8, .int r_10), (7, .int r_3), (6, .int (nI i)), (0, .ref h), (1, .int x), (2, .int y), (3, .int 1), (4, .int q)]) hx hb dX11_worth_112 hl (by decide) rfl (fun ls hl => ?_)
            refine lv_iinc (v := nI (i + 1)) (lv' := [(6, .int (nI (i + 1))), (5, .int r_10), (8, .int r_10), (7, .int r_3), (0, .ref h), (1, .int x), (2, .int y), (3, .int 1), (4, .int q)]) hx hb dX11_worth_114 hl (k := 3) rfl (z_inc i 1) (by decide) rfl (fun ls hl => ?_)
            refine lv_goto (tgt := 22) hx hb dX11_worth_117 (by decide) ?_
            exact ih_22 ((i + 1), r_10) (show (i + 1) ≤ 8 from by omega) (show 8 - (i + 1) < 8 - i from by omega) _ _ ls G (lv_sub hl [0, 1, 4, 5, 6, 7, 8] rfl)
          · have c_11n : ¬ u.toInt = (-1 : Int) := fun q => c_11 ((fa_eq _ _).mpr q)
            refine lv_iload hx hb dX11_worth_83 (lv_at hl 8 rfl) ?_
            refine lv_if_eq (tgt := 98) hx hb dX11_worth_85 (by decide) (fun _ => ?_) (fun q => absurd c_6 q)
            refine lv_iload hx hb dX11_worth_98 (lv_at hl 0 rfl) ?_
            refine lv_iload hx hb dX11_worth_100 (lv_at hl 3 rfl) ?_
            refine lv_icmp_le (tgt := 110) hx hb dX11_worth_102 (by decide) (fun c_12 => ?_) (fun c_12 => ?_)
            · have c_12n : r_10.toInt ≤ u.toInt := (fa_le _ _).mp c_12
              refine lv_iload hx hb dX11_worth_110 (lv_at hl 3 rfl) ?_
              refine lv_istore (lv' := [(5, .int u), (8, .int r_10), (7, .int r_3), (6, .int (nI i)), (0, .ref h), (1, .int x), (2, .int y), (3, .int 1), (4, .int q)]) hx hb dX11_worth_112 hl (by decide) rfl (fun ls hl => ?_)
              refine lv_iinc (v := nI (i + 1)) (lv' := [(6, .int (nI (i + 1))), (5, .int u), (8, .int r_10), (7, .int r_3), (0, .ref h), (1, .int x), (2, .int y), (3, .int 1), (4, .int q)]) hx hb dX11_worth_114 hl (k := 3) rfl (z_inc i 1) (by decide) rfl (fun ls hl => ?_)
              refine lv_goto (tgt := 22) hx hb dX11_worth_117 (by decide) ?_
              exact ih_22 ((i + 1), u) (show (i + 1) ≤ 8 from by omega) (show 8 - (i + 1) < 8 - i from by omega) _ _ ls G (lv_sub hl [0, 1, 4, 5, 6, 7, 8] rfl)
            · have c_12n : ¬ r_10.toInt ≤ u.toInt := fun q => c_12 ((fa_le _ _).mpr q)
              refine lv_iload hx hb dX11_worth_105 (lv_at hl 0 rfl) ?_
              refine lv_goto (tgt := 112) hx hb dX11_worth_107 (by decide) ?_
              refine lv_istore (lv' := [(5, .int r_10), (8, .int r_10), (7, .int r_3), (6, .int (nI i)), (0, .ref h), (1, .int x), (2, .int y), (3, .int 1), (4, .int q)]) hx hb dX11_worth_112 hl (by decide) rfl (fun ls hl => ?_)
              refine lv_iinc (v := nI (i + 1)) (lv' := [(6, .int (nI (i + 1))), (5, .int r_10), (8, .int r_10), (7, .int r_3), (0, .ref h), (1, .int x), (2, .int y), (3, .int 1), (4, .int q)]) hx hb dX11_worth_114 hl (k := 3) rfl (z_inc i 1) (by decide) rfl (fun ls hl => ?_)
              refine lv_goto (tgt := 22) hx hb dX11_worth_117 (by decide) ?_
              exact ih_22 ((i + 1), r_10) (show (i + 1) ≤ 8 from by omega) (show 8 - (i + 1) < 8 - i from by omega) _ _ ls G (lv_sub hl [0, 1, 4, 5, 6, 7, 8] rfl)
    · have c_2n : i = 7 := (nI_eq (a := i) (b := 7) (by omega) (by omega)).mp c_2
      refine lv_iload_n hx hb dX11_worth_36 rfl (lv_at hl 3 rfl) ?_
      refine lv_goto (tgt := 47) hx hb dX11_worth_37 (by decide) ?_
      refine lv_istore (lv' := [(7, .int x), (6, .int (nI i)), (5, .int u), (0, .ref h), (1, .int x), (2, .int y), (3, .int 1), (4, .int q)]) hx hb dX11_worth_47 hl (by decide) rfl (fun ls hl => ?_)
      refine lv_iload hx hb dX11_worth_49 (lv_at hl 0 rfl) ?_
      refine lv_iconst (v := (-1)) hx hb dX11_worth_51 (by decide) ?_
      refine lv_icmp_eq (tgt := 114) hx hb dX11_worth_52 (by decide) (fun c_13 => ?_) (fun c_13 => ?_)
      · have c_13n : x.toInt = (-1 : Int) := (fa_eq _ _).mp c_13
        refine lv_iinc (v := nI (i + 1)) (lv' := [(6, .int (nI (i + 1))), (7, .int x), (5, .int u), (0, .ref h), (1, .int x), (2, .int y), (3, .int 1), (4, .int q)]) hx hb dX11_worth_114 hl (k := 1) rfl (z_inc i 1) (by decide) rfl (fun ls hl => ?_)
        refine lv_goto (tgt := 22) hx hb dX11_worth_117 (by decide) ?_
        exact ih_22 ((i + 1), u) (show (i + 1) ≤ 8 from by omega) (show 8 - (i + 1) < 8 - i from by omega) _ _ ls G (lv_sub hl [0, 2, 3, 4, 5, 6, 7] rfl)
      · have c_13n : ¬ x.toInt = (-1 : Int) := fun q => c_13 ((fa_eq _ _).mpr q)
        refine lv_aload_n hx hb dX11_worth_55 rfl (lv_at hl 3 rfl) ?_
        refine lv_iload hx hb dX11_worth_56 (lv_at hl 0 rfl) ?_
        refine lv_iload_n hx hb dX11_worth_58 rfl (lv_at hl 5 rfl) ?_
        refine lv_iload_n hx hb dX11_worth_59 rfl (lv_at hl 6 rfl) ?_
        refine lv_iconst (v := 1) hx hb dX11_worth_60 (by decide) ?_
        refine lv_isub hx hb dX11_worth_61 ?_
        refine lv_topi (fun y_14 ey_14 => ?_)
        obtain rfl : y_14 = 0 := ey_14.trans (by decide)
        refine lv_iload hx hb dX11_worth_62 (lv_at hl 7 rfl) ?_
        refine lv_if_ne (tgt := 71) hx hb dX11_worth_64 (by decide) (fun c_15 => ?_) (fun c_15 => ?_)
        · have c_15n : ¬ q.toInt = (0 : Int) := fun q => c_15 ((fa_eq _ _).mpr q)
          refine lv_iconst (v := 0) hx hb dX11_worth_71 (by decide) ?_
          refine z_Si (bc := [ww, z]) (br := []) (As := [.ref h, .int x, .int y, .int 0, .int 0]) (rest := []) C G (c_worth0 l T h la md wy pc_ f1 f2 f3 f4 f5 f6 n4 ww cr inn k1 k2 k3 k4 z x y 0 hww hz (by first | assumption | omega | rfl) (by first | assumption | omega | rfl)) (kS_RX11_278 C.2.2.2.2 (Nat.le_of_ble_eq_true rfl) (Nat.le_of_ble_eq_true rfl)) [0, 1] [] rfl rfl rfl rfl hl.1 dX11_worth_72 (Nat.le_of_ble_eq_true rfl) (Nat.le_of_ble_eq_true rfl) (fun r_16 b1 H locs hw G => ?_)
          obtain rfl := hw
          have G : zS T A s.heap s [ww, z] _ _ := G
          refine lv_istore (lv' := [(8, .int r_16), (7, .int x), (6, .int (nI i)), (5, .int u), (0, .ref h), (1, .int x), (2, .int y), (3, .int 1), (4, .int q)]) hx hb dX11_worth_75 hl (by decide) rfl (fun ls hl => ?_)
          refine lv_iload hx hb dX11_worth_77 (lv_at hl 3 rfl) ?_
          refine lv_iconst (v := (-1)) hx hb dX11_worth_79 (by decide) ?_
          refine lv_icmp_eq (tgt := 105) hx hb dX11_worth_80 (by decide) (fun c_17 => ?_) (fun c_17 => ?_)
          · have c_17n : u.toInt = (-1 : Int) := (fa_eq _ _).mp c_17
            refine lv_iload hx hb dX11_worth_105 (lv_at hl 0 rfl) ?_
            refine lv_goto (tgt := 112) hx hb dX11_worth_107 (by decide) ?_
            refine lv_istore (lv' := [(5, .int r_16), (8, .int r_16), (7, .int x), (6, .int (nI i)), (0, .ref h), (1, .int x), (2, .int y), (3, .int 1), (4, .int q)]) hx hb dX11_worth_112 hl (by decide) rfl (fun ls hl => ?_)
            refine lv_iinc (v := nI (i + 1)) (lv' := [(6, .int (nI (i + 1))), (5, .int r_16), (8, .int r_16), (7, .int x), (0, .ref h), (1, .int x), (2, .int y), (3, .int 1), (4, .int q)]) hx hb dX11_worth_114 hl (k := 3) rfl (z_inc i 1) (by decide) rfl (fun ls hl => ?_)
            refine lv_goto (tgt := 22) hx hb dX11_worth_117 (by decide) ?_
            exact ih_22 ((i + 1), r_16) (show (i + 1) ≤ 8 from by omega) (show 8 - (i + 1) < 8 - i from by omega) _ _ ls G (lv_sub hl [0, 1, 4, 5, 6, 7, 8] rfl)
          · have c_17n : ¬ u.toInt = (-1 : Int) := fun q => c_17 ((fa_eq _ _).mpr q)
            refine lv_iload hx hb dX11_worth_83 (lv_at hl 8 rfl) ?_
            refine lv_if_eq (tgt := 98) hx hb dX11_worth_85 (by decide) (fun q => absurd q c_15) (fun _ => ?_)
            refine lv_iload hx hb dX11_worth_88 (lv_at hl 0 rfl) ?_
            refine lv_iload hx hb dX11_worth_90 (lv_at hl 3 rfl) ?_
            refine lv_icmp_ge (tgt := 110) hx hb dX11_worth_92 (by decide) (fun c_18 => ?_) (fun c_18 => ?_)
            · have c_18n : u.toInt ≤ r_16.toInt := (fa_le _ _).mp c_18
              refine lv_iload hx hb dX11_worth_110 (lv_at hl 3 rfl) ?_
              refine lv_istore (lv' := [(5, .int u), (8, .int r_16), (7, .int x), (6, .int (nI i)), (0, .ref h), (1, .int x), (2, .int y), (3, .int 1), (4, .int q)]) hx hb dX11_worth_112 hl (by decide) rfl (fun ls hl => ?_)
              refine lv_iinc (v := nI (i + 1)) (lv' := [(6, .int (nI (i + 1))), (5, .int u), (8, .int r_16), (7, .int x), (0, .ref h), (1, .int x), (2, .int y), (3, .int 1), (4, .int q)]) hx hb dX11_worth_114 hl (k := 3) rfl (z_inc i 1) (by decide) rfl (fun ls hl => ?_)
              refine lv_goto (tgt := 22) hx hb dX11_worth_117 (by decide) ?_
              exact ih_22 ((i + 1), u) (show (i + 1) ≤ 8 from by omega) (show 8 - (i + 1) < 8 - i from by omega) _ _ ls G (lv_sub hl [0, 1, 4, 5, 6, 7, 8] rfl)
            · have c_18n : ¬ u.toInt ≤ r_16.toInt := fun q => c_18 ((fa_le _ _).mpr q)
              refine lv_goto (tgt := 105) hx hb dX11_worth_95 (by decide) ?_
              refine lv_iload hx hb dX11_worth_105 (lv_at hl 0 rfl) ?_
              refine lv_goto (tgt := 112) hx hb dX11_worth_107 (by decide) ?_
              refine lv_istore (lv' := [(5, .int r_16), (8, .int r_16), (7, .int x), (6, .int (nI i)), (0, .ref h), (1, .int x), (2, .int y), (3, .int 1), (4, .int q)]) hx hb dX11_worth_112 hl (by decide) rfl (fun ls hl => ?_)
              refine lv_iinc (v := nI (i + 1)) (lv' := [(6, .int (nI (i + 1))), (5, .int r_16), (8, .int r_16), (7, .int x), (0, .ref h), (1, .int x), (2, .int y), (3, .int 1), (4, .int q)]) hx hb dX11_worth_114 hl (k := 3) rfl (z_inc i 1) (by decide) rfl (fun ls hl => ?_)
              refine lv_goto (tgt := 22) hx hb dX11_worth_117 (by decide) ?_
              exact ih_22 ((i + 1), r_16) (show (i + 1) ≤ 8 from by omega) (show 8 - (i + 1) < 8 - i from by omega) _ _ ls G (lv_sub hl [0, 1, 4, 5, 6, 7, 8] rfl)
        · have c_15n : q.toInt = (0 : Int) := (fa_eq _ _).mp c_15
          refine lv_iconst (v := 1) hx hb dX11_worth_67 (by decide) ?_
          refine lv_goto (tgt := 72) hx hb dX11_worth_68 (by decide) ?_
          refine z_Si (bc := [ww, z]) (br := []) (As := [.ref h, .int x, .int y, .int 0, .int 1]) (rest := []) C G (c_worth0 l T h la md wy pc_ f1 f2 f3 f4 f5 f6 n4 ww cr inn k1 k2 k3 k4 z x y 1 hww hz (by first | assumption | omega | rfl) (by first | assumption | omega | rfl)) (kS_RX11_278 C.2.2.2.2 (Nat.le_of_ble_eq_true rfl) (Nat.le_of_ble_eq_true rfl)) [0, 1] [] rfl rfl rfl rfl hl.1 dX11_worth_72 (Nat.le_of_ble_eq_true rfl) (Nat.le_of_ble_eq_true rfl) (fun r_19 b1 H locs hw G => ?_)
          obtain rfl := hw
          have G : zS T A s.heap s [ww, z] _ _ := G
          refine lv_istore (lv' := [(8, .int r_19), (7, .int x), (6, .int (nI i)), (5, .int u), (0, .ref h), (1, .int x), (2, .int y), (3, .int 1), (4, .int q)]) hx hb dX11_worth_75 hl (by decide) rfl (fun ls hl => ?_)
          refine lv_iload hx hb dX11_worth_77 (lv_at hl 3 rfl) ?_
          refine lv_iconst (v := (-1)) hx hb dX11_worth_79 (by decide) ?_
          refine lv_icmp_eq (tgt := 105) hx hb dX11_worth_80 (by decide) (fun c_20 => ?_) (fun c_20 => ?_)
          · have c_20n : u.toInt = (-1 : Int) := (fa_eq _ _).mp c_20
            refine lv_iload hx hb dX11_worth_105 (lv_at hl 0 rfl) ?_
            refine lv_goto (tgt := 112) hx hb dX11_worth_107 (by decide) ?_
            refine lv_istore (lv' := [(5, .int r_19), (8, .int r_19), (7, .int x), (6, .int (nI i)), (0, .ref h), (1, .int x), (2, .int y), (3, .int 1), (4, .int q)]) hx hb dX11_worth_112 hl (by decide) rfl (fun ls hl => ?_)
            refine lv_iinc (v := nI (i + 1)) (lv' := [(6, .int (nI (i + 1))), (5, .int r_19), (8, .int r_19), (7, .int x), (0, .ref h), (1, .int x), (2, .int y), (3, .int 1), (4, .int q)]) hx hb dX11_worth_114 hl (k := 3) rfl (z_inc i 1) (by decide) rfl (fun ls hl => ?_)
            refine lv_goto (tgt := 22) hx hb dX11_worth_117 (by decide) ?_
            exact ih_22 ((i + 1), r_19) (show (i + 1) ≤ 8 from by omega) (show 8 - (i + 1) < 8 - i from by omega) _ _ ls G (lv_sub hl [0, 1, 4, 5, 6, 7, 8] rfl)
          · have c_20n : ¬ u.toInt = (-1 : Int) := fun q => c_20 ((fa_eq _ _).mpr q)
            refine lv_iload hx hb dX11_worth_83 (lv_at hl 8 rfl) ?_
            refine lv_if_eq (tgt := 98) hx hb dX11_worth_85 (by decide) (fun _ => ?_) (fun q => absurd c_15 q)
            refine lv_iload hx hb dX11_worth_98 (lv_at hl 0 rfl) ?_
            refine lv_iload hx hb dX11_worth_100 (lv_at hl 3 rfl) ?_
            refine lv_icmp_le (tgt := 110) hx hb dX11_worth_102 (by decide) (fun c_21 => ?_) (fun c_21 => ?_)
            · have c_21n : r_19.toInt ≤ u.toInt := (fa_le _ _).mp c_21
              refine lv_iload hx hb dX11_worth_110 (lv_at hl 3 rfl) ?_
              refine lv_istore (lv' := [(5, .int u), (8, .int r_19), (7, .int x), (6, .int (nI i)), (0, .ref h), (1, .int x), (2, .int y), (3, .int 1), (4, .int q)]) hx hb dX11_worth_112 hl (by decide) rfl (fun ls hl => ?_)
              refine lv_iinc (v := nI (i + 1)) (lv' := [(6, .int (nI (i + 1))), (5, .int u), (8, .int r_19), (7, .int x), (0, .ref h), (1, .int x), (2, .int y), (3, .int 1), (4, .int q)]) hx hb dX11_worth_114 hl (k := 3) rfl (z_inc i 1) (by decide) rfl (fun ls hl => ?_)
              refine lv_goto (tgt := 22) hx hb dX11_worth_117 (by decide) ?_
              exact ih_22 ((i + 1), u) (show (i + 1) ≤ 8 from by omega) (show 8 - (i + 1) < 8 - i from by omega) _ _ ls G (lv_sub hl [0, 1, 4, 5, 6, 7, 8] rfl)
            · have c_21n : ¬ r_19.toInt ≤ u.toInt := fun q => c_21 ((fa_le _ _).mpr q)
              refine lv_iload hx hb dX11_worth_105 (lv_at hl 0 rfl) ?_
              refine lv_goto (tgt := 112) hx hb dX11_worth_107 (by decide) ?_
              refine lv_istore (lv' := [(5, .int r_19), (8, .int r_19), (7, .int x), (6, .int (nI i)), (0, .ref h), (1, .int x), (2, .int y), (3, .int 1), (4, .int q)]) hx hb dX11_worth_112 hl (by decide) rfl (fun ls hl => ?_)
              refine lv_iinc (v := nI (i + 1)) (lv' := [(6, .int (nI (i + 1))), (5, .int r_19), (8, .int r_19), (7, .int x), (0, .ref h), (1, .int x), (2, .int y), (3, .int 1), (4, .int q)]) hx hb dX11_worth_114 hl (k := 3) rfl (z_inc i 1) (by decide) rfl (fun ls hl => ?_)
              refine lv_goto (tgt := 22) hx hb dX11_worth_117 (by decide) ?_
              exact ih_22 ((i + 1), r_19) (show (i + 1) ≤ 8 from by omega) (show 8 - (i + 1) < 8 - i from by omega) _ _ ls G (lv_sub hl [0, 1, 4, 5, 6, 7, 8] rfl)
set_option maxHeartbeats 4000000 in
set_option maxRecDepth 100000 in
/-- worth -/
theorem c_worth2 (l : Launch) (T : zTy) (h : Nat) (la : Nat) (md : Int32) (wy : Int32) (pc_ : Int32) (f1 : Nat → Int32) (f2 : Nat → Int32) (f3 : Nat → Int32) (f4 : Nat → Int32) (f5 : Nat → Int32) (f6 : Nat → Int32) (n4 : Nat) (ww : va_W) (cr : Int32) (inn : Int32) (k1 : Nat → Int32) (k2 : Nat → Int32) (k3 : Nat → Int32) (k4 : Nat → Int32) (z : va_W) (x : Int32) (y : Int32) (q : Int32) (hww : bWays T h la md wy pc_ f1 f2 f3 f4 f5 f6 n4 ww) (hz : bLand T la cr inn k1 k2 k3 k4 z) (hI : zLI cr k1 k3) (hn : n4 ≤ 131072) : zMi l T yX11_worth cX11_worth 9 (some .int) 7 0 0 [.ref h, .int x, .int y, .int 2, .int q] [ww, z] (fun (r : Int32) bs => bs = [ww, z]) := by
  refine zMi_of (own := RX11) (by decide) rfl (Nat.le_of_ble_eq_true rfl) ?_
  intro p e s m args below meth c A ls C hr hlocks hnm hAe G hl
  have hx := C.1
  have hb := C.2.1
  have hl : lv_has ls 9 [(0, .ref h), (1, .int x), (2, .int y), (3, .int 2), (4, .int q)] := hl
  refine lv_iload_n hx hb dX11_worth_0 rfl (lv_at hl 3 rfl) ?_
  refine lv_if_le (tgt := 9) hx hb dX11_worth_1 (by decide) (fun q => absurd q (by decide)) (fun _ => ?_)
  refine lv_iload_n hx hb dX11_worth_4 rfl (lv_at hl 3 rfl) ?_
  refine lv_iconst (v := 3) hx hb dX11_worth_5 (by decide) ?_
  refine lv_icmp_le (tgt := 16) hx hb dX11_worth_6 (by decide) (fun _ => ?_) (fun q => absurd (by decide) q)
  refine lv_iconst (v := (-1)) hx hb dX11_worth_16 (by decide) ?_
  refine lv_istore (lv' := [(5, .int (-1)), (0, .ref h), (1, .int x), (2, .int y), (3, .int 2), (4, .int q)]) hx hb dX11_worth_17 hl (by decide) rfl (fun ls hl => ?_)
  refine lv_iconst (v := 0) hx hb dX11_worth_19 (by decide) ?_
  refine lv_istore (lv' := [(6, .int 0), (5, .int (-1)), (0, .ref h), (1, .int x), (2, .int y), (3, .int 2), (4, .int q)]) hx hb dX11_worth_20 hl (by decide) rfl (fun ls hl => ?_)
  refine z_loop (T := T) (α := Nat × Int32) 22 (fun (i, u) => [ww, z]) (fun (i, u) => [(6, .int (nI i)), (5, .int u), (0, .ref h), (1, .int x), (2, .int y), (3, .int 2), (4, .int q)]) (fun (i, u) => i ≤ 8) (fun (i, u) => 8 - i) ?_ (0, (-1)) (show 0 ≤ 8 from by omega) G (lv_sub hl [0, 1, 2, 3, 4, 5, 6] rfl)
  rintro ⟨i, u⟩ hi ih_22 H locs ls G hl
  replace hi : i ≤ 8 := hi
  replace G : zS T A s.heap s [ww, z] _ _ := G
  replace hl : lv_has ls 9 [(6, .int (nI i)), (5, .int u), (0, .ref h), (1, .int x), (2, .int y), (3, .int 2), (4, .int q)] := hl
  refine lv_iload hx hb dX11_worth_22 (lv_at hl 0 rfl) ?_
  refine lv_bipush (v := 7) hx hb dX11_worth_24 (by decide) ?_
  refine lv_icmp_gt (tgt := 120) hx hb dX11_worth_26 (by decide) (fun c_1 => ?_) (fun c_1 => ?_)
  · have c_1n : 7 < i := (nI_ltI (a := 7) (b := i) (by omega) (by omega)).mp c_1
    refine lv_iload hx hb dX11_worth_120 (lv_at hl 1 rfl) ?_
    exact z_iret C hr hlocks G (Nat.le_of_ble_eq_true rfl) (Nat.le_of_ble_eq_true rfl) dX11_worth_122 rfl
  · have c_1n : ¬ 7 < i := fun q => c_1 ((nI_ltI (a := 7) (b := i) (by omega) (by omega)).mpr q)
    refine lv_iload hx hb dX11_worth_29 (lv_at hl 0 rfl) ?_
    refine lv_bipush (v := 7) hx hb dX11_worth_31 (by decide) ?_
    refine lv_icmp_ne (tgt := 40) hx hb dX11_worth_33 (by decide) (fun c_2 => ?_) (fun c_2 => ?_)
    · have c_2n : ¬ i = 7 := fun q => c_2 ((nI_eq (a := i) (b := 7) (by omega) (by omega)).mpr q)
      refine lv_aload_n hx hb dX11_worth_40 rfl (lv_at hl 2 rfl) ?_
      refine lv_iload_n hx hb dX11_worth_41 rfl (lv_at hl 3 rfl) ?_
      refine lv_iload hx hb dX11_worth_42 (lv_at hl 0 rfl) ?_
      refine z_Vi (bc := [ww, z]) (br := []) (As := [.int x, .int (nI i)]) (rest := []) C G (c_turned l T h la md wy pc_ f1 f2 f3 f4 f5 f6 n4 ww cr inn k1 k2 k3 k4 z x (nI i) hww hz (by first | assumption | omega | rfl)) (kV_RX11_289 C.2.2.2.2 (Nat.le_of_ble_eq_true rfl) (Nat.le_of_ble_eq_true rfl)) [0, 1] [] rfl rfl (ci := 0) (qc := (RX0, TX0, 10)) rfl rfl (List.mem_flatten.mpr ⟨_, List.mem_of_getElem? (i := 0) rfl, (bWays_mem hww).choose_spec⟩) rfl rfl hl.1 dX11_worth_44 (Nat.le_of_ble_eq_true rfl) (Nat.le_of_ble_eq_true rfl) (fun r_3 b1 H locs hw G => ?_)
      obtain rfl := hw
      have G : zS T A s.heap s [ww, z] _ _ := G
      refine lv_istore (lv' := [(7, .int r_3), (6, .int (nI i)), (5, .int u), (0, .ref h), (1, .int x), (2, .int y), (3, .int 2), (4, .int q)]) hx hb dX11_worth_47 hl (by decide) rfl (fun ls hl => ?_)
      refine lv_iload hx hb dX11_worth_49 (lv_at hl 0 rfl) ?_
      refine lv_iconst (v := (-1)) hx hb dX11_worth_51 (by decide) ?_
      refine lv_icmp_eq (tgt := 114) hx hb dX11_worth_52 (by decide) (fun c_4 => ?_) (fun c_4 => ?_)
      · have c_4n : r_3.toInt = (-1 : Int) := (fa_eq _ _).mp c_4
        refine lv_iinc (v := nI (i + 1)) (lv' := [(6, .int (nI (i + 1))), (7, .int r_3), (5, .int u), (0, .ref h), (1, .int x), (2, .int y), (3, .int 2), (4, .int q)]) hx hb dX11_worth_114 hl (k := 1) rfl (z_inc i 1) (by decide) rfl (fun ls hl => ?_)
        refine lv_goto (tgt := 22) hx hb dX11_worth_117 (by decide) ?_
        exact ih_22 ((i + 1), u) (show (i + 1) ≤ 8 from by omega) (show 8 - (i + 1) < 8 - i from by omega) _ _ ls G (lv_sub hl [0, 2, 3, 4, 5, 6, 7] rfl)
      · have c_4n : ¬ r_3.toInt = (-1 : Int) := fun q => c_4 ((fa_eq _ _).mpr q)
        refine lv_aload_n hx hb dX11_worth_55 rfl (lv_at hl 3 rfl) ?_
        refine lv_iload hx hb dX11_worth_56 (lv_at hl 0 rfl) ?_
        refine lv_iload_n hx hb dX11_worth_58 rfl (lv_at hl 5 rfl) ?_
        refine lv_iload_n hx hb dX11_worth_59 rfl (lv_at hl 6 rfl) ?_
        refine lv_iconst (v := 1) hx hb dX11_worth_60 (by decide) ?_
        refine lv_isub hx hb dX11_worth_61 ?_
        refine lv_topi (fun y_5 ey_5 => ?_)
        obtain rfl : y_5 = 1 := ey_5.trans (by decide)
        refine lv_iload hx hb dX11_worth_62 (lv_at hl 7 rfl) ?_
        refine lv_if_ne (tgt := 71) hx hb dX11_worth_64 (by decide) (fun c_6 => ?_) (fun c_6 => ?_)
        · have c_6n : ¬ q.toInt = (0 : Int) := fun q => c_6 ((fa_eq _ _).mpr q)
          refine lv_iconst (v := 0) hx hb dX11_worth_71 (by decide) ?_
          refine z_Si (bc := [ww, z]) (br := []) (As := [.ref h, .int r_3, .int y, .int 1, .int 0]) (rest := []) C G (c_worth1 l T h la md wy pc_ f1 f2 f3 f4 f5 f6 n4 ww cr inn k1 k2 k3 k4 z r_3 y 0 hww hz (by first | assumption | omega | rfl) (by first | assumption | omega | rfl)) (kS_RX11_278 C.2.2.2.2 (Nat.le_of_ble_eq_true rfl) (Nat.le_of_ble_eq_true rfl)) [0, 1] [] rfl rfl rfl rfl hl.1 dX11_worth_72 (Nat.le_of_ble_eq_true rfl) (Nat.le_of_ble_eq_true rfl) (fun r_7 b1 H locs hw G => ?_)
          obtain rfl := hw
          have G : zS T A s.heap s [ww, z] _ _ := G
          refine lv_istore (lv' := [(8, .int r_7), (7, .int r_3), (6, .int (nI i)), (5, .int u), (0, .ref h), (1, .int x), (2, .int y), (3, .int 2), (4, .int q)]) hx hb dX11_worth_75 hl (by decide) rfl (fun ls hl => ?_)
          refine lv_iload hx hb dX11_worth_77 (lv_at hl 3 rfl) ?_
          refine lv_iconst (v := (-1)) hx hb dX11_worth_79 (by decide) ?_
          refine lv_icmp_eq (tgt := 105) hx hb dX11_worth_80 (by decide) (fun c_8 => ?_) (fun c_8 => ?_)
          · have c_8n : u.toInt = (-1 : Int) := (fa_eq _ _).mp c_8
            refine lv_iload hx hb dX11_worth_105 (lv_at hl 0 rfl) ?_
            refine lv_goto (tgt := 112) hx hb dX11_worth_107 (by decide) ?_
            refine lv_istore (lv' := [(5, .int r_7), (8, .int r_7), (7, .int r_3), (6, .int (nI i)), (0, .ref h), (1, .int x), (2, .int y), (3, .int 2), (4, .int q)]) hx hb dX11_worth_112 hl (by decide) rfl (fun ls hl => ?_)
            refine lv_iinc (v := nI (i + 1)) (lv' := [(6, .int (nI (i + 1))), (5, .int r_7), (8, .int r_7), (7, .int r_3), (0, .ref h), (1, .int x), (2, .int y), (3, .int 2), (4, .int q)]) hx hb dX11_worth_114 hl (k := 3) rfl (z_inc i 1) (by decide) rfl (fun ls hl => ?_)
            refine lv_goto (tgt := 22) hx hb dX11_worth_117 (by decide) ?_
            exact ih_22 ((i + 1), r_7) (show (i + 1) ≤ 8 from by omega) (show 8 - (i + 1) < 8 - i from by omega) _ _ ls G (lv_sub hl [0, 1, 4, 5, 6, 7, 8] rfl)
          · have c_8n : ¬ u.toInt = (-1 : Int) := fun q => c_8 ((fa_eq _ _).mpr q)
            refine lv_iload hx hb dX11_worth_83 (lv_at hl 8 rfl) ?_
            refine lv_if_eq (tgt := 98) hx hb dX11_worth_85 (by decide) (fun q => absurd q c_6) (fun _ => ?_)
            refine lv_iload hx hb dX11_worth_88 (lv_at hl 0 rfl) ?_
            refine lv_iload hx hb dX11_worth_90 (lv_at hl 3 rfl) ?_
            refine lv_icmp_ge (tgt := 110) hx hb dX11_worth_92 (by decide) (fun c_9 => ?_) (fun c_9 => ?_)
            · have c_9n : u.toInt ≤ r_7.toInt := (fa_le _ _).mp c_9
              refine lv_iload hx hb dX11_worth_110 (lv_at hl 3 rfl) ?_
              refine lv_istore (lv' := [(5, .int u), (8, .int r_7), (7, .int r_3), (6, .int (nI i)), (0, .ref h), (1, .int x), (2, .int y), (3, .int 2), (4, .int q)]) hx hb dX11_worth_112 hl (by decide) rfl (fun ls hl => ?_)
              refine lv_iinc (v := nI (i + 1)) (lv' := [(6, .int (nI (i + 1))), (5, .int u), (8, .int r_7), (7, .int r_3), (0, .ref h), (1, .int x), (2, .int y), (3, .int 2), (4, .int q)]) hx hb dX11_worth_114 hl (k := 3) rfl (z_inc i 1) (by decide) rfl (fun ls hl => ?_)
              refine lv_goto (tgt := 22) hx hb dX11_worth_117 (by decide) ?_
              exact ih_22 ((i + 1), u) (show (i + 1) ≤ 8 from by omega) (show 8 - (i + 1) < 8 - i from by omega) _ _ ls G (lv_sub hl [0, 1, 4, 5, 6, 7, 8] rfl)
            · have c_9n : ¬ u.toInt ≤ r_7.toInt := fun q => c_9 ((fa_le _ _).mpr q)
              refine lv_goto (tgt := 105) hx hb dX11_worth_95 (by decide) ?_
              refine lv_iload hx hb dX11_worth_105 (lv_at hl 0 rfl) ?_
              refine lv_goto (tgt := 112) hx hb dX11_worth_107 (by decide) ?_
              refine lv_istore (lv' := [(5, .int r_7), (8, .int r_7), (7, .int r_3), (6, .int (nI i)), (0, .ref h), (1, .int x), (2, .int y), (3, .int 2), (4, .int q)]) hx hb dX11_worth_112 hl (by decide) rfl (fun ls hl => ?_)
              refine lv_iinc (v := nI (i + 1)) (lv' := [(6, .int (nI (i + 1))), (5, .int r_7), (8, .int r_7), (7, .int r_3), (0, .ref h), (1, .int x), (2, .int y), (3, .int 2), (4, .int q)]) hx hb dX11_worth_114 hl (k := 3) rfl (z_inc i 1) (by decide) rfl (fun ls hl => ?_)
              refine lv_goto (tgt := 22) hx hb dX11_worth_117 (by decide) ?_
              exact ih_22 ((i + 1), r_7) (show (i + 1) ≤ 8 from by omega) (show 8 - (i + 1) < 8 - i from by omega) _ _ ls G (lv_sub hl [0, 1, 4, 5, 6, 7, 8] rfl)
        · have c_6n : q.toInt = (0 : Int) := (fa_eq _ _).mp c_6
          refine lv_iconst (v := 1) hx hb dX11_worth_67 (by decide) ?_
          refine lv_goto (tgt := 72) hx hb dX11_worth_68 (by decide) ?_
          refine z_Si (bc := [ww, z]) (br := []) (As := [.ref h, .int r_3, .int y, .int 1, .int 1]) (rest := []) C G (c_worth1 l T h la md wy pc_ f1 f2 f3 f4 f5 f6 n4 ww cr inn k1 k2 k3 k4 z r_3 y 1 hww hz (by first | assumption | omega | rfl) (by first | assumption | omega | rfl)) (kS_RX11_278 C.2.2.2.2 (Nat.le_of_ble_eq_true rfl) (Nat.le_of_ble_eq_true rfl)) [0, 1] [] rfl rfl rfl rfl hl.1 dX11_worth_72 (Nat.le_of_ble_eq_true rfl) (Nat.le_of_ble_eq_true rfl) (fun r_10 b1 H locs hw G => ?_)
          obtain rfl := hw
          have G : zS T A s.heap s [ww, z] _ _ := G
          refine lv_istore (lv' := [(8, .int r_10), (7, .int r_3), (6, .int (nI i)), (5, .int u), (0, .ref h), (1, .int x), (2, .int y), (3, .int 2), (4, .int q)]) hx hb dX11_worth_75 hl (by decide) rfl (fun ls hl => ?_)
          refine lv_iload hx hb dX11_worth_77 (lv_at hl 3 rfl) ?_
          refine lv_iconst (v := (-1)) hx hb dX11_worth_79 (by decide) ?_
          refine lv_icmp_eq (tgt := 105) hx hb dX11_worth_80 (by decide) (fun c_11 => ?_) (fun c_11 => ?_)
          · have c_11n : u.toInt = (-1 : Int) := (fa_eq _ _).mp c_11
            refine lv_iload hx hb dX11_worth_105 (lv_at hl 0 rfl) ?_
            refine lv_goto (tgt := 112) hx hb dX11_worth_107 (by decide) ?_
            refine lv_istore (lv' := [(5, .int r_10), (8, .int r_10), (7, .int r_3), (6, .int (nI i)), (0, .ref h), (1, .int x), (2, .int y), (3, .int 2), (4, .int q)]) hx hb dX11_worth_112 hl (by decide) rfl (fun ls hl => ?_)
            refine lv_iinc (v := nI (i + 1)) (lv' := [(6, .int (nI (i + 1))), (5, .int r_10), (8, .int r_10), (7, .int r_3), (0, .ref h), (1, .int x), (2, .int y), (3, .int 2), (4, .int q)]) hx hb dX11_worth_114 hl (k := 3) rfl (z_inc i 1) (by decide) rfl (fun ls hl => ?_)
            refine lv_goto (tgt := 22) hx hb dX11_worth_117 (by decide) ?_
            exact ih_22 ((i + 1), r_10) (show (i + 1) ≤ 8 from by omega) (show 8 - (i + 1) < 8 - i from by omega) _ _ ls G (lv_sub hl [0, 1, 4, 5, 6, 7, 8] rfl)
          · have c_11n : ¬ u.toInt = (-1 : Int) := fun q => c_11 ((fa_eq _ _).mpr q)
            refine lv_iload hx hb dX11_worth_83 (lv_at hl 8 rfl) ?_
            refine lv_if_eq (tgt := 98) hx hb dX11_worth_85 (by decide) (fun _ => ?_) (fun q => absurd c_6 q)
            refine lv_iload hx hb dX11_worth_98 (lv_at hl 0 rfl) ?_
            refine lv_iload hx hb dX11_worth_100 (lv_at hl 3 rfl) ?_
            refine lv_icmp_le (tgt := 110) hx hb dX11_worth_102 (by decide) (fun c_12 => ?_) (fun c_12 => ?_)
            · have c_12n : r_10.toInt ≤ u.toInt := (fa_le _ _).mp c_12
              refine lv_iload hx hb dX11_worth_110 (lv_at hl 3 rfl) ?_
              refine lv_istore (lv' := [(5, .int u), (8, .int r_10), (7, .int r_3), (6, .int (nI i)), (0, .ref h), (1, .int x), (2, .int y), (3, .int 2), (4, .int q)]) hx hb dX11_worth_112 hl (by decide) rfl (fun ls hl => ?_)
              refine lv_iinc (v := nI (i + 1)) (lv' := [(6, .int (nI (i + 1))), (5, .int u), (8, .int r_10), (7, .int r_3), (0, .ref h), (1, .int x), (2, .int y), (3, .int 2), (4, .int q)]) hx hb dX11_worth_114 hl (k := 3) rfl (z_inc i 1) (by decide) rfl (fun ls hl => ?_)
              refine lv_goto (tgt := 22) hx hb dX11_worth_117 (by decide) ?_
              exact ih_22 ((i + 1), u) (show (i + 1) ≤ 8 from by omega) (show 8 - (i + 1) < 8 - i from by omega) _ _ ls G (lv_sub hl [0, 1, 4, 5, 6, 7, 8] rfl)
            · have c_12n : ¬ r_10.toInt ≤ u.toInt := fun q => c_12 ((fa_le _ _).mpr q)
              refine lv_iload hx hb dX11_worth_105 (lv_at hl 0 rfl) ?_
              refine lv_goto (tgt := 112) hx hb dX11_worth_107 (by decide) ?_
              refine lv_istore (lv' := [(5, .int r_10), (8, .int r_10), (7, .int r_3), (6, .int (nI i)), (0, .ref h), (1, .int x), (2, .int y), (3, .int 2), (4, .int q)]) hx hb dX11_worth_112 hl (by decide) rfl (fun ls hl => ?_)
              refine lv_iinc (v := nI (i + 1)) (lv' := [(6, .int (nI (i + 1))), (5, .int r_10), (8, .int r_10), (7, .int r_3), (0, .ref h), (1, .int x), (2, .int y), (3, .int 2), (4, .int q)]) hx hb dX11_worth_114 hl (k := 3) rfl (z_inc i 1) (by decide) rfl (fun ls hl => ?_)
              refine lv_goto (tgt := 22) hx hb dX11_worth_117 (by decide) ?_
              exact ih_22 ((i + 1), r_10) (show (i + 1) ≤ 8 from by omega) (show 8 - (i + 1) < 8 - i from by omega) _ _ ls G (lv_sub hl [0, 1, 4, 5, 6, 7, 8] rfl)
    · have c_2n : i = 7 := (nI_eq (a := i) (b := 7) (by omega) (by omega)).mp c_2
      refine lv_iload_n hx hb dX11_worth_36 rfl (lv_at hl 3 rfl) ?_
      refine lv_goto (tgt := 47) hx hb dX11_worth_37 (by decide) ?_
      refine lv_istore (lv' := [(7, .int x), (6, .int (nI i)), (5, .int u), (0, .ref h), (1, .int x), (2, .int y), (3, .int 2), (4, .int q)]) hx hb dX11_worth_47 hl (by decide) rfl (fun ls hl => ?_)
      refine lv_iload hx hb dX11_worth_49 (lv_at hl 0 rfl) ?_
      refine lv_iconst (v := (-1)) hx hb dX11_worth_51 (by decide) ?_
      refine lv_icmp_eq (tgt := 114) hx hb dX11_worth_52 (by decide) (fun c_13 => ?_) (fun c_13 => ?_)
      · have c_13n : x.toInt = (-1 : Int) := (fa_eq _ _).mp c_13
        refine lv_iinc (v := nI (i + 1)) (lv' := [(6, .int (nI (i + 1))), (7, .int x), (5, .int u), (0, .ref h), (1, .int x), (2, .int y), (3, .int 2), (4, .int q)]) hx hb dX11_worth_114 hl (k := 1) rfl (z_inc i 1) (by decide) rfl (fun ls hl => ?_)
        refine lv_goto (tgt := 22) hx hb dX11_worth_117 (by decide) ?_
        exact ih_22 ((i + 1), u) (show (i + 1) ≤ 8 from by omega) (show 8 - (i + 1) < 8 - i from by omega) _ _ ls G (lv_sub hl [0, 2, 3, 4, 5, 6, 7] rfl)
      · have c_13n : ¬ x.toInt = (-1 : Int) := fun q => c_13 ((fa_eq _ _).mpr q)
        refine lv_aload_n hx hb dX11_worth_55 rfl (lv_at hl 3 rfl) ?_
        refine lv_iload hx hb dX11_worth_56 (lv_at hl 0 rfl) ?_
        refine lv_iload_n hx hb dX11_worth_58 rfl (lv_at hl 5 rfl) ?_
        refine lv_iload_n hx hb dX11_worth_59 rfl (lv_at hl 6 rfl) ?_
        refine lv_iconst (v := 1) hx hb dX11_worth_60 (by decide) ?_
        refine lv_isub hx hb dX11_worth_61 ?_
        refine lv_topi (fun y_14 ey_14 => ?_)
        obtain rfl : y_14 = 1 := ey_14.trans (by decide)
        refine lv_iload hx hb dX11_worth_62 (lv_at hl 7 rfl) ?_
        refine lv_if_ne (tgt := 71) hx hb dX11_worth_64 (by decide) (fun c_15 => ?_) (fun c_15 => ?_)
        · have c_15n : ¬ q.toInt = (0 : Int) := fun q => c_15 ((fa_eq _ _).mpr q)
          refine lv_iconst (v := 0) hx hb dX11_worth_71 (by decide) ?_
          refine z_Si (bc := [ww, z]) (br := []) (As := [.ref h, .int x, .int y, .int 1, .int 0]) (rest := []) C G (c_worth1 l T h la md wy pc_ f1 f2 f3 f4 f5 f6 n4 ww cr inn k1 k2 k3 k4 z x y 0 hww hz (by first | assumption | omega | rfl) (by first | assumption | omega | rfl)) (kS_RX11_278 C.2.2.2.2 (Nat.le_of_ble_eq_true rfl) (Nat.le_of_ble_eq_true rfl)) [0, 1] [] rfl rfl rfl rfl hl.1 dX11_worth_72 (Nat.le_of_ble_eq_true rfl) (Nat.le_of_ble_eq_true rfl) (fun r_16 b1 H locs hw G => ?_)
          obtain rfl := hw
          have G : zS T A s.heap s [ww, z] _ _ := G
          refine lv_istore (lv' := [(8, .int r_16), (7, .int x), (6, .int (nI i)), (5, .int u), (0, .ref h), (1, .int x), (2, .int y), (3, .int 2), (4, .int q)]) hx hb dX11_worth_75 hl (by decide) rfl (fun ls hl => ?_)
          refine lv_iload hx hb dX11_worth_77 (lv_at hl 3 rfl) ?_
          refine lv_iconst (v := (-1)) hx hb dX11_worth_79 (by decide) ?_
          refine lv_icmp_eq (tgt := 105) hx hb dX11_worth_80 (by decide) (fun c_17 => ?_) (fun c_17 => ?_)
          · have c_17n : u.toInt = (-1 : Int) := (fa_eq _ _).mp c_17
            refine lv_iload hx hb dX11_worth_105 (lv_at hl 0 rfl) ?_
            refine lv_goto (tgt := 112) hx hb dX11_worth_107 (by decide) ?_
            refine lv_istore (lv' := [(5, .int r_16), (8, .int r_16), (7, .int x), (6, .int (nI i)), (0, .ref h), (1, .int x), (2, .int y), (3, .int 2), (4, .int q)]) hx hb dX11_worth_112 hl (by decide) rfl (fun ls hl => ?_)
            refine lv_iinc (v := nI (i + 1)) (lv' := [(6, .int (nI (i + 1))), (5, .int r_16), (8, .int r_16), (7, .int x), (0, .ref h), (1, .int x), (2, .int y), (3, .int 2), (4, .int q)]) hx hb dX11_worth_114 hl (k := 3) rfl (z_inc i 1) (by decide) rfl (fun ls hl => ?_)
            refine lv_goto (tgt := 22) hx hb dX11_worth_117 (by decide) ?_
            exact ih_22 ((i + 1), r_16) (show (i + 1) ≤ 8 from by omega) (show 8 - (i + 1) < 8 - i from by omega) _ _ ls G (lv_sub hl [0, 1, 4, 5, 6, 7, 8] rfl)
          · have c_17n : ¬ u.toInt = (-1 : Int) := fun q => c_17 ((fa_eq _ _).mpr q)
            refine lv_iload hx hb dX11_worth_83 (lv_at hl 8 rfl) ?_
            refine lv_if_eq (tgt := 98) hx hb dX11_worth_85 (by decide) (fun q => absurd q c_15) (fun _ => ?_)
            refine lv_iload hx hb dX11_worth_88 (lv_at hl 0 rfl) ?_
            refine lv_iload hx hb dX11_worth_90 (lv_at hl 3 rfl) ?_
            refine lv_icmp_ge (tgt := 110) hx hb dX11_worth_92 (by decide) (fun c_18 => ?_) (fun c_18 => ?_)
            · have c_18n : u.toInt ≤ r_16.toInt := (fa_le _ _).mp c_18
              refine lv_iload hx hb dX11_worth_110 (lv_at hl 3 rfl) ?_
              refine lv_istore (lv' := [(5, .int u), (8, .int r_16), (7, .int x), (6, .int (nI i)), (0, .ref h), (1, .int x), (2, .int y), (3, .int 2), (4, .int q)]) hx hb dX11_worth_112 hl (by decide) rfl (fun ls hl => ?_)
              refine lv_iinc (v := nI (i + 1)) (lv' := [(6, .int (nI (i + 1))), (5, .int u), (8, .int r_16), (7, .int x), (0, .ref h), (1, .int x), (2, .int y), (3, .int 2), (4, .int q)]) hx hb dX11_worth_114 hl (k := 3) rfl (z_inc i 1) (by decide) rfl (fun ls hl => ?_)
              refine lv_goto (tgt := 22) hx hb dX11_worth_117 (by decide) ?_
              exact ih_22 ((i + 1), u) (show (i + 1) ≤ 8 from by omega) (show 8 - (i + 1) < 8 - i from by omega) _ _ ls G (lv_sub hl [0, 1, 4, 5, 6, 7, 8] rfl)
            · have c_18n : ¬ u.toInt ≤ r_16.toInt := fun q => c_18 ((fa_le _ _).mpr q)
              refine lv_goto (tgt := 105) hx hb dX11_worth_95 (by decide) ?_
              refine lv_iload hx hb dX11_worth_105 (lv_at hl 0 rfl) ?_
              refine lv_goto (tgt := 112) hx hb dX11_worth_107 (by decide) ?_
              refine lv_istore (lv' := [(5, .int r_16), (8, .int r_16), (7, .int x), (6, .int (nI i)), (0, .ref h), (1, .int x), (2, .int y), (3, .int 2), (4, .int q)]) hx hb dX11_worth_112 hl (by decide) rfl (fun ls hl => ?_)
              refine lv_iinc (v := nI (i + 1)) (lv' := [(6, .int (nI (i + 1))), (5, .int r_16), (8, .int r_16), (7, .int x), (0, .ref h), (1, .int x), (2, .int y), (3, .int 2), (4, .int q)]) hx hb dX11_worth_114 hl (k := 3) rfl (z_inc i 1) (by decide) rfl (fun ls hl => ?_)
              refine lv_goto (tgt := 22) hx hb dX11_worth_117 (by decide) ?_
              exact ih_22 ((i + 1), r_16) (show (i + 1) ≤ 8 from by omega) (show 8 - (i + 1) < 8 - i from by omega) _ _ ls G (lv_sub hl [0, 1, 4, 5, 6, 7, 8] rfl)
        · have c_15n : q.toInt = (0 : Int) := (fa_eq _ _).mp c_15
          refine lv_iconst (v := 1) hx hb dX11_worth_67 (by decide) ?_
          refine lv_goto (tgt := 72) hx hb dX11_worth_68 (by decide) ?_
          refine z_Si (bc := [ww, z]) (br := []) (As := [.ref h, .int x, .int y, .int 1, .int 1]) (rest := []) C G (c_worth1 l T h la md wy pc_ f1 f2 f3 f4 f5 f6 n4 ww cr inn k1 k2 k3 k4 z x y 1 hww hz (by first | assumption | omega | rfl) (by first | assumption | omega | rfl)) (kS_RX11_278 C.2.2.2.2 (Nat.le_of_ble_eq_true rfl) (Nat.le_of_ble_eq_true rfl)) [0, 1] [] rfl rfl rfl rfl hl.1 dX11_worth_72 (Nat.le_of_ble_eq_true rfl) (Nat.le_of_ble_eq_true rfl) (fun r_19 b1 H locs hw G => ?_)
          obtain rfl := hw
          have G : zS T A s.heap s [ww, z] _ _ := G
          refine lv_istore (lv' := [(8, .int r_19), (7, .int x), (6, .int (nI i)), (5, .int u), (0, .ref h), (1, .int x), (2, .int y), (3, .int 2), (4, .int q)]) hx hb dX11_worth_75 hl (by decide) rfl (fun ls hl => ?_)
          refine lv_iload hx hb dX11_worth_77 (lv_at hl 3 rfl) ?_
          refine lv_iconst (v := (-1)) hx hb dX11_worth_79 (by decide) ?_
          refine lv_icmp_eq (tgt := 105) hx hb dX11_worth_80 (by decide) (fun c_20 => ?_) (fun c_20 => ?_)
          · have c_20n : u.toInt = (-1 : Int) := (fa_eq _ _).mp c_20
            refine lv_iload hx hb dX11_worth_105 (lv_at hl 0 rfl) ?_
            refine lv_goto (tgt := 112) hx hb dX11_worth_107 (by decide) ?_
            refine lv_istore (lv' := [(5, .int r_19), (8, .int r_19), (7, .int x), (6, .int (nI i)), (0, .ref h), (1, .int x), (2, .int y), (3, .int 2), (4, .int q)]) hx hb dX11_worth_112 hl (by decide) rfl (fun ls hl => ?_)
            refine lv_iinc (v := nI (i + 1)) (lv' := [(6, .int (nI (i + 1))), (5, .int r_19), (8, .int r_19), (7, .int x), (0, .ref h), (1, .int x), (2, .int y), (3, .int 2), (4, .int q)]) hx hb dX11_worth_114 hl (k := 3) rfl (z_inc i 1) (by decide) rfl (fun ls hl => ?_)
            refine lv_goto (tgt := 22) hx hb dX11_worth_117 (by decide) ?_
            exact ih_22 ((i + 1), r_19) (show (i + 1) ≤ 8 from by omega) (show 8 - (i + 1) < 8 - i from by omega) _ _ ls G (lv_sub hl [0, 1, 4, 5, 6, 7, 8] rfl)
          · have c_20n : ¬ u.toInt = (-1 : Int) := fun q => c_20 ((fa_eq _ _).mpr q)
            refine lv_iload hx hb dX11_worth_83 (lv_at hl 8 rfl) ?_
            refine lv_if_eq (tgt := 98) hx hb dX11_worth_85 (by decide) (fun _ => ?_) (fun q => absurd c_15 q)
            refine lv_iload hx hb dX11_worth_98 (lv_at hl 0 rfl) ?_
            refine lv_iload hx hb dX11_worth_100 (lv_at hl 3 rfl) ?_
            refine lv_icmp_le (tgt := 110) hx hb dX11_worth_102 (by decide) (fun c_21 => ?_) (fun c_21 => ?_)
            · have c_21n : r_19.toInt ≤ u.toInt := (fa_le _ _).mp c_21
              refine lv_iload hx hb dX11_worth_110 (lv_at hl 3 rfl) ?_
              refine lv_istore (lv' := [(5, .int u), (8, .int r_19), (7, .int x), (6, .int (nI i)), (0, .ref h), (1, .int x), (2, .int y), (3, .int 2), (4, .int q)]) hx hb dX11_worth_112 hl (by decide) rfl (fun ls hl => ?_)
              refine lv_iinc (v := nI (i + 1)) (lv' := [(6, .int (nI (i + 1))), (5, .int u), (8, .int r_19), (7, .int x), (0, .ref h), (1, .int x), (2, .int y), (3, .int 2), (4, .int q)]) hx hb dX11_worth_114 hl (k := 3) rfl (z_inc i 1) (by decide) rfl (fun ls hl => ?_)
              refine lv_goto (tgt := 22) hx hb dX11_worth_117 (by decide) ?_
              exact ih_22 ((i + 1), u) (show (i + 1) ≤ 8 from by omega) (show 8 - (i + 1) < 8 - i from by omega) _ _ ls G (lv_sub hl [0, 1, 4, 5, 6, 7, 8] rfl)
            · have c_21n : ¬ r_19.toInt ≤ u.toInt := fun q => c_21 ((fa_le _ _).mpr q)
              refine lv_iload hx hb dX11_worth_105 (lv_at hl 0 rfl) ?_
              refine lv_goto (tgt := 112) hx hb dX11_worth_107 (by decide) ?_
              refine lv_istore (lv' := [(5, .int r_19), (8, .int r_19), (7, .int x), (6, .int (nI i)), (0, .ref h), (1, .int x), (2, .int y), (3, .int 2), (4, .int q)]) hx hb dX11_worth_112 hl (by decide) rfl (fun ls hl => ?_)
              refine lv_iinc (v := nI (i + 1)) (lv' := [(6, .int (nI (i + 1))), (5, .int r_19), (8, .int r_19), (7, .int x), (0, .ref h), (1, .int x), (2, .int y), (3, .int 2), (4, .int q)]) hx hb dX11_worth_114 hl (k := 3) rfl (z_inc i 1) (by decide) rfl (fun ls hl => ?_)
              refine lv_goto (tgt := 22) hx hb dX11_worth_117 (by decide) ?_
              exact ih_22 ((i + 1), r_19) (show (i + 1) ≤ 8 from by omega) (show 8 - (i + 1) < 8 - i from by omega) _ _ ls G (lv_sub hl [0, 1, 4, 5, 6, 7, 8] rfl)

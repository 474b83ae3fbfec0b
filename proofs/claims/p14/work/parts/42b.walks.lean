set_option maxHeartbeats 4000000 in
set_option maxRecDepth 100000 in
/-- inLeastTerms -/
theorem c_inLeastTerms (l : Launch) (T : zTy) (a_ : Int32) (b_ : Int32) (un : Int32) : zMi l T yX11_inLeastTerms cX11_inLeastTerms 7 (some .int) 1 0 0 [.int a_, .int b_, .int un] [] (fun (r : Int32) bs => bs = []) := by
  refine zMi_of (own := RX11) (by decide) rfl (Nat.le_of_ble_eq_true rfl) ?_
  intro p e s m args below meth c A ls C hr hlocks hnm hAe G hl
  refine zHide (fun Qz_ hQz_ => ?_)
  have hx := C.1
  have hb := C.2.1
  have hl : lv_has ls 7 [(0, .int a_), (1, .int b_), (2, .int un)] := hl
  refine lv_iload_n hx hb dX11_inLeastTerms_0 rfl (lv_at hl 0 rfl) ?_
  refine lv_istore_n (lv' := [(3, .int a_), (0, .int a_), (1, .int b_), (2, .int un)]) hx hb dX11_inLeastTerms_1 rfl hl (by decide) (zLvf_h rfl) (fun ls hl => ?_)
  refine lv_iload_n hx hb dX11_inLeastTerms_2 rfl (lv_at hl 2 rfl) ?_
  refine lv_istore (lv' := [(4, .int b_), (3, .int a_), (0, .int a_), (1, .int b_), (2, .int un)]) hx hb dX11_inLeastTerms_3 hl (by decide) (zLvf_h rfl) (fun ls hl => ?_)
  refine lv_iconst (v := 0) hx hb dX11_inLeastTerms_5 (by decide) ?_
  refine lv_istore (lv' := [(5, .int 0), (4, .int b_), (3, .int a_), (0, .int a_), (1, .int b_), (2, .int un)]) hx hb dX11_inLeastTerms_6 hl (by decide) (zLvf_h rfl) (fun ls hl => ?_)
  refine z_lp3 (T := T) 8 (fun (i : Nat) (x : Int32) (y : Int32) => []) (fun (i : Nat) (x : Int32) (y : Int32) => [(5, .int (nI i)), (4, .int y), (3, .int x), (0, .int a_), (1, .int b_), (2, .int un)]) (fun (i : Nat) (x : Int32) (y : Int32) => i ≤ 100) (fun (i : Nat) (x : Int32) (y : Int32) => 100 - i) ?_ 0 a_ b_ (show 0 ≤ 100 from by omega) G (lv_sub hl [0, 1, 2, 3, 4, 5] rfl)
  intro i x y hi ih_8 H locs ls G hl
  replace hi : i ≤ 100 := hi
  replace G : zS T A s.heap s [] _ _ := G
  replace hl : lv_has ls 7 [(5, .int (nI i)), (4, .int y), (3, .int x), (0, .int a_), (1, .int b_), (2, .int un)] := hl
  refine lv_iload hx hb dX11_inLeastTerms_8 (lv_at hl 0 rfl) ?_
  refine lv_bipush (v := 100) hx hb dX11_inLeastTerms_10 (by decide) ?_
  refine lv_icmp_ge (tgt := 39) hx hb dX11_inLeastTerms_12 (by decide) (fun c_1 => ?_) (fun c_1 => ?_)
  · have c_1n : 100 ≤ i := (nI_leI (a := 100) (b := i) (by omega) (by omega)).mp c_1
    refine lv_iload_n hx hb dX11_inLeastTerms_39 rfl (lv_at hl 5 rfl) ?_
    refine lv_if_eq (tgt := 47) hx hb dX11_inLeastTerms_40 (by decide) (fun c_2 => ?_) (fun c_2 => ?_)
    · have c_2n : un.toInt = (0 : Int) := (fa_eq _ _).mp c_2
      refine lv_iload_n hx hb dX11_inLeastTerms_47 rfl (lv_at hl 3 rfl) ?_
      refine lv_istore (lv' := [(5, .int a_), (4, .int y), (3, .int x), (0, .int a_), (1, .int b_), (2, .int un)]) hx hb dX11_inLeastTerms_48 hl (by decide) (zLvf_h rfl) (fun ls hl => ?_)
      refine lv_iload_n hx hb dX11_inLeastTerms_50 rfl (lv_at hl 2 rfl) ?_
      refine lv_if_ne (tgt := 59) hx hb dX11_inLeastTerms_51 (by decide) (fun c_3 => ?_) (fun c_3 => ?_)
      · have c_3n : ¬ x.toInt = (0 : Int) := fun q => c_3 ((fa_eq _ _).mpr q)
        refine lv_iload hx hb dX11_inLeastTerms_59 (lv_at hl 0 rfl) ?_
        refine lv_iload_n hx hb dX11_inLeastTerms_61 rfl (lv_at hl 2 rfl) ?_
        refine lv_idiv hx hb dX11_inLeastTerms_62 (fun q => absurd (congrArg Int32.toInt q) (by show ¬ _ = (0 : Int); omega)) ?_
        exact z_back hQz_ (z_iret C hr hlocks G (Nat.le_of_ble_eq_true rfl) (Nat.le_of_ble_eq_true rfl) dX11_inLeastTerms_63 rfl)
      · have c_3n : x.toInt = (0 : Int) := (fa_eq _ _).mp c_3
        refine lv_iload hx hb dX11_inLeastTerms_54 (lv_at hl 0 rfl) ?_
        refine lv_goto (tgt := 63) hx hb dX11_inLeastTerms_56 (by decide) ?_
        exact z_back hQz_ (z_iret C hr hlocks G (Nat.le_of_ble_eq_true rfl) (Nat.le_of_ble_eq_true rfl) dX11_inLeastTerms_63 rfl)
    · have c_2n : ¬ un.toInt = (0 : Int) := fun q => c_2 ((fa_eq _ _).mpr q)
      refine lv_iload_n hx hb dX11_inLeastTerms_43 rfl (lv_at hl 4 rfl) ?_
      refine lv_goto (tgt := 48) hx hb dX11_inLeastTerms_44 (by decide) ?_
      refine lv_istore (lv' := [(5, .int b_), (4, .int y), (3, .int x), (0, .int a_), (1, .int b_), (2, .int un)]) hx hb dX11_inLeastTerms_48 hl (by decide) (zLvf_h rfl) (fun ls hl => ?_)
      refine lv_iload_n hx hb dX11_inLeastTerms_50 rfl (lv_at hl 2 rfl) ?_
      refine lv_if_ne (tgt := 59) hx hb dX11_inLeastTerms_51 (by decide) (fun c_4 => ?_) (fun c_4 => ?_)
      · have c_4n : ¬ x.toInt = (0 : Int) := fun q => c_4 ((fa_eq _ _).mpr q)
        refine lv_iload hx hb dX11_inLeastTerms_59 (lv_at hl 0 rfl) ?_
        refine lv_iload_n hx hb dX11_inLeastTerms_61 rfl (lv_at hl 2 rfl) ?_
        refine lv_idiv hx hb dX11_inLeastTerms_62 (fun q => absurd (congrArg Int32.toInt q) (by show ¬ _ = (0 : Int); omega)) ?_
        exact z_back hQz_ (z_iret C hr hlocks G (Nat.le_of_ble_eq_true rfl) (Nat.le_of_ble_eq_true rfl) dX11_inLeastTerms_63 rfl)
      · have c_4n : x.toInt = (0 : Int) := (fa_eq _ _).mp c_4
        refine lv_iload hx hb dX11_inLeastTerms_54 (lv_at hl 0 rfl) ?_
        refine lv_goto (tgt := 63) hx hb dX11_inLeastTerms_56 (by decide) ?_
        exact z_back hQz_ (z_iret C hr hlocks G (Nat.le_of_ble_eq_true rfl) (Nat.le_of_ble_eq_true rfl) dX11_inLeastTerms_63 rfl)
  · have c_1n : ¬ 100 ≤ i := fun q => c_1 ((nI_leI (a := 100) (b := i) (by omega) (by omega)).mpr q)
    refine lv_iload hx hb dX11_inLeastTerms_15 (lv_at hl 1 rfl) ?_
    refine lv_if_eq (tgt := 39) hx hb dX11_inLeastTerms_17 (by decide) (fun c_5 => ?_) (fun c_5 => ?_)
    · have c_5n : y.toInt = (0 : Int) := (fa_eq _ _).mp c_5
      refine lv_iload_n hx hb dX11_inLeastTerms_39 rfl (lv_at hl 5 rfl) ?_
      refine lv_if_eq (tgt := 47) hx hb dX11_inLeastTerms_40 (by decide) (fun c_6 => ?_) (fun c_6 => ?_)
      · have c_6n : un.toInt = (0 : Int) := (fa_eq _ _).mp c_6
        refine lv_iload_n hx hb dX11_inLeastTerms_47 rfl (lv_at hl 3 rfl) ?_
        refine lv_istore (lv' := [(5, .int a_), (4, .int y), (3, .int x), (0, .int a_), (1, .int b_), (2, .int un)]) hx hb dX11_inLeastTerms_48 hl (by decide) (zLvf_h rfl) (fun ls hl => ?_)
        refine lv_iload_n hx hb dX11_inLeastTerms_50 rfl (lv_at hl 2 rfl) ?_
        refine lv_if_ne (tgt := 59) hx hb dX11_inLeastTerms_51 (by decide) (fun c_7 => ?_) (fun c_7 => ?_)
        · have c_7n : ¬ x.toInt = (0 : Int) := fun q => c_7 ((fa_eq _ _).mpr q)
          refine lv_iload hx hb dX11_inLeastTerms_59 (lv_at hl 0 rfl) ?_
          refine lv_iload_n hx hb dX11_inLeastTerms_61 rfl (lv_at hl 2 rfl) ?_
          refine lv_idiv hx hb dX11_inLeastTerms_62 (fun q => absurd (congrArg Int32.toInt q) (by show ¬ _ = (0 : Int); omega)) ?_
          exact z_back hQz_ (z_iret C hr hlocks G (Nat.le_of_ble_eq_true rfl) (Nat.le_of_ble_eq_true rfl) dX11_inLeastTerms_63 rfl)
        · have c_7n : x.toInt = (0 : Int) := (fa_eq _ _).mp c_7
          refine lv_iload hx hb dX11_inLeastTerms_54 (lv_at hl 0 rfl) ?_
          refine lv_goto (tgt := 63) hx hb dX11_inLeastTerms_56 (by decide) ?_
          exact z_back hQz_ (z_iret C hr hlocks G (Nat.le_of_ble_eq_true rfl) (Nat.le_of_ble_eq_true rfl) dX11_inLeastTerms_63 rfl)
      · have c_6n : ¬ un.toInt = (0 : Int) := fun q => c_6 ((fa_eq _ _).mpr q)
        refine lv_iload_n hx hb dX11_inLeastTerms_43 rfl (lv_at hl 4 rfl) ?_
        refine lv_goto (tgt := 48) hx hb dX11_inLeastTerms_44 (by decide) ?_
        refine lv_istore (lv' := [(5, .int b_), (4, .int y), (3, .int x), (0, .int a_), (1, .int b_), (2, .int un)]) hx hb dX11_inLeastTerms_48 hl (by decide) (zLvf_h rfl) (fun ls hl => ?_)
        refine lv_iload_n hx hb dX11_inLeastTerms_50 rfl (lv_at hl 2 rfl) ?_
        refine lv_if_ne (tgt := 59) hx hb dX11_inLeastTerms_51 (by decide) (fun c_8 => ?_) (fun c_8 => ?_)
        · have c_8n : ¬ x.toInt = (0 : Int) := fun q => c_8 ((fa_eq _ _).mpr q)
          refine lv_iload hx hb dX11_inLeastTerms_59 (lv_at hl 0 rfl) ?_
          refine lv_iload_n hx hb dX11_inLeastTerms_61 rfl (lv_at hl 2 rfl) ?_
          refine lv_idiv hx hb dX11_inLeastTerms_62 (fun q => absurd (congrArg Int32.toInt q) (by show ¬ _ = (0 : Int); omega)) ?_
          exact z_back hQz_ (z_iret C hr hlocks G (Nat.le_of_ble_eq_true rfl) (Nat.le_of_ble_eq_true rfl) dX11_inLeastTerms_63 rfl)
        · have c_8n : x.toInt = (0 : Int) := (fa_eq _ _).mp c_8
          refine lv_iload hx hb dX11_inLeastTerms_54 (lv_at hl 0 rfl) ?_
          refine lv_goto (tgt := 63) hx hb dX11_inLeastTerms_56 (by decide) ?_
          exact z_back hQz_ (z_iret C hr hlocks G (Nat.le_of_ble_eq_true rfl) (Nat.le_of_ble_eq_true rfl) dX11_inLeastTerms_63 rfl)
    · have c_5n : ¬ y.toInt = (0 : Int) := fun q => c_5 ((fa_eq _ _).mpr q)
      refine lv_iload_n hx hb dX11_inLeastTerms_20 rfl (lv_at hl 2 rfl) ?_
      refine lv_iload hx hb dX11_inLeastTerms_21 (lv_at hl 1 rfl) ?_
      refine lv_irem hx hb dX11_inLeastTerms_23 (fun q => absurd (congrArg Int32.toInt q) (by show ¬ _ = (0 : Int); omega)) ?_
      refine lv_istore (lv' := [(6, .int (x - x / y * y)), (5, .int (nI i)), (4, .int y), (3, .int x), (0, .int a_), (1, .int b_), (2, .int un)]) hx hb dX11_inLeastTerms_24 hl (by decide) (zLvf_h rfl) (fun ls hl => ?_)
      refine lv_iload hx hb dX11_inLeastTerms_26 (lv_at hl 2 rfl) ?_
      refine lv_istore_n (lv' := [(3, .int y), (6, .int (x - x / y * y)), (5, .int (nI i)), (4, .int y), (0, .int a_), (1, .int b_), (2, .int un)]) hx hb dX11_inLeastTerms_28 rfl hl (by decide) (zLvf_h rfl) (fun ls hl => ?_)
      refine lv_iload hx hb dX11_inLeastTerms_29 (lv_at hl 1 rfl) ?_
      refine lv_istore (lv' := [(4, .int (x - x / y * y)), (3, .int y), (6, .int (x - x / y * y)), (5, .int (nI i)), (0, .int a_), (1, .int b_), (2, .int un)]) hx hb dX11_inLeastTerms_31 hl (by decide) (zLvf_h rfl) (fun ls hl => ?_)
      refine lv_iinc (v := nI (i + 1)) (lv' := [(5, .int (nI (i + 1))), (4, .int (x - x / y * y)), (3, .int y), (6, .int (x - x / y * y)), (0, .int a_), (1, .int b_), (2, .int un)]) hx hb dX11_inLeastTerms_33 hl (k := 3) rfl (z_inc i 1) (by decide) (zLvf_h rfl) (fun ls hl => ?_)
      refine lv_goto (tgt := 8) hx hb dX11_inLeastTerms_36 (by decide) ?_
      exact ih_8 (i + 1) y (x - x / y * y) (show (i + 1) ≤ 100 from by omega) (show 100 - (i + 1) < 100 - i from by omega) _ _ ls G (lv_sub hl [0, 1, 2, 4, 5, 6] rfl)
set_option maxHeartbeats 4000000 in
set_option maxRecDepth 100000 in
/-- placeOfCode -/
theorem c_placeOfCode (l : Launch) (T : zTy) (xo : Nat) (t : Nat) (im : Nat) (mk : Nat) (rd : Nat) (po : Nat) (co : Nat) (tr : Nat) (wa : Nat) (wb_ : Nat) (fi : Nat) (cd : Nat) (fcd : Nat → Int32) (a_ : Int32) (b_ : Int32) : zMi l T yX11_placeOfCode cX11_placeOfCode 4 (some .int) 1 0 0 [.ref xo, .int a_, .int b_] [[zO10 xo t im mk rd po co tr wa wb_ fi cd], [zAr T 0 cd 1000 fcd]] (fun (r : Int32) bs => bs = [[zO10 xo t im mk rd po co tr wa wb_ fi cd], [zAr T 0 cd 1000 fcd]]) := by
  refine zMi_of (own := RX11) (by decide) rfl (Nat.le_of_ble_eq_true rfl) ?_
  intro p e s m args below meth c A ls C hr hlocks hnm hAe G hl
  refine zHide (fun Qz_ hQz_ => ?_)
  have hx := C.1
  have hb := C.2.1
  have hl : lv_has ls 4 [(0, .ref xo), (1, .int a_), (2, .int b_)] := hl
  refine lv_iconst (v := 0) hx hb dX11_placeOfCode_0 (by decide) ?_
  refine lv_istore_n (lv' := [(3, .int 0), (0, .ref xo), (1, .int a_), (2, .int b_)]) hx hb dX11_placeOfCode_1 rfl hl (by decide) (zLvf_h rfl) (fun ls hl => ?_)
  refine z_lp1 (T := T) 2 (fun (i : Nat) => [[zO10 xo t im mk rd po co tr wa wb_ fi cd], [zAr T 0 cd 1000 fcd]]) (fun (i : Nat) => [(3, .int (nI i)), (0, .ref xo), (1, .int a_), (2, .int b_)]) (fun (i : Nat) => i ≤ 1000) (fun (i : Nat) => 1000 - i) ?_ 0 (show 0 ≤ 1000 from by omega) G (lv_sub hl [0, 1, 2, 3] rfl)
  intro i hi ih_2 H locs ls G hl
  replace hi : i ≤ 1000 := hi
  replace G : zS T A s.heap s [[zO10 xo t im mk rd po co tr wa wb_ fi cd], [zAr T 0 cd 1000 fcd]] _ _ := G
  replace hl : lv_has ls 4 [(3, .int (nI i)), (0, .ref xo), (1, .int a_), (2, .int b_)] := hl
  refine lv_iload_n hx hb dX11_placeOfCode_2 rfl (lv_at hl 0 rfl) ?_
  refine lv_iload_n hx hb dX11_placeOfCode_3 rfl (lv_at hl 3 rfl) ?_
  refine lv_icmp_ge (tgt := 34) hx hb dX11_placeOfCode_4 (by decide) (fun c_1 => ?_) (fun c_1 => ?_)
  · have c_1n : b_.toInt ≤ (i : Int) := by have q := (fa_le _ _).mp c_1; rw [nI_toInt (n := i) (by omega)] at q; exact q
    refine lv_iconst (v := (-1)) hx hb dX11_placeOfCode_34 (by decide) ?_
    exact z_back hQz_ (z_iret C hr hlocks G (Nat.le_of_ble_eq_true rfl) (Nat.le_of_ble_eq_true rfl) dX11_placeOfCode_35 rfl)
  · have c_1n : ¬ b_.toInt ≤ (i : Int) := fun q => c_1 ((fa_le _ _).mpr (by rw [nI_toInt (n := i) (by omega)]; exact q))
    refine lv_iload_n hx hb dX11_placeOfCode_7 rfl (lv_at hl 0 rfl) ?_
    refine lv_aload_n hx hb dX11_placeOfCode_8 rfl (lv_at hl 1 rfl) ?_
    refine z_get C G clX11 0 rfl 10 (by decide) m_fl_RX11_69 rfl dX11_placeOfCode_9 ?_
    refine z_alen C G 1 0 rfl (v := 1000) rfl rfl dX11_placeOfCode_12 ?_
    refine lv_icmp_ge (tgt := 34) hx hb dX11_placeOfCode_13 (by decide) (fun c_2 => ?_) (fun c_2 => ?_)
    · have c_2n : 1000 ≤ i := (nI_leI (a := 1000) (b := i) (by omega) (by omega)).mp c_2
      refine lv_iconst (v := (-1)) hx hb dX11_placeOfCode_34 (by decide) ?_
      exact z_back hQz_ (z_iret C hr hlocks G (Nat.le_of_ble_eq_true rfl) (Nat.le_of_ble_eq_true rfl) dX11_placeOfCode_35 rfl)
    · have c_2n : ¬ 1000 ≤ i := fun q => c_2 ((nI_leI (a := 1000) (b := i) (by omega) (by omega)).mpr q)
      refine lv_aload_n hx hb dX11_placeOfCode_16 rfl (lv_at hl 1 rfl) ?_
      refine z_get C G clX11 0 rfl 10 (by decide) m_fl_RX11_69 rfl dX11_placeOfCode_17 ?_
      refine lv_iload_n hx hb dX11_placeOfCode_20 rfl (lv_at hl 0 rfl) ?_
      refine z_ild C G 1 rfl (vp_in_nI (by omega) (by decide)) dX11_placeOfCode_21 ?_
      refine lv_topi (fun v_3 ev_3 => ?_)
      rw [nI_clamp (by omega)] at ev_3
      subst ev_3
      refine lv_iload_n hx hb dX11_placeOfCode_22 rfl (lv_at hl 2 rfl) ?_
      refine lv_icmp_ne (tgt := 28) hx hb dX11_placeOfCode_23 (by decide) (fun c_4 => ?_) (fun c_4 => ?_)
      · have c_4n : ¬ (fcd i).toInt = a_.toInt := fun q => c_4 ((fa_eq _ _).mpr q)
        refine lv_iinc (v := nI (i + 1)) (lv' := [(3, .int (nI (i + 1))), (0, .ref xo), (1, .int a_), (2, .int b_)]) hx hb dX11_placeOfCode_28 hl (k := 0) rfl (z_inc i 1) (by decide) (zLvf_h rfl) (fun ls hl => ?_)
        refine lv_goto (tgt := 2) hx hb dX11_placeOfCode_31 (by decide) ?_
        exact ih_2 (i + 1) (show (i + 1) ≤ 1000 from by omega) (show 1000 - (i + 1) < 1000 - i from by omega) _ _ ls G (lv_sub hl [0, 1, 2, 3] rfl)
      · have c_4n : (fcd i).toInt = a_.toInt := (fa_eq _ _).mp c_4
        refine lv_iload_n hx hb dX11_placeOfCode_26 rfl (lv_at hl 0 rfl) ?_
        exact z_back hQz_ (z_iret C hr hlocks G (Nat.le_of_ble_eq_true rfl) (Nat.le_of_ble_eq_true rfl) dX11_placeOfCode_27 rfl)
set_option maxHeartbeats 4000000 in
set_option maxRecDepth 100000 in
/-- isKey -/
theorem c_isKey (l : Launch) (T : zTy) (xo : Nat) (t : Nat) (im : Nat) (mk : Nat) (rd : Nat) (po : Nat) (co : Nat) (tr : Nat) (wa : Nat) (wb_ : Nat) (fi : Nat) (cd : Nat) (lp : Nat) (f1 : Nat → Int32) (f2 : Nat → Int32) (f3 : Nat → Int32) (st : Int32) (wh : Int32) (wp : va_W) (o : Nat) (cr : Int32) (inn : Int32) (k1 : Nat → Int32) (k2 : Nat → Int32) (k3 : Nat → Int32) (k4 : Nat → Int32) (z : va_W) (x : Int32) (y : Int32) (q : Int32) (hp : bPosts T po lp f1 f2 f3 st wh wp) (hz : bLand T o cr inn k1 k2 k3 k4 z) (hI : zLI cr k1 k3) : zMi l T yX11_isKey cX11_isKey 5 (some .boolean) 4 0 0 [.ref xo, .ref o, .int x, .int y, .int q] [[zO10 xo t im mk rd po co tr wa wb_ fi cd], wp, z] (fun (r : Int32) bs => ∃ (f1_2 : Nat → Int32) (f2_2 : Nat → Int32) (f3_2 : Nat → Int32) (st_2 : Int32) (wh_2 : Int32) (wp_2 : va_W), bs = [[zO10 xo t im mk rd po co tr wa wb_ fi cd], wp_2, z] ∧ bPosts T po o f1_2 f2_2 f3_2 st_2 wh_2 wp_2 ∧ (r = 0 ∨ r = 1)) := by
  refine zMi_of (own := RX11) (by decide) rfl (Nat.le_of_ble_eq_true rfl) ?_
  intro p e s m args below meth c A ls C hr hlocks hnm hAe G hl
  refine zHide (fun Qz_ hQz_ => ?_)
  have hx := C.1
  have hb := C.2.1
  have hl : lv_has ls 5 [(0, .ref xo), (1, .ref o), (2, .int x), (3, .int y), (4, .int q)] := hl
  refine lv_aload_n hx hb dX11_isKey_0 rfl (lv_at hl 0 rfl) ?_
  refine z_get C G clX11 0 rfl 4 (by decide) m_fl_RX11_34 rfl dX11_isKey_1 ?_
  refine lv_aload_n hx hb dX11_isKey_4 rfl (lv_at hl 1 rfl) ?_
  refine z_Vv (bc := [wp, z]) (br := [[zO10 xo t im mk rd po co tr wa wb_ fi cd]]) (As := [.ref o]) (rest := []) C G (c_Posts_begin l T po lp f1 f2 f3 st wh wp o cr inn k1 k2 k3 k4 z hp hz) (kV_RX11_205 C.2.2.2.2 (Nat.le_of_ble_eq_true rfl) (Nat.le_of_ble_eq_true rfl)) [1, 2] [1, 0] rfl rfl (ci := 6) (qc := (RX6, TX6, 6)) rfl rfl (List.mem_flatten.mpr ⟨_, List.mem_of_getElem? (i := 0) rfl, (bPosts_mem hp).choose_spec⟩) rfl rfl hl.1 dX11_isKey_5 (Nat.le_of_ble_eq_true rfl) (Nat.le_of_ble_eq_true rfl) (fun b1 H locs hw G => ?_)
  refine zEx4 hw ?_
  intro w2_1 g1_2 g2_3 g3_4
  refine zCu5 ?_
  intro hbs9 h_5 h_6 h_7 h_8
  clear hw
  subst hbs9
  have G : zS T A s.heap s [[zO10 xo t im mk rd po co tr wa wb_ fi cd], w2_1, z] _ _ := G
  have hQ : zP3 g1_2 g3_4 := z_P3 hI h_6 h_8
  refine lv_aload_n hx hb dX11_isKey_8 rfl (lv_at hl 0 rfl) ?_
  refine z_get C G clX11 0 rfl 4 (by decide) m_fl_RX11_34 rfl dX11_isKey_9 ?_
  refine lv_iload_n hx hb dX11_isKey_12 rfl (lv_at hl 3 rfl) ?_
  refine lv_iload hx hb dX11_isKey_13 (lv_at hl 4 rfl) ?_
  refine z_Vv (bc := [w2_1, z]) (br := [[zO10 xo t im mk rd po co tr wa wb_ fi cd]]) (As := [.int y, .int q]) (rest := []) C G (c_shutRoad l T po o g1_2 g2_3 g3_4 0 0 w2_1 cr inn k1 k2 k3 k4 z y q h_5 hz) (kV_RX11_228 C.2.2.2.2 (Nat.le_of_ble_eq_true rfl) (Nat.le_of_ble_eq_true rfl)) [1, 2] [1, 0] rfl rfl (ci := 6) (qc := (RX6, TX6, 6)) rfl rfl (List.mem_flatten.mpr ⟨_, List.mem_of_getElem? (i := 0) rfl, (bPosts_mem h_5).choose_spec⟩) rfl rfl hl.1 dX11_isKey_15 (Nat.le_of_ble_eq_true rfl) (Nat.le_of_ble_eq_true rfl) (fun b1 H locs hw G => ?_)
  refine zEx2 hw ?_
  intro w2_10 g2_11
  refine zCu3 ?_
  intro hbs9 h_12 h_13
  clear hw
  subst hbs9
  have G : zS T A s.heap s [[zO10 xo t im mk rd po co tr wa wb_ fi cd], w2_10, z] _ _ := G
  refine lv_aload_n hx hb dX11_isKey_18 rfl (lv_at hl 0 rfl) ?_
  refine z_get C G clX11 0 rfl 4 (by decide) m_fl_RX11_34 rfl dX11_isKey_19 ?_
  refine lv_iload_n hx hb dX11_isKey_22 rfl (lv_at hl 2 rfl) ?_
  refine z_Vv (bc := [w2_10, z]) (br := [[zO10 xo t im mk rd po co tr wa wb_ fi cd]]) (As := [.int x]) (rest := []) C G (c_Posts_run l T po o g1_2 g2_11 g3_4 0 0 w2_10 cr inn k1 k2 k3 k4 z x h_12 hz (by first | with_reducible assumption | with_reducible rfl | omega | assumption | rfl)) (kV_RX11_208 C.2.2.2.2 (Nat.le_of_ble_eq_true rfl) (Nat.le_of_ble_eq_true rfl)) [1, 2] [1, 0] rfl rfl (ci := 6) (qc := (RX6, TX6, 6)) rfl rfl (List.mem_flatten.mpr ⟨_, List.mem_of_getElem? (i := 0) rfl, (bPosts_mem h_12).choose_spec⟩) rfl rfl hl.1 dX11_isKey_23 (Nat.le_of_ble_eq_true rfl) (Nat.le_of_ble_eq_true rfl) (fun b1 H locs hw G => ?_)
  refine zEx4 hw ?_
  intro w2_15 g1_16 s2_17 x2_18
  refine zCu5 ?_
  intro hbs9 h_19 h_20 h_21 h_22
  clear hw
  subst hbs9
  have G : zS T A s.heap s [[zO10 xo t im mk rd po co tr wa wb_ fi cd], w2_15, z] _ _ := G
  refine lv_aload_n hx hb dX11_isKey_26 rfl (lv_at hl 1 rfl) ?_
  refine lv_aload_n hx hb dX11_isKey_27 rfl (lv_at hl 0 rfl) ?_
  refine z_get C G clX11 0 rfl 4 (by decide) m_fl_RX11_34 rfl dX11_isKey_28 ?_
  refine zEx3 h_19 ?_
  intro a1_24 a2_25 a3_26 hbs9
  clear h_19
  subst hbs9
  have G : zS T A s.heap s [[zO10 xo t im mk rd po co tr wa wb_ fi cd], [zO6 po o a1_24 a2_25 s2_17 x2_18 a3_26], [zAr T 0 a1_24 7 g1_16], [zAr T 0 a2_25 7 g2_11], [zAr T 0 a3_26 7 g3_4], z] _ _ := G.re rfl
  refine z_get C G clX6 1 rfl 4 (by decide) m_fl_RX11_211 rfl dX11_isKey_31 ?_
  refine z_Vi (bc := [z]) (br := [[zO10 xo t im mk rd po co tr wa wb_ fi cd], [zO6 po o a1_24 a2_25 s2_17 x2_18 a3_26], [zAr T 0 a1_24 7 g1_16], [zAr T 0 a2_25 7 g2_11], [zAr T 0 a3_26 7 g3_4]]) (As := [.int x2_18]) (rest := []) C G (c_isInn l T o cr inn k1 k2 k3 k4 z x2_18 hz) (kV_RX11_174 C.2.2.2.2 (Nat.le_of_ble_eq_true rfl) (Nat.le_of_ble_eq_true rfl)) [5] [5] rfl rfl (ci := 4) (qc := (RX4, TX4, 6)) rfl rfl (List.mem_flatten.mpr ⟨_, List.mem_of_getElem? (i := 0) rfl, (bLand_mem hz).choose_spec⟩) rfl rfl hl.1 dX11_isKey_34 (Nat.le_of_ble_eq_true rfl) (Nat.le_of_ble_eq_true rfl) (fun r_28 b1 H locs hw G => ?_)
  refine zAn2 hw ?_
  intro hbs9 hc_27
  clear hw
  subst hbs9
  have G : zS T A s.heap s [[zO10 xo t im mk rd po co tr wa wb_ fi cd], [zO6 po o a1_24 a2_25 s2_17 x2_18 a3_26], [zAr T 0 a1_24 7 g1_16], [zAr T 0 a2_25 7 g2_11], [zAr T 0 a3_26 7 g3_4], z] _ _ := G
  rcases hc_27 with ⟨rfl, h_29, h_30, h_31, h_32⟩ | ⟨rfl, h_33⟩
  · have h_29 : 0 ≤ x2_18.toInt := h_29
    have h_30 : x2_18.toInt < cr.toInt := h_30
    have h_31 : x2_18.toInt < 7 := h_31
    have h_32 : ¬ zBit inn x2_18 = 0 := h_32
    refine lv_if_ne (tgt := 44) hx hb dX11_isKey_37 (by decide) (fun _ => ?_) (fun q => absurd q (by decide))
    refine lv_iconst (v := 0) hx hb dX11_isKey_44 (by decide) ?_
    have hw_34 : bPosts T po o g1_16 g2_11 g3_4 s2_17 x2_18 [zO6 po o a1_24 a2_25 s2_17 x2_18 a3_26, zAr T 0 a1_24 7 g1_16, zAr T 0 a2_25 7 g2_11, zAr T 0 a3_26 7 g3_4] := ⟨a1_24, a2_25, a3_26, rfl⟩
    have G : zS T A s.heap s [[zO10 xo t im mk rd po co tr wa wb_ fi cd], [zO6 po o a1_24 a2_25 s2_17 x2_18 a3_26, zAr T 0 a1_24 7 g1_16, zAr T 0 a2_25 7 g2_11, zAr T 0 a3_26 7 g3_4], z] _ _ := G.re rfl
    exact z_back hQz_ (z_zret C hr hlocks G (Nat.le_of_ble_eq_true rfl) (Nat.le_of_ble_eq_true rfl) dX11_isKey_45 rfl ⟨g1_16, g2_11, g3_4, s2_17, x2_18, ([zO6 po o a1_24 a2_25 s2_17 x2_18 a3_26, zAr T 0 a1_24 7 g1_16, zAr T 0 a2_25 7 g2_11, zAr T 0 a3_26 7 g3_4]), rfl, hw_34, (by first | exact Or.inl rfl | exact Or.inr rfl)⟩)
  · have h_33 : (x2_18.toInt < 0 ∨ cr.toInt ≤ x2_18.toInt ∨ 7 ≤ x2_18.toInt ∨ zBit inn x2_18 = 0) := h_33
    refine lv_if_ne (tgt := 44) hx hb dX11_isKey_37 (by decide) (fun q => absurd (by decide) q) (fun _ => ?_)
    refine lv_iconst (v := 1) hx hb dX11_isKey_40 (by decide) ?_
    refine lv_goto (tgt := 45) hx hb dX11_isKey_41 (by decide) ?_
    have hw_35 : bPosts T po o g1_16 g2_11 g3_4 s2_17 x2_18 [zO6 po o a1_24 a2_25 s2_17 x2_18 a3_26, zAr T 0 a1_24 7 g1_16, zAr T 0 a2_25 7 g2_11, zAr T 0 a3_26 7 g3_4] := ⟨a1_24, a2_25, a3_26, rfl⟩
    have G : zS T A s.heap s [[zO10 xo t im mk rd po co tr wa wb_ fi cd], [zO6 po o a1_24 a2_25 s2_17 x2_18 a3_26, zAr T 0 a1_24 7 g1_16, zAr T 0 a2_25 7 g2_11, zAr T 0 a3_26 7 g3_4], z] _ _ := G.re rfl
    exact z_back hQz_ (z_zret C hr hlocks G (Nat.le_of_ble_eq_true rfl) (Nat.le_of_ble_eq_true rfl) dX11_isKey_45 rfl ⟨g1_16, g2_11, g3_4, s2_17, x2_18, ([zO6 po o a1_24 a2_25 s2_17 x2_18 a3_26, zAr T 0 a1_24 7 g1_16, zAr T 0 a2_25 7 g2_11, zAr T 0 a3_26 7 g3_4]), rfl, hw_35, (by first | exact Or.inl rfl | exact Or.inr rfl)⟩)
set_option maxHeartbeats 4000000 in
set_option maxRecDepth 100000 in
/-- c_stop -/
theorem c_stop (l : Launch) (T : zTy) (xo : Nat) (t : Nat) (im : Nat) (mk : Nat) (rd : Nat) (po : Nat) (co : Nat) (tr : Nat) (wa : Nat) (wb_ : Nat) (fi : Nat) (cd : Nat) (l0 : Nat) (l1 : Nat) (d0 : Nat) (d1 : Nat) (g0 : Nat) (g1 : Nat) (ln : Int32) (fl : Int32) (pl : Int32) (ft : Nat → Int32) (fk : Nat → Int32) (wt : va_W) (cr0_ : Int32) (inn0_ : Int32) (k10_ : Nat → Int32) (k20_ : Nat → Int32) (k30_ : Nat → Int32) (k40_ : Nat → Int32) (z0_ : va_W) (cr1_ : Int32) (inn1_ : Int32) (k11_ : Nat → Int32) (k21_ : Nat → Int32) (k31_ : Nat → Int32) (k41_ : Nat → Int32) (z1_ : va_W) (dd0_ : Int32) (p10_ : Nat → Int32) (p20_ : Nat → Int32) (p30_ : Nat → Int32) (wd0_ : va_W) (dd1_ : Int32) (p11_ : Nat → Int32) (p21_ : Nat → Int32) (p31_ : Nat → Int32) (wd1_ : va_W) (cpo : Nat) (cla : Nat) (cfw : Nat → Int32) (v0 : Int32) (v1 : Int32) (v2 : Int32) (v3 : Int32) (v4 : Int32) (v5 : Int32) (v6 : Int32) (v7 : Int32) (wc : va_W) (cpl : Nat) (cf1 : Nat → Int32) (cf2 : Nat → Int32) (cf3 : Nat → Int32) (cst : Int32) (cwh : Int32) (wcp : va_W) (i1 : Int32) (i2 : Int32) (ht : bTold T t l0 l1 d0 d1 g0 g1 ln fl pl ft fk wt) (hK : zKT fk) (hz0_ : bLand T l0 cr0_ inn0_ k10_ k20_ k30_ k40_ z0_) (hI0_ : zLI cr0_ k10_ k30_) (hz1_ : bLand T l1 cr1_ inn1_ k11_ k21_ k31_ k41_ z1_) (hI1_ : zLI cr1_ k11_ k31_) (hd0_ : bDay T d0 dd0_ p10_ p20_ p30_ wd0_) (hd1_ : bDay T d1 dd1_ p11_ p21_ p31_ wd1_) (hc : bCourse T co cpo cla cfw v0 v1 v2 v3 v4 v5 v6 v7 wc) (hcp : bPosts T cpo cpl cf1 cf2 cf3 cst cwh wcp) : zMi l T yX11_stop cX11_stop 5 (some .int) 8 0 0 [.ref xo, .int i1, .int i2] [[zO10 xo t im mk rd po co tr wa wb_ fi cd], wt, z0_, z1_, wd0_, wd1_, wc, wcp] (fun (r : Int32) bs => ∃ (cla_2 : Nat) (cfw_2 : Nat → Int32) (v0_2 : Int32) (v1_2 : Int32) (v2_2 : Int32) (v3_2 : Int32) (v4_2 : Int32) (v5_2 : Int32) (v6_2 : Int32) (v7_2 : Int32) (wc_2 : va_W) (cpl_2 : Nat) (cf1_2 : Nat → Int32) (cf2_2 : Nat → Int32) (cf3_2 : Nat → Int32) (cst_2 : Int32) (cwh_2 : Int32) (wcp_2 : va_W), bs = [[zO10 xo t im mk rd po co tr wa wb_ fi cd], wt, z0_, z1_, wd0_, wd1_, wc_2, wcp_2] ∧ bCourse T co cpo cla_2 cfw_2 v0_2 v1_2 v2_2 v3_2 v4_2 v5_2 v6_2 v7_2 wc_2 ∧ bPosts T cpo cpl_2 cf1_2 cf2_2 cf3_2 cst_2 cwh_2 wcp_2) := by
  refine zMi_of (own := RX11) (by decide) rfl (Nat.le_of_ble_eq_true rfl) ?_
  intro p e s m args below meth c A ls C hr hlocks hnm hAe G hl
  refine zHide (fun Qz_ hQz_ => ?_)
  have hx := C.1
  have hb := C.2.1
  have hl : lv_has ls 5 [(0, .ref xo), (1, .int i1), (2, .int i2)] := hl
  refine lv_aload_n hx hb dX11_stop_0 rfl (lv_at hl 0 rfl) ?_
  refine z_get C G clX11 0 rfl 0 (by decide) m_fl_RX11_10 rfl dX11_stop_1 ?_
  refine lv_iload_n hx hb dX11_stop_4 rfl (lv_at hl 1 rfl) ?_
  refine z_Vq (bc := [wt]) (br := [[zO10 xo t im mk rd po co tr wa wb_ fi cd], z0_, z1_, wd0_, wd1_, wc, wcp]) (As := [.int i1]) (rest := []) C G (c_landAt l T t l0 l1 d0 d1 g0 g1 ln fl pl ft fk wt i1 ht) (kV_RX11_121 C.2.2.2.2 (Nat.le_of_ble_eq_true rfl) (Nat.le_of_ble_eq_true rfl)) [1] [1] rfl rfl (ci := 8) (qc := (RX9, TX9, 8)) rfl rfl (List.mem_flatten.mpr ⟨_, List.mem_of_getElem? (i := 0) rfl, (bTold_mem ht).choose_spec⟩) rfl rfl hl.1 dX11_stop_5 (Nat.le_of_ble_eq_true rfl) (Nat.le_of_ble_eq_true rfl) (fun r_2 b1 H locs hw G => ?_)
  refine zAn2 hw ?_
  intro hbs9 hc_1
  clear hw
  subst hbs9
  have G : zS T A s.heap s [[zO10 xo t im mk rd po co tr wa wb_ fi cd], z0_, z1_, wd0_, wd1_, wc, wcp, wt] _ _ := G
  rcases hc_1 with ⟨rfl, h_3⟩ | ⟨rfl, h_4, h_5⟩ | ⟨rfl, h_6, h_7⟩
  · have h_3 : (i1.toInt < 0 ∨ (fk 0).toInt ≤ i1.toInt ∨ 2 ≤ i1.toInt) := h_3
    refine lv_astore_nN (lv' := [(3, .null), (0, .ref xo), (1, .int i1), (2, .int i2)]) hx hb dX11_stop_8 rfl hl (by decide) (zLvf_h rfl) (fun ls hl => ?_)
    refine lv_aload_n hx hb dX11_stop_9 rfl (lv_at hl 1 rfl) ?_
    refine z_get C G clX11 0 rfl 0 (by decide) m_fl_RX11_10 rfl dX11_stop_10 ?_
    refine lv_iload_n hx hb dX11_stop_13 rfl (lv_at hl 3 rfl) ?_
    refine z_Vq (bc := [wt]) (br := [[zO10 xo t im mk rd po co tr wa wb_ fi cd], z0_, z1_, wd0_, wd1_, wc, wcp]) (As := [.int i2]) (rest := []) C G (c_dayAt l T t l0 l1 d0 d1 g0 g1 ln fl pl ft fk wt i2 ht) (kV_RX11_130 C.2.2.2.2 (Nat.le_of_ble_eq_true rfl) (Nat.le_of_ble_eq_true rfl)) [7] [7] rfl rfl (ci := 8) (qc := (RX9, TX9, 8)) rfl rfl (List.mem_flatten.mpr ⟨_, List.mem_of_getElem? (i := 0) rfl, (bTold_mem ht).choose_spec⟩) rfl rfl hl.1 dX11_stop_14 (Nat.le_of_ble_eq_true rfl) (Nat.le_of_ble_eq_true rfl) (fun r_9 b1 H locs hw G => ?_)
    refine zAn2 hw ?_
    intro hbs9 hc_8
    clear hw
    subst hbs9
    have G : zS T A s.heap s [[zO10 xo t im mk rd po co tr wa wb_ fi cd], z0_, z1_, wd0_, wd1_, wc, wcp, wt] _ _ := G
    rcases hc_8 with ⟨rfl, h_10⟩ | ⟨rfl, h_11, h_12⟩ | ⟨rfl, h_13, h_14⟩
    · have h_10 : (i2.toInt < 0 ∨ (fk 1).toInt ≤ i2.toInt ∨ 2 ≤ i2.toInt) := h_10
      refine lv_astoreN (lv' := [(4, .null), (3, .null), (0, .ref xo), (1, .int i1), (2, .int i2)]) hx hb dX11_stop_17 hl (by decide) (zLvf_h rfl) (fun ls hl => ?_)
      refine lv_aload_nN hx hb dX11_stop_19 rfl (lv_at hl 1 rfl) ?_
      refine lv_ifnullN (tgt := 28) hx hb dX11_stop_20 (by decide) ?_
      refine lv_iconst (v := (-1)) hx hb dX11_stop_28 (by decide) ?_
      refine lv_goto (tgt := 44) hx hb dX11_stop_29 (by decide) ?_
      have G := G.sub (bs' := [[zO10 xo t im mk rd po co tr wa wb_ fi cd], wt, z0_, z1_, wd0_, wd1_, wc, wcp]) [0, 7, 1, 2, 3, 4, 5, 6] rfl
      exact z_back hQz_ (z_iret C hr hlocks G (Nat.le_of_ble_eq_true rfl) (Nat.le_of_ble_eq_true rfl) dX11_stop_44 ⟨cla, cfw, v0, v1, v2, v3, v4, v5, v6, v7, wc, cpl, cf1, cf2, cf3, cst, cwh, wcp, rfl, hc, hcp⟩)
    · have h_11 : i2.toInt = 0 := h_11
      have h_12 : 0 < (fk 1).toInt := h_12
      refine lv_astore (lv' := [(4, .ref d0), (3, .null), (0, .ref xo), (1, .int i1), (2, .int i2)]) hx hb dX11_stop_17 hl (by decide) (zLvf_h rfl) (fun ls hl => ?_)
      refine lv_aload_nN hx hb dX11_stop_19 rfl (lv_at hl 1 rfl) ?_
      refine lv_ifnullN (tgt := 28) hx hb dX11_stop_20 (by decide) ?_
      refine lv_iconst (v := (-1)) hx hb dX11_stop_28 (by decide) ?_
      refine lv_goto (tgt := 44) hx hb dX11_stop_29 (by decide) ?_
      have G := G.sub (bs' := [[zO10 xo t im mk rd po co tr wa wb_ fi cd], wt, z0_, z1_, wd0_, wd1_, wc, wcp]) [0, 7, 1, 2, 3, 4, 5, 6] rfl
      exact z_back hQz_ (z_iret C hr hlocks G (Nat.le_of_ble_eq_true rfl) (Nat.le_of_ble_eq_true rfl) dX11_stop_44 ⟨cla, cfw, v0, v1, v2, v3, v4, v5, v6, v7, wc, cpl, cf1, cf2, cf3, cst, cwh, wcp, rfl, hc, hcp⟩)
    · have h_13 : i2.toInt = 1 := h_13
      have h_14 : 1 < (fk 1).toInt := h_14
      refine lv_astore (lv' := [(4, .ref d1), (3, .null), (0, .ref xo), (1, .int i1), (2, .int i2)]) hx hb dX11_stop_17 hl (by decide) (zLvf_h rfl) (fun ls hl => ?_)
      refine lv_aload_nN hx hb dX11_stop_19 rfl (lv_at hl 1 rfl) ?_
      refine lv_ifnullN (tgt := 28) hx hb dX11_stop_20 (by decide) ?_
      refine lv_iconst (v := (-1)) hx hb dX11_stop_28 (by decide) ?_
      refine lv_goto (tgt := 44) hx hb dX11_stop_29 (by decide) ?_
      have G := G.sub (bs' := [[zO10 xo t im mk rd po co tr wa wb_ fi cd], wt, z0_, z1_, wd0_, wd1_, wc, wcp]) [0, 7, 1, 2, 3, 4, 5, 6] rfl
      exact z_back hQz_ (z_iret C hr hlocks G (Nat.le_of_ble_eq_true rfl) (Nat.le_of_ble_eq_true rfl) dX11_stop_44 ⟨cla, cfw, v0, v1, v2, v3, v4, v5, v6, v7, wc, cpl, cf1, cf2, cf3, cst, cwh, wcp, rfl, hc, hcp⟩)
  · have h_4 : i1.toInt = 0 := h_4
    have h_5 : 0 < (fk 0).toInt := h_5
    refine lv_astore_n (lv' := [(3, .ref l0), (0, .ref xo), (1, .int i1), (2, .int i2)]) hx hb dX11_stop_8 rfl hl (by decide) (zLvf_h rfl) (fun ls hl => ?_)
    refine lv_aload_n hx hb dX11_stop_9 rfl (lv_at hl 1 rfl) ?_
    refine z_get C G clX11 0 rfl 0 (by decide) m_fl_RX11_10 rfl dX11_stop_10 ?_
    refine lv_iload_n hx hb dX11_stop_13 rfl (lv_at hl 3 rfl) ?_
    refine z_Vq (bc := [wt]) (br := [[zO10 xo t im mk rd po co tr wa wb_ fi cd], z0_, z1_, wd0_, wd1_, wc, wcp]) (As := [.int i2]) (rest := []) C G (c_dayAt l T t l0 l1 d0 d1 g0 g1 ln fl pl ft fk wt i2 ht) (kV_RX11_130 C.2.2.2.2 (Nat.le_of_ble_eq_true rfl) (Nat.le_of_ble_eq_true rfl)) [7] [7] rfl rfl (ci := 8) (qc := (RX9, TX9, 8)) rfl rfl (List.mem_flatten.mpr ⟨_, List.mem_of_getElem? (i := 0) rfl, (bTold_mem ht).choose_spec⟩) rfl rfl hl.1 dX11_stop_14 (Nat.le_of_ble_eq_true rfl) (Nat.le_of_ble_eq_true rfl) (fun r_16 b1 H locs hw G => ?_)
    refine zAn2 hw ?_
    intro hbs9 hc_15
    clear hw
    subst hbs9
    have G : zS T A s.heap s [[zO10 xo t im mk rd po co tr wa wb_ fi cd], z0_, z1_, wd0_, wd1_, wc, wcp, wt] _ _ := G
    rcases hc_15 with ⟨rfl, h_17⟩ | ⟨rfl, h_18, h_19⟩ | ⟨rfl, h_20, h_21⟩
    · have h_17 : (i2.toInt < 0 ∨ (fk 1).toInt ≤ i2.toInt ∨ 2 ≤ i2.toInt) := h_17
      refine lv_astoreN (lv' := [(4, .null), (3, .ref l0), (0, .ref xo), (1, .int i1), (2, .int i2)]) hx hb dX11_stop_17 hl (by decide) (zLvf_h rfl) (fun ls hl => ?_)
      refine lv_aload_n hx hb dX11_stop_19 rfl (lv_at hl 1 rfl) ?_
      refine lv_ifnull hx hb dX11_stop_20 ?_
      refine lv_aloadN hx hb dX11_stop_23 (lv_at hl 0 rfl) ?_
      refine lv_ifnonnullN hx hb dX11_stop_25 ?_
      refine lv_iconst (v := (-1)) hx hb dX11_stop_28 (by decide) ?_
      refine lv_goto (tgt := 44) hx hb dX11_stop_29 (by decide) ?_
      have G := G.sub (bs' := [[zO10 xo t im mk rd po co tr wa wb_ fi cd], wt, z0_, z1_, wd0_, wd1_, wc, wcp]) [0, 7, 1, 2, 3, 4, 5, 6] rfl
      exact z_back hQz_ (z_iret C hr hlocks G (Nat.le_of_ble_eq_true rfl) (Nat.le_of_ble_eq_true rfl) dX11_stop_44 ⟨cla, cfw, v0, v1, v2, v3, v4, v5, v6, v7, wc, cpl, cf1, cf2, cf3, cst, cwh, wcp, rfl, hc, hcp⟩)
    · have h_18 : i2.toInt = 0 := h_18
      have h_19 : 0 < (fk 1).toInt := h_19
      refine lv_astore (lv' := [(4, .ref d0), (3, .ref l0), (0, .ref xo), (1, .int i1), (2, .int i2)]) hx hb dX11_stop_17 hl (by decide) (zLvf_h rfl) (fun ls hl => ?_)
      refine lv_aload_n hx hb dX11_stop_19 rfl (lv_at hl 1 rfl) ?_
      refine lv_ifnull hx hb dX11_stop_20 ?_
      refine lv_aload hx hb dX11_stop_23 (lv_at hl 0 rfl) ?_
      refine lv_ifnonnull (tgt := 32) hx hb dX11_stop_25 (by decide) ?_
      refine lv_aload_n hx hb dX11_stop_32 rfl (lv_at hl 2 rfl) ?_
      refine z_get C G clX11 0 rfl 5 (by decide) m_fl_RX11_41 rfl dX11_stop_33 ?_
      refine lv_aload_n hx hb dX11_stop_36 rfl (lv_at hl 1 rfl) ?_
      refine lv_aload hx hb dX11_stop_37 (lv_at hl 0 rfl) ?_
      refine lv_bipush (v := 40) hx hb dX11_stop_39 (by decide) ?_
      refine z_Vi (bc := [wc, wcp, z0_, wd0_]) (br := [[zO10 xo t im mk rd po co tr wa wb_ fi cd], z1_, wd1_, wt]) (As := [.ref l0, .ref d0, .int 40]) (rest := []) C G (c_goThrough l T co cpo cla cfw v0 v1 v2 v3 v4 v5 v6 v7 wc cpl cf1 cf2 cf3 cst cwh wcp l0 cr0_ inn0_ k10_ k20_ k30_ k40_ z0_ d0 dd0_ p10_ p20_ p30_ wd0_ 40 hc hcp hz0_ (by first | with_reducible assumption | with_reducible rfl | omega | assumption | rfl) hd0_) (kV_RX11_145 C.2.2.2.2 (Nat.le_of_ble_eq_true rfl) (Nat.le_of_ble_eq_true rfl)) [5, 6, 1, 3] [1, 1, 1, 0] rfl rfl (ci := 1) (qc := (RX1, TX1, 11)) rfl rfl (List.mem_flatten.mpr ⟨_, List.mem_of_getElem? (i := 0) rfl, (bCourse_mem hc).choose_spec⟩) rfl rfl hl.1 dX11_stop_41 (Nat.le_of_ble_eq_true rfl) (Nat.le_of_ble_eq_true rfl) (fun r_41 b1 H locs hw G => ?_)
      refine zEx16 hw ?_
      intro wc2_22 gw_23 u0_24 u1_25 u2_26 u3_27 u4_28 u5_29 u6_30 u7_31 wp2_32 g1_33 g2_34 g3_35 sa_36 wa_37
      refine zCu4 ?_
      intro hbs9 h_38 h_39 h_40
      clear hw
      subst hbs9
      have G : zS T A s.heap s [[zO10 xo t im mk rd po co tr wa wb_ fi cd], z1_, wd1_, wt, wc2_22, wp2_32, z0_, wd0_] _ _ := G
      have G := G.sub (bs' := [[zO10 xo t im mk rd po co tr wa wb_ fi cd], wt, z0_, z1_, wd0_, wd1_, wc2_22, wp2_32]) [0, 3, 6, 1, 7, 2, 4, 5] rfl
      exact z_back hQz_ (z_iret C hr hlocks G (Nat.le_of_ble_eq_true rfl) (Nat.le_of_ble_eq_true rfl) dX11_stop_44 ⟨l0, gw_23, u0_24, u1_25, u2_26, u3_27, u4_28, u5_29, u6_30, u7_31, wc2_22, l0, g1_33, g2_34, g3_35, sa_36, wa_37, wp2_32, rfl, h_38, h_39⟩)
    · have h_20 : i2.toInt = 1 := h_20
      have h_21 : 1 < (fk 1).toInt := h_21
      refine lv_astore (lv' := [(4, .ref d1), (3, .ref l0), (0, .ref xo), (1, .int i1), (2, .int i2)]) hx hb dX11_stop_17 hl (by decide) (zLvf_h rfl) (fun ls hl => ?_)
      refine lv_aload_n hx hb dX11_stop_19 rfl (lv_at hl 1 rfl) ?_
      refine lv_ifnull hx hb dX11_stop_20 ?_
      refine lv_aload hx hb dX11_stop_23 (lv_at hl 0 rfl) ?_
      refine lv_ifnonnull (tgt := 32) hx hb dX11_stop_25 (by decide) ?_
      refine lv_aload_n hx hb dX11_stop_32 rfl (lv_at hl 2 rfl) ?_
      refine z_get C G clX11 0 rfl 5 (by decide) m_fl_RX11_41 rfl dX11_stop_33 ?_
      refine lv_aload_n hx hb dX11_stop_36 rfl (lv_at hl 1 rfl) ?_
      refine lv_aload hx hb dX11_stop_37 (lv_at hl 0 rfl) ?_
      refine lv_bipush (v := 40) hx hb dX11_stop_39 (by decide) ?_
      refine z_Vi (bc := [wc, wcp, z0_, wd1_]) (br := [[zO10 xo t im mk rd po co tr wa wb_ fi cd], z1_, wd0_, wt]) (As := [.ref l0, .ref d1, .int 40]) (rest := []) C G (c_goThrough l T co cpo cla cfw v0 v1 v2 v3 v4 v5 v6 v7 wc cpl cf1 cf2 cf3 cst cwh wcp l0 cr0_ inn0_ k10_ k20_ k30_ k40_ z0_ d1 dd1_ p11_ p21_ p31_ wd1_ 40 hc hcp hz0_ (by first | with_reducible assumption | with_reducible rfl | omega | assumption | rfl) hd1_) (kV_RX11_145 C.2.2.2.2 (Nat.le_of_ble_eq_true rfl) (Nat.le_of_ble_eq_true rfl)) [5, 6, 1, 4] [1, 2, 0, 0] rfl rfl (ci := 1) (qc := (RX1, TX1, 11)) rfl rfl (List.mem_flatten.mpr ⟨_, List.mem_of_getElem? (i := 0) rfl, (bCourse_mem hc).choose_spec⟩) rfl rfl hl.1 dX11_stop_41 (Nat.le_of_ble_eq_true rfl) (Nat.le_of_ble_eq_true rfl) (fun r_61 b1 H locs hw G => ?_)
      refine zEx16 hw ?_
      intro wc2_42 gw_43 u0_44 u1_45 u2_46 u3_47 u4_48 u5_49 u6_50 u7_51 wp2_52 g1_53 g2_54 g3_55 sa_56 wa_57
      refine zCu4 ?_
      intro hbs9 h_58 h_59 h_60
      clear hw
      subst hbs9
      have G : zS T A s.heap s [[zO10 xo t im mk rd po co tr wa wb_ fi cd], z1_, wd0_, wt, wc2_42, wp2_52, z0_, wd1_] _ _ := G
      have G := G.sub (bs' := [[zO10 xo t im mk rd po co tr wa wb_ fi cd], wt, z0_, z1_, wd0_, wd1_, wc2_42, wp2_52]) [0, 3, 6, 1, 2, 7, 4, 5] rfl
      exact z_back hQz_ (z_iret C hr hlocks G (Nat.le_of_ble_eq_true rfl) (Nat.le_of_ble_eq_true rfl) dX11_stop_44 ⟨l0, gw_43, u0_44, u1_45, u2_46, u3_47, u4_48, u5_49, u6_50, u7_51, wc2_42, l0, g1_53, g2_54, g3_55, sa_56, wa_57, wp2_52, rfl, h_58, h_59⟩)
  · have h_6 : i1.toInt = 1 := h_6
    have h_7 : 1 < (fk 0).toInt := h_7
    refine lv_astore_n (lv' := [(3, .ref l1), (0, .ref xo), (1, .int i1), (2, .int i2)]) hx hb dX11_stop_8 rfl hl (by decide) (zLvf_h rfl) (fun ls hl => ?_)
    refine lv_aload_n hx hb dX11_stop_9 rfl (lv_at hl 1 rfl) ?_
    refine z_get C G clX11 0 rfl 0 (by decide) m_fl_RX11_10 rfl dX11_stop_10 ?_
    refine lv_iload_n hx hb dX11_stop_13 rfl (lv_at hl 3 rfl) ?_
    refine z_Vq (bc := [wt]) (br := [[zO10 xo t im mk rd po co tr wa wb_ fi cd], z0_, z1_, wd0_, wd1_, wc, wcp]) (As := [.int i2]) (rest := []) C G (c_dayAt l T t l0 l1 d0 d1 g0 g1 ln fl pl ft fk wt i2 ht) (kV_RX11_130 C.2.2.2.2 (Nat.le_of_ble_eq_true rfl) (Nat.le_of_ble_eq_true rfl)) [7] [7] rfl rfl (ci := 8) (qc := (RX9, TX9, 8)) rfl rfl (List.mem_flatten.mpr ⟨_, List.mem_of_getElem? (i := 0) rfl, (bTold_mem ht).choose_spec⟩) rfl rfl hl.1 dX11_stop_14 (Nat.le_of_ble_eq_true rfl) (Nat.le_of_ble_eq_true rfl) (fun r_63 b1 H locs hw G => ?_)
    refine zAn2 hw ?_
    intro hbs9 hc_62
    clear hw
    subst hbs9
    have G : zS T A s.heap s [[zO10 xo t im mk rd po co tr wa wb_ fi cd], z0_, z1_, wd0_, wd1_, wc, wcp, wt] _ _ := G
    rcases hc_62 with ⟨rfl, h_64⟩ | ⟨rfl, h_65, h_66⟩ | ⟨rfl, h_67, h_68⟩
    · have h_64 : (i2.toInt < 0 ∨ (fk 1).toInt ≤ i2.toInt ∨ 2 ≤ i2.toInt) := h_64
      refine lv_astoreN (lv' := [(4, .null), (3, .ref l1), (0, .ref xo), (1, .int i1), (2, .int i2)]) hx hb dX11_stop_17 hl (by decide) (zLvf_h rfl) (fun ls hl => ?_)
      refine lv_aload_n hx hb dX11_stop_19 rfl (lv_at hl 1 rfl) ?_
      refine lv_ifnull hx hb dX11_stop_20 ?_
      refine lv_aloadN hx hb dX11_stop_23 (lv_at hl 0 rfl) ?_
      refine lv_ifnonnullN hx hb dX11_stop_25 ?_
      refine lv_iconst (v := (-1)) hx hb dX11_stop_28 (by decide) ?_
      refine lv_goto (tgt := 44) hx hb dX11_stop_29 (by decide) ?_
      have G := G.sub (bs' := [[zO10 xo t im mk rd po co tr wa wb_ fi cd], wt, z0_, z1_, wd0_, wd1_, wc, wcp]) [0, 7, 1, 2, 3, 4, 5, 6] rfl
      exact z_back hQz_ (z_iret C hr hlocks G (Nat.le_of_ble_eq_true rfl) (Nat.le_of_ble_eq_true rfl) dX11_stop_44 ⟨cla, cfw, v0, v1, v2, v3, v4, v5, v6, v7, wc, cpl, cf1, cf2, cf3, cst, cwh, wcp, rfl, hc, hcp⟩)
    · have h_65 : i2.toInt = 0 := h_65
      have h_66 : 0 < (fk 1).toInt := h_66
      refine lv_astore (lv' := [(4, .ref d0), (3, .ref l1), (0, .ref xo), (1, .int i1), (2, .int i2)]) hx hb dX11_stop_17 hl (by decide) (zLvf_h rfl) (fun ls hl => ?_)
      refine lv_aload_n hx hb dX11_stop_19 rfl (lv_at hl 1 rfl) ?_
      refine lv_ifnull hx hb dX11_stop_20 ?_
      refine lv_aload hx hb dX11_stop_23 (lv_at hl 0 rfl) ?_
      refine lv_ifnonnull (tgt := 32) hx hb dX11_stop_25 (by decide) ?_
      refine lv_aload_n hx hb dX11_stop_32 rfl (lv_at hl 2 rfl) ?_
      refine z_get C G clX11 0 rfl 5 (by decide) m_fl_RX11_41 rfl dX11_stop_33 ?_
      refine lv_aload_n hx hb dX11_stop_36 rfl (lv_at hl 1 rfl) ?_
      refine lv_aload hx hb dX11_stop_37 (lv_at hl 0 rfl) ?_
      refine lv_bipush (v := 40) hx hb dX11_stop_39 (by decide) ?_
      refine z_Vi (bc := [wc, wcp, z1_, wd0_]) (br := [[zO10 xo t im mk rd po co tr wa wb_ fi cd], z0_, wd1_, wt]) (As := [.ref l1, .ref d0, .int 40]) (rest := []) C G (c_goThrough l T co cpo cla cfw v0 v1 v2 v3 v4 v5 v6 v7 wc cpl cf1 cf2 cf3 cst cwh wcp l1 cr1_ inn1_ k11_ k21_ k31_ k41_ z1_ d0 dd0_ p10_ p20_ p30_ wd0_ 40 hc hcp hz1_ (by first | with_reducible assumption | with_reducible rfl | omega | assumption | rfl) hd0_) (kV_RX11_145 C.2.2.2.2 (Nat.le_of_ble_eq_true rfl) (Nat.le_of_ble_eq_true rfl)) [5, 6, 2, 3] [2, 0, 1, 0] rfl rfl (ci := 1) (qc := (RX1, TX1, 11)) rfl rfl (List.mem_flatten.mpr ⟨_, List.mem_of_getElem? (i := 0) rfl, (bCourse_mem hc).choose_spec⟩) rfl rfl hl.1 dX11_stop_41 (Nat.le_of_ble_eq_true rfl) (Nat.le_of_ble_eq_true rfl) (fun r_88 b1 H locs hw G => ?_)
      refine zEx16 hw ?_
      intro wc2_69 gw_70 u0_71 u1_72 u2_73 u3_74 u4_75 u5_76 u6_77 u7_78 wp2_79 g1_80 g2_81 g3_82 sa_83 wa_84
      refine zCu4 ?_
      intro hbs9 h_85 h_86 h_87
      clear hw
      subst hbs9
      have G : zS T A s.heap s [[zO10 xo t im mk rd po co tr wa wb_ fi cd], z0_, wd1_, wt, wc2_69, wp2_79, z1_, wd0_] _ _ := G
      have G := G.sub (bs' := [[zO10 xo t im mk rd po co tr wa wb_ fi cd], wt, z0_, z1_, wd0_, wd1_, wc2_69, wp2_79]) [0, 3, 1, 6, 7, 2, 4, 5] rfl
      exact z_back hQz_ (z_iret C hr hlocks G (Nat.le_of_ble_eq_true rfl) (Nat.le_of_ble_eq_true rfl) dX11_stop_44 ⟨l1, gw_70, u0_71, u1_72, u2_73, u3_74, u4_75, u5_76, u6_77, u7_78, wc2_69, l1, g1_80, g2_81, g3_82, sa_83, wa_84, wp2_79, rfl, h_85, h_86⟩)
    · have h_67 : i2.toInt = 1 := h_67
      have h_68 : 1 < (fk 1).toInt := h_68
      refine lv_astore (lv' := [(4, .ref d1), (3, .ref l1), (0, .ref xo), (1, .int i1), (2, .int i2)]) hx hb dX11_stop_17 hl (by decide) (zLvf_h rfl) (fun ls hl => ?_)
      refine lv_aload_n hx hb dX11_stop_19 rfl (lv_at hl 1 rfl) ?_
      refine lv_ifnull hx hb dX11_stop_20 ?_
      refine lv_aload hx hb dX11_stop_23 (lv_at hl 0 rfl) ?_
      refine lv_ifnonnull (tgt := 32) hx hb dX11_stop_25 (by decide) ?_
      refine lv_aload_n hx hb dX11_stop_32 rfl (lv_at hl 2 rfl) ?_
      refine z_get C G clX11 0 rfl 5 (by decide) m_fl_RX11_41 rfl dX11_stop_33 ?_
      refine lv_aload_n hx hb dX11_stop_36 rfl (lv_at hl 1 rfl) ?_
      refine lv_aload hx hb dX11_stop_37 (lv_at hl 0 rfl) ?_
      refine lv_bipush (v := 40) hx hb dX11_stop_39 (by decide) ?_
      refine z_Vi (bc := [wc, wcp, z1_, wd1_]) (br := [[zO10 xo t im mk rd po co tr wa wb_ fi cd], z0_, wd0_, wt]) (As := [.ref l1, .ref d1, .int 40]) (rest := []) C G (c_goThrough l T co cpo cla cfw v0 v1 v2 v3 v4 v5 v6 v7 wc cpl cf1 cf2 cf3 cst cwh wcp l1 cr1_ inn1_ k11_ k21_ k31_ k41_ z1_ d1 dd1_ p11_ p21_ p31_ wd1_ 40 hc hcp hz1_ (by first | with_reducible assumption | with_reducible rfl | omega | assumption | rfl) hd1_) (kV_RX11_145 C.2.2.2.2 (Nat.le_of_ble_eq_true rfl) (Nat.le_of_ble_eq_true rfl)) [5, 6, 2, 4] [2, 1, 0, 0] rfl rfl (ci := 1) (qc := (RX1, TX1, 11)) rfl rfl (List.mem_flatten.mpr ⟨_, List.mem_of_getElem? (i := 0) rfl, (bCourse_mem hc).choose_spec⟩) rfl rfl hl.1 dX11_stop_41 (Nat.le_of_ble_eq_true rfl) (Nat.le_of_ble_eq_true rfl) (fun r_108 b1 H locs hw G => ?_)
      refine zEx16 hw ?_
      intro wc2_89 gw_90 u0_91 u1_92 u2_93 u3_94 u4_95 u5_96 u6_97 u7_98 wp2_99 g1_100 g2_101 g3_102 sa_103 wa_104
      refine zCu4 ?_
      intro hbs9 h_105 h_106 h_107
      clear hw
      subst hbs9
      have G : zS T A s.heap s [[zO10 xo t im mk rd po co tr wa wb_ fi cd], z0_, wd0_, wt, wc2_89, wp2_99, z1_, wd1_] _ _ := G
      have G := G.sub (bs' := [[zO10 xo t im mk rd po co tr wa wb_ fi cd], wt, z0_, z1_, wd0_, wd1_, wc2_89, wp2_99]) [0, 3, 1, 6, 2, 7, 4, 5] rfl
      exact z_back hQz_ (z_iret C hr hlocks G (Nat.le_of_ble_eq_true rfl) (Nat.le_of_ble_eq_true rfl) dX11_stop_44 ⟨l1, gw_90, u0_91, u1_92, u2_93, u3_94, u4_95, u5_96, u6_97, u7_98, wc2_89, l1, g1_100, g2_101, g3_102, sa_103, wa_104, wp2_99, rfl, h_105, h_106⟩)
set_option maxHeartbeats 4000000 in
set_option maxRecDepth 100000 in
/-- c_state -/
theorem c_state (l : Launch) (T : zTy) (xo : Nat) (t : Nat) (im : Nat) (mk : Nat) (rd : Nat) (po : Nat) (co : Nat) (tr : Nat) (wa : Nat) (wb_ : Nat) (fi : Nat) (cd : Nat) (l0 : Nat) (l1 : Nat) (d0 : Nat) (d1 : Nat) (g0 : Nat) (g1 : Nat) (ln : Int32) (fl : Int32) (pl : Int32) (ft : Nat → Int32) (fk : Nat → Int32) (wt : va_W) (cr0_ : Int32) (inn0_ : Int32) (k10_ : Nat → Int32) (k20_ : Nat → Int32) (k30_ : Nat → Int32) (k40_ : Nat → Int32) (z0_ : va_W) (cr1_ : Int32) (inn1_ : Int32) (k11_ : Nat → Int32) (k21_ : Nat → Int32) (k31_ : Nat → Int32) (k41_ : Nat → Int32) (z1_ : va_W) (dd0_ : Int32) (p10_ : Nat → Int32) (p20_ : Nat → Int32) (p30_ : Nat → Int32) (wd0_ : va_W) (dd1_ : Int32) (p11_ : Nat → Int32) (p21_ : Nat → Int32) (p31_ : Nat → Int32) (wd1_ : va_W) (cpo : Nat) (cla : Nat) (cfw : Nat → Int32) (v0 : Int32) (v1 : Int32) (v2 : Int32) (v3 : Int32) (v4 : Int32) (v5 : Int32) (v6 : Int32) (v7 : Int32) (wc : va_W) (cpl : Nat) (cf1 : Nat → Int32) (cf2 : Nat → Int32) (cf3 : Nat → Int32) (cst : Int32) (cwh : Int32) (wcp : va_W) (i1 : Int32) (i2 : Int32) (n : Int32) (w_ : Int32) (ht : bTold T t l0 l1 d0 d1 g0 g1 ln fl pl ft fk wt) (hK : zKT fk) (hz0_ : bLand T l0 cr0_ inn0_ k10_ k20_ k30_ k40_ z0_) (hI0_ : zLI cr0_ k10_ k30_) (hz1_ : bLand T l1 cr1_ inn1_ k11_ k21_ k31_ k41_ z1_) (hI1_ : zLI cr1_ k11_ k31_) (hd0_ : bDay T d0 dd0_ p10_ p20_ p30_ wd0_) (hd1_ : bDay T d1 dd1_ p11_ p21_ p31_ wd1_) (hc : bCourse T co cpo cla cfw v0 v1 v2 v3 v4 v5 v6 v7 wc) (hcp : bPosts T cpo cpl cf1 cf2 cf3 cst cwh wcp) : zMi l T yX11_state cX11_state 7 (some .int) 8 0 0 [.ref xo, .int i1, .int i2, .int n, .int w_] [[zO10 xo t im mk rd po co tr wa wb_ fi cd], wt, z0_, z1_, wd0_, wd1_, wc, wcp] (fun (r : Int32) bs => ∃ (cla_2 : Nat) (cfw_2 : Nat → Int32) (v0_2 : Int32) (v1_2 : Int32) (v2_2 : Int32) (v3_2 : Int32) (v4_2 : Int32) (v5_2 : Int32) (v6_2 : Int32) (v7_2 : Int32) (wc_2 : va_W) (cpl_2 : Nat) (cf1_2 : Nat → Int32) (cf2_2 : Nat → Int32) (cf3_2 : Nat → Int32) (cst_2 : Int32) (cwh_2 : Int32) (wcp_2 : va_W), bs = [[zO10 xo t im mk rd po co tr wa wb_ fi cd], wt, z0_, z1_, wd0_, wd1_, wc_2, wcp_2] ∧ bCourse T co cpo cla_2 cfw_2 v0_2 v1_2 v2_2 v3_2 v4_2 v5_2 v6_2 v7_2 wc_2 ∧ bPosts T cpo cpl_2 cf1_2 cf2_2 cf3_2 cst_2 cwh_2 wcp_2) := by
  refine zMi_of (own := RX11) (by decide) rfl (Nat.le_of_ble_eq_true rfl) ?_
  intro p e s m args below meth c A ls C hr hlocks hnm hAe G hl
  refine zHide (fun Qz_ hQz_ => ?_)
  have hx := C.1
  have hb := C.2.1
  have hl : lv_has ls 7 [(0, .ref xo), (1, .int i1), (2, .int i2), (3, .int n), (4, .int w_)] := hl
  refine lv_aload_n hx hb dX11_state_0 rfl (lv_at hl 0 rfl) ?_
  refine z_get C G clX11 0 rfl 0 (by decide) m_fl_RX11_10 rfl dX11_state_1 ?_
  refine lv_iload_n hx hb dX11_state_4 rfl (lv_at hl 1 rfl) ?_
  refine z_Vq (bc := [wt]) (br := [[zO10 xo t im mk rd po co tr wa wb_ fi cd], z0_, z1_, wd0_, wd1_, wc, wcp]) (As := [.int i1]) (rest := []) C G (c_landAt l T t l0 l1 d0 d1 g0 g1 ln fl pl ft fk wt i1 ht) (kV_RX11_121 C.2.2.2.2 (Nat.le_of_ble_eq_true rfl) (Nat.le_of_ble_eq_true rfl)) [1] [1] rfl rfl (ci := 8) (qc := (RX9, TX9, 8)) rfl rfl (List.mem_flatten.mpr ⟨_, List.mem_of_getElem? (i := 0) rfl, (bTold_mem ht).choose_spec⟩) rfl rfl hl.1 dX11_state_5 (Nat.le_of_ble_eq_true rfl) (Nat.le_of_ble_eq_true rfl) (fun r_2 b1 H locs hw G => ?_)
  refine zAn2 hw ?_
  intro hbs9 hc_1
  clear hw
  subst hbs9
  have G : zS T A s.heap s [[zO10 xo t im mk rd po co tr wa wb_ fi cd], z0_, z1_, wd0_, wd1_, wc, wcp, wt] _ _ := G
  rcases hc_1 with ⟨rfl, h_3⟩ | ⟨rfl, h_4, h_5⟩ | ⟨rfl, h_6, h_7⟩
  · have h_3 : (i1.toInt < 0 ∨ (fk 0).toInt ≤ i1.toInt ∨ 2 ≤ i1.toInt) := h_3
    refine lv_astoreN (lv' := [(5, .null), (0, .ref xo), (1, .int i1), (2, .int i2), (3, .int n), (4, .int w_)]) hx hb dX11_state_8 hl (by decide) (zLvf_h rfl) (fun ls hl => ?_)
    refine lv_aload_n hx hb dX11_state_10 rfl (lv_at hl 1 rfl) ?_
    refine z_get C G clX11 0 rfl 0 (by decide) m_fl_RX11_10 rfl dX11_state_11 ?_
    refine lv_iload_n hx hb dX11_state_14 rfl (lv_at hl 3 rfl) ?_
    refine z_Vq (bc := [wt]) (br := [[zO10 xo t im mk rd po co tr wa wb_ fi cd], z0_, z1_, wd0_, wd1_, wc, wcp]) (As := [.int i2]) (rest := []) C G (c_dayAt l T t l0 l1 d0 d1 g0 g1 ln fl pl ft fk wt i2 ht) (kV_RX11_130 C.2.2.2.2 (Nat.le_of_ble_eq_true rfl) (Nat.le_of_ble_eq_true rfl)) [7] [7] rfl rfl (ci := 8) (qc := (RX9, TX9, 8)) rfl rfl (List.mem_flatten.mpr ⟨_, List.mem_of_getElem? (i := 0) rfl, (bTold_mem ht).choose_spec⟩) rfl rfl hl.1 dX11_state_15 (Nat.le_of_ble_eq_true rfl) (Nat.le_of_ble_eq_true rfl) (fun r_9 b1 H locs hw G => ?_)
    refine zAn2 hw ?_
    intro hbs9 hc_8
    clear hw
    subst hbs9
    have G : zS T A s.heap s [[zO10 xo t im mk rd po co tr wa wb_ fi cd], z0_, z1_, wd0_, wd1_, wc, wcp, wt] _ _ := G
    rcases hc_8 with ⟨rfl, h_10⟩ | ⟨rfl, h_11, h_12⟩ | ⟨rfl, h_13, h_14⟩
    · have h_10 : (i2.toInt < 0 ∨ (fk 1).toInt ≤ i2.toInt ∨ 2 ≤ i2.toInt) := h_10
      refine lv_astoreN (lv' := [(6, .null), (5, .null), (0, .ref xo), (1, .int i1), (2, .int i2), (3, .int n), (4, .int w_)]) hx hb dX11_state_18 hl (by decide) (zLvf_h rfl) (fun ls hl => ?_)
      refine lv_aloadN hx hb dX11_state_20 (lv_at hl 1 rfl) ?_
      refine lv_ifnullN (tgt := 43) hx hb dX11_state_22 (by decide) ?_
      refine lv_bipush (v := (-2)) hx hb dX11_state_43 (by decide) ?_
      have G := G.sub (bs' := [[zO10 xo t im mk rd po co tr wa wb_ fi cd], wt, z0_, z1_, wd0_, wd1_, wc, wcp]) [0, 7, 1, 2, 3, 4, 5, 6] rfl
      exact z_back hQz_ (z_iret C hr hlocks G (Nat.le_of_ble_eq_true rfl) (Nat.le_of_ble_eq_true rfl) dX11_state_45 ⟨cla, cfw, v0, v1, v2, v3, v4, v5, v6, v7, wc, cpl, cf1, cf2, cf3, cst, cwh, wcp, rfl, hc, hcp⟩)
    · have h_11 : i2.toInt = 0 := h_11
      have h_12 : 0 < (fk 1).toInt := h_12
      refine lv_astore (lv' := [(6, .ref d0), (5, .null), (0, .ref xo), (1, .int i1), (2, .int i2), (3, .int n), (4, .int w_)]) hx hb dX11_state_18 hl (by decide) (zLvf_h rfl) (fun ls hl => ?_)
      refine lv_aloadN hx hb dX11_state_20 (lv_at hl 1 rfl) ?_
      refine lv_ifnullN (tgt := 43) hx hb dX11_state_22 (by decide) ?_
      refine lv_bipush (v := (-2)) hx hb dX11_state_43 (by decide) ?_
      have G := G.sub (bs' := [[zO10 xo t im mk rd po co tr wa wb_ fi cd], wt, z0_, z1_, wd0_, wd1_, wc, wcp]) [0, 7, 1, 2, 3, 4, 5, 6] rfl
      exact z_back hQz_ (z_iret C hr hlocks G (Nat.le_of_ble_eq_true rfl) (Nat.le_of_ble_eq_true rfl) dX11_state_45 ⟨cla, cfw, v0, v1, v2, v3, v4, v5, v6, v7, wc, cpl, cf1, cf2, cf3, cst, cwh, wcp, rfl, hc, hcp⟩)
    · have h_13 : i2.toInt = 1 := h_13
      have h_14 : 1 < (fk 1).toInt := h_14
      refine lv_astore (lv' := [(6, .ref d1), (5, .null), (0, .ref xo), (1, .int i1), (2, .int i2), (3, .int n), (4, .int w_)]) hx hb dX11_state_18 hl (by decide) (zLvf_h rfl) (fun ls hl => ?_)
      refine lv_aloadN hx hb dX11_state_20 (lv_at hl 1 rfl) ?_
      refine lv_ifnullN (tgt := 43) hx hb dX11_state_22 (by decide) ?_
      refine lv_bipush (v := (-2)) hx hb dX11_state_43 (by decide) ?_
      have G := G.sub (bs' := [[zO10 xo t im mk rd po co tr wa wb_ fi cd], wt, z0_, z1_, wd0_, wd1_, wc, wcp]) [0, 7, 1, 2, 3, 4, 5, 6] rfl
      exact z_back hQz_ (z_iret C hr hlocks G (Nat.le_of_ble_eq_true rfl) (Nat.le_of_ble_eq_true rfl) dX11_state_45 ⟨cla, cfw, v0, v1, v2, v3, v4, v5, v6, v7, wc, cpl, cf1, cf2, cf3, cst, cwh, wcp, rfl, hc, hcp⟩)
  · have h_4 : i1.toInt = 0 := h_4
    have h_5 : 0 < (fk 0).toInt := h_5
    refine lv_astore (lv' := [(5, .ref l0), (0, .ref xo), (1, .int i1), (2, .int i2), (3, .int n), (4, .int w_)]) hx hb dX11_state_8 hl (by decide) (zLvf_h rfl) (fun ls hl => ?_)
    refine lv_aload_n hx hb dX11_state_10 rfl (lv_at hl 1 rfl) ?_
    refine z_get C G clX11 0 rfl 0 (by decide) m_fl_RX11_10 rfl dX11_state_11 ?_
    refine lv_iload_n hx hb dX11_state_14 rfl (lv_at hl 3 rfl) ?_
    refine z_Vq (bc := [wt]) (br := [[zO10 xo t im mk rd po co tr wa wb_ fi cd], z0_, z1_, wd0_, wd1_, wc, wcp]) (As := [.int i2]) (rest := []) C G (c_dayAt l T t l0 l1 d0 d1 g0 g1 ln fl pl ft fk wt i2 ht) (kV_RX11_130 C.2.2.2.2 (Nat.le_of_ble_eq_true rfl) (Nat.le_of_ble_eq_true rfl)) [7] [7] rfl rfl (ci := 8) (qc := (RX9, TX9, 8)) rfl rfl (List.mem_flatten.mpr ⟨_, List.mem_of_getElem? (i := 0) rfl, (bTold_mem ht).choose_spec⟩) rfl rfl hl.1 dX11_state_15 (Nat.le_of_ble_eq_true rfl) (Nat.le_of_ble_eq_true rfl) (fun r_16 b1 H locs hw G => ?_)
    refine zAn2 hw ?_
    intro hbs9 hc_15
    clear hw
    subst hbs9
    have G : zS T A s.heap s [[zO10 xo t im mk rd po co tr wa wb_ fi cd], z0_, z1_, wd0_, wd1_, wc, wcp, wt] _ _ := G
    rcases hc_15 with ⟨rfl, h_17⟩ | ⟨rfl, h_18, h_19⟩ | ⟨rfl, h_20, h_21⟩
    · have h_17 : (i2.toInt < 0 ∨ (fk 1).toInt ≤ i2.toInt ∨ 2 ≤ i2.toInt) := h_17
      refine lv_astoreN (lv' := [(6, .null), (5, .ref l0), (0, .ref xo), (1, .int i1), (2, .int i2), (3, .int n), (4, .int w_)]) hx hb dX11_state_18 hl (by decide) (zLvf_h rfl) (fun ls hl => ?_)
      refine lv_aload hx hb dX11_state_20 (lv_at hl 1 rfl) ?_
      refine lv_ifnull hx hb dX11_state_22 ?_
      refine lv_aloadN hx hb dX11_state_25 (lv_at hl 0 rfl) ?_
      refine lv_ifnullN (tgt := 43) hx hb dX11_state_27 (by decide) ?_
      refine lv_bipush (v := (-2)) hx hb dX11_state_43 (by decide) ?_
      have G := G.sub (bs' := [[zO10 xo t im mk rd po co tr wa wb_ fi cd], wt, z0_, z1_, wd0_, wd1_, wc, wcp]) [0, 7, 1, 2, 3, 4, 5, 6] rfl
      exact z_back hQz_ (z_iret C hr hlocks G (Nat.le_of_ble_eq_true rfl) (Nat.le_of_ble_eq_true rfl) dX11_state_45 ⟨cla, cfw, v0, v1, v2, v3, v4, v5, v6, v7, wc, cpl, cf1, cf2, cf3, cst, cwh, wcp, rfl, hc, hcp⟩)
    · have h_18 : i2.toInt = 0 := h_18
      have h_19 : 0 < (fk 1).toInt := h_19
      refine lv_astore (lv' := [(6, .ref d0), (5, .ref l0), (0, .ref xo), (1, .int i1), (2, .int i2), (3, .int n), (4, .int w_)]) hx hb dX11_state_18 hl (by decide) (zLvf_h rfl) (fun ls hl => ?_)
      refine lv_aload hx hb dX11_state_20 (lv_at hl 1 rfl) ?_
      refine lv_ifnull hx hb dX11_state_22 ?_
      refine lv_aload hx hb dX11_state_25 (lv_at hl 0 rfl) ?_
      refine lv_ifnull hx hb dX11_state_27 ?_
      refine lv_iload_n hx hb dX11_state_30 rfl (lv_at hl 5 rfl) ?_
      refine lv_if_lt (tgt := 43) hx hb dX11_state_31 (by decide) (fun c_22 => ?_) (fun c_22 => ?_)
      · have c_22n : n.toInt < (0 : Int) := (fa_lt _ _).mp c_22
        refine lv_bipush (v := (-2)) hx hb dX11_state_43 (by decide) ?_
        have G := G.sub (bs' := [[zO10 xo t im mk rd po co tr wa wb_ fi cd], wt, z0_, z1_, wd0_, wd1_, wc, wcp]) [0, 7, 1, 2, 3, 4, 5, 6] rfl
        exact z_back hQz_ (z_iret C hr hlocks G (Nat.le_of_ble_eq_true rfl) (Nat.le_of_ble_eq_true rfl) dX11_state_45 ⟨cla, cfw, v0, v1, v2, v3, v4, v5, v6, v7, wc, cpl, cf1, cf2, cf3, cst, cwh, wcp, rfl, hc, hcp⟩)
      · have c_22n : ¬ n.toInt < (0 : Int) := fun q => c_22 ((fa_lt _ _).mpr q)
        refine lv_iload_n hx hb dX11_state_34 rfl (lv_at hl 5 rfl) ?_
        refine lv_aload hx hb dX11_state_35 (lv_at hl 0 rfl) ?_
        refine zEx3 hd0_ ?_
        intro a1_23 a2_24 a3_25 hbs9
        clear hd0_
        subst hbs9
        have G : zS T A s.heap s [[zO10 xo t im mk rd po co tr wa wb_ fi cd], z0_, z1_, [(d0, .inr (2, [.int dd0_, .ref a1_23, .ref a2_24, .ref a3_25]))], [zAr T 0 a1_23 40 p10_], [zAr T 0 a2_24 40 p20_], [zAr T 0 a3_25 40 p30_], wd1_, wc, wcp, wt] _ _ := G.re rfl
        refine z_get C G clX2 3 rfl 0 (by decide) m_fl_RX11_149 rfl dX11_state_37 ?_
        refine lv_icmp_le (tgt := 46) hx hb dX11_state_40 (by decide) (fun c_26 => ?_) (fun c_26 => ?_)
        · have c_26n : n.toInt ≤ dd0_.toInt := (fa_le _ _).mp c_26
          refine lv_aload_n hx hb dX11_state_46 rfl (lv_at hl 2 rfl) ?_
          refine z_get C G clX11 0 rfl 5 (by decide) m_fl_RX11_41 rfl dX11_state_47 ?_
          refine lv_aload hx hb dX11_state_50 (lv_at hl 1 rfl) ?_
          refine lv_aload hx hb dX11_state_52 (lv_at hl 0 rfl) ?_
          refine lv_iload_n hx hb dX11_state_54 rfl (lv_at hl 5 rfl) ?_
          have hw_27 : bDay T d0 dd0_ p10_ p20_ p30_ [(d0, .inr (2, [.int dd0_, .ref a1_23, .ref a2_24, .ref a3_25])), zAr T 0 a1_23 40 p10_, zAr T 0 a2_24 40 p20_, zAr T 0 a3_25 40 p30_] := ⟨a1_23, a2_24, a3_25, rfl⟩
          have G : zS T A s.heap s [[zO10 xo t im mk rd po co tr wa wb_ fi cd], z0_, z1_, [(d0, .inr (2, [.int dd0_, .ref a1_23, .ref a2_24, .ref a3_25])), zAr T 0 a1_23 40 p10_, zAr T 0 a2_24 40 p20_, zAr T 0 a3_25 40 p30_], wd1_, wc, wcp, wt] _ _ := G.re rfl
          refine z_Vi (bc := [wc, wcp, z0_, [(d0, .inr (2, [.int dd0_, .ref a1_23, .ref a2_24, .ref a3_25])), zAr T 0 a1_23 40 p10_, zAr T 0 a2_24 40 p20_, zAr T 0 a3_25 40 p30_]]) (br := [[zO10 xo t im mk rd po co tr wa wb_ fi cd], z1_, wd1_, wt]) (As := [.ref l0, .ref d0, .int n]) (rest := []) C G (c_goThrough l T co cpo cla cfw v0 v1 v2 v3 v4 v5 v6 v7 wc cpl cf1 cf2 cf3 cst cwh wcp l0 cr0_ inn0_ k10_ k20_ k30_ k40_ z0_ d0 dd0_ p10_ p20_ p30_ ([(d0, .inr (2, [.int dd0_, .ref a1_23, .ref a2_24, .ref a3_25])), zAr T 0 a1_23 40 p10_, zAr T 0 a2_24 40 p20_, zAr T 0 a3_25 40 p30_]) n hc hcp hz0_ (by first | with_reducible assumption | with_reducible rfl | omega | assumption | rfl) hw_27) (kV_RX11_145 C.2.2.2.2 (Nat.le_of_ble_eq_true rfl) (Nat.le_of_ble_eq_true rfl)) [5, 6, 1, 3] [1, 1, 1, 0] rfl rfl (ci := 1) (qc := (RX1, TX1, 11)) rfl rfl (List.mem_flatten.mpr ⟨_, List.mem_of_getElem? (i := 0) rfl, (bCourse_mem hc).choose_spec⟩) rfl rfl hl.1 dX11_state_55 (Nat.le_of_ble_eq_true rfl) (Nat.le_of_ble_eq_true rfl) (fun r_47 b1 H locs hw G => ?_)
          refine zEx16 hw ?_
          intro wc2_28 gw_29 u0_30 u1_31 u2_32 u3_33 u4_34 u5_35 u6_36 u7_37 wp2_38 g1_39 g2_40 g3_41 sa_42 wa_43
          refine zCu4 ?_
          intro hbs9 h_44 h_45 h_46
          clear hw
          subst hbs9
          have G : zS T A s.heap s [[zO10 xo t im mk rd po co tr wa wb_ fi cd], z1_, wd1_, wt, wc2_28, wp2_38, z0_, [(d0, .inr (2, [.int dd0_, .ref a1_23, .ref a2_24, .ref a3_25])), zAr T 0 a1_23 40 p10_, zAr T 0 a2_24 40 p20_, zAr T 0 a3_25 40 p30_]] _ _ := G
          refine lv_iload_n hx hb dX11_state_58 rfl (lv_at hl 5 rfl) ?_
          refine lv_icmp_ne (tgt := 74) hx hb dX11_state_59 (by decide) (fun c_48 => ?_) (fun c_48 => ?_)
          · have c_48n : ¬ r_47.toInt = n.toInt := fun q => c_48 ((fa_eq _ _).mpr q)
            refine lv_bipush (v := (-2)) hx hb dX11_state_74 (by decide) ?_
            have G := G.sub (bs' := [[zO10 xo t im mk rd po co tr wa wb_ fi cd], wt, z0_, z1_, [(d0, .inr (2, [.int dd0_, .ref a1_23, .ref a2_24, .ref a3_25])), zAr T 0 a1_23 40 p10_, zAr T 0 a2_24 40 p20_, zAr T 0 a3_25 40 p30_], wd1_, wc2_28, wp2_38]) [0, 3, 6, 1, 7, 2, 4, 5] rfl
            exact z_back hQz_ (z_iret C hr hlocks G (Nat.le_of_ble_eq_true rfl) (Nat.le_of_ble_eq_true rfl) dX11_state_76 ⟨l0, gw_29, u0_30, u1_31, u2_32, u3_33, u4_34, u5_35, u6_36, u7_37, wc2_28, l0, g1_39, g2_40, g3_41, sa_42, wa_43, wp2_38, rfl, h_44, h_45⟩)
          · have c_48n : r_47.toInt = n.toInt := (fa_eq _ _).mp c_48
            refine lv_aload_n hx hb dX11_state_62 rfl (lv_at hl 2 rfl) ?_
            refine z_get C G clX11 0 rfl 5 (by decide) m_fl_RX11_41 rfl dX11_state_63 ?_
            refine lv_iload hx hb dX11_state_66 (lv_at hl 6 rfl) ?_
            refine z_Vi (bc := [wc2_28, wp2_38, z0_]) (br := [[zO10 xo t im mk rd po co tr wa wb_ fi cd], z1_, wd1_, wt, [(d0, .inr (2, [.int dd0_, .ref a1_23, .ref a2_24, .ref a3_25])), zAr T 0 a1_23 40 p10_, zAr T 0 a2_24 40 p20_, zAr T 0 a3_25 40 p30_]]) (As := [.int w_]) (rest := []) C G (c_Course_told l T co cpo l0 gw_29 u0_30 u1_31 u2_32 u3_33 u4_34 u5_35 u6_36 u7_37 wc2_28 g1_39 g2_40 g3_41 sa_42 wa_43 wp2_38 cr0_ inn0_ k10_ k20_ k30_ k40_ z0_ w_ h_44 h_45 hz0_ (by first | with_reducible assumption | with_reducible rfl | omega | assumption | rfl)) (kV_RX11_152 C.2.2.2.2 (Nat.le_of_ble_eq_true rfl) (Nat.le_of_ble_eq_true rfl)) [4, 5, 6] [4, 0, 0] rfl rfl (ci := 1) (qc := (RX1, TX1, 11)) rfl rfl (List.mem_flatten.mpr ⟨_, List.mem_of_getElem? (i := 0) rfl, (bCourse_mem h_44).choose_spec⟩) rfl rfl hl.1 dX11_state_68 (Nat.le_of_ble_eq_true rfl) (Nat.le_of_ble_eq_true rfl) (fun r_49 b1 H locs hw G => ?_)
            obtain rfl := hw
            have G : zS T A s.heap s [[zO10 xo t im mk rd po co tr wa wb_ fi cd], z1_, wd1_, wt, [(d0, .inr (2, [.int dd0_, .ref a1_23, .ref a2_24, .ref a3_25])), zAr T 0 a1_23 40 p10_, zAr T 0 a2_24 40 p20_, zAr T 0 a3_25 40 p30_], wc2_28, wp2_38, z0_] _ _ := G
            refine lv_goto (tgt := 76) hx hb dX11_state_71 (by decide) ?_
            have G := G.sub (bs' := [[zO10 xo t im mk rd po co tr wa wb_ fi cd], wt, z0_, z1_, [(d0, .inr (2, [.int dd0_, .ref a1_23, .ref a2_24, .ref a3_25])), zAr T 0 a1_23 40 p10_, zAr T 0 a2_24 40 p20_, zAr T 0 a3_25 40 p30_], wd1_, wc2_28, wp2_38]) [0, 3, 7, 1, 4, 2, 5, 6] rfl
            exact z_back hQz_ (z_iret C hr hlocks G (Nat.le_of_ble_eq_true rfl) (Nat.le_of_ble_eq_true rfl) dX11_state_76 ⟨l0, gw_29, u0_30, u1_31, u2_32, u3_33, u4_34, u5_35, u6_36, u7_37, wc2_28, l0, g1_39, g2_40, g3_41, sa_42, wa_43, wp2_38, rfl, h_44, h_45⟩)
        · have c_26n : ¬ n.toInt ≤ dd0_.toInt := fun q => c_26 ((fa_le _ _).mpr q)
          refine lv_bipush (v := (-2)) hx hb dX11_state_43 (by decide) ?_
          have hw_50 : bDay T d0 dd0_ p10_ p20_ p30_ [(d0, .inr (2, [.int dd0_, .ref a1_23, .ref a2_24, .ref a3_25])), zAr T 0 a1_23 40 p10_, zAr T 0 a2_24 40 p20_, zAr T 0 a3_25 40 p30_] := ⟨a1_23, a2_24, a3_25, rfl⟩
          have G : zS T A s.heap s [[zO10 xo t im mk rd po co tr wa wb_ fi cd], z0_, z1_, [(d0, .inr (2, [.int dd0_, .ref a1_23, .ref a2_24, .ref a3_25])), zAr T 0 a1_23 40 p10_, zAr T 0 a2_24 40 p20_, zAr T 0 a3_25 40 p30_], wd1_, wc, wcp, wt] _ _ := G.re rfl
          have G := G.sub (bs' := [[zO10 xo t im mk rd po co tr wa wb_ fi cd], wt, z0_, z1_, [(d0, .inr (2, [.int dd0_, .ref a1_23, .ref a2_24, .ref a3_25])), zAr T 0 a1_23 40 p10_, zAr T 0 a2_24 40 p20_, zAr T 0 a3_25 40 p30_], wd1_, wc, wcp]) [0, 7, 1, 2, 3, 4, 5, 6] rfl
          exact z_back hQz_ (z_iret C hr hlocks G (Nat.le_of_ble_eq_true rfl) (Nat.le_of_ble_eq_true rfl) dX11_state_45 ⟨cla, cfw, v0, v1, v2, v3, v4, v5, v6, v7, wc, cpl, cf1, cf2, cf3, cst, cwh, wcp, rfl, hc, hcp⟩)
    · have h_20 : i2.toInt = 1 := h_20
      have h_21 : 1 < (fk 1).toInt := h_21
      refine lv_astore (lv' := [(6, .ref d1), (5, .ref l0), (0, .ref xo), (1, .int i1), (2, .int i2), (3, .int n), (4, .int w_)]) hx hb dX11_state_18 hl (by decide) (zLvf_h rfl) (fun ls hl => ?_)
      refine lv_aload hx hb dX11_state_20 (lv_at hl 1 rfl) ?_
      refine lv_ifnull hx hb dX11_state_22 ?_
      refine lv_aload hx hb dX11_state_25 (lv_at hl 0 rfl) ?_
      refine lv_ifnull hx hb dX11_state_27 ?_
      refine lv_iload_n hx hb dX11_state_30 rfl (lv_at hl 5 rfl) ?_
      refine lv_if_lt (tgt := 43) hx hb dX11_state_31 (by decide) (fun c_51 => ?_) (fun c_51 => ?_)
      · have c_51n : n.toInt < (0 : Int) := (fa_lt _ _).mp c_51
        refine lv_bipush (v := (-2)) hx hb dX11_state_43 (by decide) ?_
        have G := G.sub (bs' := [[zO10 xo t im mk rd po co tr wa wb_ fi cd], wt, z0_, z1_, wd0_, wd1_, wc, wcp]) [0, 7, 1, 2, 3, 4, 5, 6] rfl
        exact z_back hQz_ (z_iret C hr hlocks G (Nat.le_of_ble_eq_true rfl) (Nat.le_of_ble_eq_true rfl) dX11_state_45 ⟨cla, cfw, v0, v1, v2, v3, v4, v5, v6, v7, wc, cpl, cf1, cf2, cf3, cst, cwh, wcp, rfl, hc, hcp⟩)
      · have c_51n : ¬ n.toInt < (0 : Int) := fun q => c_51 ((fa_lt _ _).mpr q)
        refine lv_iload_n hx hb dX11_state_34 rfl (lv_at hl 5 rfl) ?_
        refine lv_aload hx hb dX11_state_35 (lv_at hl 0 rfl) ?_
        refine zEx3 hd1_ ?_
        intro a1_52 a2_53 a3_54 hbs9
        clear hd1_
        subst hbs9
        have G : zS T A s.heap s [[zO10 xo t im mk rd po co tr wa wb_ fi cd], z0_, z1_, wd0_, [(d1, .inr (2, [.int dd1_, .ref a1_52, .ref a2_53, .ref a3_54]))], [zAr T 0 a1_52 40 p11_], [zAr T 0 a2_53 40 p21_], [zAr T 0 a3_54 40 p31_], wc, wcp, wt] _ _ := G.re rfl
        refine z_get C G clX2 4 rfl 0 (by decide) m_fl_RX11_149 rfl dX11_state_37 ?_
        refine lv_icmp_le (tgt := 46) hx hb dX11_state_40 (by decide) (fun c_55 => ?_) (fun c_55 => ?_)
        · have c_55n : n.toInt ≤ dd1_.toInt := (fa_le _ _).mp c_55
          refine lv_aload_n hx hb dX11_state_46 rfl (lv_at hl 2 rfl) ?_
          refine z_get C G clX11 0 rfl 5 (by decide) m_fl_RX11_41 rfl dX11_state_47 ?_
          refine lv_aload hx hb dX11_state_50 (lv_at hl 1 rfl) ?_
          refine lv_aload hx hb dX11_state_52 (lv_at hl 0 rfl) ?_
          refine lv_iload_n hx hb dX11_state_54 rfl (lv_at hl 5 rfl) ?_
          have hw_56 : bDay T d1 dd1_ p11_ p21_ p31_ [(d1, .inr (2, [.int dd1_, .ref a1_52, .ref a2_53, .ref a3_54])), zAr T 0 a1_52 40 p11_, zAr T 0 a2_53 40 p21_, zAr T 0 a3_54 40 p31_] := ⟨a1_52, a2_53, a3_54, rfl⟩
          have G : zS T A s.heap s [[zO10 xo t im mk rd po co tr wa wb_ fi cd], z0_, z1_, wd0_, [(d1, .inr (2, [.int dd1_, .ref a1_52, .ref a2_53, .ref a3_54])), zAr T 0 a1_52 40 p11_, zAr T 0 a2_53 40 p21_, zAr T 0 a3_54 40 p31_], wc, wcp, wt] _ _ := G.re rfl
          refine z_Vi (bc := [wc, wcp, z0_, [(d1, .inr (2, [.int dd1_, .ref a1_52, .ref a2_53, .ref a3_54])), zAr T 0 a1_52 40 p11_, zAr T 0 a2_53 40 p21_, zAr T 0 a3_54 40 p31_]]) (br := [[zO10 xo t im mk rd po co tr wa wb_ fi cd], z1_, wd0_, wt]) (As := [.ref l0, .ref d1, .int n]) (rest := []) C G (c_goThrough l T co cpo cla cfw v0 v1 v2 v3 v4 v5 v6 v7 wc cpl cf1 cf2 cf3 cst cwh wcp l0 cr0_ inn0_ k10_ k20_ k30_ k40_ z0_ d1 dd1_ p11_ p21_ p31_ ([(d1, .inr (2, [.int dd1_, .ref a1_52, .ref a2_53, .ref a3_54])), zAr T 0 a1_52 40 p11_, zAr T 0 a2_53 40 p21_, zAr T 0 a3_54 40 p31_]) n hc hcp hz0_ (by first | with_reducible assumption | with_reducible rfl | omega | assumption | rfl) hw_56) (kV_RX11_145 C.2.2.2.2 (Nat.le_of_ble_eq_true rfl) (Nat.le_of_ble_eq_true rfl)) [5, 6, 1, 4] [1, 2, 0, 0] rfl rfl (ci := 1) (qc := (RX1, TX1, 11)) rfl rfl (List.mem_flatten.mpr ⟨_, List.mem_of_getElem? (i := 0) rfl, (bCourse_mem hc).choose_spec⟩) rfl rfl hl.1 dX11_state_55 (Nat.le_of_ble_eq_true rfl) (Nat.le_of_ble_eq_true rfl) (fun r_76 b1 H locs hw G => ?_)
          refine zEx16 hw ?_
          intro wc2_57 gw_58 u0_59 u1_60 u2_61 u3_62 u4_63 u5_64 u6_65 u7_66 wp2_67 g1_68 g2_69 g3_70 sa_71 wa_72
          refine zCu4 ?_
          intro hbs9 h_73 h_74 h_75
          clear hw
          subst hbs9
          have G : zS T A s.heap s [[zO10 xo t im mk rd po co tr wa wb_ fi cd], z1_, wd0_, wt, wc2_57, wp2_67, z0_, [(d1, .inr (2, [.int dd1_, .ref a1_52, .ref a2_53, .ref a3_54])), zAr T 0 a1_52 40 p11_, zAr T 0 a2_53 40 p21_, zAr T 0 a3_54 40 p31_]] _ _ := G
          refine lv_iload_n hx hb dX11_state_58 rfl (lv_at hl 5 rfl) ?_
          refine lv_icmp_ne (tgt := 74) hx hb dX11_state_59 (by decide) (fun c_77 => ?_) (fun c_77 => ?_)
          · have c_77n : ¬ r_76.toInt = n.toInt := fun q => c_77 ((fa_eq _ _).mpr q)
            refine lv_bipush (v := (-2)) hx hb dX11_state_74 (by decide) ?_
            have G := G.sub (bs' := [[zO10 xo t im mk rd po co tr wa wb_ fi cd], wt, z0_, z1_, wd0_, [(d1, .inr (2, [.int dd1_, .ref a1_52, .ref a2_53, .ref a3_54])), zAr T 0 a1_52 40 p11_, zAr T 0 a2_53 40 p21_, zAr T 0 a3_54 40 p31_], wc2_57, wp2_67]) [0, 3, 6, 1, 2, 7, 4, 5] rfl
            exact z_back hQz_ (z_iret C hr hlocks G (Nat.le_of_ble_eq_true rfl) (Nat.le_of_ble_eq_true rfl) dX11_state_76 ⟨l0, gw_58, u0_59, u1_60, u2_61, u3_62, u4_63, u5_64, u6_65, u7_66, wc2_57, l0, g1_68, g2_69, g3_70, sa_71, wa_72, wp2_67, rfl, h_73, h_74⟩)
          · have c_77n : r_76.toInt = n.toInt := (fa_eq _ _).mp c_77
            refine lv_aload_n hx hb dX11_state_62 rfl (lv_at hl 2 rfl) ?_
            refine z_get C G clX11 0 rfl 5 (by decide) m_fl_RX11_41 rfl dX11_state_63 ?_
            refine lv_iload hx hb dX11_state_66 (lv_at hl 6 rfl) ?_
            refine z_Vi (bc := [wc2_57, wp2_67, z0_]) (br := [[zO10 xo t im mk rd po co tr wa wb_ fi cd], z1_, wd0_, wt, [(d1, .inr (2, [.int dd1_, .ref a1_52, .ref a2_53, .ref a3_54])), zAr T 0 a1_52 40 p11_, zAr T 0 a2_53 40 p21_, zAr T 0 a3_54 40 p31_]]) (As := [.int w_]) (rest := []) C G (c_Course_told l T co cpo l0 gw_58 u0_59 u1_60 u2_61 u3_62 u4_63 u5_64 u6_65 u7_66 wc2_57 g1_68 g2_69 g3_70 sa_71 wa_72 wp2_67 cr0_ inn0_ k10_ k20_ k30_ k40_ z0_ w_ h_73 h_74 hz0_ (by first | with_reducible assumption | with_reducible rfl | omega | assumption | rfl)) (kV_RX11_152 C.2.2.2.2 (Nat.le_of_ble_eq_true rfl) (Nat.le_of_ble_eq_true rfl)) [4, 5, 6] [4, 0, 0] rfl rfl (ci := 1) (qc := (RX1, TX1, 11)) rfl rfl (List.mem_flatten.mpr ⟨_, List.mem_of_getElem? (i := 0) rfl, (bCourse_mem h_73).choose_spec⟩) rfl rfl hl.1 dX11_state_68 (Nat.le_of_ble_eq_true rfl) (Nat.le_of_ble_eq_true rfl) (fun r_78 b1 H locs hw G => ?_)
            obtain rfl := hw
            have G : zS T A s.heap s [[zO10 xo t im mk rd po co tr wa wb_ fi cd], z1_, wd0_, wt, [(d1, .inr (2, [.int dd1_, .ref a1_52, .ref a2_53, .ref a3_54])), zAr T 0 a1_52 40 p11_, zAr T 0 a2_53 40 p21_, zAr T 0 a3_54 40 p31_], wc2_57, wp2_67, z0_] _ _ := G
            refine lv_goto (tgt := 76) hx hb dX11_state_71 (by decide) ?_
            have G := G.sub (bs' := [[zO10 xo t im mk rd po co tr wa wb_ fi cd], wt, z0_, z1_, wd0_, [(d1, .inr (2, [.int dd1_, .ref a1_52, .ref a2_53, .ref a3_54])), zAr T 0 a1_52 40 p11_, zAr T 0 a2_53 40 p21_, zAr T 0 a3_54 40 p31_], wc2_57, wp2_67]) [0, 3, 7, 1, 2, 4, 5, 6] rfl
            exact z_back hQz_ (z_iret C hr hlocks G (Nat.le_of_ble_eq_true rfl) (Nat.le_of_ble_eq_true rfl) dX11_state_76 ⟨l0, gw_58, u0_59, u1_60, u2_61, u3_62, u4_63, u5_64, u6_65, u7_66, wc2_57, l0, g1_68, g2_69, g3_70, sa_71, wa_72, wp2_67, rfl, h_73, h_74⟩)
        · have c_55n : ¬ n.toInt ≤ dd1_.toInt := fun q => c_55 ((fa_le _ _).mpr q)
          refine lv_bipush (v := (-2)) hx hb dX11_state_43 (by decide) ?_
          have hw_79 : bDay T d1 dd1_ p11_ p21_ p31_ [(d1, .inr (2, [.int dd1_, .ref a1_52, .ref a2_53, .ref a3_54])), zAr T 0 a1_52 40 p11_, zAr T 0 a2_53 40 p21_, zAr T 0 a3_54 40 p31_] := ⟨a1_52, a2_53, a3_54, rfl⟩
          have G : zS T A s.heap s [[zO10 xo t im mk rd po co tr wa wb_ fi cd], z0_, z1_, wd0_, [(d1, .inr (2, [.int dd1_, .ref a1_52, .ref a2_53, .ref a3_54])), zAr T 0 a1_52 40 p11_, zAr T 0 a2_53 40 p21_, zAr T 0 a3_54 40 p31_], wc, wcp, wt] _ _ := G.re rfl
          have G := G.sub (bs' := [[zO10 xo t im mk rd po co tr wa wb_ fi cd], wt, z0_, z1_, wd0_, [(d1, .inr (2, [.int dd1_, .ref a1_52, .ref a2_53, .ref a3_54])), zAr T 0 a1_52 40 p11_, zAr T 0 a2_53 40 p21_, zAr T 0 a3_54 40 p31_], wc, wcp]) [0, 7, 1, 2, 3, 4, 5, 6] rfl
          exact z_back hQz_ (z_iret C hr hlocks G (Nat.le_of_ble_eq_true rfl) (Nat.le_of_ble_eq_true rfl) dX11_state_45 ⟨cla, cfw, v0, v1, v2, v3, v4, v5, v6, v7, wc, cpl, cf1, cf2, cf3, cst, cwh, wcp, rfl, hc, hcp⟩)
  · have h_6 : i1.toInt = 1 := h_6
    have h_7 : 1 < (fk 0).toInt := h_7
    refine lv_astore (lv' := [(5, .ref l1), (0, .ref xo), (1, .int i1), (2, .int i2), (3, .int n), (4, .int w_)]) hx hb dX11_state_8 hl (by decide) (zLvf_h rfl) (fun ls hl => ?_)
    refine lv_aload_n hx hb dX11_state_10 rfl (lv_at hl 1 rfl) ?_
    refine z_get C G clX11 0 rfl 0 (by decide) m_fl_RX11_10 rfl dX11_state_11 ?_
    refine lv_iload_n hx hb dX11_state_14 rfl (lv_at hl 3 rfl) ?_
    refine z_Vq (bc := [wt]) (br := [[zO10 xo t im mk rd po co tr wa wb_ fi cd], z0_, z1_, wd0_, wd1_, wc, wcp]) (As := [.int i2]) (rest := []) C G (c_dayAt l T t l0 l1 d0 d1 g0 g1 ln fl pl ft fk wt i2 ht) (kV_RX11_130 C.2.2.2.2 (Nat.le_of_ble_eq_true rfl) (Nat.le_of_ble_eq_true rfl)) [7] [7] rfl rfl (ci := 8) (qc := (RX9, TX9, 8)) rfl rfl (List.mem_flatten.mpr ⟨_, List.mem_of_getElem? (i := 0) rfl, (bTold_mem ht).choose_spec⟩) rfl rfl hl.1 dX11_state_15 (Nat.le_of_ble_eq_true rfl) (Nat.le_of_ble_eq_true rfl) (fun r_81 b1 H locs hw G => ?_)
    refine zAn2 hw ?_
    intro hbs9 hc_80
    clear hw
    subst hbs9
    have G : zS T A s.heap s [[zO10 xo t im mk rd po co tr wa wb_ fi cd], z0_, z1_, wd0_, wd1_, wc, wcp, wt] _ _ := G
    rcases hc_80 with ⟨rfl, h_82⟩ | ⟨rfl, h_83, h_84⟩ | ⟨rfl, h_85, h_86⟩
    · have h_82 : (i2.toInt < 0 ∨ (fk 1).toInt ≤ i2.toInt ∨ 2 ≤ i2.toInt) := h_82
      refine lv_astoreN (lv' := [(6, .null), (5, .ref l1), (0, .ref xo), (1, .int i1), (2, .int i2), (3, .int n), (4, .int w_)]) hx hb dX11_state_18 hl (by decide) (zLvf_h rfl) (fun ls hl => ?_)
      refine lv_aload hx hb dX11_state_20 (lv_at hl 1 rfl) ?_
      refine lv_ifnull hx hb dX11_state_22 ?_
      refine lv_aloadN hx hb dX11_state_25 (lv_at hl 0 rfl) ?_
      refine lv_ifnullN (tgt := 43) hx hb dX11_state_27 (by decide) ?_
      refine lv_bipush (v := (-2)) hx hb dX11_state_43 (by decide) ?_
      have G := G.sub (bs' := [[zO10 xo t im mk rd po co tr wa wb_ fi cd], wt, z0_, z1_, wd0_, wd1_, wc, wcp]) [0, 7, 1, 2, 3, 4, 5, 6] rfl
      exact z_back hQz_ (z_iret C hr hlocks G (Nat.le_of_ble_eq_true rfl) (Nat.le_of_ble_eq_true rfl) dX11_state_45 ⟨cla, cfw, v0, v1, v2, v3, v4, v5, v6, v7, wc, cpl, cf1, cf2, cf3, cst, cwh, wcp, rfl, hc, hcp⟩)
    · have h_83 : i2.toInt = 0 := h_83
      have h_84 : 0 < (fk 1).toInt := h_84
      refine lv_astore (lv' := [(6, .ref d0), (5, .ref l1), (0, .ref xo), (1, .int i1), (2, .int i2), (3, .int n), (4, .int w_)]) hx hb dX11_state_18 hl (by decide) (zLvf_h rfl) (fun ls hl => ?_)
      refine lv_aload hx hb dX11_state_20 (lv_at hl 1 rfl) ?_
      refine lv_ifnull hx hb dX11_state_22 ?_
      refine lv_aload hx hb dX11_state_25 (lv_at hl 0 rfl) ?_
      refine lv_ifnull hx hb dX11_state_27 ?_
      refine lv_iload_n hx hb dX11_state_30 rfl (lv_at hl 5 rfl) ?_
      refine lv_if_lt (tgt := 43) hx hb dX11_state_31 (by decide) (fun c_87 => ?_) (fun c_87 => ?_)
      · have c_87n : n.toInt < (0 : Int) := (fa_lt _ _).mp c_87
        refine lv_bipush (v := (-2)) hx hb dX11_state_43 (by decide) ?_
        have G := G.sub (bs' := [[zO10 xo t im mk rd po co tr wa wb_ fi cd], wt, z0_, z1_, wd0_, wd1_, wc, wcp]) [0, 7, 1, 2, 3, 4, 5, 6] rfl
        exact z_back hQz_ (z_iret C hr hlocks G (Nat.le_of_ble_eq_true rfl) (Nat.le_of_ble_eq_true rfl) dX11_state_45 ⟨cla, cfw, v0, v1, v2, v3, v4, v5, v6, v7, wc, cpl, cf1, cf2, cf3, cst, cwh, wcp, rfl, hc, hcp⟩)
      · have c_87n : ¬ n.toInt < (0 : Int) := fun q => c_87 ((fa_lt _ _).mpr q)
        refine lv_iload_n hx hb dX11_state_34 rfl (lv_at hl 5 rfl) ?_
        refine lv_aload hx hb dX11_state_35 (lv_at hl 0 rfl) ?_
        refine zEx3 hd0_ ?_
        intro a1_88 a2_89 a3_90 hbs9
        clear hd0_
        subst hbs9
        have G : zS T A s.heap s [[zO10 xo t im mk rd po co tr wa wb_ fi cd], z0_, z1_, [(d0, .inr (2, [.int dd0_, .ref a1_88, .ref a2_89, .ref a3_90]))], [zAr T 0 a1_88 40 p10_], [zAr T 0 a2_89 40 p20_], [zAr T 0 a3_90 40 p30_], wd1_, wc, wcp, wt] _ _ := G.re rfl
        refine z_get C G clX2 3 rfl 0 (by decide) m_fl_RX11_149 rfl dX11_state_37 ?_
        refine lv_icmp_le (tgt := 46) hx hb dX11_state_40 (by decide) (fun c_91 => ?_) (fun c_91 => ?_)
        · have c_91n : n.toInt ≤ dd0_.toInt := (fa_le _ _).mp c_91
          refine lv_aload_n hx hb dX11_state_46 rfl (lv_at hl 2 rfl) ?_
          refine z_get C G clX11 0 rfl 5 (by decide) m_fl_RX11_41 rfl dX11_state_47 ?_
          refine lv_aload hx hb dX11_state_50 (lv_at hl 1 rfl) ?_
          refine lv_aload hx hb dX11_state_52 (lv_at hl 0 rfl) ?_
          refine lv_iload_n hx hb dX11_state_54 rfl (lv_at hl 5 rfl) ?_
          have hw_92 : bDay T d0 dd0_ p10_ p20_ p30_ [(d0, .inr (2, [.int dd0_, .ref a1_88, .ref a2_89, .ref a3_90])), zAr T 0 a1_88 40 p10_, zAr T 0 a2_89 40 p20_, zAr T 0 a3_90 40 p30_] := ⟨a1_88, a2_89, a3_90, rfl⟩
          have G : zS T A s.heap s [[zO10 xo t im mk rd po co tr wa wb_ fi cd], z0_, z1_, [(d0, .inr (2, [.int dd0_, .ref a1_88, .ref a2_89, .ref a3_90])), zAr T 0 a1_88 40 p10_, zAr T 0 a2_89 40 p20_, zAr T 0 a3_90 40 p30_], wd1_, wc, wcp, wt] _ _ := G.re rfl
          refine z_Vi (bc := [wc, wcp, z1_, [(d0, .inr (2, [.int dd0_, .ref a1_88, .ref a2_89, .ref a3_90])), zAr T 0 a1_88 40 p10_, zAr T 0 a2_89 40 p20_, zAr T 0 a3_90 40 p30_]]) (br := [[zO10 xo t im mk rd po co tr wa wb_ fi cd], z0_, wd1_, wt]) (As := [.ref l1, .ref d0, .int n]) (rest := []) C G (c_goThrough l T co cpo cla cfw v0 v1 v2 v3 v4 v5 v6 v7 wc cpl cf1 cf2 cf3 cst cwh wcp l1 cr1_ inn1_ k11_ k21_ k31_ k41_ z1_ d0 dd0_ p10_ p20_ p30_ ([(d0, .inr (2, [.int dd0_, .ref a1_88, .ref a2_89, .ref a3_90])), zAr T 0 a1_88 40 p10_, zAr T 0 a2_89 40 p20_, zAr T 0 a3_90 40 p30_]) n hc hcp hz1_ (by first | with_reducible assumption | with_reducible rfl | omega | assumption | rfl) hw_92) (kV_RX11_145 C.2.2.2.2 (Nat.le_of_ble_eq_true rfl) (Nat.le_of_ble_eq_true rfl)) [5, 6, 2, 3] [2, 0, 1, 0] rfl rfl (ci := 1) (qc := (RX1, TX1, 11)) rfl rfl (List.mem_flatten.mpr ⟨_, List.mem_of_getElem? (i := 0) rfl, (bCourse_mem hc).choose_spec⟩) rfl rfl hl.1 dX11_state_55 (Nat.le_of_ble_eq_true rfl) (Nat.le_of_ble_eq_true rfl) (fun r_112 b1 H locs hw G => ?_)
          refine zEx16 hw ?_
          intro wc2_93 gw_94 u0_95 u1_96 u2_97 u3_98 u4_99 u5_100 u6_101 u7_102 wp2_103 g1_104 g2_105 g3_106 sa_107 wa_108
          refine zCu4 ?_
          intro hbs9 h_109 h_110 h_111
          clear hw
          subst hbs9
          have G : zS T A s.heap s [[zO10 xo t im mk rd po co tr wa wb_ fi cd], z0_, wd1_, wt, wc2_93, wp2_103, z1_, [(d0, .inr (2, [.int dd0_, .ref a1_88, .ref a2_89, .ref a3_90])), zAr T 0 a1_88 40 p10_, zAr T 0 a2_89 40 p20_, zAr T 0 a3_90 40 p30_]] _ _ := G
          refine lv_iload_n hx hb dX11_state_58 rfl (lv_at hl 5 rfl) ?_
          refine lv_icmp_ne (tgt := 74) hx hb dX11_state_59 (by decide) (fun c_113 => ?_) (fun c_113 => ?_)
          · have c_113n : ¬ r_112.toInt = n.toInt := fun q => c_113 ((fa_eq _ _).mpr q)
            refine lv_bipush (v := (-2)) hx hb dX11_state_74 (by decide) ?_
            have G := G.sub (bs' := [[zO10 xo t im mk rd po co tr wa wb_ fi cd], wt, z0_, z1_, [(d0, .inr (2, [.int dd0_, .ref a1_88, .ref a2_89, .ref a3_90])), zAr T 0 a1_88 40 p10_, zAr T 0 a2_89 40 p20_, zAr T 0 a3_90 40 p30_], wd1_, wc2_93, wp2_103]) [0, 3, 1, 6, 7, 2, 4, 5] rfl
            exact z_back hQz_ (z_iret C hr hlocks G (Nat.le_of_ble_eq_true rfl) (Nat.le_of_ble_eq_true rfl) dX11_state_76 ⟨l1, gw_94, u0_95, u1_96, u2_97, u3_98, u4_99, u5_100, u6_101, u7_102, wc2_93, l1, g1_104, g2_105, g3_106, sa_107, wa_108, wp2_103, rfl, h_109, h_110⟩)
          · have c_113n : r_112.toInt = n.toInt := (fa_eq _ _).mp c_113
            refine lv_aload_n hx hb dX11_state_62 rfl (lv_at hl 2 rfl) ?_
            refine z_get C G clX11 0 rfl 5 (by decide) m_fl_RX11_41 rfl dX11_state_63 ?_
            refine lv_iload hx hb dX11_state_66 (lv_at hl 6 rfl) ?_
            refine z_Vi (bc := [wc2_93, wp2_103, z1_]) (br := [[zO10 xo t im mk rd po co tr wa wb_ fi cd], z0_, wd1_, wt, [(d0, .inr (2, [.int dd0_, .ref a1_88, .ref a2_89, .ref a3_90])), zAr T 0 a1_88 40 p10_, zAr T 0 a2_89 40 p20_, zAr T 0 a3_90 40 p30_]]) (As := [.int w_]) (rest := []) C G (c_Course_told l T co cpo l1 gw_94 u0_95 u1_96 u2_97 u3_98 u4_99 u5_100 u6_101 u7_102 wc2_93 g1_104 g2_105 g3_106 sa_107 wa_108 wp2_103 cr1_ inn1_ k11_ k21_ k31_ k41_ z1_ w_ h_109 h_110 hz1_ (by first | with_reducible assumption | with_reducible rfl | omega | assumption | rfl)) (kV_RX11_152 C.2.2.2.2 (Nat.le_of_ble_eq_true rfl) (Nat.le_of_ble_eq_true rfl)) [4, 5, 6] [4, 0, 0] rfl rfl (ci := 1) (qc := (RX1, TX1, 11)) rfl rfl (List.mem_flatten.mpr ⟨_, List.mem_of_getElem? (i := 0) rfl, (bCourse_mem h_109).choose_spec⟩) rfl rfl hl.1 dX11_state_68 (Nat.le_of_ble_eq_true rfl) (Nat.le_of_ble_eq_true rfl) (fun r_114 b1 H locs hw G => ?_)
            obtain rfl := hw
            have G : zS T A s.heap s [[zO10 xo t im mk rd po co tr wa wb_ fi cd], z0_, wd1_, wt, [(d0, .inr (2, [.int dd0_, .ref a1_88, .ref a2_89, .ref a3_90])), zAr T 0 a1_88 40 p10_, zAr T 0 a2_89 40 p20_, zAr T 0 a3_90 40 p30_], wc2_93, wp2_103, z1_] _ _ := G
            refine lv_goto (tgt := 76) hx hb dX11_state_71 (by decide) ?_
            have G := G.sub (bs' := [[zO10 xo t im mk rd po co tr wa wb_ fi cd], wt, z0_, z1_, [(d0, .inr (2, [.int dd0_, .ref a1_88, .ref a2_89, .ref a3_90])), zAr T 0 a1_88 40 p10_, zAr T 0 a2_89 40 p20_, zAr T 0 a3_90 40 p30_], wd1_, wc2_93, wp2_103]) [0, 3, 1, 7, 4, 2, 5, 6] rfl
            exact z_back hQz_ (z_iret C hr hlocks G (Nat.le_of_ble_eq_true rfl) (Nat.le_of_ble_eq_true rfl) dX11_state_76 ⟨l1, gw_94, u0_95, u1_96, u2_97, u3_98, u4_99, u5_100, u6_101, u7_102, wc2_93, l1, g1_104, g2_105, g3_106, sa_107, wa_108, wp2_103, rfl, h_109, h_110⟩)
        · have c_91n : ¬ n.toInt ≤ dd0_.toInt := fun q => c_91 ((fa_le _ _).mpr q)
          refine lv_bipush (v := (-2)) hx hb dX11_state_43 (by decide) ?_
          have hw_115 : bDay T d0 dd0_ p10_ p20_ p30_ [(d0, .inr (2, [.int dd0_, .ref a1_88, .ref a2_89, .ref a3_90])), zAr T 0 a1_88 40 p10_, zAr T 0 a2_89 40 p20_, zAr T 0 a3_90 40 p30_] := ⟨a1_88, a2_89, a3_90, rfl⟩
          have G : zS T A s.heap s [[zO10 xo t im mk rd po co tr wa wb_ fi cd], z0_, z1_, [(d0, .inr (2, [.int dd0_, .ref a1_88, .ref a2_89, .ref a3_90])), zAr T 0 a1_88 40 p10_, zAr T 0 a2_89 40 p20_, zAr T 0 a3_90 40 p30_], wd1_, wc, wcp, wt] _ _ := G.re rfl
          have G := G.sub (bs' := [[zO10 xo t im mk rd po co tr wa wb_ fi cd], wt, z0_, z1_, [(d0, .inr (2, [.int dd0_, .ref a1_88, .ref a2_89, .ref a3_90])), zAr T 0 a1_88 40 p10_, zAr T 0 a2_89 40 p20_, zAr T 0 a3_90 40 p30_], wd1_, wc, wcp]) [0, 7, 1, 2, 3, 4, 5, 6] rfl
          exact z_back hQz_ (z_iret C hr hlocks G (Nat.le_of_ble_eq_true rfl) (Nat.le_of_ble_eq_true rfl) dX11_state_45 ⟨cla, cfw, v0, v1, v2, v3, v4, v5, v6, v7, wc, cpl, cf1, cf2, cf3, cst, cwh, wcp, rfl, hc, hcp⟩)
    · have h_85 : i2.toInt = 1 := h_85
      have h_86 : 1 < (fk 1).toInt := h_86
      refine lv_astore (lv' := [(6, .ref d1), (5, .ref l1), (0, .ref xo), (1, .int i1), (2, .int i2), (3, .int n), (4, .int w_)]) hx hb dX11_state_18 hl (by decide) (zLvf_h rfl) (fun ls hl => ?_)
      refine lv_aload hx hb dX11_state_20 (lv_at hl 1 rfl) ?_
      refine lv_ifnull hx hb dX11_state_22 ?_
      refine lv_aload hx hb dX11_state_25 (lv_at hl 0 rfl) ?_
      refine lv_ifnull hx hb dX11_state_27 ?_
      refine lv_iload_n hx hb dX11_state_30 rfl (lv_at hl 5 rfl) ?_
      refine lv_if_lt (tgt := 43) hx hb dX11_state_31 (by decide) (fun c_116 => ?_) (fun c_116 => ?_)
      · have c_116n : n.toInt < (0 : Int) := (fa_lt _ _).mp c_116
        refine lv_bipush (v := (-2)) hx hb dX11_state_43 (by decide) ?_
        have G := G.sub (bs' := [[zO10 xo t im mk rd po co tr wa wb_ fi cd], wt, z0_, z1_, wd0_, wd1_, wc, wcp]) [0, 7, 1, 2, 3, 4, 5, 6] rfl
        exact z_back hQz_ (z_iret C hr hlocks G (Nat.le_of_ble_eq_true rfl) (Nat.le_of_ble_eq_true rfl) dX11_state_45 ⟨cla, cfw, v0, v1, v2, v3, v4, v5, v6, v7, wc, cpl, cf1, cf2, cf3, cst, cwh, wcp, rfl, hc, hcp⟩)
      · have c_116n : ¬ n.toInt < (0 : Int) := fun q => c_116 ((fa_lt _ _).mpr q)
        refine lv_iload_n hx hb dX11_state_34 rfl (lv_at hl 5 rfl) ?_
        refine lv_aload hx hb dX11_state_35 (lv_at hl 0 rfl) ?_
        refine zEx3 hd1_ ?_
        intro a1_117 a2_118 a3_119 hbs9
        clear hd1_
        subst hbs9
        have G : zS T A s.heap s [[zO10 xo t im mk rd po co tr wa wb_ fi cd], z0_, z1_, wd0_, [(d1, .inr (2, [.int dd1_, .ref a1_117, .ref a2_118, .ref a3_119]))], [zAr T 0 a1_117 40 p11_], [zAr T 0 a2_118 40 p21_], [zAr T 0 a3_119 40 p31_], wc, wcp, wt] _ _ := G.re rfl
        refine z_get C G clX2 4 rfl 0 (by decide) m_fl_RX11_149 rfl dX11_state_37 ?_
        refine lv_icmp_le (tgt := 46) hx hb dX11_state_40 (by decide) (fun c_120 => ?_) (fun c_120 => ?_)
        · have c_120n : n.toInt ≤ dd1_.toInt := (fa_le _ _).mp c_120
          refine lv_aload_n hx hb dX11_state_46 rfl (lv_at hl 2 rfl) ?_
          refine z_get C G clX11 0 rfl 5 (by decide) m_fl_RX11_41 rfl dX11_state_47 ?_
          refine lv_aload hx hb dX11_state_50 (lv_at hl 1 rfl) ?_
          refine lv_aload hx hb dX11_state_52 (lv_at hl 0 rfl) ?_
          refine lv_iload_n hx hb dX11_state_54 rfl (lv_at hl 5 rfl) ?_
          have hw_121 : bDay T d1 dd1_ p11_ p21_ p31_ [(d1, .inr (2, [.int dd1_, .ref a1_117, .ref a2_118, .ref a3_119])), zAr T 0 a1_117 40 p11_, zAr T 0 a2_118 40 p21_, zAr T 0 a3_119 40 p31_] := ⟨a1_117, a2_118, a3_119, rfl⟩
          have G : zS T A s.heap s [[zO10 xo t im mk rd po co tr wa wb_ fi cd], z0_, z1_, wd0_, [(d1, .inr (2, [.int dd1_, .ref a1_117, .ref a2_118, .ref a3_119])), zAr T 0 a1_117 40 p11_, zAr T 0 a2_118 40 p21_, zAr T 0 a3_119 40 p31_], wc, wcp, wt] _ _ := G.re rfl
          refine z_Vi (bc := [wc, wcp, z1_, [(d1, .inr (2, [.int dd1_, .ref a1_117, .ref a2_118, .ref a3_119])), zAr T 0 a1_117 40 p11_, zAr T 0 a2_118 40 p21_, zAr T 0 a3_119 40 p31_]]) (br := [[zO10 xo t im mk rd po co tr wa wb_ fi cd], z0_, wd0_, wt]) (As := [.ref l1, .ref d1, .int n]) (rest := []) C G (c_goThrough l T co cpo cla cfw v0 v1 v2 v3 v4 v5 v6 v7 wc cpl cf1 cf2 cf3 cst cwh wcp l1 cr1_ inn1_ k11_ k21_ k31_ k41_ z1_ d1 dd1_ p11_ p21_ p31_ ([(d1, .inr (2, [.int dd1_, .ref a1_117, .ref a2_118, .ref a3_119])), zAr T 0 a1_117 40 p11_, zAr T 0 a2_118 40 p21_, zAr T 0 a3_119 40 p31_]) n hc hcp hz1_ (by first | with_reducible assumption | with_reducible rfl | omega | assumption | rfl) hw_121) (kV_RX11_145 C.2.2.2.2 (Nat.le_of_ble_eq_true rfl) (Nat.le_of_ble_eq_true rfl)) [5, 6, 2, 4] [2, 1, 0, 0] rfl rfl (ci := 1) (qc := (RX1, TX1, 11)) rfl rfl (List.mem_flatten.mpr ⟨_, List.mem_of_getElem? (i := 0) rfl, (bCourse_mem hc).choose_spec⟩) rfl rfl hl.1 dX11_state_55 (Nat.le_of_ble_eq_true rfl) (Nat.le_of_ble_eq_true rfl) (fun r_141 b1 H locs hw G => ?_)
          refine zEx16 hw ?_
          intro wc2_122 gw_123 u0_124 u1_125 u2_126 u3_127 u4_128 u5_129 u6_130 u7_131 wp2_132 g1_133 g2_134 g3_135 sa_136 wa_137
          refine zCu4 ?_
          intro hbs9 h_138 h_139 h_140
          clear hw
          subst hbs9
          have G : zS T A s.heap s [[zO10 xo t im mk rd po co tr wa wb_ fi cd], z0_, wd0_, wt, wc2_122, wp2_132, z1_, [(d1, .inr (2, [.int dd1_, .ref a1_117, .ref a2_118, .ref a3_119])), zAr T 0 a1_117 40 p11_, zAr T 0 a2_118 40 p21_, zAr T 0 a3_119 40 p31_]] _ _ := G
          refine lv_iload_n hx hb dX11_state_58 rfl (lv_at hl 5 rfl) ?_
          refine lv_icmp_ne (tgt := 74) hx hb dX11_state_59 (by decide) (fun c_142 => ?_) (fun c_142 => ?_)
          · have c_142n : ¬ r_141.toInt = n.toInt := fun q => c_142 ((fa_eq _ _).mpr q)
            refine lv_bipush (v := (-2)) hx hb dX11_state_74 (by decide) ?_
            have G := G.sub (bs' := [[zO10 xo t im mk rd po co tr wa wb_ fi cd], wt, z0_, z1_, wd0_, [(d1, .inr (2, [.int dd1_, .ref a1_117, .ref a2_118, .ref a3_119])), zAr T 0 a1_117 40 p11_, zAr T 0 a2_118 40 p21_, zAr T 0 a3_119 40 p31_], wc2_122, wp2_132]) [0, 3, 1, 6, 2, 7, 4, 5] rfl
            exact z_back hQz_ (z_iret C hr hlocks G (Nat.le_of_ble_eq_true rfl) (Nat.le_of_ble_eq_true rfl) dX11_state_76 ⟨l1, gw_123, u0_124, u1_125, u2_126, u3_127, u4_128, u5_129, u6_130, u7_131, wc2_122, l1, g1_133, g2_134, g3_135, sa_136, wa_137, wp2_132, rfl, h_138, h_139⟩)
          · have c_142n : r_141.toInt = n.toInt := (fa_eq _ _).mp c_142
            refine lv_aload_n hx hb dX11_state_62 rfl (lv_at hl 2 rfl) ?_
            refine z_get C G clX11 0 rfl 5 (by decide) m_fl_RX11_41 rfl dX11_state_63 ?_
            refine lv_iload hx hb dX11_state_66 (lv_at hl 6 rfl) ?_
            refine z_Vi (bc := [wc2_122, wp2_132, z1_]) (br := [[zO10 xo t im mk rd po co tr wa wb_ fi cd], z0_, wd0_, wt, [(d1, .inr (2, [.int dd1_, .ref a1_117, .ref a2_118, .ref a3_119])), zAr T 0 a1_117 40 p11_, zAr T 0 a2_118 40 p21_, zAr T 0 a3_119 40 p31_]]) (As := [.int w_]) (rest := []) C G (c_Course_told l T co cpo l1 gw_123 u0_124 u1_125 u2_126 u3_127 u4_128 u5_129 u6_130 u7_131 wc2_122 g1_133 g2_134 g3_135 sa_136 wa_137 wp2_132 cr1_ inn1_ k11_ k21_ k31_ k41_ z1_ w_ h_138 h_139 hz1_ (by first | with_reducible assumption | with_reducible rfl | omega | assumption | rfl)) (kV_RX11_152 C.2.2.2.2 (Nat.le_of_ble_eq_true rfl) (Nat.le_of_ble_eq_true rfl)) [4, 5, 6] [4, 0, 0] rfl rfl (ci := 1) (qc := (RX1, TX1, 11)) rfl rfl (List.mem_flatten.mpr ⟨_, List.mem_of_getElem? (i := 0) rfl, (bCourse_mem h_138).choose_spec⟩) rfl rfl hl.1 dX11_state_68 (Nat.le_of_ble_eq_true rfl) (Nat.le_of_ble_eq_true rfl) (fun r_143 b1 H locs hw G => ?_)
            obtain rfl := hw
            have G : zS T A s.heap s [[zO10 xo t im mk rd po co tr wa wb_ fi cd], z0_, wd0_, wt, [(d1, .inr (2, [.int dd1_, .ref a1_117, .ref a2_118, .ref a3_119])), zAr T 0 a1_117 40 p11_, zAr T 0 a2_118 40 p21_, zAr T 0 a3_119 40 p31_], wc2_122, wp2_132, z1_] _ _ := G
            refine lv_goto (tgt := 76) hx hb dX11_state_71 (by decide) ?_
            have G := G.sub (bs' := [[zO10 xo t im mk rd po co tr wa wb_ fi cd], wt, z0_, z1_, wd0_, [(d1, .inr (2, [.int dd1_, .ref a1_117, .ref a2_118, .ref a3_119])), zAr T 0 a1_117 40 p11_, zAr T 0 a2_118 40 p21_, zAr T 0 a3_119 40 p31_], wc2_122, wp2_132]) [0, 3, 1, 7, 2, 4, 5, 6] rfl
            exact z_back hQz_ (z_iret C hr hlocks G (Nat.le_of_ble_eq_true rfl) (Nat.le_of_ble_eq_true rfl) dX11_state_76 ⟨l1, gw_123, u0_124, u1_125, u2_126, u3_127, u4_128, u5_129, u6_130, u7_131, wc2_122, l1, g1_133, g2_134, g3_135, sa_136, wa_137, wp2_132, rfl, h_138, h_139⟩)
        · have c_120n : ¬ n.toInt ≤ dd1_.toInt := fun q => c_120 ((fa_le _ _).mpr q)
          refine lv_bipush (v := (-2)) hx hb dX11_state_43 (by decide) ?_
          have hw_144 : bDay T d1 dd1_ p11_ p21_ p31_ [(d1, .inr (2, [.int dd1_, .ref a1_117, .ref a2_118, .ref a3_119])), zAr T 0 a1_117 40 p11_, zAr T 0 a2_118 40 p21_, zAr T 0 a3_119 40 p31_] := ⟨a1_117, a2_118, a3_119, rfl⟩
          have G : zS T A s.heap s [[zO10 xo t im mk rd po co tr wa wb_ fi cd], z0_, z1_, wd0_, [(d1, .inr (2, [.int dd1_, .ref a1_117, .ref a2_118, .ref a3_119])), zAr T 0 a1_117 40 p11_, zAr T 0 a2_118 40 p21_, zAr T 0 a3_119 40 p31_], wc, wcp, wt] _ _ := G.re rfl
          have G := G.sub (bs' := [[zO10 xo t im mk rd po co tr wa wb_ fi cd], wt, z0_, z1_, wd0_, [(d1, .inr (2, [.int dd1_, .ref a1_117, .ref a2_118, .ref a3_119])), zAr T 0 a1_117 40 p11_, zAr T 0 a2_118 40 p21_, zAr T 0 a3_119 40 p31_], wc, wcp]) [0, 7, 1, 2, 3, 4, 5, 6] rfl
          exact z_back hQz_ (z_iret C hr hlocks G (Nat.le_of_ble_eq_true rfl) (Nat.le_of_ble_eq_true rfl) dX11_state_45 ⟨cla, cfw, v0, v1, v2, v3, v4, v5, v6, v7, wc, cpl, cf1, cf2, cf3, cst, cwh, wcp, rfl, hc, hcp⟩)
set_option maxHeartbeats 4000000 in
set_option maxRecDepth 100000 in
/-- c_after -/
theorem c_after (l : Launch) (T : zTy) (xo : Nat) (t : Nat) (im : Nat) (mk : Nat) (rd : Nat) (po : Nat) (co : Nat) (tr : Nat) (wa : Nat) (wb_ : Nat) (fi : Nat) (cd : Nat) (l0 : Nat) (l1 : Nat) (d0 : Nat) (d1 : Nat) (g0 : Nat) (g1 : Nat) (ln : Int32) (fl : Int32) (pl : Int32) (ft : Nat → Int32) (fk : Nat → Int32) (wt : va_W) (cr0_ : Int32) (inn0_ : Int32) (k10_ : Nat → Int32) (k20_ : Nat → Int32) (k30_ : Nat → Int32) (k40_ : Nat → Int32) (z0_ : va_W) (cr1_ : Int32) (inn1_ : Int32) (k11_ : Nat → Int32) (k21_ : Nat → Int32) (k31_ : Nat → Int32) (k41_ : Nat → Int32) (z1_ : va_W) (dd0_ : Int32) (p10_ : Nat → Int32) (p20_ : Nat → Int32) (p30_ : Nat → Int32) (wd0_ : va_W) (dd1_ : Int32) (p11_ : Nat → Int32) (p21_ : Nat → Int32) (p31_ : Nat → Int32) (wd1_ : va_W) (cpo : Nat) (cla : Nat) (cfw : Nat → Int32) (v0 : Int32) (v1 : Int32) (v2 : Int32) (v3 : Int32) (v4 : Int32) (v5 : Int32) (v6 : Int32) (v7 : Int32) (wc : va_W) (cpl : Nat) (cf1 : Nat → Int32) (cf2 : Nat → Int32) (cf3 : Nat → Int32) (cst : Int32) (cwh : Int32) (wcp : va_W) (i1 : Int32) (i2 : Int32) (w_ : Int32) (ht : bTold T t l0 l1 d0 d1 g0 g1 ln fl pl ft fk wt) (hK : zKT fk) (hz0_ : bLand T l0 cr0_ inn0_ k10_ k20_ k30_ k40_ z0_) (hI0_ : zLI cr0_ k10_ k30_) (hz1_ : bLand T l1 cr1_ inn1_ k11_ k21_ k31_ k41_ z1_) (hI1_ : zLI cr1_ k11_ k31_) (hd0_ : bDay T d0 dd0_ p10_ p20_ p30_ wd0_) (hd1_ : bDay T d1 dd1_ p11_ p21_ p31_ wd1_) (hc : bCourse T co cpo cla cfw v0 v1 v2 v3 v4 v5 v6 v7 wc) (hcp : bPosts T cpo cpl cf1 cf2 cf3 cst cwh wcp) : zMi l T yX11_after cX11_after 6 (some .int) 8 0 0 [.ref xo, .int i1, .int i2, .int w_] [[zO10 xo t im mk rd po co tr wa wb_ fi cd], wt, z0_, z1_, wd0_, wd1_, wc, wcp] (fun (r : Int32) bs => ∃ (cla_2 : Nat) (cfw_2 : Nat → Int32) (v0_2 : Int32) (v1_2 : Int32) (v2_2 : Int32) (v3_2 : Int32) (v4_2 : Int32) (v5_2 : Int32) (v6_2 : Int32) (v7_2 : Int32) (wc_2 : va_W) (cpl_2 : Nat) (cf1_2 : Nat → Int32) (cf2_2 : Nat → Int32) (cf3_2 : Nat → Int32) (cst_2 : Int32) (cwh_2 : Int32) (wcp_2 : va_W), bs = [[zO10 xo t im mk rd po co tr wa wb_ fi cd], wt, z0_, z1_, wd0_, wd1_, wc_2, wcp_2] ∧ bCourse T co cpo cla_2 cfw_2 v0_2 v1_2 v2_2 v3_2 v4_2 v5_2 v6_2 v7_2 wc_2 ∧ bPosts T cpo cpl_2 cf1_2 cf2_2 cf3_2 cst_2 cwh_2 wcp_2) := by
  refine zMi_of (own := RX11) (by decide) rfl (Nat.le_of_ble_eq_true rfl) ?_
  intro p e s m args below meth c A ls C hr hlocks hnm hAe G hl
  refine zHide (fun Qz_ hQz_ => ?_)
  have hx := C.1
  have hb := C.2.1
  have hl : lv_has ls 6 [(0, .ref xo), (1, .int i1), (2, .int i2), (3, .int w_)] := hl
  refine lv_aload_n hx hb dX11_after_0 rfl (lv_at hl 0 rfl) ?_
  refine z_get C G clX11 0 rfl 0 (by decide) m_fl_RX11_10 rfl dX11_after_1 ?_
  refine lv_iload_n hx hb dX11_after_4 rfl (lv_at hl 1 rfl) ?_
  refine z_Vq (bc := [wt]) (br := [[zO10 xo t im mk rd po co tr wa wb_ fi cd], z0_, z1_, wd0_, wd1_, wc, wcp]) (As := [.int i1]) (rest := []) C G (c_landAt l T t l0 l1 d0 d1 g0 g1 ln fl pl ft fk wt i1 ht) (kV_RX11_121 C.2.2.2.2 (Nat.le_of_ble_eq_true rfl) (Nat.le_of_ble_eq_true rfl)) [1] [1] rfl rfl (ci := 8) (qc := (RX9, TX9, 8)) rfl rfl (List.mem_flatten.mpr ⟨_, List.mem_of_getElem? (i := 0) rfl, (bTold_mem ht).choose_spec⟩) rfl rfl hl.1 dX11_after_5 (Nat.le_of_ble_eq_true rfl) (Nat.le_of_ble_eq_true rfl) (fun r_2 b1 H locs hw G => ?_)
  refine zAn2 hw ?_
  intro hbs9 hc_1
  clear hw
  subst hbs9
  have G : zS T A s.heap s [[zO10 xo t im mk rd po co tr wa wb_ fi cd], z0_, z1_, wd0_, wd1_, wc, wcp, wt] _ _ := G
  rcases hc_1 with ⟨rfl, h_3⟩ | ⟨rfl, h_4, h_5⟩ | ⟨rfl, h_6, h_7⟩
  · have h_3 : (i1.toInt < 0 ∨ (fk 0).toInt ≤ i1.toInt ∨ 2 ≤ i1.toInt) := h_3
    refine lv_astoreN (lv' := [(4, .null), (0, .ref xo), (1, .int i1), (2, .int i2), (3, .int w_)]) hx hb dX11_after_8 hl (by decide) (zLvf_h rfl) (fun ls hl => ?_)
    refine lv_aload_n hx hb dX11_after_10 rfl (lv_at hl 1 rfl) ?_
    refine z_get C G clX11 0 rfl 0 (by decide) m_fl_RX11_10 rfl dX11_after_11 ?_
    refine lv_iload_n hx hb dX11_after_14 rfl (lv_at hl 3 rfl) ?_
    refine z_Vq (bc := [wt]) (br := [[zO10 xo t im mk rd po co tr wa wb_ fi cd], z0_, z1_, wd0_, wd1_, wc, wcp]) (As := [.int i2]) (rest := []) C G (c_dayAt l T t l0 l1 d0 d1 g0 g1 ln fl pl ft fk wt i2 ht) (kV_RX11_130 C.2.2.2.2 (Nat.le_of_ble_eq_true rfl) (Nat.le_of_ble_eq_true rfl)) [7] [7] rfl rfl (ci := 8) (qc := (RX9, TX9, 8)) rfl rfl (List.mem_flatten.mpr ⟨_, List.mem_of_getElem? (i := 0) rfl, (bTold_mem ht).choose_spec⟩) rfl rfl hl.1 dX11_after_15 (Nat.le_of_ble_eq_true rfl) (Nat.le_of_ble_eq_true rfl) (fun r_9 b1 H locs hw G => ?_)
    refine zAn2 hw ?_
    intro hbs9 hc_8
    clear hw
    subst hbs9
    have G : zS T A s.heap s [[zO10 xo t im mk rd po co tr wa wb_ fi cd], z0_, z1_, wd0_, wd1_, wc, wcp, wt] _ _ := G
    rcases hc_8 with ⟨rfl, h_10⟩ | ⟨rfl, h_11, h_12⟩ | ⟨rfl, h_13, h_14⟩
    · have h_10 : (i2.toInt < 0 ∨ (fk 1).toInt ≤ i2.toInt ∨ 2 ≤ i2.toInt) := h_10
      refine lv_astoreN (lv' := [(5, .null), (4, .null), (0, .ref xo), (1, .int i1), (2, .int i2), (3, .int w_)]) hx hb dX11_after_18 hl (by decide) (zLvf_h rfl) (fun ls hl => ?_)
      refine lv_aloadN hx hb dX11_after_20 (lv_at hl 1 rfl) ?_
      refine lv_ifnullN (tgt := 30) hx hb dX11_after_22 (by decide) ?_
      refine lv_bipush (v := (-2)) hx hb dX11_after_30 (by decide) ?_
      have G := G.sub (bs' := [[zO10 xo t im mk rd po co tr wa wb_ fi cd], wt, z0_, z1_, wd0_, wd1_, wc, wcp]) [0, 7, 1, 2, 3, 4, 5, 6] rfl
      exact z_back hQz_ (z_iret C hr hlocks G (Nat.le_of_ble_eq_true rfl) (Nat.le_of_ble_eq_true rfl) dX11_after_32 ⟨cla, cfw, v0, v1, v2, v3, v4, v5, v6, v7, wc, cpl, cf1, cf2, cf3, cst, cwh, wcp, rfl, hc, hcp⟩)
    · have h_11 : i2.toInt = 0 := h_11
      have h_12 : 0 < (fk 1).toInt := h_12
      refine lv_astore (lv' := [(5, .ref d0), (4, .null), (0, .ref xo), (1, .int i1), (2, .int i2), (3, .int w_)]) hx hb dX11_after_18 hl (by decide) (zLvf_h rfl) (fun ls hl => ?_)
      refine lv_aloadN hx hb dX11_after_20 (lv_at hl 1 rfl) ?_
      refine lv_ifnullN (tgt := 30) hx hb dX11_after_22 (by decide) ?_
      refine lv_bipush (v := (-2)) hx hb dX11_after_30 (by decide) ?_
      have G := G.sub (bs' := [[zO10 xo t im mk rd po co tr wa wb_ fi cd], wt, z0_, z1_, wd0_, wd1_, wc, wcp]) [0, 7, 1, 2, 3, 4, 5, 6] rfl
      exact z_back hQz_ (z_iret C hr hlocks G (Nat.le_of_ble_eq_true rfl) (Nat.le_of_ble_eq_true rfl) dX11_after_32 ⟨cla, cfw, v0, v1, v2, v3, v4, v5, v6, v7, wc, cpl, cf1, cf2, cf3, cst, cwh, wcp, rfl, hc, hcp⟩)
    · have h_13 : i2.toInt = 1 := h_13
      have h_14 : 1 < (fk 1).toInt := h_14
      refine lv_astore (lv' := [(5, .ref d1), (4, .null), (0, .ref xo), (1, .int i1), (2, .int i2), (3, .int w_)]) hx hb dX11_after_18 hl (by decide) (zLvf_h rfl) (fun ls hl => ?_)
      refine lv_aloadN hx hb dX11_after_20 (lv_at hl 1 rfl) ?_
      refine lv_ifnullN (tgt := 30) hx hb dX11_after_22 (by decide) ?_
      refine lv_bipush (v := (-2)) hx hb dX11_after_30 (by decide) ?_
      have G := G.sub (bs' := [[zO10 xo t im mk rd po co tr wa wb_ fi cd], wt, z0_, z1_, wd0_, wd1_, wc, wcp]) [0, 7, 1, 2, 3, 4, 5, 6] rfl
      exact z_back hQz_ (z_iret C hr hlocks G (Nat.le_of_ble_eq_true rfl) (Nat.le_of_ble_eq_true rfl) dX11_after_32 ⟨cla, cfw, v0, v1, v2, v3, v4, v5, v6, v7, wc, cpl, cf1, cf2, cf3, cst, cwh, wcp, rfl, hc, hcp⟩)
  · have h_4 : i1.toInt = 0 := h_4
    have h_5 : 0 < (fk 0).toInt := h_5
    refine lv_astore (lv' := [(4, .ref l0), (0, .ref xo), (1, .int i1), (2, .int i2), (3, .int w_)]) hx hb dX11_after_8 hl (by decide) (zLvf_h rfl) (fun ls hl => ?_)
    refine lv_aload_n hx hb dX11_after_10 rfl (lv_at hl 1 rfl) ?_
    refine z_get C G clX11 0 rfl 0 (by decide) m_fl_RX11_10 rfl dX11_after_11 ?_
    refine lv_iload_n hx hb dX11_after_14 rfl (lv_at hl 3 rfl) ?_
    refine z_Vq (bc := [wt]) (br := [[zO10 xo t im mk rd po co tr wa wb_ fi cd], z0_, z1_, wd0_, wd1_, wc, wcp]) (As := [.int i2]) (rest := []) C G (c_dayAt l T t l0 l1 d0 d1 g0 g1 ln fl pl ft fk wt i2 ht) (kV_RX11_130 C.2.2.2.2 (Nat.le_of_ble_eq_true rfl) (Nat.le_of_ble_eq_true rfl)) [7] [7] rfl rfl (ci := 8) (qc := (RX9, TX9, 8)) rfl rfl (List.mem_flatten.mpr ⟨_, List.mem_of_getElem? (i := 0) rfl, (bTold_mem ht).choose_spec⟩) rfl rfl hl.1 dX11_after_15 (Nat.le_of_ble_eq_true rfl) (Nat.le_of_ble_eq_true rfl) (fun r_16 b1 H locs hw G => ?_)
    refine zAn2 hw ?_
    intro hbs9 hc_15
    clear hw
    subst hbs9
    have G : zS T A s.heap s [[zO10 xo t im mk rd po co tr wa wb_ fi cd], z0_, z1_, wd0_, wd1_, wc, wcp, wt] _ _ := G
    rcases hc_15 with ⟨rfl, h_17⟩ | ⟨rfl, h_18, h_19⟩ | ⟨rfl, h_20, h_21⟩
    · have h_17 : (i2.toInt < 0 ∨ (fk 1).toInt ≤ i2.toInt ∨ 2 ≤ i2.toInt) := h_17
      refine lv_astoreN (lv' := [(5, .null), (4, .ref l0), (0, .ref xo), (1, .int i1), (2, .int i2), (3, .int w_)]) hx hb dX11_after_18 hl (by decide) (zLvf_h rfl) (fun ls hl => ?_)
      refine lv_aload hx hb dX11_after_20 (lv_at hl 1 rfl) ?_
      refine lv_ifnull hx hb dX11_after_22 ?_
      refine lv_aloadN hx hb dX11_after_25 (lv_at hl 0 rfl) ?_
      refine lv_ifnonnullN hx hb dX11_after_27 ?_
      refine lv_bipush (v := (-2)) hx hb dX11_after_30 (by decide) ?_
      have G := G.sub (bs' := [[zO10 xo t im mk rd po co tr wa wb_ fi cd], wt, z0_, z1_, wd0_, wd1_, wc, wcp]) [0, 7, 1, 2, 3, 4, 5, 6] rfl
      exact z_back hQz_ (z_iret C hr hlocks G (Nat.le_of_ble_eq_true rfl) (Nat.le_of_ble_eq_true rfl) dX11_after_32 ⟨cla, cfw, v0, v1, v2, v3, v4, v5, v6, v7, wc, cpl, cf1, cf2, cf3, cst, cwh, wcp, rfl, hc, hcp⟩)
    · have h_18 : i2.toInt = 0 := h_18
      have h_19 : 0 < (fk 1).toInt := h_19
      refine lv_astore (lv' := [(5, .ref d0), (4, .ref l0), (0, .ref xo), (1, .int i1), (2, .int i2), (3, .int w_)]) hx hb dX11_after_18 hl (by decide) (zLvf_h rfl) (fun ls hl => ?_)
      refine lv_aload hx hb dX11_after_20 (lv_at hl 1 rfl) ?_
      refine lv_ifnull hx hb dX11_after_22 ?_
      refine lv_aload hx hb dX11_after_25 (lv_at hl 0 rfl) ?_
      refine lv_ifnonnull (tgt := 33) hx hb dX11_after_27 (by decide) ?_
      refine lv_aload_n hx hb dX11_after_33 rfl (lv_at hl 2 rfl) ?_
      refine z_get C G clX11 0 rfl 5 (by decide) m_fl_RX11_41 rfl dX11_after_34 ?_
      refine lv_aload hx hb dX11_after_37 (lv_at hl 1 rfl) ?_
      refine lv_aload hx hb dX11_after_39 (lv_at hl 0 rfl) ?_
      refine lv_bipush (v := 40) hx hb dX11_after_41 (by decide) ?_
      refine z_Vi (bc := [wc, wcp, z0_, wd0_]) (br := [[zO10 xo t im mk rd po co tr wa wb_ fi cd], z1_, wd1_, wt]) (As := [.ref l0, .ref d0, .int 40]) (rest := []) C G (c_goThrough l T co cpo cla cfw v0 v1 v2 v3 v4 v5 v6 v7 wc cpl cf1 cf2 cf3 cst cwh wcp l0 cr0_ inn0_ k10_ k20_ k30_ k40_ z0_ d0 dd0_ p10_ p20_ p30_ wd0_ 40 hc hcp hz0_ (by first | with_reducible assumption | with_reducible rfl | omega | assumption | rfl) hd0_) (kV_RX11_145 C.2.2.2.2 (Nat.le_of_ble_eq_true rfl) (Nat.le_of_ble_eq_true rfl)) [5, 6, 1, 3] [1, 1, 1, 0] rfl rfl (ci := 1) (qc := (RX1, TX1, 11)) rfl rfl (List.mem_flatten.mpr ⟨_, List.mem_of_getElem? (i := 0) rfl, (bCourse_mem hc).choose_spec⟩) rfl rfl hl.1 dX11_after_43 (Nat.le_of_ble_eq_true rfl) (Nat.le_of_ble_eq_true rfl) (fun r_41 b1 H locs hw G => ?_)
      refine zEx16 hw ?_
      intro wc2_22 gw_23 u0_24 u1_25 u2_26 u3_27 u4_28 u5_29 u6_30 u7_31 wp2_32 g1_33 g2_34 g3_35 sa_36 wa_37
      refine zCu4 ?_
      intro hbs9 h_38 h_39 h_40
      clear hw
      subst hbs9
      have G : zS T A s.heap s [[zO10 xo t im mk rd po co tr wa wb_ fi cd], z1_, wd1_, wt, wc2_22, wp2_32, z0_, wd0_] _ _ := G
      refine lv_pop hx hb dX11_after_46 rfl ?_
      refine lv_aload_n hx hb dX11_after_47 rfl (lv_at hl 2 rfl) ?_
      refine z_get C G clX11 0 rfl 5 (by decide) m_fl_RX11_41 rfl dX11_after_48 ?_
      refine lv_iload_n hx hb dX11_after_51 rfl (lv_at hl 5 rfl) ?_
      refine z_Vi (bc := [wc2_22, wp2_32, z0_]) (br := [[zO10 xo t im mk rd po co tr wa wb_ fi cd], z1_, wd1_, wt, wd0_]) (As := [.int w_]) (rest := []) C G (c_toldAfter l T co cpo l0 gw_23 u0_24 u1_25 u2_26 u3_27 u4_28 u5_29 u6_30 u7_31 wc2_22 g1_33 g2_34 g3_35 sa_36 wa_37 wp2_32 cr0_ inn0_ k10_ k20_ k30_ k40_ z0_ w_ h_38 h_39 hz0_ (by first | with_reducible assumption | with_reducible rfl | omega | assumption | rfl)) (kV_RX11_153 C.2.2.2.2 (Nat.le_of_ble_eq_true rfl) (Nat.le_of_ble_eq_true rfl)) [4, 5, 6] [4, 0, 0] rfl rfl (ci := 1) (qc := (RX1, TX1, 11)) rfl rfl (List.mem_flatten.mpr ⟨_, List.mem_of_getElem? (i := 0) rfl, (bCourse_mem h_38).choose_spec⟩) rfl rfl hl.1 dX11_after_52 (Nat.le_of_ble_eq_true rfl) (Nat.le_of_ble_eq_true rfl) (fun r_42 b1 H locs hw G => ?_)
      obtain rfl := hw
      have G : zS T A s.heap s [[zO10 xo t im mk rd po co tr wa wb_ fi cd], z1_, wd1_, wt, wd0_, wc2_22, wp2_32, z0_] _ _ := G
      have G := G.sub (bs' := [[zO10 xo t im mk rd po co tr wa wb_ fi cd], wt, z0_, z1_, wd0_, wd1_, wc2_22, wp2_32]) [0, 3, 7, 1, 4, 2, 5, 6] rfl
      exact z_back hQz_ (z_iret C hr hlocks G (Nat.le_of_ble_eq_true rfl) (Nat.le_of_ble_eq_true rfl) dX11_after_55 ⟨l0, gw_23, u0_24, u1_25, u2_26, u3_27, u4_28, u5_29, u6_30, u7_31, wc2_22, l0, g1_33, g2_34, g3_35, sa_36, wa_37, wp2_32, rfl, h_38, h_39⟩)
    · have h_20 : i2.toInt = 1 := h_20
      have h_21 : 1 < (fk 1).toInt := h_21
      refine lv_astore (lv' := [(5, .ref d1), (4, .ref l0), (0, .ref xo), (1, .int i1), (2, .int i2), (3, .int w_)]) hx hb dX11_after_18 hl (by decide) (zLvf_h rfl) (fun ls hl => ?_)
      refine lv_aload hx hb dX11_after_20 (lv_at hl 1 rfl) ?_
      refine lv_ifnull hx hb dX11_after_22 ?_
      refine lv_aload hx hb dX11_after_25 (lv_at hl 0 rfl) ?_
      refine lv_ifnonnull (tgt := 33) hx hb dX11_after_27 (by decide) ?_
      refine lv_aload_n hx hb dX11_after_33 rfl (lv_at hl 2 rfl) ?_
      refine z_get C G clX11 0 rfl 5 (by decide) m_fl_RX11_41 rfl dX11_after_34 ?_
      refine lv_aload hx hb dX11_after_37 (lv_at hl 1 rfl) ?_
      refine lv_aload hx hb dX11_after_39 (lv_at hl 0 rfl) ?_
      refine lv_bipush (v := 40) hx hb dX11_after_41 (by decide) ?_
      refine z_Vi (bc := [wc, wcp, z0_, wd1_]) (br := [[zO10 xo t im mk rd po co tr wa wb_ fi cd], z1_, wd0_, wt]) (As := [.ref l0, .ref d1, .int 40]) (rest := []) C G (c_goThrough l T co cpo cla cfw v0 v1 v2 v3 v4 v5 v6 v7 wc cpl cf1 cf2 cf3 cst cwh wcp l0 cr0_ inn0_ k10_ k20_ k30_ k40_ z0_ d1 dd1_ p11_ p21_ p31_ wd1_ 40 hc hcp hz0_ (by first | with_reducible assumption | with_reducible rfl | omega | assumption | rfl) hd1_) (kV_RX11_145 C.2.2.2.2 (Nat.le_of_ble_eq_true rfl) (Nat.le_of_ble_eq_true rfl)) [5, 6, 1, 4] [1, 2, 0, 0] rfl rfl (ci := 1) (qc := (RX1, TX1, 11)) rfl rfl (List.mem_flatten.mpr ⟨_, List.mem_of_getElem? (i := 0) rfl, (bCourse_mem hc).choose_spec⟩) rfl rfl hl.1 dX11_after_43 (Nat.le_of_ble_eq_true rfl) (Nat.le_of_ble_eq_true rfl) (fun r_62 b1 H locs hw G => ?_)
      refine zEx16 hw ?_
      intro wc2_43 gw_44 u0_45 u1_46 u2_47 u3_48 u4_49 u5_50 u6_51 u7_52 wp2_53 g1_54 g2_55 g3_56 sa_57 wa_58
      refine zCu4 ?_
      intro hbs9 h_59 h_60 h_61
      clear hw
      subst hbs9
      have G : zS T A s.heap s [[zO10 xo t im mk rd po co tr wa wb_ fi cd], z1_, wd0_, wt, wc2_43, wp2_53, z0_, wd1_] _ _ := G
      refine lv_pop hx hb dX11_after_46 rfl ?_
      refine lv_aload_n hx hb dX11_after_47 rfl (lv_at hl 2 rfl) ?_
      refine z_get C G clX11 0 rfl 5 (by decide) m_fl_RX11_41 rfl dX11_after_48 ?_
      refine lv_iload_n hx hb dX11_after_51 rfl (lv_at hl 5 rfl) ?_
      refine z_Vi (bc := [wc2_43, wp2_53, z0_]) (br := [[zO10 xo t im mk rd po co tr wa wb_ fi cd], z1_, wd0_, wt, wd1_]) (As := [.int w_]) (rest := []) C G (c_toldAfter l T co cpo l0 gw_44 u0_45 u1_46 u2_47 u3_48 u4_49 u5_50 u6_51 u7_52 wc2_43 g1_54 g2_55 g3_56 sa_57 wa_58 wp2_53 cr0_ inn0_ k10_ k20_ k30_ k40_ z0_ w_ h_59 h_60 hz0_ (by first | with_reducible assumption | with_reducible rfl | omega | assumption | rfl)) (kV_RX11_153 C.2.2.2.2 (Nat.le_of_ble_eq_true rfl) (Nat.le_of_ble_eq_true rfl)) [4, 5, 6] [4, 0, 0] rfl rfl (ci := 1) (qc := (RX1, TX1, 11)) rfl rfl (List.mem_flatten.mpr ⟨_, List.mem_of_getElem? (i := 0) rfl, (bCourse_mem h_59).choose_spec⟩) rfl rfl hl.1 dX11_after_52 (Nat.le_of_ble_eq_true rfl) (Nat.le_of_ble_eq_true rfl) (fun r_63 b1 H locs hw G => ?_)
      obtain rfl := hw
      have G : zS T A s.heap s [[zO10 xo t im mk rd po co tr wa wb_ fi cd], z1_, wd0_, wt, wd1_, wc2_43, wp2_53, z0_] _ _ := G
      have G := G.sub (bs' := [[zO10 xo t im mk rd po co tr wa wb_ fi cd], wt, z0_, z1_, wd0_, wd1_, wc2_43, wp2_53]) [0, 3, 7, 1, 2, 4, 5, 6] rfl
      exact z_back hQz_ (z_iret C hr hlocks G (Nat.le_of_ble_eq_true rfl) (Nat.le_of_ble_eq_true rfl) dX11_after_55 ⟨l0, gw_44, u0_45, u1_46, u2_47, u3_48, u4_49, u5_50, u6_51, u7_52, wc2_43, l0, g1_54, g2_55, g3_56, sa_57, wa_58, wp2_53, rfl, h_59, h_60⟩)
  · have h_6 : i1.toInt = 1 := h_6
    have h_7 : 1 < (fk 0).toInt := h_7
    refine lv_astore (lv' := [(4, .ref l1), (0, .ref xo), (1, .int i1), (2, .int i2), (3, .int w_)]) hx hb dX11_after_8 hl (by decide) (zLvf_h rfl) (fun ls hl => ?_)
    refine lv_aload_n hx hb dX11_after_10 rfl (lv_at hl 1 rfl) ?_
    refine z_get C G clX11 0 rfl 0 (by decide) m_fl_RX11_10 rfl dX11_after_11 ?_
    refine lv_iload_n hx hb dX11_after_14 rfl (lv_at hl 3 rfl) ?_
    refine z_Vq (bc := [wt]) (br := [[zO10 xo t im mk rd po co tr wa wb_ fi cd], z0_, z1_, wd0_, wd1_, wc, wcp]) (As := [.int i2]) (rest := []) C G (c_dayAt l T t l0 l1 d0 d1 g0 g1 ln fl pl ft fk wt i2 ht) (kV_RX11_130 C.2.2.2.2 (Nat.le_of_ble_eq_true rfl) (Nat.le_of_ble_eq_true rfl)) [7] [7] rfl rfl (ci := 8) (qc := (RX9, TX9, 8)) rfl rfl (List.mem_flatten.mpr ⟨_, List.mem_of_getElem? (i := 0) rfl, (bTold_mem ht).choose_spec⟩) rfl rfl hl.1 dX11_after_15 (Nat.le_of_ble_eq_true rfl) (Nat.le_of_ble_eq_true rfl) (fun r_65 b1 H locs hw G => ?_)
    refine zAn2 hw ?_
    intro hbs9 hc_64
    clear hw
    subst hbs9
    have G : zS T A s.heap s [[zO10 xo t im mk rd po co tr wa wb_ fi cd], z0_, z1_, wd0_, wd1_, wc, wcp, wt] _ _ := G
    rcases hc_64 with ⟨rfl, h_66⟩ | ⟨rfl, h_67, h_68⟩ | ⟨rfl, h_69, h_70⟩
    · have h_66 : (i2.toInt < 0 ∨ (fk 1).toInt ≤ i2.toInt ∨ 2 ≤ i2.toInt) := h_66
      refine lv_astoreN (lv' := [(5, .null), (4, .ref l1), (0, .ref xo), (1, .int i1), (2, .int i2), (3, .int w_)]) hx hb dX11_after_18 hl (by decide) (zLvf_h rfl) (fun ls hl => ?_)
      refine lv_aload hx hb dX11_after_20 (lv_at hl 1 rfl) ?_
      refine lv_ifnull hx hb dX11_after_22 ?_
      refine lv_aloadN hx hb dX11_after_25 (lv_at hl 0 rfl) ?_
      refine lv_ifnonnullN hx hb dX11_after_27 ?_
      refine lv_bipush (v := (-2)) hx hb dX11_after_30 (by decide) ?_
      have G := G.sub (bs' := [[zO10 xo t im mk rd po co tr wa wb_ fi cd], wt, z0_, z1_, wd0_, wd1_, wc, wcp]) [0, 7, 1, 2, 3, 4, 5, 6] rfl
      exact z_back hQz_ (z_iret C hr hlocks G (Nat.le_of_ble_eq_true rfl) (Nat.le_of_ble_eq_true rfl) dX11_after_32 ⟨cla, cfw, v0, v1, v2, v3, v4, v5, v6, v7, wc, cpl, cf1, cf2, cf3, cst, cwh, wcp, rfl, hc, hcp⟩)
    · have h_67 : i2.toInt = 0 := h_67
      have h_68 : 0 < (fk 1).toInt := h_68
      refine lv_astore (lv' := [(5, .ref d0), (4, .ref l1), (0, .ref xo), (1, .int i1), (2, .int i2), (3, .int w_)]) hx hb dX11_after_18 hl (by decide) (zLvf_h rfl) (fun ls hl => ?_)
      refine lv_aload hx hb dX11_after_20 (lv_at hl 1 rfl) ?_
      refine lv_ifnull hx hb dX11_after_22 ?_
      refine lv_aload hx hb dX11_after_25 (lv_at hl 0 rfl) ?_
      refine lv_ifnonnull (tgt := 33) hx hb dX11_after_27 (by decide) ?_
      refine lv_aload_n hx hb dX11_after_33 rfl (lv_at hl 2 rfl) ?_
      refine z_get C G clX11 0 rfl 5 (by decide) m_fl_RX11_41 rfl dX11_after_34 ?_
      refine lv_aload hx hb dX11_after_37 (lv_at hl 1 rfl) ?_
      refine lv_aload hx hb dX11_after_39 (lv_at hl 0 rfl) ?_
      refine lv_bipush (v := 40) hx hb dX11_after_41 (by decide) ?_
      refine z_Vi (bc := [wc, wcp, z1_, wd0_]) (br := [[zO10 xo t im mk rd po co tr wa wb_ fi cd], z0_, wd1_, wt]) (As := [.ref l1, .ref d0, .int 40]) (rest := []) C G (c_goThrough l T co cpo cla cfw v0 v1 v2 v3 v4 v5 v6 v7 wc cpl cf1 cf2 cf3 cst cwh wcp l1 cr1_ inn1_ k11_ k21_ k31_ k41_ z1_ d0 dd0_ p10_ p20_ p30_ wd0_ 40 hc hcp hz1_ (by first | with_reducible assumption | with_reducible rfl | omega | assumption | rfl) hd0_) (kV_RX11_145 C.2.2.2.2 (Nat.le_of_ble_eq_true rfl) (Nat.le_of_ble_eq_true rfl)) [5, 6, 2, 3] [2, 0, 1, 0] rfl rfl (ci := 1) (qc := (RX1, TX1, 11)) rfl rfl (List.mem_flatten.mpr ⟨_, List.mem_of_getElem? (i := 0) rfl, (bCourse_mem hc).choose_spec⟩) rfl rfl hl.1 dX11_after_43 (Nat.le_of_ble_eq_true rfl) (Nat.le_of_ble_eq_true rfl) (fun r_90 b1 H locs hw G => ?_)
      refine zEx16 hw ?_
      intro wc2_71 gw_72 u0_73 u1_74 u2_75 u3_76 u4_77 u5_78 u6_79 u7_80 wp2_81 g1_82 g2_83 g3_84 sa_85 wa_86
      refine zCu4 ?_
      intro hbs9 h_87 h_88 h_89
      clear hw
      subst hbs9
      have G : zS T A s.heap s [[zO10 xo t im mk rd po co tr wa wb_ fi cd], z0_, wd1_, wt, wc2_71, wp2_81, z1_, wd0_] _ _ := G
      refine lv_pop hx hb dX11_after_46 rfl ?_
      refine lv_aload_n hx hb dX11_after_47 rfl (lv_at hl 2 rfl) ?_
      refine z_get C G clX11 0 rfl 5 (by decide) m_fl_RX11_41 rfl dX11_after_48 ?_
      refine lv_iload_n hx hb dX11_after_51 rfl (lv_at hl 5 rfl) ?_
      refine z_Vi (bc := [wc2_71, wp2_81, z1_]) (br := [[zO10 xo t im mk rd po co tr wa wb_ fi cd], z0_, wd1_, wt, wd0_]) (As := [.int w_]) (rest := []) C G (c_toldAfter l T co cpo l1 gw_72 u0_73 u1_74 u2_75 u3_76 u4_77 u5_78 u6_79 u7_80 wc2_71 g1_82 g2_83 g3_84 sa_85 wa_86 wp2_81 cr1_ inn1_ k11_ k21_ k31_ k41_ z1_ w_ h_87 h_88 hz1_ (by first | with_reducible assumption | with_reducible rfl | omega | assumption | rfl)) (kV_RX11_153 C.2.2.2.2 (Nat.le_of_ble_eq_true rfl) (Nat.le_of_ble_eq_true rfl)) [4, 5, 6] [4, 0, 0] rfl rfl (ci := 1) (qc := (RX1, TX1, 11)) rfl rfl (List.mem_flatten.mpr ⟨_, List.mem_of_getElem? (i := 0) rfl, (bCourse_mem h_87).choose_spec⟩) rfl rfl hl.1 dX11_after_52 (Nat.le_of_ble_eq_true rfl) (Nat.le_of_ble_eq_true rfl) (fun r_91 b1 H locs hw G => ?_)
      obtain rfl := hw
      have G : zS T A s.heap s [[zO10 xo t im mk rd po co tr wa wb_ fi cd], z0_, wd1_, wt, wd0_, wc2_71, wp2_81, z1_] _ _ := G
      have G := G.sub (bs' := [[zO10 xo t im mk rd po co tr wa wb_ fi cd], wt, z0_, z1_, wd0_, wd1_, wc2_71, wp2_81]) [0, 3, 1, 7, 4, 2, 5, 6] rfl
      exact z_back hQz_ (z_iret C hr hlocks G (Nat.le_of_ble_eq_true rfl) (Nat.le_of_ble_eq_true rfl) dX11_after_55 ⟨l1, gw_72, u0_73, u1_74, u2_75, u3_76, u4_77, u5_78, u6_79, u7_80, wc2_71, l1, g1_82, g2_83, g3_84, sa_85, wa_86, wp2_81, rfl, h_87, h_88⟩)
    · have h_69 : i2.toInt = 1 := h_69
      have h_70 : 1 < (fk 1).toInt := h_70
      refine lv_astore (lv' := [(5, .ref d1), (4, .ref l1), (0, .ref xo), (1, .int i1), (2, .int i2), (3, .int w_)]) hx hb dX11_after_18 hl (by decide) (zLvf_h rfl) (fun ls hl => ?_)
      refine lv_aload hx hb dX11_after_20 (lv_at hl 1 rfl) ?_
      refine lv_ifnull hx hb dX11_after_22 ?_
      refine lv_aload hx hb dX11_after_25 (lv_at hl 0 rfl) ?_
      refine lv_ifnonnull (tgt := 33) hx hb dX11_after_27 (by decide) ?_
      refine lv_aload_n hx hb dX11_after_33 rfl (lv_at hl 2 rfl) ?_
      refine z_get C G clX11 0 rfl 5 (by decide) m_fl_RX11_41 rfl dX11_after_34 ?_
      refine lv_aload hx hb dX11_after_37 (lv_at hl 1 rfl) ?_
      refine lv_aload hx hb dX11_after_39 (lv_at hl 0 rfl) ?_
      refine lv_bipush (v := 40) hx hb dX11_after_41 (by decide) ?_
      refine z_Vi (bc := [wc, wcp, z1_, wd1_]) (br := [[zO10 xo t im mk rd po co tr wa wb_ fi cd], z0_, wd0_, wt]) (As := [.ref l1, .ref d1, .int 40]) (rest := []) C G (c_goThrough l T co cpo cla cfw v0 v1 v2 v3 v4 v5 v6 v7 wc cpl cf1 cf2 cf3 cst cwh wcp l1 cr1_ inn1_ k11_ k21_ k31_ k41_ z1_ d1 dd1_ p11_ p21_ p31_ wd1_ 40 hc hcp hz1_ (by first | with_reducible assumption | with_reducible rfl | omega | assumption | rfl) hd1_) (kV_RX11_145 C.2.2.2.2 (Nat.le_of_ble_eq_true rfl) (Nat.le_of_ble_eq_true rfl)) [5, 6, 2, 4] [2, 1, 0, 0] rfl rfl (ci := 1) (qc := (RX1, TX1, 11)) rfl rfl (List.mem_flatten.mpr ⟨_, List.mem_of_getElem? (i := 0) rfl, (bCourse_mem hc).choose_spec⟩) rfl rfl hl.1 dX11_after_43 (Nat.le_of_ble_eq_true rfl) (Nat.le_of_ble_eq_true rfl) (fun r_111 b1 H locs hw G => ?_)
      refine zEx16 hw ?_
      intro wc2_92 gw_93 u0_94 u1_95 u2_96 u3_97 u4_98 u5_99 u6_100 u7_101 wp2_102 g1_103 g2_104 g3_105 sa_106 wa_107
      refine zCu4 ?_
      intro hbs9 h_108 h_109 h_110
      clear hw
      subst hbs9
      have G : zS T A s.heap s [[zO10 xo t im mk rd po co tr wa wb_ fi cd], z0_, wd0_, wt, wc2_92, wp2_102, z1_, wd1_] _ _ := G
      refine lv_pop hx hb dX11_after_46 rfl ?_
      refine lv_aload_n hx hb dX11_after_47 rfl (lv_at hl 2 rfl) ?_
      refine z_get C G clX11 0 rfl 5 (by decide) m_fl_RX11_41 rfl dX11_after_48 ?_
      refine lv_iload_n hx hb dX11_after_51 rfl (lv_at hl 5 rfl) ?_
      refine z_Vi (bc := [wc2_92, wp2_102, z1_]) (br := [[zO10 xo t im mk rd po co tr wa wb_ fi cd], z0_, wd0_, wt, wd1_]) (As := [.int w_]) (rest := []) C G (c_toldAfter l T co cpo l1 gw_93 u0_94 u1_95 u2_96 u3_97 u4_98 u5_99 u6_100 u7_101 wc2_92 g1_103 g2_104 g3_105 sa_106 wa_107 wp2_102 cr1_ inn1_ k11_ k21_ k31_ k41_ z1_ w_ h_108 h_109 hz1_ (by first | with_reducible assumption | with_reducible rfl | omega | assumption | rfl)) (kV_RX11_153 C.2.2.2.2 (Nat.le_of_ble_eq_true rfl) (Nat.le_of_ble_eq_true rfl)) [4, 5, 6] [4, 0, 0] rfl rfl (ci := 1) (qc := (RX1, TX1, 11)) rfl rfl (List.mem_flatten.mpr ⟨_, List.mem_of_getElem? (i := 0) rfl, (bCourse_mem h_108).choose_spec⟩) rfl rfl hl.1 dX11_after_52 (Nat.le_of_ble_eq_true rfl) (Nat.le_of_ble_eq_true rfl) (fun r_112 b1 H locs hw G => ?_)
      obtain rfl := hw
      have G : zS T A s.heap s [[zO10 xo t im mk rd po co tr wa wb_ fi cd], z0_, wd0_, wt, wd1_, wc2_92, wp2_102, z1_] _ _ := G
      have G := G.sub (bs' := [[zO10 xo t im mk rd po co tr wa wb_ fi cd], wt, z0_, z1_, wd0_, wd1_, wc2_92, wp2_102]) [0, 3, 1, 7, 2, 4, 5, 6] rfl
      exact z_back hQz_ (z_iret C hr hlocks G (Nat.le_of_ble_eq_true rfl) (Nat.le_of_ble_eq_true rfl) dX11_after_55 ⟨l1, gw_93, u0_94, u1_95, u2_96, u3_97, u4_98, u5_99, u6_100, u7_101, wc2_92, l1, g1_103, g2_104, g3_105, sa_106, wa_107, wp2_102, rfl, h_108, h_109⟩)
set_option maxHeartbeats 4000000 in
set_option maxRecDepth 100000 in
/-- c_drawn -/
theorem c_drawn (l : Launch) (T : zTy) (xo : Nat) (t : Nat) (im : Nat) (mk : Nat) (rd : Nat) (po : Nat) (co : Nat) (tr : Nat) (wa : Nat) (wb_ : Nat) (fi : Nat) (cd : Nat) (l0 : Nat) (l1 : Nat) (d0 : Nat) (d1 : Nat) (g0 : Nat) (g1 : Nat) (ln : Int32) (fl : Int32) (pl : Int32) (ft : Nat → Int32) (fk : Nat → Int32) (wt : va_W) (cr0_ : Int32) (inn0_ : Int32) (k10_ : Nat → Int32) (k20_ : Nat → Int32) (k30_ : Nat → Int32) (k40_ : Nat → Int32) (z0_ : va_W) (cr1_ : Int32) (inn1_ : Int32) (k11_ : Nat → Int32) (k21_ : Nat → Int32) (k31_ : Nat → Int32) (k41_ : Nat → Int32) (z1_ : va_W) (cpo : Nat) (cla : Nat) (cfw : Nat → Int32) (v0 : Int32) (v1 : Int32) (v2 : Int32) (v3 : Int32) (v4 : Int32) (v5 : Int32) (v6 : Int32) (v7 : Int32) (wc : va_W) (cpl : Nat) (cf1 : Nat → Int32) (cf2 : Nat → Int32) (cf3 : Nat → Int32) (cst : Int32) (cwh : Int32) (wcp : va_W) (i1 : Int32) (sd : Int32) (n : Int32) (w_ : Int32) (ht : bTold T t l0 l1 d0 d1 g0 g1 ln fl pl ft fk wt) (hK : zKT fk) (hz0_ : bLand T l0 cr0_ inn0_ k10_ k20_ k30_ k40_ z0_) (hI0_ : zLI cr0_ k10_ k30_) (hz1_ : bLand T l1 cr1_ inn1_ k11_ k21_ k31_ k41_ z1_) (hI1_ : zLI cr1_ k11_ k31_) (hc : bCourse T co cpo cla cfw v0 v1 v2 v3 v4 v5 v6 v7 wc) (hcp : bPosts T cpo cpl cf1 cf2 cf3 cst cwh wcp) : zMi l T yX11_drawn cX11_drawn 6 (some .int) 8 0 0 [.ref xo, .int i1, .int sd, .int n, .int w_] [[zO10 xo t im mk rd po co tr wa wb_ fi cd], wt, z0_, z1_, wc, wcp] (fun (r : Int32) bs => ∃ (cla_2 : Nat) (cfw_2 : Nat → Int32) (v0_2 : Int32) (v1_2 : Int32) (v2_2 : Int32) (v3_2 : Int32) (v4_2 : Int32) (v5_2 : Int32) (v6_2 : Int32) (v7_2 : Int32) (wc_2 : va_W) (cpl_2 : Nat) (cf1_2 : Nat → Int32) (cf2_2 : Nat → Int32) (cf3_2 : Nat → Int32) (cst_2 : Int32) (cwh_2 : Int32) (wcp_2 : va_W), bs = [[zO10 xo t im mk rd po co tr wa wb_ fi cd], wt, z0_, z1_, wc_2, wcp_2] ∧ bCourse T co cpo cla_2 cfw_2 v0_2 v1_2 v2_2 v3_2 v4_2 v5_2 v6_2 v7_2 wc_2 ∧ bPosts T cpo cpl_2 cf1_2 cf2_2 cf3_2 cst_2 cwh_2 wcp_2) := by
  refine zMi_of (own := RX11) (by decide) rfl (Nat.le_of_ble_eq_true rfl) ?_
  intro p e s m args below meth c A ls C hr hlocks hnm hAe G hl
  refine zHide (fun Qz_ hQz_ => ?_)
  have hx := C.1
  have hb := C.2.1
  have hl : lv_has ls 6 [(0, .ref xo), (1, .int i1), (2, .int sd), (3, .int n), (4, .int w_)] := hl
  refine lv_aload_n hx hb dX11_drawn_0 rfl (lv_at hl 0 rfl) ?_
  refine z_get C G clX11 0 rfl 0 (by decide) m_fl_RX11_10 rfl dX11_drawn_1 ?_
  refine lv_iload_n hx hb dX11_drawn_4 rfl (lv_at hl 1 rfl) ?_
  refine z_Vq (bc := [wt]) (br := [[zO10 xo t im mk rd po co tr wa wb_ fi cd], z0_, z1_, wc, wcp]) (As := [.int i1]) (rest := []) C G (c_landAt l T t l0 l1 d0 d1 g0 g1 ln fl pl ft fk wt i1 ht) (kV_RX11_121 C.2.2.2.2 (Nat.le_of_ble_eq_true rfl) (Nat.le_of_ble_eq_true rfl)) [1] [1] rfl rfl (ci := 8) (qc := (RX9, TX9, 8)) rfl rfl (List.mem_flatten.mpr ⟨_, List.mem_of_getElem? (i := 0) rfl, (bTold_mem ht).choose_spec⟩) rfl rfl hl.1 dX11_drawn_5 (Nat.le_of_ble_eq_true rfl) (Nat.le_of_ble_eq_true rfl) (fun r_2 b1 H locs hw G => ?_)
  refine zAn2 hw ?_
  intro hbs9 hc_1
  clear hw
  subst hbs9
  have G : zS T A s.heap s [[zO10 xo t im mk rd po co tr wa wb_ fi cd], z0_, z1_, wc, wcp, wt] _ _ := G
  rcases hc_1 with ⟨rfl, h_3⟩ | ⟨rfl, h_4, h_5⟩ | ⟨rfl, h_6, h_7⟩
  · have h_3 : (i1.toInt < 0 ∨ (fk 0).toInt ≤ i1.toInt ∨ 2 ≤ i1.toInt) := h_3
    refine lv_astoreN (lv' := [(5, .null), (0, .ref xo), (1, .int i1), (2, .int sd), (3, .int n), (4, .int w_)]) hx hb dX11_drawn_8 hl (by decide) (zLvf_h rfl) (fun ls hl => ?_)
    refine lv_aloadN hx hb dX11_drawn_10 (lv_at hl 0 rfl) ?_
    refine lv_ifnullN (tgt := 25) hx hb dX11_drawn_12 (by decide) ?_
    refine lv_bipush (v := (-2)) hx hb dX11_drawn_25 (by decide) ?_
    have G := G.sub (bs' := [[zO10 xo t im mk rd po co tr wa wb_ fi cd], wt, z0_, z1_, wc, wcp]) [0, 5, 1, 2, 3, 4] rfl
    exact z_back hQz_ (z_iret C hr hlocks G (Nat.le_of_ble_eq_true rfl) (Nat.le_of_ble_eq_true rfl) dX11_drawn_27 ⟨cla, cfw, v0, v1, v2, v3, v4, v5, v6, v7, wc, cpl, cf1, cf2, cf3, cst, cwh, wcp, rfl, hc, hcp⟩)
  · have h_4 : i1.toInt = 0 := h_4
    have h_5 : 0 < (fk 0).toInt := h_5
    refine lv_astore (lv' := [(5, .ref l0), (0, .ref xo), (1, .int i1), (2, .int sd), (3, .int n), (4, .int w_)]) hx hb dX11_drawn_8 hl (by decide) (zLvf_h rfl) (fun ls hl => ?_)
    refine lv_aload hx hb dX11_drawn_10 (lv_at hl 0 rfl) ?_
    refine lv_ifnull hx hb dX11_drawn_12 ?_
    refine lv_iload_n hx hb dX11_drawn_15 rfl (lv_at hl 4 rfl) ?_
    refine lv_if_lt (tgt := 25) hx hb dX11_drawn_16 (by decide) (fun c_8 => ?_) (fun c_8 => ?_)
    · have c_8n : n.toInt < (0 : Int) := (fa_lt _ _).mp c_8
      refine lv_bipush (v := (-2)) hx hb dX11_drawn_25 (by decide) ?_
      have G := G.sub (bs' := [[zO10 xo t im mk rd po co tr wa wb_ fi cd], wt, z0_, z1_, wc, wcp]) [0, 5, 1, 2, 3, 4] rfl
      exact z_back hQz_ (z_iret C hr hlocks G (Nat.le_of_ble_eq_true rfl) (Nat.le_of_ble_eq_true rfl) dX11_drawn_27 ⟨cla, cfw, v0, v1, v2, v3, v4, v5, v6, v7, wc, cpl, cf1, cf2, cf3, cst, cwh, wcp, rfl, hc, hcp⟩)
    · have c_8n : ¬ n.toInt < (0 : Int) := fun q => c_8 ((fa_lt _ _).mpr q)
      refine lv_iload_n hx hb dX11_drawn_19 rfl (lv_at hl 4 rfl) ?_
      refine lv_bipush (v := 60) hx hb dX11_drawn_20 (by decide) ?_
      refine lv_icmp_le (tgt := 28) hx hb dX11_drawn_22 (by decide) (fun c_9 => ?_) (fun c_9 => ?_)
      · have c_9n : n.toInt ≤ (60 : Int) := (fa_le _ _).mp c_9
        refine lv_aload_n hx hb dX11_drawn_28 rfl (lv_at hl 1 rfl) ?_
        refine z_get C G clX11 0 rfl 5 (by decide) m_fl_RX11_41 rfl dX11_drawn_29 ?_
        refine lv_aload hx hb dX11_drawn_32 (lv_at hl 0 rfl) ?_
        refine lv_iload_n hx hb dX11_drawn_34 rfl (lv_at hl 3 rfl) ?_
        refine lv_iload_n hx hb dX11_drawn_35 rfl (lv_at hl 4 rfl) ?_
        refine z_Vv (bc := [wc, wcp, z0_]) (br := [[zO10 xo t im mk rd po co tr wa wb_ fi cd], z1_, wt]) (As := [.ref l0, .int sd, .int n]) (rest := []) C G (c_draw l T co cpo cla cfw v0 v1 v2 v3 v4 v5 v6 v7 wc cpl cf1 cf2 cf3 cst cwh wcp l0 cr0_ inn0_ k10_ k20_ k30_ k40_ z0_ sd n hc hcp hz0_ (by first | with_reducible assumption | with_reducible rfl | omega | assumption | rfl)) (kV_RX11_156 C.2.2.2.2 (Nat.le_of_ble_eq_true rfl) (Nat.le_of_ble_eq_true rfl)) [3, 4, 1] [1, 1, 0] rfl rfl (ci := 1) (qc := (RX1, TX1, 11)) rfl rfl (List.mem_flatten.mpr ⟨_, List.mem_of_getElem? (i := 0) rfl, (bCourse_mem hc).choose_spec⟩) rfl rfl hl.1 dX11_drawn_36 (Nat.le_of_ble_eq_true rfl) (Nat.le_of_ble_eq_true rfl) (fun b1 H locs hw G => ?_)
        refine zEx16 hw ?_
        intro wc2_10 gw_11 u0_12 u1_13 u2_14 u3_15 u4_16 u5_17 u6_18 u7_19 wp2_20 g1_21 g2_22 g3_23 sa_24 wa_25
        refine zCu4 ?_
        intro hbs9 h_26 h_27 h_28
        clear hw
        subst hbs9
        have G : zS T A s.heap s [[zO10 xo t im mk rd po co tr wa wb_ fi cd], z1_, wt, wc2_10, wp2_20, z0_] _ _ := G
        refine lv_aload_n hx hb dX11_drawn_39 rfl (lv_at hl 1 rfl) ?_
        refine z_get C G clX11 0 rfl 5 (by decide) m_fl_RX11_41 rfl dX11_drawn_40 ?_
        refine lv_iload hx hb dX11_drawn_43 (lv_at hl 5 rfl) ?_
        refine z_Vi (bc := [wc2_10, wp2_20, z0_]) (br := [[zO10 xo t im mk rd po co tr wa wb_ fi cd], z1_, wt]) (As := [.int w_]) (rest := []) C G (c_Course_told l T co cpo l0 gw_11 u0_12 u1_13 u2_14 u3_15 u4_16 u5_17 u6_18 u7_19 wc2_10 g1_21 g2_22 g3_23 sa_24 wa_25 wp2_20 cr0_ inn0_ k10_ k20_ k30_ k40_ z0_ w_ h_26 h_27 hz0_ (by first | with_reducible assumption | with_reducible rfl | omega | assumption | rfl)) (kV_RX11_152 C.2.2.2.2 (Nat.le_of_ble_eq_true rfl) (Nat.le_of_ble_eq_true rfl)) [3, 4, 5] [3, 0, 0] rfl rfl (ci := 1) (qc := (RX1, TX1, 11)) rfl rfl (List.mem_flatten.mpr ⟨_, List.mem_of_getElem? (i := 0) rfl, (bCourse_mem h_26).choose_spec⟩) rfl rfl hl.1 dX11_drawn_45 (Nat.le_of_ble_eq_true rfl) (Nat.le_of_ble_eq_true rfl) (fun r_30 b1 H locs hw G => ?_)
        obtain rfl := hw
        have G : zS T A s.heap s [[zO10 xo t im mk rd po co tr wa wb_ fi cd], z1_, wt, wc2_10, wp2_20, z0_] _ _ := G
        have G := G.sub (bs' := [[zO10 xo t im mk rd po co tr wa wb_ fi cd], wt, z0_, z1_, wc2_10, wp2_20]) [0, 2, 5, 1, 3, 4] rfl
        exact z_back hQz_ (z_iret C hr hlocks G (Nat.le_of_ble_eq_true rfl) (Nat.le_of_ble_eq_true rfl) dX11_drawn_48 ⟨l0, gw_11, u0_12, u1_13, u2_14, u3_15, u4_16, u5_17, u6_18, u7_19, wc2_10, l0, g1_21, g2_22, g3_23, sa_24, wa_25, wp2_20, rfl, h_26, h_27⟩)
      · have c_9n : ¬ n.toInt ≤ (60 : Int) := fun q => c_9 ((fa_le _ _).mpr q)
        refine lv_bipush (v := (-2)) hx hb dX11_drawn_25 (by decide) ?_
        have G := G.sub (bs' := [[zO10 xo t im mk rd po co tr wa wb_ fi cd], wt, z0_, z1_, wc, wcp]) [0, 5, 1, 2, 3, 4] rfl
        exact z_back hQz_ (z_iret C hr hlocks G (Nat.le_of_ble_eq_true rfl) (Nat.le_of_ble_eq_true rfl) dX11_drawn_27 ⟨cla, cfw, v0, v1, v2, v3, v4, v5, v6, v7, wc, cpl, cf1, cf2, cf3, cst, cwh, wcp, rfl, hc, hcp⟩)
  · have h_6 : i1.toInt = 1 := h_6
    have h_7 : 1 < (fk 0).toInt := h_7
    refine lv_astore (lv' := [(5, .ref l1), (0, .ref xo), (1, .int i1), (2, .int sd), (3, .int n), (4, .int w_)]) hx hb dX11_drawn_8 hl (by decide) (zLvf_h rfl) (fun ls hl => ?_)
    refine lv_aload hx hb dX11_drawn_10 (lv_at hl 0 rfl) ?_
    refine lv_ifnull hx hb dX11_drawn_12 ?_
    refine lv_iload_n hx hb dX11_drawn_15 rfl (lv_at hl 4 rfl) ?_
    refine lv_if_lt (tgt := 25) hx hb dX11_drawn_16 (by decide) (fun c_31 => ?_) (fun c_31 => ?_)
    · have c_31n : n.toInt < (0 : Int) := (fa_lt _ _).mp c_31
      refine lv_bipush (v := (-2)) hx hb dX11_drawn_25 (by decide) ?_
      have G := G.sub (bs' := [[zO10 xo t im mk rd po co tr wa wb_ fi cd], wt, z0_, z1_, wc, wcp]) [0, 5, 1, 2, 3, 4] rfl
      exact z_back hQz_ (z_iret C hr hlocks G (Nat.le_of_ble_eq_true rfl) (Nat.le_of_ble_eq_true rfl) dX11_drawn_27 ⟨cla, cfw, v0, v1, v2, v3, v4, v5, v6, v7, wc, cpl, cf1, cf2, cf3, cst, cwh, wcp, rfl, hc, hcp⟩)
    · have c_31n : ¬ n.toInt < (0 : Int) := fun q => c_31 ((fa_lt _ _).mpr q)
      refine lv_iload_n hx hb dX11_drawn_19 rfl (lv_at hl 4 rfl) ?_
      refine lv_bipush (v := 60) hx hb dX11_drawn_20 (by decide) ?_
      refine lv_icmp_le (tgt := 28) hx hb dX11_drawn_22 (by decide) (fun c_32 => ?_) (fun c_32 => ?_)
      · have c_32n : n.toInt ≤ (60 : Int) := (fa_le _ _).mp c_32
        refine lv_aload_n hx hb dX11_drawn_28 rfl (lv_at hl 1 rfl) ?_
        refine z_get C G clX11 0 rfl 5 (by decide) m_fl_RX11_41 rfl dX11_drawn_29 ?_
        refine lv_aload hx hb dX11_drawn_32 (lv_at hl 0 rfl) ?_
        refine lv_iload_n hx hb dX11_drawn_34 rfl (lv_at hl 3 rfl) ?_
        refine lv_iload_n hx hb dX11_drawn_35 rfl (lv_at hl 4 rfl) ?_
        refine z_Vv (bc := [wc, wcp, z1_]) (br := [[zO10 xo t im mk rd po co tr wa wb_ fi cd], z0_, wt]) (As := [.ref l1, .int sd, .int n]) (rest := []) C G (c_draw l T co cpo cla cfw v0 v1 v2 v3 v4 v5 v6 v7 wc cpl cf1 cf2 cf3 cst cwh wcp l1 cr1_ inn1_ k11_ k21_ k31_ k41_ z1_ sd n hc hcp hz1_ (by first | with_reducible assumption | with_reducible rfl | omega | assumption | rfl)) (kV_RX11_156 C.2.2.2.2 (Nat.le_of_ble_eq_true rfl) (Nat.le_of_ble_eq_true rfl)) [3, 4, 2] [2, 0, 0] rfl rfl (ci := 1) (qc := (RX1, TX1, 11)) rfl rfl (List.mem_flatten.mpr ⟨_, List.mem_of_getElem? (i := 0) rfl, (bCourse_mem hc).choose_spec⟩) rfl rfl hl.1 dX11_drawn_36 (Nat.le_of_ble_eq_true rfl) (Nat.le_of_ble_eq_true rfl) (fun b1 H locs hw G => ?_)
        refine zEx16 hw ?_
        intro wc2_33 gw_34 u0_35 u1_36 u2_37 u3_38 u4_39 u5_40 u6_41 u7_42 wp2_43 g1_44 g2_45 g3_46 sa_47 wa_48
        refine zCu4 ?_
        intro hbs9 h_49 h_50 h_51
        clear hw
        subst hbs9
        have G : zS T A s.heap s [[zO10 xo t im mk rd po co tr wa wb_ fi cd], z0_, wt, wc2_33, wp2_43, z1_] _ _ := G
        refine lv_aload_n hx hb dX11_drawn_39 rfl (lv_at hl 1 rfl) ?_
        refine z_get C G clX11 0 rfl 5 (by decide) m_fl_RX11_41 rfl dX11_drawn_40 ?_
        refine lv_iload hx hb dX11_drawn_43 (lv_at hl 5 rfl) ?_
        refine z_Vi (bc := [wc2_33, wp2_43, z1_]) (br := [[zO10 xo t im mk rd po co tr wa wb_ fi cd], z0_, wt]) (As := [.int w_]) (rest := []) C G (c_Course_told l T co cpo l1 gw_34 u0_35 u1_36 u2_37 u3_38 u4_39 u5_40 u6_41 u7_42 wc2_33 g1_44 g2_45 g3_46 sa_47 wa_48 wp2_43 cr1_ inn1_ k11_ k21_ k31_ k41_ z1_ w_ h_49 h_50 hz1_ (by first | with_reducible assumption | with_reducible rfl | omega | assumption | rfl)) (kV_RX11_152 C.2.2.2.2 (Nat.le_of_ble_eq_true rfl) (Nat.le_of_ble_eq_true rfl)) [3, 4, 5] [3, 0, 0] rfl rfl (ci := 1) (qc := (RX1, TX1, 11)) rfl rfl (List.mem_flatten.mpr ⟨_, List.mem_of_getElem? (i := 0) rfl, (bCourse_mem h_49).choose_spec⟩) rfl rfl hl.1 dX11_drawn_45 (Nat.le_of_ble_eq_true rfl) (Nat.le_of_ble_eq_true rfl) (fun r_53 b1 H locs hw G => ?_)
        obtain rfl := hw
        have G : zS T A s.heap s [[zO10 xo t im mk rd po co tr wa wb_ fi cd], z0_, wt, wc2_33, wp2_43, z1_] _ _ := G
        have G := G.sub (bs' := [[zO10 xo t im mk rd po co tr wa wb_ fi cd], wt, z0_, z1_, wc2_33, wp2_43]) [0, 2, 1, 5, 3, 4] rfl
        exact z_back hQz_ (z_iret C hr hlocks G (Nat.le_of_ble_eq_true rfl) (Nat.le_of_ble_eq_true rfl) dX11_drawn_48 ⟨l1, gw_34, u0_35, u1_36, u2_37, u3_38, u4_39, u5_40, u6_41, u7_42, wc2_33, l1, g1_44, g2_45, g3_46, sa_47, wa_48, wp2_43, rfl, h_49, h_50⟩)
      · have c_32n : ¬ n.toInt ≤ (60 : Int) := fun q => c_32 ((fa_le _ _).mpr q)
        refine lv_bipush (v := (-2)) hx hb dX11_drawn_25 (by decide) ?_
        have G := G.sub (bs' := [[zO10 xo t im mk rd po co tr wa wb_ fi cd], wt, z0_, z1_, wc, wcp]) [0, 5, 1, 2, 3, 4] rfl
        exact z_back hQz_ (z_iret C hr hlocks G (Nat.le_of_ble_eq_true rfl) (Nat.le_of_ble_eq_true rfl) dX11_drawn_27 ⟨cla, cfw, v0, v1, v2, v3, v4, v5, v6, v7, wc, cpl, cf1, cf2, cf3, cst, cwh, wcp, rfl, hc, hcp⟩)
set_option maxHeartbeats 4000000 in
set_option maxRecDepth 100000 in
/-- c_walk -/
theorem c_walk (l : Launch) (T : zTy) (xo : Nat) (t : Nat) (im : Nat) (mk : Nat) (rd : Nat) (po : Nat) (co : Nat) (tr : Nat) (wa : Nat) (wb_ : Nat) (fi : Nat) (cd : Nat) (l0 : Nat) (l1 : Nat) (d0 : Nat) (d1 : Nat) (g0 : Nat) (g1 : Nat) (ln : Int32) (fl : Int32) (pl : Int32) (ft : Nat → Int32) (fk : Nat → Int32) (wt : va_W) (cr0_ : Int32) (inn0_ : Int32) (k10_ : Nat → Int32) (k20_ : Nat → Int32) (k30_ : Nat → Int32) (k40_ : Nat → Int32) (z0_ : va_W) (cr1_ : Int32) (inn1_ : Int32) (k11_ : Nat → Int32) (k21_ : Nat → Int32) (k31_ : Nat → Int32) (k41_ : Nat → Int32) (z1_ : va_W) (tpo : Nat) (t1 : Nat → Int32) (t2 : Nat → Int32) (u0_ : Int32) (u1_ : Int32) (u2_ : Int32) (u3_ : Int32) (u4_ : Int32) (wr : va_W) (tpl : Nat) (tf1 : Nat → Int32) (tf2 : Nat → Int32) (tf3 : Nat → Int32) (tst : Int32) (twh : Int32) (wrp : va_W) (i1 : Int32) (a_ : Int32) (w_ : Int32) (ht : bTold T t l0 l1 d0 d1 g0 g1 ln fl pl ft fk wt) (hK : zKT fk) (hz0_ : bLand T l0 cr0_ inn0_ k10_ k20_ k30_ k40_ z0_) (hI0_ : zLI cr0_ k10_ k30_) (hz1_ : bLand T l1 cr1_ inn1_ k11_ k21_ k31_ k41_ z1_) (hI1_ : zLI cr1_ k11_ k31_) (hr_ : bTrail T tr tpo t1 t2 u0_ u1_ u2_ u3_ u4_ wr) (hrp : bPosts T tpo tpl tf1 tf2 tf3 tst twh wrp) : zMi l T yX11_walk cX11_walk 5 (some .int) 6 0 0 [.ref xo, .int i1, .int a_, .int w_] [[zO10 xo t im mk rd po co tr wa wb_ fi cd], wt, z0_, z1_, wr, wrp] (fun (r : Int32) bs => ∃ (t1_2 : Nat → Int32) (t2_2 : Nat → Int32) (u0__2 : Int32) (u1__2 : Int32) (u2__2 : Int32) (u3__2 : Int32) (u4__2 : Int32) (wr_2 : va_W) (tpl_2 : Nat) (tf1_2 : Nat → Int32) (tf2_2 : Nat → Int32) (tf3_2 : Nat → Int32) (tst_2 : Int32) (twh_2 : Int32) (wrp_2 : va_W), bs = [[zO10 xo t im mk rd po co tr wa wb_ fi cd], wt, z0_, z1_, wr_2, wrp_2] ∧ bTrail T tr tpo t1_2 t2_2 u0__2 u1__2 u2__2 u3__2 u4__2 wr_2 ∧ bPosts T tpo tpl_2 tf1_2 tf2_2 tf3_2 tst_2 twh_2 wrp_2) := by
  refine zMi_of (own := RX11) (by decide) rfl (Nat.le_of_ble_eq_true rfl) ?_
  intro p e s m args below meth c A ls C hr hlocks hnm hAe G hl
  refine zHide (fun Qz_ hQz_ => ?_)
  have hx := C.1
  have hb := C.2.1
  have hl : lv_has ls 5 [(0, .ref xo), (1, .int i1), (2, .int a_), (3, .int w_)] := hl
  refine lv_aload_n hx hb dX11_walk_0 rfl (lv_at hl 0 rfl) ?_
  refine z_get C G clX11 0 rfl 0 (by decide) m_fl_RX11_10 rfl dX11_walk_1 ?_
  refine lv_iload_n hx hb dX11_walk_4 rfl (lv_at hl 1 rfl) ?_
  refine z_Vq (bc := [wt]) (br := [[zO10 xo t im mk rd po co tr wa wb_ fi cd], z0_, z1_, wr, wrp]) (As := [.int i1]) (rest := []) C G (c_landAt l T t l0 l1 d0 d1 g0 g1 ln fl pl ft fk wt i1 ht) (kV_RX11_121 C.2.2.2.2 (Nat.le_of_ble_eq_true rfl) (Nat.le_of_ble_eq_true rfl)) [1] [1] rfl rfl (ci := 8) (qc := (RX9, TX9, 8)) rfl rfl (List.mem_flatten.mpr ⟨_, List.mem_of_getElem? (i := 0) rfl, (bTold_mem ht).choose_spec⟩) rfl rfl hl.1 dX11_walk_5 (Nat.le_of_ble_eq_true rfl) (Nat.le_of_ble_eq_true rfl) (fun r_2 b1 H locs hw G => ?_)
  refine zAn2 hw ?_
  intro hbs9 hc_1
  clear hw
  subst hbs9
  have G : zS T A s.heap s [[zO10 xo t im mk rd po co tr wa wb_ fi cd], z0_, z1_, wr, wrp, wt] _ _ := G
  rcases hc_1 with ⟨rfl, h_3⟩ | ⟨rfl, h_4, h_5⟩ | ⟨rfl, h_6, h_7⟩
  · have h_3 : (i1.toInt < 0 ∨ (fk 0).toInt ≤ i1.toInt ∨ 2 ≤ i1.toInt) := h_3
    refine lv_astoreN (lv' := [(4, .null), (0, .ref xo), (1, .int i1), (2, .int a_), (3, .int w_)]) hx hb dX11_walk_8 hl (by decide) (zLvf_h rfl) (fun ls hl => ?_)
    refine lv_aloadN hx hb dX11_walk_10 (lv_at hl 0 rfl) ?_
    refine lv_ifnullN (tgt := 24) hx hb dX11_walk_12 (by decide) ?_
    refine lv_bipush (v := (-2)) hx hb dX11_walk_24 (by decide) ?_
    have G := G.sub (bs' := [[zO10 xo t im mk rd po co tr wa wb_ fi cd], wt, z0_, z1_, wr, wrp]) [0, 5, 1, 2, 3, 4] rfl
    exact z_back hQz_ (z_iret C hr hlocks G (Nat.le_of_ble_eq_true rfl) (Nat.le_of_ble_eq_true rfl) dX11_walk_26 ⟨t1, t2, u0_, u1_, u2_, u3_, u4_, wr, tpl, tf1, tf2, tf3, tst, twh, wrp, rfl, hr_, hrp⟩)
  · have h_4 : i1.toInt = 0 := h_4
    have h_5 : 0 < (fk 0).toInt := h_5
    refine lv_astore (lv' := [(4, .ref l0), (0, .ref xo), (1, .int i1), (2, .int a_), (3, .int w_)]) hx hb dX11_walk_8 hl (by decide) (zLvf_h rfl) (fun ls hl => ?_)
    refine lv_aload hx hb dX11_walk_10 (lv_at hl 0 rfl) ?_
    refine lv_ifnull hx hb dX11_walk_12 ?_
    refine lv_aload hx hb dX11_walk_15 (lv_at hl 0 rfl) ?_
    refine lv_iload_n hx hb dX11_walk_17 rfl (lv_at hl 3 rfl) ?_
    refine z_Vi (bc := [z0_]) (br := [[zO10 xo t im mk rd po co tr wa wb_ fi cd], z1_, wr, wrp, wt]) (As := [.int a_]) (rest := []) C G (c_has l T l0 cr0_ inn0_ k10_ k20_ k30_ k40_ z0_ a_ hz0_) (kV_RX11_160 C.2.2.2.2 (Nat.le_of_ble_eq_true rfl) (Nat.le_of_ble_eq_true rfl)) [1] [1] rfl rfl (ci := 4) (qc := (RX4, TX4, 6)) rfl rfl (List.mem_flatten.mpr ⟨_, List.mem_of_getElem? (i := 0) rfl, (bLand_mem hz0_).choose_spec⟩) rfl rfl hl.1 dX11_walk_18 (Nat.le_of_ble_eq_true rfl) (Nat.le_of_ble_eq_true rfl) (fun r_9 b1 H locs hw G => ?_)
    refine zAn2 hw ?_
    intro hbs9 hc_8
    clear hw
    subst hbs9
    have G : zS T A s.heap s [[zO10 xo t im mk rd po co tr wa wb_ fi cd], z1_, wr, wrp, wt, z0_] _ _ := G
    rcases hc_8 with ⟨rfl, h_10, h_11, h_12⟩ | ⟨rfl, h_13⟩
    · have h_10 : 0 ≤ a_.toInt := h_10
      have h_11 : a_.toInt < cr0_.toInt := h_11
      have h_12 : a_.toInt < 7 := h_12
      refine lv_if_ne (tgt := 27) hx hb dX11_walk_21 (by decide) (fun _ => ?_) (fun q => absurd q (by decide))
      refine lv_aload_n hx hb dX11_walk_27 rfl (lv_at hl 1 rfl) ?_
      refine z_get C G clX11 0 rfl 6 (by decide) m_fl_RX11_48 rfl dX11_walk_28 ?_
      refine lv_aload hx hb dX11_walk_31 (lv_at hl 0 rfl) ?_
      refine lv_iload_n hx hb dX11_walk_33 rfl (lv_at hl 3 rfl) ?_
      refine z_Vv (bc := [wr, wrp, z0_]) (br := [[zO10 xo t im mk rd po co tr wa wb_ fi cd], z1_, wt]) (As := [.ref l0, .int a_]) (rest := []) C G (c_follow l T tr tpo t1 t2 u0_ u1_ u2_ u3_ u4_ wr tpl tf1 tf2 tf3 tst twh wrp l0 cr0_ inn0_ k10_ k20_ k30_ k40_ z0_ a_ hr_ hrp hz0_ (by first | with_reducible assumption | with_reducible rfl | omega | assumption | rfl)) (kV_RX11_164 C.2.2.2.2 (Nat.le_of_ble_eq_true rfl) (Nat.le_of_ble_eq_true rfl)) [2, 3, 5] [2, 0, 1] rfl rfl (ci := 9) (qc := (RX10, TX10, 8)) rfl rfl (List.mem_flatten.mpr ⟨_, List.mem_of_getElem? (i := 0) rfl, (bTrail_mem hr_).choose_spec⟩) rfl rfl hl.1 dX11_walk_34 (Nat.le_of_ble_eq_true rfl) (Nat.le_of_ble_eq_true rfl) (fun b1 H locs hw G => ?_)
      refine zEx14 hw ?_
      intro wt2_14 s1_15 s2_16 u0_17 u1_18 u2_19 u3_20 u4_21 wp2_22 g1_23 g2_24 g3_25 sa_26 wa_27
      refine zCu4 ?_
      intro hbs9 h_28 h_29 h_30
      clear hw
      subst hbs9
      have G : zS T A s.heap s [[zO10 xo t im mk rd po co tr wa wb_ fi cd], z1_, wt, wt2_14, wp2_22, z0_] _ _ := G
      refine lv_iload_n hx hb dX11_walk_37 rfl (lv_at hl 4 rfl) ?_
      by_cases c_32o : w_.toInt < 0 ∨ 2 < w_.toInt
      · refine lv_tableOut (tgt := 101) hx hb dX11_walk_38 c_32o (by decide) ?_
        refine lv_aload hx hb dX11_walk_101 (lv_at hl 0 rfl) ?_
        refine lv_iload_n hx hb dX11_walk_103 rfl (lv_at hl 4 rfl) ?_
        refine lv_bipush (v := 10) hx hb dX11_walk_104 (by decide) ?_
        refine lv_isub hx hb dX11_walk_106 ?_
        refine z_Vi (bc := [z0_]) (br := [[zO10 xo t im mk rd po co tr wa wb_ fi cd], z1_, wt, wt2_14, wp2_22]) (As := [.int (w_ - 10)]) (rest := []) C G (c_has l T l0 cr0_ inn0_ k10_ k20_ k30_ k40_ z0_ (w_ - 10) hz0_) (kV_RX11_160 C.2.2.2.2 (Nat.le_of_ble_eq_true rfl) (Nat.le_of_ble_eq_true rfl)) [5] [5] rfl rfl (ci := 4) (qc := (RX4, TX4, 6)) rfl rfl (List.mem_flatten.mpr ⟨_, List.mem_of_getElem? (i := 0) rfl, (bLand_mem hz0_).choose_spec⟩) rfl rfl hl.1 dX11_walk_107 (Nat.le_of_ble_eq_true rfl) (Nat.le_of_ble_eq_true rfl) (fun r_34 b1 H locs hw G => ?_)
        refine zAn2 hw ?_
        intro hbs9 hc_33
        clear hw
        subst hbs9
        have G : zS T A s.heap s [[zO10 xo t im mk rd po co tr wa wb_ fi cd], z1_, wt, wt2_14, wp2_22, z0_] _ _ := G
        rcases hc_33 with ⟨rfl, h_35, h_36, h_37⟩ | ⟨rfl, h_38⟩
        · have h_35 : 0 ≤ (w_ - 10).toInt := h_35
          have h_36 : (w_ - 10).toInt < cr0_.toInt := h_36
          have h_37 : (w_ - 10).toInt < 7 := h_37
          refine lv_if_eq (tgt := 128) hx hb dX11_walk_110 (by decide) (fun q => absurd q (by decide)) (fun _ => ?_)
          refine lv_aload_n hx hb dX11_walk_113 rfl (lv_at hl 1 rfl) ?_
          refine z_get C G clX11 0 rfl 6 (by decide) m_fl_RX11_48 rfl dX11_walk_114 ?_
          refine zEx2 h_28 ?_
          intro a1_39 a2_40 hbs9
          clear h_28
          subst hbs9
          have G : zS T A s.heap s [[zO10 xo t im mk rd po co tr wa wb_ fi cd], z1_, wt, [zO9 tr tpo a1_39 a2_40 u0_17 u1_18 u2_19 u3_20 u4_21], [zAr T 0 a1_39 7 s1_15], [zAr T 0 a2_40 7 s2_16], wp2_22, z0_] _ _ := G.re rfl
          refine z_get C G clX10 3 rfl 1 (by decide) m_fl_RX11_177 rfl dX11_walk_117 ?_
          refine lv_iload_n hx hb dX11_walk_120 rfl (lv_at hl 4 rfl) ?_
          refine lv_bipush (v := 10) hx hb dX11_walk_121 (by decide) ?_
          refine lv_isub hx hb dX11_walk_123 ?_
          refine z_ild C G 4 rfl (vp_in_iff.mpr ⟨by omega, by omega⟩) dX11_walk_124 ?_
          refine lv_topi (fun v_41 ev_41 => ?_)
          subst ev_41
          refine lv_goto (tgt := 130) hx hb dX11_walk_125 (by decide) ?_
          have hw_42 : bTrail T tr tpo s1_15 s2_16 u0_17 u1_18 u2_19 u3_20 u4_21 [zO9 tr tpo a1_39 a2_40 u0_17 u1_18 u2_19 u3_20 u4_21, zAr T 0 a1_39 7 s1_15, zAr T 0 a2_40 7 s2_16] := ⟨a1_39, a2_40, rfl⟩
          have G : zS T A s.heap s [[zO10 xo t im mk rd po co tr wa wb_ fi cd], z1_, wt, [zO9 tr tpo a1_39 a2_40 u0_17 u1_18 u2_19 u3_20 u4_21, zAr T 0 a1_39 7 s1_15, zAr T 0 a2_40 7 s2_16], wp2_22, z0_] _ _ := G.re rfl
          have G := G.sub (bs' := [[zO10 xo t im mk rd po co tr wa wb_ fi cd], wt, z0_, z1_, [zO9 tr tpo a1_39 a2_40 u0_17 u1_18 u2_19 u3_20 u4_21, zAr T 0 a1_39 7 s1_15, zAr T 0 a2_40 7 s2_16], wp2_22]) [0, 2, 5, 1, 3, 4] rfl
          exact z_back hQz_ (z_iret C hr hlocks G (Nat.le_of_ble_eq_true rfl) (Nat.le_of_ble_eq_true rfl) dX11_walk_130 ⟨s1_15, s2_16, u0_17, u1_18, u2_19, u3_20, u4_21, ([zO9 tr tpo a1_39 a2_40 u0_17 u1_18 u2_19 u3_20 u4_21, zAr T 0 a1_39 7 s1_15, zAr T 0 a2_40 7 s2_16]), l0, g1_23, g2_24, g3_25, sa_26, wa_27, wp2_22, rfl, hw_42, h_29⟩)
        · have h_38 : ((w_ - 10).toInt < 0 ∨ cr0_.toInt ≤ (w_ - 10).toInt ∨ 7 ≤ (w_ - 10).toInt) := h_38
          refine lv_if_eq (tgt := 128) hx hb dX11_walk_110 (by decide) (fun _ => ?_) (fun q => absurd (by decide) q)
          refine lv_bipush (v := (-2)) hx hb dX11_walk_128 (by decide) ?_
          have G := G.sub (bs' := [[zO10 xo t im mk rd po co tr wa wb_ fi cd], wt, z0_, z1_, wt2_14, wp2_22]) [0, 2, 5, 1, 3, 4] rfl
          exact z_back hQz_ (z_iret C hr hlocks G (Nat.le_of_ble_eq_true rfl) (Nat.le_of_ble_eq_true rfl) dX11_walk_130 ⟨s1_15, s2_16, u0_17, u1_18, u2_19, u3_20, u4_21, wt2_14, l0, g1_23, g2_24, g3_25, sa_26, wa_27, wp2_22, rfl, h_28, h_29⟩)
      · have c_32r : w_.toInt = 0 ∨ w_.toInt = 1 ∨ w_.toInt = 2 := by omega
        rcases c_32r with c_32 | c_32 | c_32
        · refine lv_tableIn (tgt := 64) hx hb dX11_walk_38 (by first | (rw [c_32]; decide) | omega) (by first | (rw [c_32]; decide) | omega) (by rw [c_32]; rfl) (by decide) ?_
          refine lv_aload_n hx hb dX11_walk_64 rfl (lv_at hl 1 rfl) ?_
          refine z_get C G clX11 0 rfl 6 (by decide) m_fl_RX11_48 rfl dX11_walk_65 ?_
          refine zEx2 h_28 ?_
          intro a1_43 a2_44 hbs9
          clear h_28
          subst hbs9
          have G : zS T A s.heap s [[zO10 xo t im mk rd po co tr wa wb_ fi cd], z1_, wt, [zO9 tr tpo a1_43 a2_44 u0_17 u1_18 u2_19 u3_20 u4_21], [zAr T 0 a1_43 7 s1_15], [zAr T 0 a2_44 7 s2_16], wp2_22, z0_] _ _ := G.re rfl
          refine z_get C G clX10 3 rfl 4 (by decide) m_fl_RX11_168 rfl dX11_walk_68 ?_
          have hw_45 : bTrail T tr tpo s1_15 s2_16 u0_17 u1_18 u2_19 u3_20 u4_21 [zO9 tr tpo a1_43 a2_44 u0_17 u1_18 u2_19 u3_20 u4_21, zAr T 0 a1_43 7 s1_15, zAr T 0 a2_44 7 s2_16] := ⟨a1_43, a2_44, rfl⟩
          have G : zS T A s.heap s [[zO10 xo t im mk rd po co tr wa wb_ fi cd], z1_, wt, [zO9 tr tpo a1_43 a2_44 u0_17 u1_18 u2_19 u3_20 u4_21, zAr T 0 a1_43 7 s1_15, zAr T 0 a2_44 7 s2_16], wp2_22, z0_] _ _ := G.re rfl
          have G := G.sub (bs' := [[zO10 xo t im mk rd po co tr wa wb_ fi cd], wt, z0_, z1_, [zO9 tr tpo a1_43 a2_44 u0_17 u1_18 u2_19 u3_20 u4_21, zAr T 0 a1_43 7 s1_15, zAr T 0 a2_44 7 s2_16], wp2_22]) [0, 2, 5, 1, 3, 4] rfl
          exact z_back hQz_ (z_iret C hr hlocks G (Nat.le_of_ble_eq_true rfl) (Nat.le_of_ble_eq_true rfl) dX11_walk_71 ⟨s1_15, s2_16, u0_17, u1_18, u2_19, u3_20, u4_21, ([zO9 tr tpo a1_43 a2_44 u0_17 u1_18 u2_19 u3_20 u4_21, zAr T 0 a1_43 7 s1_15, zAr T 0 a2_44 7 s2_16]), l0, g1_23, g2_24, g3_25, sa_26, wa_27, wp2_22, rfl, hw_45, h_29⟩)
        · refine lv_tableIn (tgt := 72) hx hb dX11_walk_38 (by first | (rw [c_32]; decide) | omega) (by first | (rw [c_32]; decide) | omega) (by rw [c_32]; rfl) (by decide) ?_
          refine lv_aload_n hx hb dX11_walk_72 rfl (lv_at hl 1 rfl) ?_
          refine z_get C G clX11 0 rfl 6 (by decide) m_fl_RX11_48 rfl dX11_walk_73 ?_
          refine zEx2 h_28 ?_
          intro a1_46 a2_47 hbs9
          clear h_28
          subst hbs9
          have G : zS T A s.heap s [[zO10 xo t im mk rd po co tr wa wb_ fi cd], z1_, wt, [zO9 tr tpo a1_46 a2_47 u0_17 u1_18 u2_19 u3_20 u4_21], [zAr T 0 a1_46 7 s1_15], [zAr T 0 a2_47 7 s2_16], wp2_22, z0_] _ _ := G.re rfl
          refine z_get C G clX10 3 rfl 5 (by decide) m_fl_RX11_171 rfl dX11_walk_76 ?_
          have hw_48 : bTrail T tr tpo s1_15 s2_16 u0_17 u1_18 u2_19 u3_20 u4_21 [zO9 tr tpo a1_46 a2_47 u0_17 u1_18 u2_19 u3_20 u4_21, zAr T 0 a1_46 7 s1_15, zAr T 0 a2_47 7 s2_16] := ⟨a1_46, a2_47, rfl⟩
          have G : zS T A s.heap s [[zO10 xo t im mk rd po co tr wa wb_ fi cd], z1_, wt, [zO9 tr tpo a1_46 a2_47 u0_17 u1_18 u2_19 u3_20 u4_21, zAr T 0 a1_46 7 s1_15, zAr T 0 a2_47 7 s2_16], wp2_22, z0_] _ _ := G.re rfl
          have G := G.sub (bs' := [[zO10 xo t im mk rd po co tr wa wb_ fi cd], wt, z0_, z1_, [zO9 tr tpo a1_46 a2_47 u0_17 u1_18 u2_19 u3_20 u4_21, zAr T 0 a1_46 7 s1_15, zAr T 0 a2_47 7 s2_16], wp2_22]) [0, 2, 5, 1, 3, 4] rfl
          exact z_back hQz_ (z_iret C hr hlocks G (Nat.le_of_ble_eq_true rfl) (Nat.le_of_ble_eq_true rfl) dX11_walk_79 ⟨s1_15, s2_16, u0_17, u1_18, u2_19, u3_20, u4_21, ([zO9 tr tpo a1_46 a2_47 u0_17 u1_18 u2_19 u3_20 u4_21, zAr T 0 a1_46 7 s1_15, zAr T 0 a2_47 7 s2_16]), l0, g1_23, g2_24, g3_25, sa_26, wa_27, wp2_22, rfl, hw_48, h_29⟩)
        · refine lv_tableIn (tgt := 80) hx hb dX11_walk_38 (by first | (rw [c_32]; decide) | omega) (by first | (rw [c_32]; decide) | omega) (by rw [c_32]; rfl) (by decide) ?_
          refine lv_aload hx hb dX11_walk_80 (lv_at hl 0 rfl) ?_
          refine lv_aload_n hx hb dX11_walk_82 rfl (lv_at hl 1 rfl) ?_
          refine z_get C G clX11 0 rfl 6 (by decide) m_fl_RX11_48 rfl dX11_walk_83 ?_
          refine zEx2 h_28 ?_
          intro a1_49 a2_50 hbs9
          clear h_28
          subst hbs9
          have G : zS T A s.heap s [[zO10 xo t im mk rd po co tr wa wb_ fi cd], z1_, wt, [zO9 tr tpo a1_49 a2_50 u0_17 u1_18 u2_19 u3_20 u4_21], [zAr T 0 a1_49 7 s1_15], [zAr T 0 a2_50 7 s2_16], wp2_22, z0_] _ _ := G.re rfl
          refine z_get C G clX10 3 rfl 5 (by decide) m_fl_RX11_171 rfl dX11_walk_86 ?_
          refine z_Vi (bc := [z0_]) (br := [[zO10 xo t im mk rd po co tr wa wb_ fi cd], z1_, wt, [zO9 tr tpo a1_49 a2_50 u0_17 u1_18 u2_19 u3_20 u4_21], [zAr T 0 a1_49 7 s1_15], [zAr T 0 a2_50 7 s2_16], wp2_22]) (As := [.int u2_19]) (rest := []) C G (c_isInn l T l0 cr0_ inn0_ k10_ k20_ k30_ k40_ z0_ u2_19 hz0_) (kV_RX11_174 C.2.2.2.2 (Nat.le_of_ble_eq_true rfl) (Nat.le_of_ble_eq_true rfl)) [7] [7] rfl rfl (ci := 4) (qc := (RX4, TX4, 6)) rfl rfl (List.mem_flatten.mpr ⟨_, List.mem_of_getElem? (i := 0) rfl, (bLand_mem hz0_).choose_spec⟩) rfl rfl hl.1 dX11_walk_89 (Nat.le_of_ble_eq_true rfl) (Nat.le_of_ble_eq_true rfl) (fun r_52 b1 H locs hw G => ?_)
          refine zAn2 hw ?_
          intro hbs9 hc_51
          clear hw
          subst hbs9
          have G : zS T A s.heap s [[zO10 xo t im mk rd po co tr wa wb_ fi cd], z1_, wt, [zO9 tr tpo a1_49 a2_50 u0_17 u1_18 u2_19 u3_20 u4_21], [zAr T 0 a1_49 7 s1_15], [zAr T 0 a2_50 7 s2_16], wp2_22, z0_] _ _ := G
          rcases hc_51 with ⟨rfl, h_53, h_54, h_55, h_56⟩ | ⟨rfl, h_57⟩
          · have h_53 : 0 ≤ u2_19.toInt := h_53
            have h_54 : u2_19.toInt < cr0_.toInt := h_54
            have h_55 : u2_19.toInt < 7 := h_55
            have h_56 : ¬ zBit inn0_ u2_19 = 0 := h_56
            refine lv_if_eq (tgt := 99) hx hb dX11_walk_92 (by decide) (fun q => absurd q (by decide)) (fun _ => ?_)
            refine lv_iconst (v := 1) hx hb dX11_walk_95 (by decide) ?_
            refine lv_goto (tgt := 100) hx hb dX11_walk_96 (by decide) ?_
            have hw_58 : bTrail T tr tpo s1_15 s2_16 u0_17 u1_18 u2_19 u3_20 u4_21 [zO9 tr tpo a1_49 a2_50 u0_17 u1_18 u2_19 u3_20 u4_21, zAr T 0 a1_49 7 s1_15, zAr T 0 a2_50 7 s2_16] := ⟨a1_49, a2_50, rfl⟩
            have G : zS T A s.heap s [[zO10 xo t im mk rd po co tr wa wb_ fi cd], z1_, wt, [zO9 tr tpo a1_49 a2_50 u0_17 u1_18 u2_19 u3_20 u4_21, zAr T 0 a1_49 7 s1_15, zAr T 0 a2_50 7 s2_16], wp2_22, z0_] _ _ := G.re rfl
            have G := G.sub (bs' := [[zO10 xo t im mk rd po co tr wa wb_ fi cd], wt, z0_, z1_, [zO9 tr tpo a1_49 a2_50 u0_17 u1_18 u2_19 u3_20 u4_21, zAr T 0 a1_49 7 s1_15, zAr T 0 a2_50 7 s2_16], wp2_22]) [0, 2, 5, 1, 3, 4] rfl
            exact z_back hQz_ (z_iret C hr hlocks G (Nat.le_of_ble_eq_true rfl) (Nat.le_of_ble_eq_true rfl) dX11_walk_100 ⟨s1_15, s2_16, u0_17, u1_18, u2_19, u3_20, u4_21, ([zO9 tr tpo a1_49 a2_50 u0_17 u1_18 u2_19 u3_20 u4_21, zAr T 0 a1_49 7 s1_15, zAr T 0 a2_50 7 s2_16]), l0, g1_23, g2_24, g3_25, sa_26, wa_27, wp2_22, rfl, hw_58, h_29⟩)
          · have h_57 : (u2_19.toInt < 0 ∨ cr0_.toInt ≤ u2_19.toInt ∨ 7 ≤ u2_19.toInt ∨ zBit inn0_ u2_19 = 0) := h_57
            refine lv_if_eq (tgt := 99) hx hb dX11_walk_92 (by decide) (fun _ => ?_) (fun q => absurd (by decide) q)
            refine lv_iconst (v := 0) hx hb dX11_walk_99 (by decide) ?_
            have hw_59 : bTrail T tr tpo s1_15 s2_16 u0_17 u1_18 u2_19 u3_20 u4_21 [zO9 tr tpo a1_49 a2_50 u0_17 u1_18 u2_19 u3_20 u4_21, zAr T 0 a1_49 7 s1_15, zAr T 0 a2_50 7 s2_16] := ⟨a1_49, a2_50, rfl⟩
            have G : zS T A s.heap s [[zO10 xo t im mk rd po co tr wa wb_ fi cd], z1_, wt, [zO9 tr tpo a1_49 a2_50 u0_17 u1_18 u2_19 u3_20 u4_21, zAr T 0 a1_49 7 s1_15, zAr T 0 a2_50 7 s2_16], wp2_22, z0_] _ _ := G.re rfl
            have G := G.sub (bs' := [[zO10 xo t im mk rd po co tr wa wb_ fi cd], wt, z0_, z1_, [zO9 tr tpo a1_49 a2_50 u0_17 u1_18 u2_19 u3_20 u4_21, zAr T 0 a1_49 7 s1_15, zAr T 0 a2_50 7 s2_16], wp2_22]) [0, 2, 5, 1, 3, 4] rfl
            exact z_back hQz_ (z_iret C hr hlocks G (Nat.le_of_ble_eq_true rfl) (Nat.le_of_ble_eq_true rfl) dX11_walk_100 ⟨s1_15, s2_16, u0_17, u1_18, u2_19, u3_20, u4_21, ([zO9 tr tpo a1_49 a2_50 u0_17 u1_18 u2_19 u3_20 u4_21, zAr T 0 a1_49 7 s1_15, zAr T 0 a2_50 7 s2_16]), l0, g1_23, g2_24, g3_25, sa_26, wa_27, wp2_22, rfl, hw_59, h_29⟩)
    · have h_13 : (a_.toInt < 0 ∨ cr0_.toInt ≤ a_.toInt ∨ 7 ≤ a_.toInt) := h_13
      refine lv_if_ne (tgt := 27) hx hb dX11_walk_21 (by decide) (fun q => absurd (by decide) q) (fun _ => ?_)
      refine lv_bipush (v := (-2)) hx hb dX11_walk_24 (by decide) ?_
      have G := G.sub (bs' := [[zO10 xo t im mk rd po co tr wa wb_ fi cd], wt, z0_, z1_, wr, wrp]) [0, 4, 5, 1, 2, 3] rfl
      exact z_back hQz_ (z_iret C hr hlocks G (Nat.le_of_ble_eq_true rfl) (Nat.le_of_ble_eq_true rfl) dX11_walk_26 ⟨t1, t2, u0_, u1_, u2_, u3_, u4_, wr, tpl, tf1, tf2, tf3, tst, twh, wrp, rfl, hr_, hrp⟩)
  · have h_6 : i1.toInt = 1 := h_6
    have h_7 : 1 < (fk 0).toInt := h_7
    refine lv_astore (lv' := [(4, .ref l1), (0, .ref xo), (1, .int i1), (2, .int a_), (3, .int w_)]) hx hb dX11_walk_8 hl (by decide) (zLvf_h rfl) (fun ls hl => ?_)
    refine lv_aload hx hb dX11_walk_10 (lv_at hl 0 rfl) ?_
    refine lv_ifnull hx hb dX11_walk_12 ?_
    refine lv_aload hx hb dX11_walk_15 (lv_at hl 0 rfl) ?_
    refine lv_iload_n hx hb dX11_walk_17 rfl (lv_at hl 3 rfl) ?_
    refine z_Vi (bc := [z1_]) (br := [[zO10 xo t im mk rd po co tr wa wb_ fi cd], z0_, wr, wrp, wt]) (As := [.int a_]) (rest := []) C G (c_has l T l1 cr1_ inn1_ k11_ k21_ k31_ k41_ z1_ a_ hz1_) (kV_RX11_160 C.2.2.2.2 (Nat.le_of_ble_eq_true rfl) (Nat.le_of_ble_eq_true rfl)) [2] [2] rfl rfl (ci := 4) (qc := (RX4, TX4, 6)) rfl rfl (List.mem_flatten.mpr ⟨_, List.mem_of_getElem? (i := 0) rfl, (bLand_mem hz1_).choose_spec⟩) rfl rfl hl.1 dX11_walk_18 (Nat.le_of_ble_eq_true rfl) (Nat.le_of_ble_eq_true rfl) (fun r_61 b1 H locs hw G => ?_)
    refine zAn2 hw ?_
    intro hbs9 hc_60
    clear hw
    subst hbs9
    have G : zS T A s.heap s [[zO10 xo t im mk rd po co tr wa wb_ fi cd], z0_, wr, wrp, wt, z1_] _ _ := G
    rcases hc_60 with ⟨rfl, h_62, h_63, h_64⟩ | ⟨rfl, h_65⟩
    · have h_62 : 0 ≤ a_.toInt := h_62
      have h_63 : a_.toInt < cr1_.toInt := h_63
      have h_64 : a_.toInt < 7 := h_64
      refine lv_if_ne (tgt := 27) hx hb dX11_walk_21 (by decide) (fun _ => ?_) (fun q => absurd q (by decide))
      refine lv_aload_n hx hb dX11_walk_27 rfl (lv_at hl 1 rfl) ?_
      refine z_get C G clX11 0 rfl 6 (by decide) m_fl_RX11_48 rfl dX11_walk_28 ?_
      refine lv_aload hx hb dX11_walk_31 (lv_at hl 0 rfl) ?_
      refine lv_iload_n hx hb dX11_walk_33 rfl (lv_at hl 3 rfl) ?_
      refine z_Vv (bc := [wr, wrp, z1_]) (br := [[zO10 xo t im mk rd po co tr wa wb_ fi cd], z0_, wt]) (As := [.ref l1, .int a_]) (rest := []) C G (c_follow l T tr tpo t1 t2 u0_ u1_ u2_ u3_ u4_ wr tpl tf1 tf2 tf3 tst twh wrp l1 cr1_ inn1_ k11_ k21_ k31_ k41_ z1_ a_ hr_ hrp hz1_ (by first | with_reducible assumption | with_reducible rfl | omega | assumption | rfl)) (kV_RX11_164 C.2.2.2.2 (Nat.le_of_ble_eq_true rfl) (Nat.le_of_ble_eq_true rfl)) [2, 3, 5] [2, 0, 1] rfl rfl (ci := 9) (qc := (RX10, TX10, 8)) rfl rfl (List.mem_flatten.mpr ⟨_, List.mem_of_getElem? (i := 0) rfl, (bTrail_mem hr_).choose_spec⟩) rfl rfl hl.1 dX11_walk_34 (Nat.le_of_ble_eq_true rfl) (Nat.le_of_ble_eq_true rfl) (fun b1 H locs hw G => ?_)
      refine zEx14 hw ?_
      intro wt2_66 s1_67 s2_68 u0_69 u1_70 u2_71 u3_72 u4_73 wp2_74 g1_75 g2_76 g3_77 sa_78 wa_79
      refine zCu4 ?_
      intro hbs9 h_80 h_81 h_82
      clear hw
      subst hbs9
      have G : zS T A s.heap s [[zO10 xo t im mk rd po co tr wa wb_ fi cd], z0_, wt, wt2_66, wp2_74, z1_] _ _ := G
      refine lv_iload_n hx hb dX11_walk_37 rfl (lv_at hl 4 rfl) ?_
      by_cases c_84o : w_.toInt < 0 ∨ 2 < w_.toInt
      · refine lv_tableOut (tgt := 101) hx hb dX11_walk_38 c_84o (by decide) ?_
        refine lv_aload hx hb dX11_walk_101 (lv_at hl 0 rfl) ?_
        refine lv_iload_n hx hb dX11_walk_103 rfl (lv_at hl 4 rfl) ?_
        refine lv_bipush (v := 10) hx hb dX11_walk_104 (by decide) ?_
        refine lv_isub hx hb dX11_walk_106 ?_
        refine z_Vi (bc := [z1_]) (br := [[zO10 xo t im mk rd po co tr wa wb_ fi cd], z0_, wt, wt2_66, wp2_74]) (As := [.int (w_ - 10)]) (rest := []) C G (c_has l T l1 cr1_ inn1_ k11_ k21_ k31_ k41_ z1_ (w_ - 10) hz1_) (kV_RX11_160 C.2.2.2.2 (Nat.le_of_ble_eq_true rfl) (Nat.le_of_ble_eq_true rfl)) [5] [5] rfl rfl (ci := 4) (qc := (RX4, TX4, 6)) rfl rfl (List.mem_flatten.mpr ⟨_, List.mem_of_getElem? (i := 0) rfl, (bLand_mem hz1_).choose_spec⟩) rfl rfl hl.1 dX11_walk_107 (Nat.le_of_ble_eq_true rfl) (Nat.le_of_ble_eq_true rfl) (fun r_86 b1 H locs hw G => ?_)
        refine zAn2 hw ?_
        intro hbs9 hc_85
        clear hw
        subst hbs9
        have G : zS T A s.heap s [[zO10 xo t im mk rd po co tr wa wb_ fi cd], z0_, wt, wt2_66, wp2_74, z1_] _ _ := G
        rcases hc_85 with ⟨rfl, h_87, h_88, h_89⟩ | ⟨rfl, h_90⟩
        · have h_87 : 0 ≤ (w_ - 10).toInt := h_87
          have h_88 : (w_ - 10).toInt < cr1_.toInt := h_88
          have h_89 : (w_ - 10).toInt < 7 := h_89
          refine lv_if_eq (tgt := 128) hx hb dX11_walk_110 (by decide) (fun q => absurd q (by decide)) (fun _ => ?_)
          refine lv_aload_n hx hb dX11_walk_113 rfl (lv_at hl 1 rfl) ?_
          refine z_get C G clX11 0 rfl 6 (by decide) m_fl_RX11_48 rfl dX11_walk_114 ?_
          refine zEx2 h_80 ?_
          intro a1_91 a2_92 hbs9
          clear h_80
          subst hbs9
          have G : zS T A s.heap s [[zO10 xo t im mk rd po co tr wa wb_ fi cd], z0_, wt, [zO9 tr tpo a1_91 a2_92 u0_69 u1_70 u2_71 u3_72 u4_73], [zAr T 0 a1_91 7 s1_67], [zAr T 0 a2_92 7 s2_68], wp2_74, z1_] _ _ := G.re rfl
          refine z_get C G clX10 3 rfl 1 (by decide) m_fl_RX11_177 rfl dX11_walk_117 ?_
          refine lv_iload_n hx hb dX11_walk_120 rfl (lv_at hl 4 rfl) ?_
          refine lv_bipush (v := 10) hx hb dX11_walk_121 (by decide) ?_
          refine lv_isub hx hb dX11_walk_123 ?_
          refine z_ild C G 4 rfl (vp_in_iff.mpr ⟨by omega, by omega⟩) dX11_walk_124 ?_
          refine lv_topi (fun v_93 ev_93 => ?_)
          subst ev_93
          refine lv_goto (tgt := 130) hx hb dX11_walk_125 (by decide) ?_
          have hw_94 : bTrail T tr tpo s1_67 s2_68 u0_69 u1_70 u2_71 u3_72 u4_73 [zO9 tr tpo a1_91 a2_92 u0_69 u1_70 u2_71 u3_72 u4_73, zAr T 0 a1_91 7 s1_67, zAr T 0 a2_92 7 s2_68] := ⟨a1_91, a2_92, rfl⟩
          have G : zS T A s.heap s [[zO10 xo t im mk rd po co tr wa wb_ fi cd], z0_, wt, [zO9 tr tpo a1_91 a2_92 u0_69 u1_70 u2_71 u3_72 u4_73, zAr T 0 a1_91 7 s1_67, zAr T 0 a2_92 7 s2_68], wp2_74, z1_] _ _ := G.re rfl
          have G := G.sub (bs' := [[zO10 xo t im mk rd po co tr wa wb_ fi cd], wt, z0_, z1_, [zO9 tr tpo a1_91 a2_92 u0_69 u1_70 u2_71 u3_72 u4_73, zAr T 0 a1_91 7 s1_67, zAr T 0 a2_92 7 s2_68], wp2_74]) [0, 2, 1, 5, 3, 4] rfl
          exact z_back hQz_ (z_iret C hr hlocks G (Nat.le_of_ble_eq_true rfl) (Nat.le_of_ble_eq_true rfl) dX11_walk_130 ⟨s1_67, s2_68, u0_69, u1_70, u2_71, u3_72, u4_73, ([zO9 tr tpo a1_91 a2_92 u0_69 u1_70 u2_71 u3_72 u4_73, zAr T 0 a1_91 7 s1_67, zAr T 0 a2_92 7 s2_68]), l1, g1_75, g2_76, g3_77, sa_78, wa_79, wp2_74, rfl, hw_94, h_81⟩)
        · have h_90 : ((w_ - 10).toInt < 0 ∨ cr1_.toInt ≤ (w_ - 10).toInt ∨ 7 ≤ (w_ - 10).toInt) := h_90
          refine lv_if_eq (tgt := 128) hx hb dX11_walk_110 (by decide) (fun _ => ?_) (fun q => absurd (by decide) q)
          refine lv_bipush (v := (-2)) hx hb dX11_walk_128 (by decide) ?_
          have G := G.sub (bs' := [[zO10 xo t im mk rd po co tr wa wb_ fi cd], wt, z0_, z1_, wt2_66, wp2_74]) [0, 2, 1, 5, 3, 4] rfl
          exact z_back hQz_ (z_iret C hr hlocks G (Nat.le_of_ble_eq_true rfl) (Nat.le_of_ble_eq_true rfl) dX11_walk_130 ⟨s1_67, s2_68, u0_69, u1_70, u2_71, u3_72, u4_73, wt2_66, l1, g1_75, g2_76, g3_77, sa_78, wa_79, wp2_74, rfl, h_80, h_81⟩)
      · have c_84r : w_.toInt = 0 ∨ w_.toInt = 1 ∨ w_.toInt = 2 := by omega
        rcases c_84r with c_84 | c_84 | c_84
        · refine lv_tableIn (tgt := 64) hx hb dX11_walk_38 (by first | (rw [c_84]; decide) | omega) (by first | (rw [c_84]; decide) | omega) (by rw [c_84]; rfl) (by decide) ?_
          refine lv_aload_n hx hb dX11_walk_64 rfl (lv_at hl 1 rfl) ?_
          refine z_get C G clX11 0 rfl 6 (by decide) m_fl_RX11_48 rfl dX11_walk_65 ?_
          refine zEx2 h_80 ?_
          intro a1_95 a2_96 hbs9
          clear h_80
          subst hbs9
          have G : zS T A s.heap s [[zO10 xo t im mk rd po co tr wa wb_ fi cd], z0_, wt, [zO9 tr tpo a1_95 a2_96 u0_69 u1_70 u2_71 u3_72 u4_73], [zAr T 0 a1_95 7 s1_67], [zAr T 0 a2_96 7 s2_68], wp2_74, z1_] _ _ := G.re rfl
          refine z_get C G clX10 3 rfl 4 (by decide) m_fl_RX11_168 rfl dX11_walk_68 ?_
          have hw_97 : bTrail T tr tpo s1_67 s2_68 u0_69 u1_70 u2_71 u3_72 u4_73 [zO9 tr tpo a1_95 a2_96 u0_69 u1_70 u2_71 u3_72 u4_73, zAr T 0 a1_95 7 s1_67, zAr T 0 a2_96 7 s2_68] := ⟨a1_95, a2_96, rfl⟩
          have G : zS T A s.heap s [[zO10 xo t im mk rd po co tr wa wb_ fi cd], z0_, wt, [zO9 tr tpo a1_95 a2_96 u0_69 u1_70 u2_71 u3_72 u4_73, zAr T 0 a1_95 7 s1_67, zAr T 0 a2_96 7 s2_68], wp2_74, z1_] _ _ := G.re rfl
          have G := G.sub (bs' := [[zO10 xo t im mk rd po co tr wa wb_ fi cd], wt, z0_, z1_, [zO9 tr tpo a1_95 a2_96 u0_69 u1_70 u2_71 u3_72 u4_73, zAr T 0 a1_95 7 s1_67, zAr T 0 a2_96 7 s2_68], wp2_74]) [0, 2, 1, 5, 3, 4] rfl
          exact z_back hQz_ (z_iret C hr hlocks G (Nat.le_of_ble_eq_true rfl) (Nat.le_of_ble_eq_true rfl) dX11_walk_71 ⟨s1_67, s2_68, u0_69, u1_70, u2_71, u3_72, u4_73, ([zO9 tr tpo a1_95 a2_96 u0_69 u1_70 u2_71 u3_72 u4_73, zAr T 0 a1_95 7 s1_67, zAr T 0 a2_96 7 s2_68]), l1, g1_75, g2_76, g3_77, sa_78, wa_79, wp2_74, rfl, hw_97, h_81⟩)
        · refine lv_tableIn (tgt := 72) hx hb dX11_walk_38 (by first | (rw [c_84]; decide) | omega) (by first | (rw [c_84]; decide) | omega) (by rw [c_84]; rfl) (by decide) ?_
          refine lv_aload_n hx hb dX11_walk_72 rfl (lv_at hl 1 rfl) ?_
          refine z_get C G clX11 0 rfl 6 (by decide) m_fl_RX11_48 rfl dX11_walk_73 ?_
          refine zEx2 h_80 ?_
          intro a1_98 a2_99 hbs9
          clear h_80
          subst hbs9
          have G : zS T A s.heap s [[zO10 xo t im mk rd po co tr wa wb_ fi cd], z0_, wt, [zO9 tr tpo a1_98 a2_99 u0_69 u1_70 u2_71 u3_72 u4_73], [zAr T 0 a1_98 7 s1_67], [zAr T 0 a2_99 7 s2_68], wp2_74, z1_] _ _ := G.re rfl
          refine z_get C G clX10 3 rfl 5 (by decide) m_fl_RX11_171 rfl dX11_walk_76 ?_
          have hw_100 : bTrail T tr tpo s1_67 s2_68 u0_69 u1_70 u2_71 u3_72 u4_73 [zO9 tr tpo a1_98 a2_99 u0_69 u1_70 u2_71 u3_72 u4_73, zAr T 0 a1_98 7 s1_67, zAr T 0 a2_99 7 s2_68] := ⟨a1_98, a2_99, rfl⟩
          have G : zS T A s.heap s [[zO10 xo t im mk rd po co tr wa wb_ fi cd], z0_, wt, [zO9 tr tpo a1_98 a2_99 u0_69 u1_70 u2_71 u3_72 u4_73, zAr T 0 a1_98 7 s1_67, zAr T 0 a2_99 7 s2_68], wp2_74, z1_] _ _ := G.re rfl
          have G := G.sub (bs' := [[zO10 xo t im mk rd po co tr wa wb_ fi cd], wt, z0_, z1_, [zO9 tr tpo a1_98 a2_99 u0_69 u1_70 u2_71 u3_72 u4_73, zAr T 0 a1_98 7 s1_67, zAr T 0 a2_99 7 s2_68], wp2_74]) [0, 2, 1, 5, 3, 4] rfl
          exact z_back hQz_ (z_iret C hr hlocks G (Nat.le_of_ble_eq_true rfl) (Nat.le_of_ble_eq_true rfl) dX11_walk_79 ⟨s1_67, s2_68, u0_69, u1_70, u2_71, u3_72, u4_73, ([zO9 tr tpo a1_98 a2_99 u0_69 u1_70 u2_71 u3_72 u4_73, zAr T 0 a1_98 7 s1_67, zAr T 0 a2_99 7 s2_68]), l1, g1_75, g2_76, g3_77, sa_78, wa_79, wp2_74, rfl, hw_100, h_81⟩)
        · refine lv_tableIn (tgt := 80) hx hb dX11_walk_38 (by first | (rw [c_84]; decide) | omega) (by first | (rw [c_84]; decide) | omega) (by rw [c_84]; rfl) (by decide) ?_
          refine lv_aload hx hb dX11_walk_80 (lv_at hl 0 rfl) ?_
          refine lv_aload_n hx hb dX11_walk_82 rfl (lv_at hl 1 rfl) ?_
          refine z_get C G clX11 0 rfl 6 (by decide) m_fl_RX11_48 rfl dX11_walk_83 ?_
          refine zEx2 h_80 ?_
          intro a1_101 a2_102 hbs9
          clear h_80
          subst hbs9
          have G : zS T A s.heap s [[zO10 xo t im mk rd po co tr wa wb_ fi cd], z0_, wt, [zO9 tr tpo a1_101 a2_102 u0_69 u1_70 u2_71 u3_72 u4_73], [zAr T 0 a1_101 7 s1_67], [zAr T 0 a2_102 7 s2_68], wp2_74, z1_] _ _ := G.re rfl
          refine z_get C G clX10 3 rfl 5 (by decide) m_fl_RX11_171 rfl dX11_walk_86 ?_
          refine z_Vi (bc := [z1_]) (br := [[zO10 xo t im mk rd po co tr wa wb_ fi cd], z0_, wt, [zO9 tr tpo a1_101 a2_102 u0_69 u1_70 u2_71 u3_72 u4_73], [zAr T 0 a1_101 7 s1_67], [zAr T 0 a2_102 7 s2_68], wp2_74]) (As := [.int u2_71]) (rest := []) C G (c_isInn l T l1 cr1_ inn1_ k11_ k21_ k31_ k41_ z1_ u2_71 hz1_) (kV_RX11_174 C.2.2.2.2 (Nat.le_of_ble_eq_true rfl) (Nat.le_of_ble_eq_true rfl)) [7] [7] rfl rfl (ci := 4) (qc := (RX4, TX4, 6)) rfl rfl (List.mem_flatten.mpr ⟨_, List.mem_of_getElem? (i := 0) rfl, (bLand_mem hz1_).choose_spec⟩) rfl rfl hl.1 dX11_walk_89 (Nat.le_of_ble_eq_true rfl) (Nat.le_of_ble_eq_true rfl) (fun r_104 b1 H locs hw G => ?_)
          refine zAn2 hw ?_
          intro hbs9 hc_103
          clear hw
          subst hbs9
          have G : zS T A s.heap s [[zO10 xo t im mk rd po co tr wa wb_ fi cd], z0_, wt, [zO9 tr tpo a1_101 a2_102 u0_69 u1_70 u2_71 u3_72 u4_73], [zAr T 0 a1_101 7 s1_67], [zAr T 0 a2_102 7 s2_68], wp2_74, z1_] _ _ := G
          rcases hc_103 with ⟨rfl, h_105, h_106, h_107, h_108⟩ | ⟨rfl, h_109⟩
          · have h_105 : 0 ≤ u2_71.toInt := h_105
            have h_106 : u2_71.toInt < cr1_.toInt := h_106
            have h_107 : u2_71.toInt < 7 := h_107
            have h_108 : ¬ zBit inn1_ u2_71 = 0 := h_108
            refine lv_if_eq (tgt := 99) hx hb dX11_walk_92 (by decide) (fun q => absurd q (by decide)) (fun _ => ?_)
            refine lv_iconst (v := 1) hx hb dX11_walk_95 (by decide) ?_
            refine lv_goto (tgt := 100) hx hb dX11_walk_96 (by decide) ?_
            have hw_110 : bTrail T tr tpo s1_67 s2_68 u0_69 u1_70 u2_71 u3_72 u4_73 [zO9 tr tpo a1_101 a2_102 u0_69 u1_70 u2_71 u3_72 u4_73, zAr T 0 a1_101 7 s1_67, zAr T 0 a2_102 7 s2_68] := ⟨a1_101, a2_102, rfl⟩
            have G : zS T A s.heap s [[zO10 xo t im mk rd po co tr wa wb_ fi cd], z0_, wt, [zO9 tr tpo a1_101 a2_102 u0_69 u1_70 u2_71 u3_72 u4_73, zAr T 0 a1_101 7 s1_67, zAr T 0 a2_102 7 s2_68], wp2_74, z1_] _ _ := G.re rfl
            have G := G.sub (bs' := [[zO10 xo t im mk rd po co tr wa wb_ fi cd], wt, z0_, z1_, [zO9 tr tpo a1_101 a2_102 u0_69 u1_70 u2_71 u3_72 u4_73, zAr T 0 a1_101 7 s1_67, zAr T 0 a2_102 7 s2_68], wp2_74]) [0, 2, 1, 5, 3, 4] rfl
            exact z_back hQz_ (z_iret C hr hlocks G (Nat.le_of_ble_eq_true rfl) (Nat.le_of_ble_eq_true rfl) dX11_walk_100 ⟨s1_67, s2_68, u0_69, u1_70, u2_71, u3_72, u4_73, ([zO9 tr tpo a1_101 a2_102 u0_69 u1_70 u2_71 u3_72 u4_73, zAr T 0 a1_101 7 s1_67, zAr T 0 a2_102 7 s2_68]), l1, g1_75, g2_76, g3_77, sa_78, wa_79, wp2_74, rfl, hw_110, h_81⟩)
          · have h_109 : (u2_71.toInt < 0 ∨ cr1_.toInt ≤ u2_71.toInt ∨ 7 ≤ u2_71.toInt ∨ zBit inn1_ u2_71 = 0) := h_109
            refine lv_if_eq (tgt := 99) hx hb dX11_walk_92 (by decide) (fun _ => ?_) (fun q => absurd (by decide) q)
            refine lv_iconst (v := 0) hx hb dX11_walk_99 (by decide) ?_
            have hw_111 : bTrail T tr tpo s1_67 s2_68 u0_69 u1_70 u2_71 u3_72 u4_73 [zO9 tr tpo a1_101 a2_102 u0_69 u1_70 u2_71 u3_72 u4_73, zAr T 0 a1_101 7 s1_67, zAr T 0 a2_102 7 s2_68] := ⟨a1_101, a2_102, rfl⟩
            have G : zS T A s.heap s [[zO10 xo t im mk rd po co tr wa wb_ fi cd], z0_, wt, [zO9 tr tpo a1_101 a2_102 u0_69 u1_70 u2_71 u3_72 u4_73, zAr T 0 a1_101 7 s1_67, zAr T 0 a2_102 7 s2_68], wp2_74, z1_] _ _ := G.re rfl
            have G := G.sub (bs' := [[zO10 xo t im mk rd po co tr wa wb_ fi cd], wt, z0_, z1_, [zO9 tr tpo a1_101 a2_102 u0_69 u1_70 u2_71 u3_72 u4_73, zAr T 0 a1_101 7 s1_67, zAr T 0 a2_102 7 s2_68], wp2_74]) [0, 2, 1, 5, 3, 4] rfl
            exact z_back hQz_ (z_iret C hr hlocks G (Nat.le_of_ble_eq_true rfl) (Nat.le_of_ble_eq_true rfl) dX11_walk_100 ⟨s1_67, s2_68, u0_69, u1_70, u2_71, u3_72, u4_73, ([zO9 tr tpo a1_101 a2_102 u0_69 u1_70 u2_71 u3_72 u4_73, zAr T 0 a1_101 7 s1_67, zAr T 0 a2_102 7 s2_68]), l1, g1_75, g2_76, g3_77, sa_78, wa_79, wp2_74, rfl, hw_111, h_81⟩)
    · have h_65 : (a_.toInt < 0 ∨ cr1_.toInt ≤ a_.toInt ∨ 7 ≤ a_.toInt) := h_65
      refine lv_if_ne (tgt := 27) hx hb dX11_walk_21 (by decide) (fun q => absurd (by decide) q) (fun _ => ?_)
      refine lv_bipush (v := (-2)) hx hb dX11_walk_24 (by decide) ?_
      have G := G.sub (bs' := [[zO10 xo t im mk rd po co tr wa wb_ fi cd], wt, z0_, z1_, wr, wrp]) [0, 4, 1, 5, 2, 3] rfl
      exact z_back hQz_ (z_iret C hr hlocks G (Nat.le_of_ble_eq_true rfl) (Nat.le_of_ble_eq_true rfl) dX11_walk_26 ⟨t1, t2, u0_, u1_, u2_, u3_, u4_, wr, tpl, tf1, tf2, tf3, tst, twh, wrp, rfl, hr_, hrp⟩)
set_option maxHeartbeats 4000000 in
set_option maxRecDepth 100000 in
/-- c_cover -/
theorem c_cover (l : Launch) (T : zTy) (xo : Nat) (t : Nat) (im : Nat) (mk : Nat) (rd : Nat) (po : Nat) (co : Nat) (tr : Nat) (wa : Nat) (wb_ : Nat) (fi : Nat) (cd : Nat) (l0 : Nat) (l1 : Nat) (d0 : Nat) (d1 : Nat) (g0 : Nat) (g1 : Nat) (ln : Int32) (fl : Int32) (pl : Int32) (ft : Nat → Int32) (fk : Nat → Int32) (wt : va_W) (cr0_ : Int32) (inn0_ : Int32) (k10_ : Nat → Int32) (k20_ : Nat → Int32) (k30_ : Nat → Int32) (k40_ : Nat → Int32) (z0_ : va_W) (cr1_ : Int32) (inn1_ : Int32) (k11_ : Nat → Int32) (k21_ : Nat → Int32) (k31_ : Nat → Int32) (k41_ : Nat → Int32) (z1_ : va_W) (tpo : Nat) (t1 : Nat → Int32) (t2 : Nat → Int32) (u0_ : Int32) (u1_ : Int32) (u2_ : Int32) (u3_ : Int32) (u4_ : Int32) (wr : va_W) (tpl : Nat) (tf1 : Nat → Int32) (tf2 : Nat → Int32) (tf3 : Nat → Int32) (tst : Int32) (twh : Int32) (wrp : va_W) (i1 : Int32) (a_ : Int32) (w_ : Int32) (ht : bTold T t l0 l1 d0 d1 g0 g1 ln fl pl ft fk wt) (hK : zKT fk) (hz0_ : bLand T l0 cr0_ inn0_ k10_ k20_ k30_ k40_ z0_) (hI0_ : zLI cr0_ k10_ k30_) (hz1_ : bLand T l1 cr1_ inn1_ k11_ k21_ k31_ k41_ z1_) (hI1_ : zLI cr1_ k11_ k31_) (hr_ : bTrail T tr tpo t1 t2 u0_ u1_ u2_ u3_ u4_ wr) (hrp : bPosts T tpo tpl tf1 tf2 tf3 tst twh wrp) : zMi l T yX11_cover cX11_cover 5 (some .int) 6 0 0 [.ref xo, .int i1, .int a_, .int w_] [[zO10 xo t im mk rd po co tr wa wb_ fi cd], wt, z0_, z1_, wr, wrp] (fun (r : Int32) bs => ∃ (t1_2 : Nat → Int32) (t2_2 : Nat → Int32) (u0__2 : Int32) (u1__2 : Int32) (u2__2 : Int32) (u3__2 : Int32) (u4__2 : Int32) (wr_2 : va_W) (tpl_2 : Nat) (tf1_2 : Nat → Int32) (tf2_2 : Nat → Int32) (tf3_2 : Nat → Int32) (tst_2 : Int32) (twh_2 : Int32) (wrp_2 : va_W), bs = [[zO10 xo t im mk rd po co tr wa wb_ fi cd], wt, z0_, z1_, wr_2, wrp_2] ∧ bTrail T tr tpo t1_2 t2_2 u0__2 u1__2 u2__2 u3__2 u4__2 wr_2 ∧ bPosts T tpo tpl_2 tf1_2 tf2_2 tf3_2 tst_2 twh_2 wrp_2) := by
  refine zMi_of (own := RX11) (by decide) rfl (Nat.le_of_ble_eq_true rfl) ?_
  intro p e s m args below meth c A ls C hr hlocks hnm hAe G hl
  refine zHide (fun Qz_ hQz_ => ?_)
  have hx := C.1
  have hb := C.2.1
  have hl : lv_has ls 5 [(0, .ref xo), (1, .int i1), (2, .int a_), (3, .int w_)] := hl
  refine lv_aload_n hx hb dX11_cover_0 rfl (lv_at hl 0 rfl) ?_
  refine z_get C G clX11 0 rfl 0 (by decide) m_fl_RX11_10 rfl dX11_cover_1 ?_
  refine lv_iload_n hx hb dX11_cover_4 rfl (lv_at hl 1 rfl) ?_
  refine z_Vq (bc := [wt]) (br := [[zO10 xo t im mk rd po co tr wa wb_ fi cd], z0_, z1_, wr, wrp]) (As := [.int i1]) (rest := []) C G (c_landAt l T t l0 l1 d0 d1 g0 g1 ln fl pl ft fk wt i1 ht) (kV_RX11_121 C.2.2.2.2 (Nat.le_of_ble_eq_true rfl) (Nat.le_of_ble_eq_true rfl)) [1] [1] rfl rfl (ci := 8) (qc := (RX9, TX9, 8)) rfl rfl (List.mem_flatten.mpr ⟨_, List.mem_of_getElem? (i := 0) rfl, (bTold_mem ht).choose_spec⟩) rfl rfl hl.1 dX11_cover_5 (Nat.le_of_ble_eq_true rfl) (Nat.le_of_ble_eq_true rfl) (fun r_2 b1 H locs hw G => ?_)
  refine zAn2 hw ?_
  intro hbs9 hc_1
  clear hw
  subst hbs9
  have G : zS T A s.heap s [[zO10 xo t im mk rd po co tr wa wb_ fi cd], z0_, z1_, wr, wrp, wt] _ _ := G
  rcases hc_1 with ⟨rfl, h_3⟩ | ⟨rfl, h_4, h_5⟩ | ⟨rfl, h_6, h_7⟩
  · have h_3 : (i1.toInt < 0 ∨ (fk 0).toInt ≤ i1.toInt ∨ 2 ≤ i1.toInt) := h_3
    refine lv_astoreN (lv' := [(4, .null), (0, .ref xo), (1, .int i1), (2, .int a_), (3, .int w_)]) hx hb dX11_cover_8 hl (by decide) (zLvf_h rfl) (fun ls hl => ?_)
    refine lv_aloadN hx hb dX11_cover_10 (lv_at hl 0 rfl) ?_
    refine lv_ifnullN (tgt := 24) hx hb dX11_cover_12 (by decide) ?_
    refine lv_bipush (v := (-2)) hx hb dX11_cover_24 (by decide) ?_
    have G := G.sub (bs' := [[zO10 xo t im mk rd po co tr wa wb_ fi cd], wt, z0_, z1_, wr, wrp]) [0, 5, 1, 2, 3, 4] rfl
    exact z_back hQz_ (z_iret C hr hlocks G (Nat.le_of_ble_eq_true rfl) (Nat.le_of_ble_eq_true rfl) dX11_cover_26 ⟨t1, t2, u0_, u1_, u2_, u3_, u4_, wr, tpl, tf1, tf2, tf3, tst, twh, wrp, rfl, hr_, hrp⟩)
  · have h_4 : i1.toInt = 0 := h_4
    have h_5 : 0 < (fk 0).toInt := h_5
    refine lv_astore (lv' := [(4, .ref l0), (0, .ref xo), (1, .int i1), (2, .int a_), (3, .int w_)]) hx hb dX11_cover_8 hl (by decide) (zLvf_h rfl) (fun ls hl => ?_)
    refine lv_aload hx hb dX11_cover_10 (lv_at hl 0 rfl) ?_
    refine lv_ifnull hx hb dX11_cover_12 ?_
    refine lv_aload hx hb dX11_cover_15 (lv_at hl 0 rfl) ?_
    refine lv_iload_n hx hb dX11_cover_17 rfl (lv_at hl 3 rfl) ?_
    refine z_Vi (bc := [z0_]) (br := [[zO10 xo t im mk rd po co tr wa wb_ fi cd], z1_, wr, wrp, wt]) (As := [.int a_]) (rest := []) C G (c_has l T l0 cr0_ inn0_ k10_ k20_ k30_ k40_ z0_ a_ hz0_) (kV_RX11_160 C.2.2.2.2 (Nat.le_of_ble_eq_true rfl) (Nat.le_of_ble_eq_true rfl)) [1] [1] rfl rfl (ci := 4) (qc := (RX4, TX4, 6)) rfl rfl (List.mem_flatten.mpr ⟨_, List.mem_of_getElem? (i := 0) rfl, (bLand_mem hz0_).choose_spec⟩) rfl rfl hl.1 dX11_cover_18 (Nat.le_of_ble_eq_true rfl) (Nat.le_of_ble_eq_true rfl) (fun r_9 b1 H locs hw G => ?_)
    refine zAn2 hw ?_
    intro hbs9 hc_8
    clear hw
    subst hbs9
    have G : zS T A s.heap s [[zO10 xo t im mk rd po co tr wa wb_ fi cd], z1_, wr, wrp, wt, z0_] _ _ := G
    rcases hc_8 with ⟨rfl, h_10, h_11, h_12⟩ | ⟨rfl, h_13⟩
    · have h_10 : 0 ≤ a_.toInt := h_10
      have h_11 : a_.toInt < cr0_.toInt := h_11
      have h_12 : a_.toInt < 7 := h_12
      refine lv_if_ne (tgt := 27) hx hb dX11_cover_21 (by decide) (fun _ => ?_) (fun q => absurd q (by decide))
      refine lv_aload_n hx hb dX11_cover_27 rfl (lv_at hl 1 rfl) ?_
      refine z_get C G clX11 0 rfl 6 (by decide) m_fl_RX11_48 rfl dX11_cover_28 ?_
      refine lv_aload hx hb dX11_cover_31 (lv_at hl 0 rfl) ?_
      refine lv_iload_n hx hb dX11_cover_33 rfl (lv_at hl 3 rfl) ?_
      refine z_Vv (bc := [wr, wrp, z0_]) (br := [[zO10 xo t im mk rd po co tr wa wb_ fi cd], z1_, wt]) (As := [.ref l0, .int a_]) (rest := []) C G (c_follow l T tr tpo t1 t2 u0_ u1_ u2_ u3_ u4_ wr tpl tf1 tf2 tf3 tst twh wrp l0 cr0_ inn0_ k10_ k20_ k30_ k40_ z0_ a_ hr_ hrp hz0_ (by first | with_reducible assumption | with_reducible rfl | omega | assumption | rfl)) (kV_RX11_164 C.2.2.2.2 (Nat.le_of_ble_eq_true rfl) (Nat.le_of_ble_eq_true rfl)) [2, 3, 5] [2, 0, 1] rfl rfl (ci := 9) (qc := (RX10, TX10, 8)) rfl rfl (List.mem_flatten.mpr ⟨_, List.mem_of_getElem? (i := 0) rfl, (bTrail_mem hr_).choose_spec⟩) rfl rfl hl.1 dX11_cover_34 (Nat.le_of_ble_eq_true rfl) (Nat.le_of_ble_eq_true rfl) (fun b1 H locs hw G => ?_)
      refine zEx14 hw ?_
      intro wt2_14 s1_15 s2_16 u0_17 u1_18 u2_19 u3_20 u4_21 wp2_22 g1_23 g2_24 g3_25 sa_26 wa_27
      refine zCu4 ?_
      intro hbs9 h_28 h_29 h_30
      clear hw
      subst hbs9
      have G : zS T A s.heap s [[zO10 xo t im mk rd po co tr wa wb_ fi cd], z1_, wt, wt2_14, wp2_22, z0_] _ _ := G
      refine lv_iload_n hx hb dX11_cover_37 rfl (lv_at hl 4 rfl) ?_
      by_cases c_32o : w_.toInt < 0 ∨ 3 < w_.toInt
      · refine lv_tableOut (tgt := 100) hx hb dX11_cover_38 c_32o (by decide) ?_
        refine lv_bipush (v := (-2)) hx hb dX11_cover_100 (by decide) ?_
        have G := G.sub (bs' := [[zO10 xo t im mk rd po co tr wa wb_ fi cd], wt, z0_, z1_, wt2_14, wp2_22]) [0, 2, 5, 1, 3, 4] rfl
        exact z_back hQz_ (z_iret C hr hlocks G (Nat.le_of_ble_eq_true rfl) (Nat.le_of_ble_eq_true rfl) dX11_cover_102 ⟨s1_15, s2_16, u0_17, u1_18, u2_19, u3_20, u4_21, wt2_14, l0, g1_23, g2_24, g3_25, sa_26, wa_27, wp2_22, rfl, h_28, h_29⟩)
      · have c_32r : w_.toInt = 0 ∨ w_.toInt = 1 ∨ w_.toInt = 2 ∨ w_.toInt = 3 := by omega
        rcases c_32r with c_32 | c_32 | c_32 | c_32
        · refine lv_tableIn (tgt := 68) hx hb dX11_cover_38 (by first | (rw [c_32]; decide) | omega) (by first | (rw [c_32]; decide) | omega) (by rw [c_32]; rfl) (by decide) ?_
          refine lv_aload_n hx hb dX11_cover_68 rfl (lv_at hl 1 rfl) ?_
          refine z_get C G clX11 0 rfl 6 (by decide) m_fl_RX11_48 rfl dX11_cover_69 ?_
          refine zEx2 h_28 ?_
          intro a1_33 a2_34 hbs9
          clear h_28
          subst hbs9
          have G : zS T A s.heap s [[zO10 xo t im mk rd po co tr wa wb_ fi cd], z1_, wt, [zO9 tr tpo a1_33 a2_34 u0_17 u1_18 u2_19 u3_20 u4_21], [zAr T 0 a1_33 7 s1_15], [zAr T 0 a2_34 7 s2_16], wp2_22, z0_] _ _ := G.re rfl
          refine z_get C G clX10 3 rfl 6 (by decide) m_fl_RX11_180 rfl dX11_cover_72 ?_
          have hw_35 : bTrail T tr tpo s1_15 s2_16 u0_17 u1_18 u2_19 u3_20 u4_21 [zO9 tr tpo a1_33 a2_34 u0_17 u1_18 u2_19 u3_20 u4_21, zAr T 0 a1_33 7 s1_15, zAr T 0 a2_34 7 s2_16] := ⟨a1_33, a2_34, rfl⟩
          have G : zS T A s.heap s [[zO10 xo t im mk rd po co tr wa wb_ fi cd], z1_, wt, [zO9 tr tpo a1_33 a2_34 u0_17 u1_18 u2_19 u3_20 u4_21, zAr T 0 a1_33 7 s1_15, zAr T 0 a2_34 7 s2_16], wp2_22, z0_] _ _ := G.re rfl
          have G := G.sub (bs' := [[zO10 xo t im mk rd po co tr wa wb_ fi cd], wt, z0_, z1_, [zO9 tr tpo a1_33 a2_34 u0_17 u1_18 u2_19 u3_20 u4_21, zAr T 0 a1_33 7 s1_15, zAr T 0 a2_34 7 s2_16], wp2_22]) [0, 2, 5, 1, 3, 4] rfl
          exact z_back hQz_ (z_iret C hr hlocks G (Nat.le_of_ble_eq_true rfl) (Nat.le_of_ble_eq_true rfl) dX11_cover_75 ⟨s1_15, s2_16, u0_17, u1_18, u2_19, u3_20, u4_21, ([zO9 tr tpo a1_33 a2_34 u0_17 u1_18 u2_19 u3_20 u4_21, zAr T 0 a1_33 7 s1_15, zAr T 0 a2_34 7 s2_16]), l0, g1_23, g2_24, g3_25, sa_26, wa_27, wp2_22, rfl, hw_35, h_29⟩)
        · refine lv_tableIn (tgt := 76) hx hb dX11_cover_38 (by first | (rw [c_32]; decide) | omega) (by first | (rw [c_32]; decide) | omega) (by rw [c_32]; rfl) (by decide) ?_
          refine lv_aload_n hx hb dX11_cover_76 rfl (lv_at hl 1 rfl) ?_
          refine z_get C G clX11 0 rfl 6 (by decide) m_fl_RX11_48 rfl dX11_cover_77 ?_
          refine zEx2 h_28 ?_
          intro a1_36 a2_37 hbs9
          clear h_28
          subst hbs9
          have G : zS T A s.heap s [[zO10 xo t im mk rd po co tr wa wb_ fi cd], z1_, wt, [zO9 tr tpo a1_36 a2_37 u0_17 u1_18 u2_19 u3_20 u4_21], [zAr T 0 a1_36 7 s1_15], [zAr T 0 a2_37 7 s2_16], wp2_22, z0_] _ _ := G.re rfl
          refine z_get C G clX10 3 rfl 7 (by decide) m_fl_RX11_183 rfl dX11_cover_80 ?_
          have hw_38 : bTrail T tr tpo s1_15 s2_16 u0_17 u1_18 u2_19 u3_20 u4_21 [zO9 tr tpo a1_36 a2_37 u0_17 u1_18 u2_19 u3_20 u4_21, zAr T 0 a1_36 7 s1_15, zAr T 0 a2_37 7 s2_16] := ⟨a1_36, a2_37, rfl⟩
          have G : zS T A s.heap s [[zO10 xo t im mk rd po co tr wa wb_ fi cd], z1_, wt, [zO9 tr tpo a1_36 a2_37 u0_17 u1_18 u2_19 u3_20 u4_21, zAr T 0 a1_36 7 s1_15, zAr T 0 a2_37 7 s2_16], wp2_22, z0_] _ _ := G.re rfl
          have G := G.sub (bs' := [[zO10 xo t im mk rd po co tr wa wb_ fi cd], wt, z0_, z1_, [zO9 tr tpo a1_36 a2_37 u0_17 u1_18 u2_19 u3_20 u4_21, zAr T 0 a1_36 7 s1_15, zAr T 0 a2_37 7 s2_16], wp2_22]) [0, 2, 5, 1, 3, 4] rfl
          exact z_back hQz_ (z_iret C hr hlocks G (Nat.le_of_ble_eq_true rfl) (Nat.le_of_ble_eq_true rfl) dX11_cover_83 ⟨s1_15, s2_16, u0_17, u1_18, u2_19, u3_20, u4_21, ([zO9 tr tpo a1_36 a2_37 u0_17 u1_18 u2_19 u3_20 u4_21, zAr T 0 a1_36 7 s1_15, zAr T 0 a2_37 7 s2_16]), l0, g1_23, g2_24, g3_25, sa_26, wa_27, wp2_22, rfl, hw_38, h_29⟩)
        · refine lv_tableIn (tgt := 84) hx hb dX11_cover_38 (by first | (rw [c_32]; decide) | omega) (by first | (rw [c_32]; decide) | omega) (by rw [c_32]; rfl) (by decide) ?_
          refine lv_aload_n hx hb dX11_cover_84 rfl (lv_at hl 1 rfl) ?_
          refine z_get C G clX11 0 rfl 6 (by decide) m_fl_RX11_48 rfl dX11_cover_85 ?_
          refine z_Vi (bc := [wt2_14, wp2_22, z0_]) (br := [[zO10 xo t im mk rd po co tr wa wb_ fi cd], z1_, wt]) (As := []) (rest := []) C G (c_unused l T tr tpo s1_15 s2_16 u0_17 u1_18 u2_19 u3_20 u4_21 wt2_14 l0 g1_23 g2_24 g3_25 sa_26 wa_27 wp2_22 cr0_ inn0_ k10_ k20_ k30_ k40_ z0_ h_28 h_29 hz0_ (by first | with_reducible assumption | with_reducible rfl | omega | assumption | rfl)) (kV_RX11_186 C.2.2.2.2 (Nat.le_of_ble_eq_true rfl) (Nat.le_of_ble_eq_true rfl)) [3, 4, 5] [3, 0, 0] rfl rfl (ci := 9) (qc := (RX10, TX10, 8)) rfl rfl (List.mem_flatten.mpr ⟨_, List.mem_of_getElem? (i := 0) rfl, (bTrail_mem h_28).choose_spec⟩) rfl rfl hl.1 dX11_cover_88 (Nat.le_of_ble_eq_true rfl) (Nat.le_of_ble_eq_true rfl) (fun r_39 b1 H locs hw G => ?_)
          obtain rfl := hw
          have G : zS T A s.heap s [[zO10 xo t im mk rd po co tr wa wb_ fi cd], z1_, wt, wt2_14, wp2_22, z0_] _ _ := G
          have G := G.sub (bs' := [[zO10 xo t im mk rd po co tr wa wb_ fi cd], wt, z0_, z1_, wt2_14, wp2_22]) [0, 2, 5, 1, 3, 4] rfl
          exact z_back hQz_ (z_iret C hr hlocks G (Nat.le_of_ble_eq_true rfl) (Nat.le_of_ble_eq_true rfl) dX11_cover_91 ⟨s1_15, s2_16, u0_17, u1_18, u2_19, u3_20, u4_21, wt2_14, l0, g1_23, g2_24, g3_25, sa_26, wa_27, wp2_22, rfl, h_28, h_29⟩)
        · refine lv_tableIn (tgt := 92) hx hb dX11_cover_38 (by first | (rw [c_32]; decide) | omega) (by first | (rw [c_32]; decide) | omega) (by rw [c_32]; rfl) (by decide) ?_
          refine lv_aload_n hx hb dX11_cover_92 rfl (lv_at hl 1 rfl) ?_
          refine z_get C G clX11 0 rfl 6 (by decide) m_fl_RX11_48 rfl dX11_cover_93 ?_
          refine z_Vi (bc := [wt2_14, wp2_22, z0_]) (br := [[zO10 xo t im mk rd po co tr wa wb_ fi cd], z1_, wt]) (As := []) (rest := []) C G (c_round l T tr tpo s1_15 s2_16 u0_17 u1_18 u2_19 u3_20 u4_21 wt2_14 l0 g1_23 g2_24 g3_25 sa_26 wa_27 wp2_22 cr0_ inn0_ k10_ k20_ k30_ k40_ z0_ h_28 h_29 hz0_ (by first | with_reducible assumption | with_reducible rfl | omega | assumption | rfl) (by first | with_reducible assumption | with_reducible rfl | omega | assumption | rfl)) (kV_RX11_190 C.2.2.2.2 (Nat.le_of_ble_eq_true rfl) (Nat.le_of_ble_eq_true rfl)) [3, 4, 5] [3, 0, 0] rfl rfl (ci := 9) (qc := (RX10, TX10, 8)) rfl rfl (List.mem_flatten.mpr ⟨_, List.mem_of_getElem? (i := 0) rfl, (bTrail_mem h_28).choose_spec⟩) rfl rfl hl.1 dX11_cover_96 (Nat.le_of_ble_eq_true rfl) (Nat.le_of_ble_eq_true rfl) (fun r_44 b1 H locs hw G => ?_)
          refine zEx2 hw ?_
          intro wp2_40 g1_41
          refine zCu3 ?_
          intro hbs9 h_42 h_43
          clear hw
          subst hbs9
          have G : zS T A s.heap s [[zO10 xo t im mk rd po co tr wa wb_ fi cd], z1_, wt, wt2_14, wp2_40, z0_] _ _ := G
          have G := G.sub (bs' := [[zO10 xo t im mk rd po co tr wa wb_ fi cd], wt, z0_, z1_, wt2_14, wp2_40]) [0, 2, 5, 1, 3, 4] rfl
          exact z_back hQz_ (z_iret C hr hlocks G (Nat.le_of_ble_eq_true rfl) (Nat.le_of_ble_eq_true rfl) dX11_cover_99 ⟨s1_15, s2_16, u0_17, u1_18, u2_19, u3_20, u4_21, wt2_14, l0, g1_41, g2_24, g3_25, sa_26, wa_27, wp2_40, rfl, h_28, h_42⟩)
    · have h_13 : (a_.toInt < 0 ∨ cr0_.toInt ≤ a_.toInt ∨ 7 ≤ a_.toInt) := h_13
      refine lv_if_ne (tgt := 27) hx hb dX11_cover_21 (by decide) (fun q => absurd (by decide) q) (fun _ => ?_)
      refine lv_bipush (v := (-2)) hx hb dX11_cover_24 (by decide) ?_
      have G := G.sub (bs' := [[zO10 xo t im mk rd po co tr wa wb_ fi cd], wt, z0_, z1_, wr, wrp]) [0, 4, 5, 1, 2, 3] rfl
      exact z_back hQz_ (z_iret C hr hlocks G (Nat.le_of_ble_eq_true rfl) (Nat.le_of_ble_eq_true rfl) dX11_cover_26 ⟨t1, t2, u0_, u1_, u2_, u3_, u4_, wr, tpl, tf1, tf2, tf3, tst, twh, wrp, rfl, hr_, hrp⟩)
  · have h_6 : i1.toInt = 1 := h_6
    have h_7 : 1 < (fk 0).toInt := h_7
    refine lv_astore (lv' := [(4, .ref l1), (0, .ref xo), (1, .int i1), (2, .int a_), (3, .int w_)]) hx hb dX11_cover_8 hl (by decide) (zLvf_h rfl) (fun ls hl => ?_)
    refine lv_aload hx hb dX11_cover_10 (lv_at hl 0 rfl) ?_
    refine lv_ifnull hx hb dX11_cover_12 ?_
    refine lv_aload hx hb dX11_cover_15 (lv_at hl 0 rfl) ?_
    refine lv_iload_n hx hb dX11_cover_17 rfl (lv_at hl 3 rfl) ?_
    refine z_Vi (bc := [z1_]) (br := [[zO10 xo t im mk rd po co tr wa wb_ fi cd], z0_, wr, wrp, wt]) (As := [.int a_]) (rest := []) C G (c_has l T l1 cr1_ inn1_ k11_ k21_ k31_ k41_ z1_ a_ hz1_) (kV_RX11_160 C.2.2.2.2 (Nat.le_of_ble_eq_true rfl) (Nat.le_of_ble_eq_true rfl)) [2] [2] rfl rfl (ci := 4) (qc := (RX4, TX4, 6)) rfl rfl (List.mem_flatten.mpr ⟨_, List.mem_of_getElem? (i := 0) rfl, (bLand_mem hz1_).choose_spec⟩) rfl rfl hl.1 dX11_cover_18 (Nat.le_of_ble_eq_true rfl) (Nat.le_of_ble_eq_true rfl) (fun r_46 b1 H locs hw G => ?_)
    refine zAn2 hw ?_
    intro hbs9 hc_45
    clear hw
    subst hbs9
    have G : zS T A s.heap s [[zO10 xo t im mk rd po co tr wa wb_ fi cd], z0_, wr, wrp, wt, z1_] _ _ := G
    rcases hc_45 with ⟨rfl, h_47, h_48, h_49⟩ | ⟨rfl, h_50⟩
    · have h_47 : 0 ≤ a_.toInt := h_47
      have h_48 : a_.toInt < cr1_.toInt := h_48
      have h_49 : a_.toInt < 7 := h_49
      refine lv_if_ne (tgt := 27) hx hb dX11_cover_21 (by decide) (fun _ => ?_) (fun q => absurd q (by decide))
      refine lv_aload_n hx hb dX11_cover_27 rfl (lv_at hl 1 rfl) ?_
      refine z_get C G clX11 0 rfl 6 (by decide) m_fl_RX11_48 rfl dX11_cover_28 ?_
      refine lv_aload hx hb dX11_cover_31 (lv_at hl 0 rfl) ?_
      refine lv_iload_n hx hb dX11_cover_33 rfl (lv_at hl 3 rfl) ?_
      refine z_Vv (bc := [wr, wrp, z1_]) (br := [[zO10 xo t im mk rd po co tr wa wb_ fi cd], z0_, wt]) (As := [.ref l1, .int a_]) (rest := []) C G (c_follow l T tr tpo t1 t2 u0_ u1_ u2_ u3_ u4_ wr tpl tf1 tf2 tf3 tst twh wrp l1 cr1_ inn1_ k11_ k21_ k31_ k41_ z1_ a_ hr_ hrp hz1_ (by first | with_reducible assumption | with_reducible rfl | omega | assumption | rfl)) (kV_RX11_164 C.2.2.2.2 (Nat.le_of_ble_eq_true rfl) (Nat.le_of_ble_eq_true rfl)) [2, 3, 5] [2, 0, 1] rfl rfl (ci := 9) (qc := (RX10, TX10, 8)) rfl rfl (List.mem_flatten.mpr ⟨_, List.mem_of_getElem? (i := 0) rfl, (bTrail_mem hr_).choose_spec⟩) rfl rfl hl.1 dX11_cover_34 (Nat.le_of_ble_eq_true rfl) (Nat.le_of_ble_eq_true rfl) (fun b1 H locs hw G => ?_)
      refine zEx14 hw ?_
      intro wt2_51 s1_52 s2_53 u0_54 u1_55 u2_56 u3_57 u4_58 wp2_59 g1_60 g2_61 g3_62 sa_63 wa_64
      refine zCu4 ?_
      intro hbs9 h_65 h_66 h_67
      clear hw
      subst hbs9
      have G : zS T A s.heap s [[zO10 xo t im mk rd po co tr wa wb_ fi cd], z0_, wt, wt2_51, wp2_59, z1_] _ _ := G
      refine lv_iload_n hx hb dX11_cover_37 rfl (lv_at hl 4 rfl) ?_
      by_cases c_69o : w_.toInt < 0 ∨ 3 < w_.toInt
      · refine lv_tableOut (tgt := 100) hx hb dX11_cover_38 c_69o (by decide) ?_
        refine lv_bipush (v := (-2)) hx hb dX11_cover_100 (by decide) ?_
        have G := G.sub (bs' := [[zO10 xo t im mk rd po co tr wa wb_ fi cd], wt, z0_, z1_, wt2_51, wp2_59]) [0, 2, 1, 5, 3, 4] rfl
        exact z_back hQz_ (z_iret C hr hlocks G (Nat.le_of_ble_eq_true rfl) (Nat.le_of_ble_eq_true rfl) dX11_cover_102 ⟨s1_52, s2_53, u0_54, u1_55, u2_56, u3_57, u4_58, wt2_51, l1, g1_60, g2_61, g3_62, sa_63, wa_64, wp2_59, rfl, h_65, h_66⟩)
      · have c_69r : w_.toInt = 0 ∨ w_.toInt = 1 ∨ w_.toInt = 2 ∨ w_.toInt = 3 := by omega
        rcases c_69r with c_69 | c_69 | c_69 | c_69
        · refine lv_tableIn (tgt := 68) hx hb dX11_cover_38 (by first | (rw [c_69]; decide) | omega) (by first | (rw [c_69]; decide) | omega) (by rw [c_69]; rfl) (by decide) ?_
          refine lv_aload_n hx hb dX11_cover_68 rfl (lv_at hl 1 rfl) ?_
          refine z_get C G clX11 0 rfl 6 (by decide) m_fl_RX11_48 rfl dX11_cover_69 ?_
          refine zEx2 h_65 ?_
          intro a1_70 a2_71 hbs9
          clear h_65
          subst hbs9
          have G : zS T A s.heap s [[zO10 xo t im mk rd po co tr wa wb_ fi cd], z0_, wt, [zO9 tr tpo a1_70 a2_71 u0_54 u1_55 u2_56 u3_57 u4_58], [zAr T 0 a1_70 7 s1_52], [zAr T 0 a2_71 7 s2_53], wp2_59, z1_] _ _ := G.re rfl
          refine z_get C G clX10 3 rfl 6 (by decide) m_fl_RX11_180 rfl dX11_cover_72 ?_
          have hw_72 : bTrail T tr tpo s1_52 s2_53 u0_54 u1_55 u2_56 u3_57 u4_58 [zO9 tr tpo a1_70 a2_71 u0_54 u1_55 u2_56 u3_57 u4_58, zAr T 0 a1_70 7 s1_52, zAr T 0 a2_71 7 s2_53] := ⟨a1_70, a2_71, rfl⟩
          have G : zS T A s.heap s [[zO10 xo t im mk rd po co tr wa wb_ fi cd], z0_, wt, [zO9 tr tpo a1_70 a2_71 u0_54 u1_55 u2_56 u3_57 u4_58, zAr T 0 a1_70 7 s1_52, zAr T 0 a2_71 7 s2_53], wp2_59, z1_] _ _ := G.re rfl
          have G := G.sub (bs' := [[zO10 xo t im mk rd po co tr wa wb_ fi cd], wt, z0_, z1_, [zO9 tr tpo a1_70 a2_71 u0_54 u1_55 u2_56 u3_57 u4_58, zAr T 0 a1_70 7 s1_52, zAr T 0 a2_71 7 s2_53], wp2_59]) [0, 2, 1, 5, 3, 4] rfl
          exact z_back hQz_ (z_iret C hr hlocks G (Nat.le_of_ble_eq_true rfl) (Nat.le_of_ble_eq_true rfl) dX11_cover_75 ⟨s1_52, s2_53, u0_54, u1_55, u2_56, u3_57, u4_58, ([zO9 tr tpo a1_70 a2_71 u0_54 u1_55 u2_56 u3_57 u4_58, zAr T 0 a1_70 7 s1_52, zAr T 0 a2_71 7 s2_53]), l1, g1_60, g2_61, g3_62, sa_63, wa_64, wp2_59, rfl, hw_72, h_66⟩)
        · refine lv_tableIn (tgt := 76) hx hb dX11_cover_38 (by first | (rw [c_69]; decide) | omega) (by first | (rw [c_69]; decide) | omega) (by rw [c_69]; rfl) (by decide) ?_
          refine lv_aload_n hx hb dX11_cover_76 rfl (lv_at hl 1 rfl) ?_
          refine z_get C G clX11 0 rfl 6 (by decide) m_fl_RX11_48 rfl dX11_cover_77 ?_
          refine zEx2 h_65 ?_
          intro a1_73 a2_74 hbs9
          clear h_65
          subst hbs9
          have G : zS T A s.heap s [[zO10 xo t im mk rd po co tr wa wb_ fi cd], z0_, wt, [zO9 tr tpo a1_73 a2_74 u0_54 u1_55 u2_56 u3_57 u4_58], [zAr T 0 a1_73 7 s1_52], [zAr T 0 a2_74 7 s2_53], wp2_59, z1_] _ _ := G.re rfl
          refine z_get C G clX10 3 rfl 7 (by decide) m_fl_RX11_183 rfl dX11_cover_80 ?_
          have hw_75 : bTrail T tr tpo s1_52 s2_53 u0_54 u1_55 u2_56 u3_57 u4_58 [zO9 tr tpo a1_73 a2_74 u0_54 u1_55 u2_56 u3_57 u4_58, zAr T 0 a1_73 7 s1_52, zAr T 0 a2_74 7 s2_53] := ⟨a1_73, a2_74, rfl⟩
          have G : zS T A s.heap s [[zO10 xo t im mk rd po co tr wa wb_ fi cd], z0_, wt, [zO9 tr tpo a1_73 a2_74 u0_54 u1_55 u2_56 u3_57 u4_58, zAr T 0 a1_73 7 s1_52, zAr T 0 a2_74 7 s2_53], wp2_59, z1_] _ _ := G.re rfl
          have G := G.sub (bs' := [[zO10 xo t im mk rd po co tr wa wb_ fi cd], wt, z0_, z1_, [zO9 tr tpo a1_73 a2_74 u0_54 u1_55 u2_56 u3_57 u4_58, zAr T 0 a1_73 7 s1_52, zAr T 0 a2_74 7 s2_53], wp2_59]) [0, 2, 1, 5, 3, 4] rfl
          exact z_back hQz_ (z_iret C hr hlocks G (Nat.le_of_ble_eq_true rfl) (Nat.le_of_ble_eq_true rfl) dX11_cover_83 ⟨s1_52, s2_53, u0_54, u1_55, u2_56, u3_57, u4_58, ([zO9 tr tpo a1_73 a2_74 u0_54 u1_55 u2_56 u3_57 u4_58, zAr T 0 a1_73 7 s1_52, zAr T 0 a2_74 7 s2_53]), l1, g1_60, g2_61, g3_62, sa_63, wa_64, wp2_59, rfl, hw_75, h_66⟩)
        · refine lv_tableIn (tgt := 84) hx hb dX11_cover_38 (by first | (rw [c_69]; decide) | omega) (by first | (rw [c_69]; decide) | omega) (by rw [c_69]; rfl) (by decide) ?_
          refine lv_aload_n hx hb dX11_cover_84 rfl (lv_at hl 1 rfl) ?_
          refine z_get C G clX11 0 rfl 6 (by decide) m_fl_RX11_48 rfl dX11_cover_85 ?_
          refine z_Vi (bc := [wt2_51, wp2_59, z1_]) (br := [[zO10 xo t im mk rd po co tr wa wb_ fi cd], z0_, wt]) (As := []) (rest := []) C G (c_unused l T tr tpo s1_52 s2_53 u0_54 u1_55 u2_56 u3_57 u4_58 wt2_51 l1 g1_60 g2_61 g3_62 sa_63 wa_64 wp2_59 cr1_ inn1_ k11_ k21_ k31_ k41_ z1_ h_65 h_66 hz1_ (by first | with_reducible assumption | with_reducible rfl | omega | assumption | rfl)) (kV_RX11_186 C.2.2.2.2 (Nat.le_of_ble_eq_true rfl) (Nat.le_of_ble_eq_true rfl)) [3, 4, 5] [3, 0, 0] rfl rfl (ci := 9) (qc := (RX10, TX10, 8)) rfl rfl (List.mem_flatten.mpr ⟨_, List.mem_of_getElem? (i := 0) rfl, (bTrail_mem h_65).choose_spec⟩) rfl rfl hl.1 dX11_cover_88 (Nat.le_of_ble_eq_true rfl) (Nat.le_of_ble_eq_true rfl) (fun r_76 b1 H locs hw G => ?_)
          obtain rfl := hw
          have G : zS T A s.heap s [[zO10 xo t im mk rd po co tr wa wb_ fi cd], z0_, wt, wt2_51, wp2_59, z1_] _ _ := G
          have G := G.sub (bs' := [[zO10 xo t im mk rd po co tr wa wb_ fi cd], wt, z0_, z1_, wt2_51, wp2_59]) [0, 2, 1, 5, 3, 4] rfl
          exact z_back hQz_ (z_iret C hr hlocks G (Nat.le_of_ble_eq_true rfl) (Nat.le_of_ble_eq_true rfl) dX11_cover_91 ⟨s1_52, s2_53, u0_54, u1_55, u2_56, u3_57, u4_58, wt2_51, l1, g1_60, g2_61, g3_62, sa_63, wa_64, wp2_59, rfl, h_65, h_66⟩)
        · refine lv_tableIn (tgt := 92) hx hb dX11_cover_38 (by first | (rw [c_69]; decide) | omega) (by first | (rw [c_69]; decide) | omega) (by rw [c_69]; rfl) (by decide) ?_
          refine lv_aload_n hx hb dX11_cover_92 rfl (lv_at hl 1 rfl) ?_
          refine z_get C G clX11 0 rfl 6 (by decide) m_fl_RX11_48 rfl dX11_cover_93 ?_
          refine z_Vi (bc := [wt2_51, wp2_59, z1_]) (br := [[zO10 xo t im mk rd po co tr wa wb_ fi cd], z0_, wt]) (As := []) (rest := []) C G (c_round l T tr tpo s1_52 s2_53 u0_54 u1_55 u2_56 u3_57 u4_58 wt2_51 l1 g1_60 g2_61 g3_62 sa_63 wa_64 wp2_59 cr1_ inn1_ k11_ k21_ k31_ k41_ z1_ h_65 h_66 hz1_ (by first | with_reducible assumption | with_reducible rfl | omega | assumption | rfl) (by first | with_reducible assumption | with_reducible rfl | omega | assumption | rfl)) (kV_RX11_190 C.2.2.2.2 (Nat.le_of_ble_eq_true rfl) (Nat.le_of_ble_eq_true rfl)) [3, 4, 5] [3, 0, 0] rfl rfl (ci := 9) (qc := (RX10, TX10, 8)) rfl rfl (List.mem_flatten.mpr ⟨_, List.mem_of_getElem? (i := 0) rfl, (bTrail_mem h_65).choose_spec⟩) rfl rfl hl.1 dX11_cover_96 (Nat.le_of_ble_eq_true rfl) (Nat.le_of_ble_eq_true rfl) (fun r_81 b1 H locs hw G => ?_)
          refine zEx2 hw ?_
          intro wp2_77 g1_78
          refine zCu3 ?_
          intro hbs9 h_79 h_80
          clear hw
          subst hbs9
          have G : zS T A s.heap s [[zO10 xo t im mk rd po co tr wa wb_ fi cd], z0_, wt, wt2_51, wp2_77, z1_] _ _ := G
          have G := G.sub (bs' := [[zO10 xo t im mk rd po co tr wa wb_ fi cd], wt, z0_, z1_, wt2_51, wp2_77]) [0, 2, 1, 5, 3, 4] rfl
          exact z_back hQz_ (z_iret C hr hlocks G (Nat.le_of_ble_eq_true rfl) (Nat.le_of_ble_eq_true rfl) dX11_cover_99 ⟨s1_52, s2_53, u0_54, u1_55, u2_56, u3_57, u4_58, wt2_51, l1, g1_78, g2_61, g3_62, sa_63, wa_64, wp2_77, rfl, h_65, h_79⟩)
    · have h_50 : (a_.toInt < 0 ∨ cr1_.toInt ≤ a_.toInt ∨ 7 ≤ a_.toInt) := h_50
      refine lv_if_ne (tgt := 27) hx hb dX11_cover_21 (by decide) (fun q => absurd (by decide) q) (fun _ => ?_)
      refine lv_bipush (v := (-2)) hx hb dX11_cover_24 (by decide) ?_
      have G := G.sub (bs' := [[zO10 xo t im mk rd po co tr wa wb_ fi cd], wt, z0_, z1_, wr, wrp]) [0, 4, 1, 5, 2, 3] rfl
      exact z_back hQz_ (z_iret C hr hlocks G (Nat.le_of_ble_eq_true rfl) (Nat.le_of_ble_eq_true rfl) dX11_cover_26 ⟨t1, t2, u0_, u1_, u2_, u3_, u4_, wr, tpl, tf1, tf2, tf3, tst, twh, wrp, rfl, hr_, hrp⟩)
set_option maxHeartbeats 4000000 in
set_option maxRecDepth 100000 in
/-- c_endOf -/
theorem c_endOf (l : Launch) (T : zTy) (xo : Nat) (t : Nat) (im : Nat) (mk : Nat) (rd : Nat) (po : Nat) (co : Nat) (tr : Nat) (wa : Nat) (wb_ : Nat) (fi : Nat) (cd : Nat) (l0 : Nat) (l1 : Nat) (d0 : Nat) (d1 : Nat) (g0 : Nat) (g1 : Nat) (ln : Int32) (fl : Int32) (pl : Int32) (ft : Nat → Int32) (fk : Nat → Int32) (wt : va_W) (cr0_ : Int32) (inn0_ : Int32) (k10_ : Nat → Int32) (k20_ : Nat → Int32) (k30_ : Nat → Int32) (k40_ : Nat → Int32) (z0_ : va_W) (cr1_ : Int32) (inn1_ : Int32) (k11_ : Nat → Int32) (k21_ : Nat → Int32) (k31_ : Nat → Int32) (k41_ : Nat → Int32) (z1_ : va_W) (cpo : Nat) (cla : Nat) (cfw : Nat → Int32) (v0 : Int32) (v1 : Int32) (v2 : Int32) (v3 : Int32) (v4 : Int32) (v5 : Int32) (v6 : Int32) (v7 : Int32) (wc : va_W) (cpl : Nat) (cf1 : Nat → Int32) (cf2 : Nat → Int32) (cf3 : Nat → Int32) (cst : Int32) (cwh : Int32) (wcp : va_W) (i1 : Int32) (w_ : Int32) (ht : bTold T t l0 l1 d0 d1 g0 g1 ln fl pl ft fk wt) (hK : zKT fk) (hz0_ : bLand T l0 cr0_ inn0_ k10_ k20_ k30_ k40_ z0_) (hI0_ : zLI cr0_ k10_ k30_) (hz1_ : bLand T l1 cr1_ inn1_ k11_ k21_ k31_ k41_ z1_) (hI1_ : zLI cr1_ k11_ k31_) (hc : bCourse T co cpo cla cfw v0 v1 v2 v3 v4 v5 v6 v7 wc) (hcp : bPosts T cpo cpl cf1 cf2 cf3 cst cwh wcp) : zMi l T yX11_endOf cX11_endOf 4 (some .int) 8 0 0 [.ref xo, .int i1, .int w_] [[zO10 xo t im mk rd po co tr wa wb_ fi cd], wt, z0_, z1_, wc, wcp] (fun (r : Int32) bs => ∃ (cla_2 : Nat) (cfw_2 : Nat → Int32) (v0_2 : Int32) (v1_2 : Int32) (v2_2 : Int32) (v3_2 : Int32) (v4_2 : Int32) (v5_2 : Int32) (v6_2 : Int32) (v7_2 : Int32) (wc_2 : va_W) (cpl_2 : Nat) (cf1_2 : Nat → Int32) (cf2_2 : Nat → Int32) (cf3_2 : Nat → Int32) (cst_2 : Int32) (cwh_2 : Int32) (wcp_2 : va_W), bs = [[zO10 xo t im mk rd po co tr wa wb_ fi cd], wt, z0_, z1_, wc_2, wcp_2] ∧ bCourse T co cpo cla_2 cfw_2 v0_2 v1_2 v2_2 v3_2 v4_2 v5_2 v6_2 v7_2 wc_2 ∧ bPosts T cpo cpl_2 cf1_2 cf2_2 cf3_2 cst_2 cwh_2 wcp_2) := by
  refine zMi_of (own := RX11) (by decide) rfl (Nat.le_of_ble_eq_true rfl) ?_
  intro p e s m args below meth c A ls C hr hlocks hnm hAe G hl
  refine zHide (fun Qz_ hQz_ => ?_)
  have hx := C.1
  have hb := C.2.1
  have hl : lv_has ls 4 [(0, .ref xo), (1, .int i1), (2, .int w_)] := hl
  refine lv_aload_n hx hb dX11_endOf_0 rfl (lv_at hl 0 rfl) ?_
  refine z_get C G clX11 0 rfl 0 (by decide) m_fl_RX11_10 rfl dX11_endOf_1 ?_
  refine lv_iload_n hx hb dX11_endOf_4 rfl (lv_at hl 1 rfl) ?_
  refine z_Vq (bc := [wt]) (br := [[zO10 xo t im mk rd po co tr wa wb_ fi cd], z0_, z1_, wc, wcp]) (As := [.int i1]) (rest := []) C G (c_landAt l T t l0 l1 d0 d1 g0 g1 ln fl pl ft fk wt i1 ht) (kV_RX11_121 C.2.2.2.2 (Nat.le_of_ble_eq_true rfl) (Nat.le_of_ble_eq_true rfl)) [1] [1] rfl rfl (ci := 8) (qc := (RX9, TX9, 8)) rfl rfl (List.mem_flatten.mpr ⟨_, List.mem_of_getElem? (i := 0) rfl, (bTold_mem ht).choose_spec⟩) rfl rfl hl.1 dX11_endOf_5 (Nat.le_of_ble_eq_true rfl) (Nat.le_of_ble_eq_true rfl) (fun r_2 b1 H locs hw G => ?_)
  refine zAn2 hw ?_
  intro hbs9 hc_1
  clear hw
  subst hbs9
  have G : zS T A s.heap s [[zO10 xo t im mk rd po co tr wa wb_ fi cd], z0_, z1_, wc, wcp, wt] _ _ := G
  rcases hc_1 with ⟨rfl, h_3⟩ | ⟨rfl, h_4, h_5⟩ | ⟨rfl, h_6, h_7⟩
  · have h_3 : (i1.toInt < 0 ∨ (fk 0).toInt ≤ i1.toInt ∨ 2 ≤ i1.toInt) := h_3
    refine lv_astore_nN (lv' := [(3, .null), (0, .ref xo), (1, .int i1), (2, .int w_)]) hx hb dX11_endOf_8 rfl hl (by decide) (zLvf_h rfl) (fun ls hl => ?_)
    refine lv_aload_nN hx hb dX11_endOf_9 rfl (lv_at hl 0 rfl) ?_
    refine lv_ifnonnullN hx hb dX11_endOf_10 ?_
    refine lv_bipush (v := (-2)) hx hb dX11_endOf_13 (by decide) ?_
    have G := G.sub (bs' := [[zO10 xo t im mk rd po co tr wa wb_ fi cd], wt, z0_, z1_, wc, wcp]) [0, 5, 1, 2, 3, 4] rfl
    exact z_back hQz_ (z_iret C hr hlocks G (Nat.le_of_ble_eq_true rfl) (Nat.le_of_ble_eq_true rfl) dX11_endOf_15 ⟨cla, cfw, v0, v1, v2, v3, v4, v5, v6, v7, wc, cpl, cf1, cf2, cf3, cst, cwh, wcp, rfl, hc, hcp⟩)
  · have h_4 : i1.toInt = 0 := h_4
    have h_5 : 0 < (fk 0).toInt := h_5
    refine lv_astore_n (lv' := [(3, .ref l0), (0, .ref xo), (1, .int i1), (2, .int w_)]) hx hb dX11_endOf_8 rfl hl (by decide) (zLvf_h rfl) (fun ls hl => ?_)
    refine lv_aload_n hx hb dX11_endOf_9 rfl (lv_at hl 0 rfl) ?_
    refine lv_ifnonnull (tgt := 16) hx hb dX11_endOf_10 (by decide) ?_
    refine lv_aload_n hx hb dX11_endOf_16 rfl (lv_at hl 1 rfl) ?_
    refine z_get C G clX11 0 rfl 5 (by decide) m_fl_RX11_41 rfl dX11_endOf_17 ?_
    refine lv_aload_n hx hb dX11_endOf_20 rfl (lv_at hl 0 rfl) ?_
    refine z_Vv (bc := [wc, wcp, z0_]) (br := [[zO10 xo t im mk rd po co tr wa wb_ fi cd], z1_, wt]) (As := [.ref l0]) (rest := []) C G (c_goAll l T co cpo cla cfw v0 v1 v2 v3 v4 v5 v6 v7 wc cpl cf1 cf2 cf3 cst cwh wcp l0 cr0_ inn0_ k10_ k20_ k30_ k40_ z0_ hc hcp hz0_ (by first | with_reducible assumption | with_reducible rfl | omega | assumption | rfl)) (kV_RX11_193 C.2.2.2.2 (Nat.le_of_ble_eq_true rfl) (Nat.le_of_ble_eq_true rfl)) [3, 4, 1] [1, 1, 0] rfl rfl (ci := 1) (qc := (RX1, TX1, 11)) rfl rfl (List.mem_flatten.mpr ⟨_, List.mem_of_getElem? (i := 0) rfl, (bCourse_mem hc).choose_spec⟩) rfl rfl hl.1 dX11_endOf_21 (Nat.le_of_ble_eq_true rfl) (Nat.le_of_ble_eq_true rfl) (fun b1 H locs hw G => ?_)
    refine zEx16 hw ?_
    intro wc2_8 gw_9 u0_10 u1_11 u2_12 u3_13 u4_14 u5_15 u6_16 u7_17 wp2_18 g1_19 g2_20 g3_21 sa_22 wa_23
    refine zCu4 ?_
    intro hbs9 h_24 h_25 h_26
    clear hw
    subst hbs9
    have G : zS T A s.heap s [[zO10 xo t im mk rd po co tr wa wb_ fi cd], z1_, wt, wc2_8, wp2_18, z0_] _ _ := G
    refine lv_iload_n hx hb dX11_endOf_24 rfl (lv_at hl 3 rfl) ?_
    refine lv_if_ne (tgt := 36) hx hb dX11_endOf_25 (by decide) (fun c_28 => ?_) (fun c_28 => ?_)
    · have c_28n : ¬ w_.toInt = (0 : Int) := fun q => c_28 ((fa_eq _ _).mpr q)
      refine lv_aload_n hx hb dX11_endOf_36 rfl (lv_at hl 0 rfl) ?_
      refine lv_iload_n hx hb dX11_endOf_37 rfl (lv_at hl 3 rfl) ?_
      refine lv_bipush (v := 10) hx hb dX11_endOf_38 (by decide) ?_
      refine lv_isub hx hb dX11_endOf_40 ?_
      refine z_Vi (bc := [z0_]) (br := [[zO10 xo t im mk rd po co tr wa wb_ fi cd], z1_, wt, wc2_8, wp2_18]) (As := [.int (w_ - 10)]) (rest := []) C G (c_has l T l0 cr0_ inn0_ k10_ k20_ k30_ k40_ z0_ (w_ - 10) hz0_) (kV_RX11_160 C.2.2.2.2 (Nat.le_of_ble_eq_true rfl) (Nat.le_of_ble_eq_true rfl)) [5] [5] rfl rfl (ci := 4) (qc := (RX4, TX4, 6)) rfl rfl (List.mem_flatten.mpr ⟨_, List.mem_of_getElem? (i := 0) rfl, (bLand_mem hz0_).choose_spec⟩) rfl rfl hl.1 dX11_endOf_41 (Nat.le_of_ble_eq_true rfl) (Nat.le_of_ble_eq_true rfl) (fun r_30 b1 H locs hw G => ?_)
      refine zAn2 hw ?_
      intro hbs9 hc_29
      clear hw
      subst hbs9
      have G : zS T A s.heap s [[zO10 xo t im mk rd po co tr wa wb_ fi cd], z1_, wt, wc2_8, wp2_18, z0_] _ _ := G
      rcases hc_29 with ⟨rfl, h_31, h_32, h_33⟩ | ⟨rfl, h_34⟩
      · have h_31 : 0 ≤ (w_ - 10).toInt := h_31
        have h_32 : (w_ - 10).toInt < cr0_.toInt := h_32
        have h_33 : (w_ - 10).toInt < 7 := h_33
        refine lv_if_eq (tgt := 60) hx hb dX11_endOf_44 (by decide) (fun q => absurd q (by decide)) (fun _ => ?_)
        refine lv_aload_n hx hb dX11_endOf_47 rfl (lv_at hl 1 rfl) ?_
        refine z_get C G clX11 0 rfl 5 (by decide) m_fl_RX11_41 rfl dX11_endOf_48 ?_
        refine zEx1 h_24 ?_
        intro a1_35 hbs9
        clear h_24
        subst hbs9
        have G : zS T A s.heap s [[zO10 xo t im mk rd po co tr wa wb_ fi cd], z1_, wt, [zO1 co cpo a1_35 u0_10 l0 u1_11 u2_12 u3_13 u4_14 u5_15 u6_16 u7_17], [zAr T 0 a1_35 7 gw_9], wp2_18, z0_] _ _ := G.re rfl
        refine z_get C G clX1 3 rfl 1 (by decide) m_fl_RX11_198 rfl dX11_endOf_51 ?_
        refine lv_iload_n hx hb dX11_endOf_54 rfl (lv_at hl 3 rfl) ?_
        refine lv_bipush (v := 10) hx hb dX11_endOf_55 (by decide) ?_
        refine lv_isub hx hb dX11_endOf_57 ?_
        refine z_ild C G 4 rfl (vp_in_iff.mpr ⟨by omega, by omega⟩) dX11_endOf_58 ?_
        refine lv_topi (fun v_36 ev_36 => ?_)
        subst ev_36
        have hw_37 : bCourse T co cpo l0 gw_9 u0_10 u1_11 u2_12 u3_13 u4_14 u5_15 u6_16 u7_17 [zO1 co cpo a1_35 u0_10 l0 u1_11 u2_12 u3_13 u4_14 u5_15 u6_16 u7_17, zAr T 0 a1_35 7 gw_9] := ⟨a1_35, rfl⟩
        have G : zS T A s.heap s [[zO10 xo t im mk rd po co tr wa wb_ fi cd], z1_, wt, [zO1 co cpo a1_35 u0_10 l0 u1_11 u2_12 u3_13 u4_14 u5_15 u6_16 u7_17, zAr T 0 a1_35 7 gw_9], wp2_18, z0_] _ _ := G.re rfl
        have G := G.sub (bs' := [[zO10 xo t im mk rd po co tr wa wb_ fi cd], wt, z0_, z1_, [zO1 co cpo a1_35 u0_10 l0 u1_11 u2_12 u3_13 u4_14 u5_15 u6_16 u7_17, zAr T 0 a1_35 7 gw_9], wp2_18]) [0, 2, 5, 1, 3, 4] rfl
        exact z_back hQz_ (z_iret C hr hlocks G (Nat.le_of_ble_eq_true rfl) (Nat.le_of_ble_eq_true rfl) dX11_endOf_59 ⟨l0, gw_9, u0_10, u1_11, u2_12, u3_13, u4_14, u5_15, u6_16, u7_17, ([zO1 co cpo a1_35 u0_10 l0 u1_11 u2_12 u3_13 u4_14 u5_15 u6_16 u7_17, zAr T 0 a1_35 7 gw_9]), l0, g1_19, g2_20, g3_21, sa_22, wa_23, wp2_18, rfl, hw_37, h_25⟩)
      · have h_34 : ((w_ - 10).toInt < 0 ∨ cr0_.toInt ≤ (w_ - 10).toInt ∨ 7 ≤ (w_ - 10).toInt) := h_34
        refine lv_if_eq (tgt := 60) hx hb dX11_endOf_44 (by decide) (fun _ => ?_) (fun q => absurd (by decide) q)
        refine lv_aload_n hx hb dX11_endOf_60 rfl (lv_at hl 0 rfl) ?_
        refine lv_iload_n hx hb dX11_endOf_61 rfl (lv_at hl 3 rfl) ?_
        refine lv_bipush (v := 20) hx hb dX11_endOf_62 (by decide) ?_
        refine lv_isub hx hb dX11_endOf_64 ?_
        refine z_Vi (bc := [z0_]) (br := [[zO10 xo t im mk rd po co tr wa wb_ fi cd], z1_, wt, wc2_8, wp2_18]) (As := [.int (w_ - 20)]) (rest := []) C G (c_has l T l0 cr0_ inn0_ k10_ k20_ k30_ k40_ z0_ (w_ - 20) hz0_) (kV_RX11_160 C.2.2.2.2 (Nat.le_of_ble_eq_true rfl) (Nat.le_of_ble_eq_true rfl)) [5] [5] rfl rfl (ci := 4) (qc := (RX4, TX4, 6)) rfl rfl (List.mem_flatten.mpr ⟨_, List.mem_of_getElem? (i := 0) rfl, (bLand_mem hz0_).choose_spec⟩) rfl rfl hl.1 dX11_endOf_65 (Nat.le_of_ble_eq_true rfl) (Nat.le_of_ble_eq_true rfl) (fun r_39 b1 H locs hw G => ?_)
        refine zAn2 hw ?_
        intro hbs9 hc_38
        clear hw
        subst hbs9
        have G : zS T A s.heap s [[zO10 xo t im mk rd po co tr wa wb_ fi cd], z1_, wt, wc2_8, wp2_18, z0_] _ _ := G
        rcases hc_38 with ⟨rfl, h_40, h_41, h_42⟩ | ⟨rfl, h_43⟩
        · have h_40 : 0 ≤ (w_ - 20).toInt := h_40
          have h_41 : (w_ - 20).toInt < cr0_.toInt := h_41
          have h_42 : (w_ - 20).toInt < 7 := h_42
          refine lv_if_eq (tgt := 89) hx hb dX11_endOf_68 (by decide) (fun q => absurd q (by decide)) (fun _ => ?_)
          refine lv_aload_n hx hb dX11_endOf_71 rfl (lv_at hl 1 rfl) ?_
          refine z_get C G clX11 0 rfl 5 (by decide) m_fl_RX11_41 rfl dX11_endOf_72 ?_
          refine zEx1 h_24 ?_
          intro a1_44 hbs9
          clear h_24
          subst hbs9
          have G : zS T A s.heap s [[zO10 xo t im mk rd po co tr wa wb_ fi cd], z1_, wt, [zO1 co cpo a1_44 u0_10 l0 u1_11 u2_12 u3_13 u4_14 u5_15 u6_16 u7_17], [zAr T 0 a1_44 7 gw_9], wp2_18, z0_] _ _ := G.re rfl
          refine z_get C G clX1 3 rfl 0 (by decide) m_fl_RX11_201 rfl dX11_endOf_75 ?_
          refine zEx3 h_25 ?_
          intro a1_45 a2_46 a3_47 hbs9
          clear h_25
          subst hbs9
          have G : zS T A s.heap s [[zO10 xo t im mk rd po co tr wa wb_ fi cd], z1_, wt, [zO1 co cpo a1_44 u0_10 l0 u1_11 u2_12 u3_13 u4_14 u5_15 u6_16 u7_17], [zAr T 0 a1_44 7 gw_9], [zO6 cpo l0 a1_45 a2_46 sa_22 wa_23 a3_47], [zAr T 0 a1_45 7 g1_19], [zAr T 0 a2_46 7 g2_20], [zAr T 0 a3_47 7 g3_21], z0_] _ _ := G.re rfl
          refine z_get C G clX6 5 rfl 1 (by decide) m_fl_RX11_202 rfl dX11_endOf_78 ?_
          refine lv_iload_n hx hb dX11_endOf_81 rfl (lv_at hl 3 rfl) ?_
          refine lv_bipush (v := 20) hx hb dX11_endOf_82 (by decide) ?_
          refine lv_isub hx hb dX11_endOf_84 ?_
          refine z_ild C G 6 rfl (vp_in_iff.mpr ⟨by omega, by omega⟩) dX11_endOf_85 ?_
          refine lv_topi (fun v_48 ev_48 => ?_)
          subst ev_48
          refine lv_goto (tgt := 91) hx hb dX11_endOf_86 (by decide) ?_
          have hw_49 : bCourse T co cpo l0 gw_9 u0_10 u1_11 u2_12 u3_13 u4_14 u5_15 u6_16 u7_17 [zO1 co cpo a1_44 u0_10 l0 u1_11 u2_12 u3_13 u4_14 u5_15 u6_16 u7_17, zAr T 0 a1_44 7 gw_9] := ⟨a1_44, rfl⟩
          have G : zS T A s.heap s [[zO10 xo t im mk rd po co tr wa wb_ fi cd], z1_, wt, [zO1 co cpo a1_44 u0_10 l0 u1_11 u2_12 u3_13 u4_14 u5_15 u6_16 u7_17, zAr T 0 a1_44 7 gw_9], [zO6 cpo l0 a1_45 a2_46 sa_22 wa_23 a3_47], [zAr T 0 a1_45 7 g1_19], [zAr T 0 a2_46 7 g2_20], [zAr T 0 a3_47 7 g3_21], z0_] _ _ := G.re rfl
          have hw_50 : bPosts T cpo l0 g1_19 g2_20 g3_21 sa_22 wa_23 [zO6 cpo l0 a1_45 a2_46 sa_22 wa_23 a3_47, zAr T 0 a1_45 7 g1_19, zAr T 0 a2_46 7 g2_20, zAr T 0 a3_47 7 g3_21] := ⟨a1_45, a2_46, a3_47, rfl⟩
          have G : zS T A s.heap s [[zO10 xo t im mk rd po co tr wa wb_ fi cd], z1_, wt, [zO1 co cpo a1_44 u0_10 l0 u1_11 u2_12 u3_13 u4_14 u5_15 u6_16 u7_17, zAr T 0 a1_44 7 gw_9], [zO6 cpo l0 a1_45 a2_46 sa_22 wa_23 a3_47, zAr T 0 a1_45 7 g1_19, zAr T 0 a2_46 7 g2_20, zAr T 0 a3_47 7 g3_21], z0_] _ _ := G.re rfl
          have G := G.sub (bs' := [[zO10 xo t im mk rd po co tr wa wb_ fi cd], wt, z0_, z1_, [zO1 co cpo a1_44 u0_10 l0 u1_11 u2_12 u3_13 u4_14 u5_15 u6_16 u7_17, zAr T 0 a1_44 7 gw_9], [zO6 cpo l0 a1_45 a2_46 sa_22 wa_23 a3_47, zAr T 0 a1_45 7 g1_19, zAr T 0 a2_46 7 g2_20, zAr T 0 a3_47 7 g3_21]]) [0, 2, 5, 1, 3, 4] rfl
          exact z_back hQz_ (z_iret C hr hlocks G (Nat.le_of_ble_eq_true rfl) (Nat.le_of_ble_eq_true rfl) dX11_endOf_91 ⟨l0, gw_9, u0_10, u1_11, u2_12, u3_13, u4_14, u5_15, u6_16, u7_17, ([zO1 co cpo a1_44 u0_10 l0 u1_11 u2_12 u3_13 u4_14 u5_15 u6_16 u7_17, zAr T 0 a1_44 7 gw_9]), l0, g1_19, g2_20, g3_21, sa_22, wa_23, ([zO6 cpo l0 a1_45 a2_46 sa_22 wa_23 a3_47, zAr T 0 a1_45 7 g1_19, zAr T 0 a2_46 7 g2_20, zAr T 0 a3_47 7 g3_21]), rfl, hw_49, hw_50⟩)
        · have h_43 : ((w_ - 20).toInt < 0 ∨ cr0_.toInt ≤ (w_ - 20).toInt ∨ 7 ≤ (w_ - 20).toInt) := h_43
          refine lv_if_eq (tgt := 89) hx hb dX11_endOf_68 (by decide) (fun _ => ?_) (fun q => absurd (by decide) q)
          refine lv_bipush (v := (-2)) hx hb dX11_endOf_89 (by decide) ?_
          have G := G.sub (bs' := [[zO10 xo t im mk rd po co tr wa wb_ fi cd], wt, z0_, z1_, wc2_8, wp2_18]) [0, 2, 5, 1, 3, 4] rfl
          exact z_back hQz_ (z_iret C hr hlocks G (Nat.le_of_ble_eq_true rfl) (Nat.le_of_ble_eq_true rfl) dX11_endOf_91 ⟨l0, gw_9, u0_10, u1_11, u2_12, u3_13, u4_14, u5_15, u6_16, u7_17, wc2_8, l0, g1_19, g2_20, g3_21, sa_22, wa_23, wp2_18, rfl, h_24, h_25⟩)
    · have c_28n : w_.toInt = (0 : Int) := (fa_eq _ _).mp c_28
      refine lv_aload_n hx hb dX11_endOf_28 rfl (lv_at hl 1 rfl) ?_
      refine z_get C G clX11 0 rfl 5 (by decide) m_fl_RX11_41 rfl dX11_endOf_29 ?_
      refine zEx1 h_24 ?_
      intro a1_51 hbs9
      clear h_24
      subst hbs9
      have G : zS T A s.heap s [[zO10 xo t im mk rd po co tr wa wb_ fi cd], z1_, wt, [zO1 co cpo a1_51 u0_10 l0 u1_11 u2_12 u3_13 u4_14 u5_15 u6_16 u7_17], [zAr T 0 a1_51 7 gw_9], wp2_18, z0_] _ _ := G.re rfl
      refine z_get C G clX1 3 rfl 2 (by decide) m_fl_RX11_197 rfl dX11_endOf_32 ?_
      have hw_52 : bCourse T co cpo l0 gw_9 u0_10 u1_11 u2_12 u3_13 u4_14 u5_15 u6_16 u7_17 [zO1 co cpo a1_51 u0_10 l0 u1_11 u2_12 u3_13 u4_14 u5_15 u6_16 u7_17, zAr T 0 a1_51 7 gw_9] := ⟨a1_51, rfl⟩
      have G : zS T A s.heap s [[zO10 xo t im mk rd po co tr wa wb_ fi cd], z1_, wt, [zO1 co cpo a1_51 u0_10 l0 u1_11 u2_12 u3_13 u4_14 u5_15 u6_16 u7_17, zAr T 0 a1_51 7 gw_9], wp2_18, z0_] _ _ := G.re rfl
      have G := G.sub (bs' := [[zO10 xo t im mk rd po co tr wa wb_ fi cd], wt, z0_, z1_, [zO1 co cpo a1_51 u0_10 l0 u1_11 u2_12 u3_13 u4_14 u5_15 u6_16 u7_17, zAr T 0 a1_51 7 gw_9], wp2_18]) [0, 2, 5, 1, 3, 4] rfl
      exact z_back hQz_ (z_iret C hr hlocks G (Nat.le_of_ble_eq_true rfl) (Nat.le_of_ble_eq_true rfl) dX11_endOf_35 ⟨l0, gw_9, u0_10, u1_11, u2_12, u3_13, u4_14, u5_15, u6_16, u7_17, ([zO1 co cpo a1_51 u0_10 l0 u1_11 u2_12 u3_13 u4_14 u5_15 u6_16 u7_17, zAr T 0 a1_51 7 gw_9]), l0, g1_19, g2_20, g3_21, sa_22, wa_23, wp2_18, rfl, hw_52, h_25⟩)
  · have h_6 : i1.toInt = 1 := h_6
    have h_7 : 1 < (fk 0).toInt := h_7
    refine lv_astore_n (lv' := [(3, .ref l1), (0, .ref xo), (1, .int i1), (2, .int w_)]) hx hb dX11_endOf_8 rfl hl (by decide) (zLvf_h rfl) (fun ls hl => ?_)
    refine lv_aload_n hx hb dX11_endOf_9 rfl (lv_at hl 0 rfl) ?_
    refine lv_ifnonnull (tgt := 16) hx hb dX11_endOf_10 (by decide) ?_
    refine lv_aload_n hx hb dX11_endOf_16 rfl (lv_at hl 1 rfl) ?_
    refine z_get C G clX11 0 rfl 5 (by decide) m_fl_RX11_41 rfl dX11_endOf_17 ?_
    refine lv_aload_n hx hb dX11_endOf_20 rfl (lv_at hl 0 rfl) ?_
    refine z_Vv (bc := [wc, wcp, z1_]) (br := [[zO10 xo t im mk rd po co tr wa wb_ fi cd], z0_, wt]) (As := [.ref l1]) (rest := []) C G (c_goAll l T co cpo cla cfw v0 v1 v2 v3 v4 v5 v6 v7 wc cpl cf1 cf2 cf3 cst cwh wcp l1 cr1_ inn1_ k11_ k21_ k31_ k41_ z1_ hc hcp hz1_ (by first | with_reducible assumption | with_reducible rfl | omega | assumption | rfl)) (kV_RX11_193 C.2.2.2.2 (Nat.le_of_ble_eq_true rfl) (Nat.le_of_ble_eq_true rfl)) [3, 4, 2] [2, 0, 0] rfl rfl (ci := 1) (qc := (RX1, TX1, 11)) rfl rfl (List.mem_flatten.mpr ⟨_, List.mem_of_getElem? (i := 0) rfl, (bCourse_mem hc).choose_spec⟩) rfl rfl hl.1 dX11_endOf_21 (Nat.le_of_ble_eq_true rfl) (Nat.le_of_ble_eq_true rfl) (fun b1 H locs hw G => ?_)
    refine zEx16 hw ?_
    intro wc2_53 gw_54 u0_55 u1_56 u2_57 u3_58 u4_59 u5_60 u6_61 u7_62 wp2_63 g1_64 g2_65 g3_66 sa_67 wa_68
    refine zCu4 ?_
    intro hbs9 h_69 h_70 h_71
    clear hw
    subst hbs9
    have G : zS T A s.heap s [[zO10 xo t im mk rd po co tr wa wb_ fi cd], z0_, wt, wc2_53, wp2_63, z1_] _ _ := G
    refine lv_iload_n hx hb dX11_endOf_24 rfl (lv_at hl 3 rfl) ?_
    refine lv_if_ne (tgt := 36) hx hb dX11_endOf_25 (by decide) (fun c_73 => ?_) (fun c_73 => ?_)
    · have c_73n : ¬ w_.toInt = (0 : Int) := fun q => c_73 ((fa_eq _ _).mpr q)
      refine lv_aload_n hx hb dX11_endOf_36 rfl (lv_at hl 0 rfl) ?_
      refine lv_iload_n hx hb dX11_endOf_37 rfl (lv_at hl 3 rfl) ?_
      refine lv_bipush (v := 10) hx hb dX11_endOf_38 (by decide) ?_
      refine lv_isub hx hb dX11_endOf_40 ?_
      refine z_Vi (bc := [z1_]) (br := [[zO10 xo t im mk rd po co tr wa wb_ fi cd], z0_, wt, wc2_53, wp2_63]) (As := [.int (w_ - 10)]) (rest := []) C G (c_has l T l1 cr1_ inn1_ k11_ k21_ k31_ k41_ z1_ (w_ - 10) hz1_) (kV_RX11_160 C.2.2.2.2 (Nat.le_of_ble_eq_true rfl) (Nat.le_of_ble_eq_true rfl)) [5] [5] rfl rfl (ci := 4) (qc := (RX4, TX4, 6)) rfl rfl (List.mem_flatten.mpr ⟨_, List.mem_of_getElem? (i := 0) rfl, (bLand_mem hz1_).choose_spec⟩) rfl rfl hl.1 dX11_endOf_41 (Nat.le_of_ble_eq_true rfl) (Nat.le_of_ble_eq_true rfl) (fun r_75 b1 H locs hw G => ?_)
      refine zAn2 hw ?_
      intro hbs9 hc_74
      clear hw
      subst hbs9
      have G : zS T A s.heap s [[zO10 xo t im mk rd po co tr wa wb_ fi cd], z0_, wt, wc2_53, wp2_63, z1_] _ _ := G
      rcases hc_74 with ⟨rfl, h_76, h_77, h_78⟩ | ⟨rfl, h_79⟩
      · have h_76 : 0 ≤ (w_ - 10).toInt := h_76
        have h_77 : (w_ - 10).toInt < cr1_.toInt := h_77
        have h_78 : (w_ - 10).toInt < 7 := h_78
        refine lv_if_eq (tgt := 60) hx hb dX11_endOf_44 (by decide) (fun q => absurd q (by decide)) (fun _ => ?_)
        refine lv_aload_n hx hb dX11_endOf_47 rfl (lv_at hl 1 rfl) ?_
        refine z_get C G clX11 0 rfl 5 (by decide) m_fl_RX11_41 rfl dX11_endOf_48 ?_
        refine zEx1 h_69 ?_
        intro a1_80 hbs9
        clear h_69
        subst hbs9
        have G : zS T A s.heap s [[zO10 xo t im mk rd po co tr wa wb_ fi cd], z0_, wt, [zO1 co cpo a1_80 u0_55 l1 u1_56 u2_57 u3_58 u4_59 u5_60 u6_61 u7_62], [zAr T 0 a1_80 7 gw_54], wp2_63, z1_] _ _ := G.re rfl
        refine z_get C G clX1 3 rfl 1 (by decide) m_fl_RX11_198 rfl dX11_endOf_51 ?_
        refine lv_iload_n hx hb dX11_endOf_54 rfl (lv_at hl 3 rfl) ?_
        refine lv_bipush (v := 10) hx hb dX11_endOf_55 (by decide) ?_
        refine lv_isub hx hb dX11_endOf_57 ?_
        refine z_ild C G 4 rfl (vp_in_iff.mpr ⟨by omega, by omega⟩) dX11_endOf_58 ?_
        refine lv_topi (fun v_81 ev_81 => ?_)
        subst ev_81
        have hw_82 : bCourse T co cpo l1 gw_54 u0_55 u1_56 u2_57 u3_58 u4_59 u5_60 u6_61 u7_62 [zO1 co cpo a1_80 u0_55 l1 u1_56 u2_57 u3_58 u4_59 u5_60 u6_61 u7_62, zAr T 0 a1_80 7 gw_54] := ⟨a1_80, rfl⟩
        have G : zS T A s.heap s [[zO10 xo t im mk rd po co tr wa wb_ fi cd], z0_, wt, [zO1 co cpo a1_80 u0_55 l1 u1_56 u2_57 u3_58 u4_59 u5_60 u6_61 u7_62, zAr T 0 a1_80 7 gw_54], wp2_63, z1_] _ _ := G.re rfl
        have G := G.sub (bs' := [[zO10 xo t im mk rd po co tr wa wb_ fi cd], wt, z0_, z1_, [zO1 co cpo a1_80 u0_55 l1 u1_56 u2_57 u3_58 u4_59 u5_60 u6_61 u7_62, zAr T 0 a1_80 7 gw_54], wp2_63]) [0, 2, 1, 5, 3, 4] rfl
        exact z_back hQz_ (z_iret C hr hlocks G (Nat.le_of_ble_eq_true rfl) (Nat.le_of_ble_eq_true rfl) dX11_endOf_59 ⟨l1, gw_54, u0_55, u1_56, u2_57, u3_58, u4_59, u5_60, u6_61, u7_62, ([zO1 co cpo a1_80 u0_55 l1 u1_56 u2_57 u3_58 u4_59 u5_60 u6_61 u7_62, zAr T 0 a1_80 7 gw_54]), l1, g1_64, g2_65, g3_66, sa_67, wa_68, wp2_63, rfl, hw_82, h_70⟩)
      · have h_79 : ((w_ - 10).toInt < 0 ∨ cr1_.toInt ≤ (w_ - 10).toInt ∨ 7 ≤ (w_ - 10).toInt) := h_79
        refine lv_if_eq (tgt := 60) hx hb dX11_endOf_44 (by decide) (fun _ => ?_) (fun q => absurd (by decide) q)
        refine lv_aload_n hx hb dX11_endOf_60 rfl (lv_at hl 0 rfl) ?_
        refine lv_iload_n hx hb dX11_endOf_61 rfl (lv_at hl 3 rfl) ?_
        refine lv_bipush (v := 20) hx hb dX11_endOf_62 (by decide) ?_
        refine lv_isub hx hb dX11_endOf_64 ?_
        refine z_Vi (bc := [z1_]) (br := [[zO10 xo t im mk rd po co tr wa wb_ fi cd], z0_, wt, wc2_53, wp2_63]) (As := [.int (w_ - 20)]) (rest := []) C G (c_has l T l1 cr1_ inn1_ k11_ k21_ k31_ k41_ z1_ (w_ - 20) hz1_) (kV_RX11_160 C.2.2.2.2 (Nat.le_of_ble_eq_true rfl) (Nat.le_of_ble_eq_true rfl)) [5] [5] rfl rfl (ci := 4) (qc := (RX4, TX4, 6)) rfl rfl (List.mem_flatten.mpr ⟨_, List.mem_of_getElem? (i := 0) rfl, (bLand_mem hz1_).choose_spec⟩) rfl rfl hl.1 dX11_endOf_65 (Nat.le_of_ble_eq_true rfl) (Nat.le_of_ble_eq_true rfl) (fun r_84 b1 H locs hw G => ?_)
        refine zAn2 hw ?_
        intro hbs9 hc_83
        clear hw
        subst hbs9
        have G : zS T A s.heap s [[zO10 xo t im mk rd po co tr wa wb_ fi cd], z0_, wt, wc2_53, wp2_63, z1_] _ _ := G
        rcases hc_83 with ⟨rfl, h_85, h_86, h_87⟩ | ⟨rfl, h_88⟩
        · have h_85 : 0 ≤ (w_ - 20).toInt := h_85
          have h_86 : (w_ - 20).toInt < cr1_.toInt := h_86
          have h_87 : (w_ - 20).toInt < 7 := h_87
          refine lv_if_eq (tgt := 89) hx hb dX11_endOf_68 (by decide) (fun q => absurd q (by decide)) (fun _ => ?_)
          refine lv_aload_n hx hb dX11_endOf_71 rfl (lv_at hl 1 rfl) ?_
          refine z_get C G clX11 0 rfl 5 (by decide) m_fl_RX11_41 rfl dX11_endOf_72 ?_
          refine zEx1 h_69 ?_
          intro a1_89 hbs9
          clear h_69
          subst hbs9
          have G : zS T A s.heap s [[zO10 xo t im mk rd po co tr wa wb_ fi cd], z0_, wt, [zO1 co cpo a1_89 u0_55 l1 u1_56 u2_57 u3_58 u4_59 u5_60 u6_61 u7_62], [zAr T 0 a1_89 7 gw_54], wp2_63, z1_] _ _ := G.re rfl
          refine z_get C G clX1 3 rfl 0 (by decide) m_fl_RX11_201 rfl dX11_endOf_75 ?_
          refine zEx3 h_70 ?_
          intro a1_90 a2_91 a3_92 hbs9
          clear h_70
          subst hbs9
          have G : zS T A s.heap s [[zO10 xo t im mk rd po co tr wa wb_ fi cd], z0_, wt, [zO1 co cpo a1_89 u0_55 l1 u1_56 u2_57 u3_58 u4_59 u5_60 u6_61 u7_62], [zAr T 0 a1_89 7 gw_54], [zO6 cpo l1 a1_90 a2_91 sa_67 wa_68 a3_92], [zAr T 0 a1_90 7 g1_64], [zAr T 0 a2_91 7 g2_65], [zAr T 0 a3_92 7 g3_66], z1_] _ _ := G.re rfl
          refine z_get C G clX6 5 rfl 1 (by decide) m_fl_RX11_202 rfl dX11_endOf_78 ?_
          refine lv_iload_n hx hb dX11_endOf_81 rfl (lv_at hl 3 rfl) ?_
          refine lv_bipush (v := 20) hx hb dX11_endOf_82 (by decide) ?_
          refine lv_isub hx hb dX11_endOf_84 ?_
          refine z_ild C G 6 rfl (vp_in_iff.mpr ⟨by omega, by omega⟩) dX11_endOf_85 ?_
          refine lv_topi (fun v_93 ev_93 => ?_)
          subst ev_93
          refine lv_goto (tgt := 91) hx hb dX11_endOf_86 (by decide) ?_
          have hw_94 : bCourse T co cpo l1 gw_54 u0_55 u1_56 u2_57 u3_58 u4_59 u5_60 u6_61 u7_62 [zO1 co cpo a1_89 u0_55 l1 u1_56 u2_57 u3_58 u4_59 u5_60 u6_61 u7_62, zAr T 0 a1_89 7 gw_54] := ⟨a1_89, rfl⟩
          have G : zS T A s.heap s [[zO10 xo t im mk rd po co tr wa wb_ fi cd], z0_, wt, [zO1 co cpo a1_89 u0_55 l1 u1_56 u2_57 u3_58 u4_59 u5_60 u6_61 u7_62, zAr T 0 a1_89 7 gw_54], [zO6 cpo l1 a1_90 a2_91 sa_67 wa_68 a3_92], [zAr T 0 a1_90 7 g1_64], [zAr T 0 a2_91 7 g2_65], [zAr T 0 a3_92 7 g3_66], z1_] _ _ := G.re rfl
          have hw_95 : bPosts T cpo l1 g1_64 g2_65 g3_66 sa_67 wa_68 [zO6 cpo l1 a1_90 a2_91 sa_67 wa_68 a3_92, zAr T 0 a1_90 7 g1_64, zAr T 0 a2_91 7 g2_65, zAr T 0 a3_92 7 g3_66] := ⟨a1_90, a2_91, a3_92, rfl⟩
          have G : zS T A s.heap s [[zO10 xo t im mk rd po co tr wa wb_ fi cd], z0_, wt, [zO1 co cpo a1_89 u0_55 l1 u1_56 u2_57 u3_58 u4_59 u5_60 u6_61 u7_62, zAr T 0 a1_89 7 gw_54], [zO6 cpo l1 a1_90 a2_91 sa_67 wa_68 a3_92, zAr T 0 a1_90 7 g1_64, zAr T 0 a2_91 7 g2_65, zAr T 0 a3_92 7 g3_66], z1_] _ _ := G.re rfl
          have G := G.sub (bs' := [[zO10 xo t im mk rd po co tr wa wb_ fi cd], wt, z0_, z1_, [zO1 co cpo a1_89 u0_55 l1 u1_56 u2_57 u3_58 u4_59 u5_60 u6_61 u7_62, zAr T 0 a1_89 7 gw_54], [zO6 cpo l1 a1_90 a2_91 sa_67 wa_68 a3_92, zAr T 0 a1_90 7 g1_64, zAr T 0 a2_91 7 g2_65, zAr T 0 a3_92 7 g3_66]]) [0, 2, 1, 5, 3, 4] rfl
          exact z_back hQz_ (z_iret C hr hlocks G (Nat.le_of_ble_eq_true rfl) (Nat.le_of_ble_eq_true rfl) dX11_endOf_91 ⟨l1, gw_54, u0_55, u1_56, u2_57, u3_58, u4_59, u5_60, u6_61, u7_62, ([zO1 co cpo a1_89 u0_55 l1 u1_56 u2_57 u3_58 u4_59 u5_60 u6_61 u7_62, zAr T 0 a1_89 7 gw_54]), l1, g1_64, g2_65, g3_66, sa_67, wa_68, ([zO6 cpo l1 a1_90 a2_91 sa_67 wa_68 a3_92, zAr T 0 a1_90 7 g1_64, zAr T 0 a2_91 7 g2_65, zAr T 0 a3_92 7 g3_66]), rfl, hw_94, hw_95⟩)
        · have h_88 : ((w_ - 20).toInt < 0 ∨ cr1_.toInt ≤ (w_ - 20).toInt ∨ 7 ≤ (w_ - 20).toInt) := h_88
          refine lv_if_eq (tgt := 89) hx hb dX11_endOf_68 (by decide) (fun _ => ?_) (fun q => absurd (by decide) q)
          refine lv_bipush (v := (-2)) hx hb dX11_endOf_89 (by decide) ?_
          have G := G.sub (bs' := [[zO10 xo t im mk rd po co tr wa wb_ fi cd], wt, z0_, z1_, wc2_53, wp2_63]) [0, 2, 1, 5, 3, 4] rfl
          exact z_back hQz_ (z_iret C hr hlocks G (Nat.le_of_ble_eq_true rfl) (Nat.le_of_ble_eq_true rfl) dX11_endOf_91 ⟨l1, gw_54, u0_55, u1_56, u2_57, u3_58, u4_59, u5_60, u6_61, u7_62, wc2_53, l1, g1_64, g2_65, g3_66, sa_67, wa_68, wp2_63, rfl, h_69, h_70⟩)
    · have c_73n : w_.toInt = (0 : Int) := (fa_eq _ _).mp c_73
      refine lv_aload_n hx hb dX11_endOf_28 rfl (lv_at hl 1 rfl) ?_
      refine z_get C G clX11 0 rfl 5 (by decide) m_fl_RX11_41 rfl dX11_endOf_29 ?_
      refine zEx1 h_69 ?_
      intro a1_96 hbs9
      clear h_69
      subst hbs9
      have G : zS T A s.heap s [[zO10 xo t im mk rd po co tr wa wb_ fi cd], z0_, wt, [zO1 co cpo a1_96 u0_55 l1 u1_56 u2_57 u3_58 u4_59 u5_60 u6_61 u7_62], [zAr T 0 a1_96 7 gw_54], wp2_63, z1_] _ _ := G.re rfl
      refine z_get C G clX1 3 rfl 2 (by decide) m_fl_RX11_197 rfl dX11_endOf_32 ?_
      have hw_97 : bCourse T co cpo l1 gw_54 u0_55 u1_56 u2_57 u3_58 u4_59 u5_60 u6_61 u7_62 [zO1 co cpo a1_96 u0_55 l1 u1_56 u2_57 u3_58 u4_59 u5_60 u6_61 u7_62, zAr T 0 a1_96 7 gw_54] := ⟨a1_96, rfl⟩
      have G : zS T A s.heap s [[zO10 xo t im mk rd po co tr wa wb_ fi cd], z0_, wt, [zO1 co cpo a1_96 u0_55 l1 u1_56 u2_57 u3_58 u4_59 u5_60 u6_61 u7_62, zAr T 0 a1_96 7 gw_54], wp2_63, z1_] _ _ := G.re rfl
      have G := G.sub (bs' := [[zO10 xo t im mk rd po co tr wa wb_ fi cd], wt, z0_, z1_, [zO1 co cpo a1_96 u0_55 l1 u1_56 u2_57 u3_58 u4_59 u5_60 u6_61 u7_62, zAr T 0 a1_96 7 gw_54], wp2_63]) [0, 2, 1, 5, 3, 4] rfl
      exact z_back hQz_ (z_iret C hr hlocks G (Nat.le_of_ble_eq_true rfl) (Nat.le_of_ble_eq_true rfl) dX11_endOf_35 ⟨l1, gw_54, u0_55, u1_56, u2_57, u3_58, u4_59, u5_60, u6_61, u7_62, ([zO1 co cpo a1_96 u0_55 l1 u1_56 u2_57 u3_58 u4_59 u5_60 u6_61 u7_62, zAr T 0 a1_96 7 gw_54]), l1, g1_64, g2_65, g3_66, sa_67, wa_68, wp2_63, rfl, hw_97, h_70⟩)
set_option maxHeartbeats 4000000 in
set_option maxRecDepth 100000 in
/-- c_come -/
theorem c_come (l : Launch) (T : zTy) (xo : Nat) (t : Nat) (im : Nat) (mk : Nat) (rd : Nat) (po : Nat) (co : Nat) (tr : Nat) (wa : Nat) (wb_ : Nat) (fi : Nat) (cd : Nat) (l0 : Nat) (l1 : Nat) (d0 : Nat) (d1 : Nat) (g0 : Nat) (g1 : Nat) (ln : Int32) (fl : Int32) (pl : Int32) (ft : Nat → Int32) (fk : Nat → Int32) (wt : va_W) (cr0_ : Int32) (inn0_ : Int32) (k10_ : Nat → Int32) (k20_ : Nat → Int32) (k30_ : Nat → Int32) (k40_ : Nat → Int32) (z0_ : va_W) (cr1_ : Int32) (inn1_ : Int32) (k11_ : Nat → Int32) (k21_ : Nat → Int32) (k31_ : Nat → Int32) (k41_ : Nat → Int32) (z1_ : va_W) (lp : Nat) (f1 : Nat → Int32) (f2 : Nat → Int32) (f3 : Nat → Int32) (st : Int32) (wh : Int32) (wp : va_W) (i1 : Int32) (a_ : Int32) (k_ : Int32) (ht : bTold T t l0 l1 d0 d1 g0 g1 ln fl pl ft fk wt) (hK : zKT fk) (hz0_ : bLand T l0 cr0_ inn0_ k10_ k20_ k30_ k40_ z0_) (hI0_ : zLI cr0_ k10_ k30_) (hz1_ : bLand T l1 cr1_ inn1_ k11_ k21_ k31_ k41_ z1_) (hI1_ : zLI cr1_ k11_ k31_) (hp : bPosts T po lp f1 f2 f3 st wh wp) : zMi l T yX11_come cX11_come 6 (some .int) 5 0 0 [.ref xo, .int i1, .int a_, .int k_] [[zO10 xo t im mk rd po co tr wa wb_ fi cd], wt, z0_, z1_, wp] (fun (r : Int32) bs => ∃ (lp_2 : Nat) (f1_2 : Nat → Int32) (f2_2 : Nat → Int32) (f3_2 : Nat → Int32) (st_2 : Int32) (wh_2 : Int32) (wp_2 : va_W), bs = [[zO10 xo t im mk rd po co tr wa wb_ fi cd], wt, z0_, z1_, wp_2] ∧ bPosts T po lp_2 f1_2 f2_2 f3_2 st_2 wh_2 wp_2) := by
  refine zMi_of (own := RX11) (by decide) rfl (Nat.le_of_ble_eq_true rfl) ?_
  intro p e s m args below meth c A ls C hr hlocks hnm hAe G hl
  refine zHide (fun Qz_ hQz_ => ?_)
  have hx := C.1
  have hb := C.2.1
  have hl : lv_has ls 6 [(0, .ref xo), (1, .int i1), (2, .int a_), (3, .int k_)] := hl
  refine lv_aload_n hx hb dX11_come_0 rfl (lv_at hl 0 rfl) ?_
  refine z_get C G clX11 0 rfl 0 (by decide) m_fl_RX11_10 rfl dX11_come_1 ?_
  refine lv_iload_n hx hb dX11_come_4 rfl (lv_at hl 1 rfl) ?_
  refine z_Vq (bc := [wt]) (br := [[zO10 xo t im mk rd po co tr wa wb_ fi cd], z0_, z1_, wp]) (As := [.int i1]) (rest := []) C G (c_landAt l T t l0 l1 d0 d1 g0 g1 ln fl pl ft fk wt i1 ht) (kV_RX11_121 C.2.2.2.2 (Nat.le_of_ble_eq_true rfl) (Nat.le_of_ble_eq_true rfl)) [1] [1] rfl rfl (ci := 8) (qc := (RX9, TX9, 8)) rfl rfl (List.mem_flatten.mpr ⟨_, List.mem_of_getElem? (i := 0) rfl, (bTold_mem ht).choose_spec⟩) rfl rfl hl.1 dX11_come_5 (Nat.le_of_ble_eq_true rfl) (Nat.le_of_ble_eq_true rfl) (fun r_2 b1 H locs hw G => ?_)
  refine zAn2 hw ?_
  intro hbs9 hc_1
  clear hw
  subst hbs9
  have G : zS T A s.heap s [[zO10 xo t im mk rd po co tr wa wb_ fi cd], z0_, z1_, wp, wt] _ _ := G
  rcases hc_1 with ⟨rfl, h_3⟩ | ⟨rfl, h_4, h_5⟩ | ⟨rfl, h_6, h_7⟩
  · have h_3 : (i1.toInt < 0 ∨ (fk 0).toInt ≤ i1.toInt ∨ 2 ≤ i1.toInt) := h_3
    refine lv_astoreN (lv' := [(4, .null), (0, .ref xo), (1, .int i1), (2, .int a_), (3, .int k_)]) hx hb dX11_come_8 hl (by decide) (zLvf_h rfl) (fun ls hl => ?_)
    refine lv_aloadN hx hb dX11_come_10 (lv_at hl 0 rfl) ?_
    refine lv_ifnullN (tgt := 35) hx hb dX11_come_12 (by decide) ?_
    refine lv_iconst (v := (-1)) hx hb dX11_come_35 (by decide) ?_
    have G := G.sub (bs' := [[zO10 xo t im mk rd po co tr wa wb_ fi cd], wt, z0_, z1_, wp]) [0, 4, 1, 2, 3] rfl
    exact z_back hQz_ (z_iret C hr hlocks G (Nat.le_of_ble_eq_true rfl) (Nat.le_of_ble_eq_true rfl) dX11_come_36 ⟨lp, f1, f2, f3, st, wh, wp, rfl, hp⟩)
  · have h_4 : i1.toInt = 0 := h_4
    have h_5 : 0 < (fk 0).toInt := h_5
    refine lv_astore (lv' := [(4, .ref l0), (0, .ref xo), (1, .int i1), (2, .int a_), (3, .int k_)]) hx hb dX11_come_8 hl (by decide) (zLvf_h rfl) (fun ls hl => ?_)
    refine lv_aload hx hb dX11_come_10 (lv_at hl 0 rfl) ?_
    refine lv_ifnull hx hb dX11_come_12 ?_
    refine lv_aload hx hb dX11_come_15 (lv_at hl 0 rfl) ?_
    refine lv_iload_n hx hb dX11_come_17 rfl (lv_at hl 3 rfl) ?_
    refine z_Vi (bc := [z0_]) (br := [[zO10 xo t im mk rd po co tr wa wb_ fi cd], z1_, wp, wt]) (As := [.int a_]) (rest := []) C G (c_has l T l0 cr0_ inn0_ k10_ k20_ k30_ k40_ z0_ a_ hz0_) (kV_RX11_160 C.2.2.2.2 (Nat.le_of_ble_eq_true rfl) (Nat.le_of_ble_eq_true rfl)) [1] [1] rfl rfl (ci := 4) (qc := (RX4, TX4, 6)) rfl rfl (List.mem_flatten.mpr ⟨_, List.mem_of_getElem? (i := 0) rfl, (bLand_mem hz0_).choose_spec⟩) rfl rfl hl.1 dX11_come_18 (Nat.le_of_ble_eq_true rfl) (Nat.le_of_ble_eq_true rfl) (fun r_9 b1 H locs hw G => ?_)
    refine zAn2 hw ?_
    intro hbs9 hc_8
    clear hw
    subst hbs9
    have G : zS T A s.heap s [[zO10 xo t im mk rd po co tr wa wb_ fi cd], z1_, wp, wt, z0_] _ _ := G
    rcases hc_8 with ⟨rfl, h_10, h_11, h_12⟩ | ⟨rfl, h_13⟩
    · have h_10 : 0 ≤ a_.toInt := h_10
      have h_11 : a_.toInt < cr0_.toInt := h_11
      have h_12 : a_.toInt < 7 := h_12
      refine lv_if_eq (tgt := 35) hx hb dX11_come_21 (by decide) (fun q => absurd q (by decide)) (fun _ => ?_)
      refine lv_iload_n hx hb dX11_come_24 rfl (lv_at hl 4 rfl) ?_
      refine lv_iconst (v := 1) hx hb dX11_come_25 (by decide) ?_
      refine lv_icmp_lt (tgt := 35) hx hb dX11_come_26 (by decide) (fun c_14 => ?_) (fun c_14 => ?_)
      · have c_14n : k_.toInt < (1 : Int) := (fa_lt _ _).mp c_14
        refine lv_iconst (v := (-1)) hx hb dX11_come_35 (by decide) ?_
        have G := G.sub (bs' := [[zO10 xo t im mk rd po co tr wa wb_ fi cd], wt, z0_, z1_, wp]) [0, 3, 4, 1, 2] rfl
        exact z_back hQz_ (z_iret C hr hlocks G (Nat.le_of_ble_eq_true rfl) (Nat.le_of_ble_eq_true rfl) dX11_come_36 ⟨lp, f1, f2, f3, st, wh, wp, rfl, hp⟩)
      · have c_14n : ¬ k_.toInt < (1 : Int) := fun q => c_14 ((fa_lt _ _).mpr q)
        refine lv_iload_n hx hb dX11_come_29 rfl (lv_at hl 4 rfl) ?_
        refine lv_bipush (v := 99) hx hb dX11_come_30 (by decide) ?_
        refine lv_icmp_le (tgt := 37) hx hb dX11_come_32 (by decide) (fun c_15 => ?_) (fun c_15 => ?_)
        · have c_15n : k_.toInt ≤ (99 : Int) := (fa_le _ _).mp c_15
          refine lv_aload_n hx hb dX11_come_37 rfl (lv_at hl 1 rfl) ?_
          refine z_get C G clX11 0 rfl 4 (by decide) m_fl_RX11_34 rfl dX11_come_38 ?_
          refine lv_aload hx hb dX11_come_41 (lv_at hl 0 rfl) ?_
          refine z_Vv (bc := [wp, z0_]) (br := [[zO10 xo t im mk rd po co tr wa wb_ fi cd], z1_, wt]) (As := [.ref l0]) (rest := []) C G (c_Posts_begin l T po lp f1 f2 f3 st wh wp l0 cr0_ inn0_ k10_ k20_ k30_ k40_ z0_ hp hz0_) (kV_RX11_205 C.2.2.2.2 (Nat.le_of_ble_eq_true rfl) (Nat.le_of_ble_eq_true rfl)) [2, 4] [2, 1] rfl rfl (ci := 6) (qc := (RX6, TX6, 6)) rfl rfl (List.mem_flatten.mpr ⟨_, List.mem_of_getElem? (i := 0) rfl, (bPosts_mem hp).choose_spec⟩) rfl rfl hl.1 dX11_come_43 (Nat.le_of_ble_eq_true rfl) (Nat.le_of_ble_eq_true rfl) (fun b1 H locs hw G => ?_)
          refine zEx4 hw ?_
          intro w2_16 g1_17 g2_18 g3_19
          refine zCu5 ?_
          intro hbs9 h_20 h_21 h_22 h_23
          clear hw
          subst hbs9
          have G : zS T A s.heap s [[zO10 xo t im mk rd po co tr wa wb_ fi cd], z1_, wt, w2_16, z0_] _ _ := G
          have hQ : zP3 g1_17 g3_19 := z_P3 hI0_ h_21 h_23
          refine lv_iconst (v := 0) hx hb dX11_come_46 (by decide) ?_
          refine lv_istore (lv' := [(5, .int 0), (4, .ref l0), (0, .ref xo), (1, .int i1), (2, .int a_), (3, .int k_)]) hx hb dX11_come_47 hl (by decide) (zLvf_h rfl) (fun ls hl => ?_)
          refine z_lp5 (T := T) 49 (fun (i : Nat) (wp3 : va_W) (x1 : Nat → Int32) (sx : Int32) (wx : Int32) => [[zO10 xo t im mk rd po co tr wa wb_ fi cd], z1_, wt, wp3, z0_]) (fun (i : Nat) (wp3 : va_W) (x1 : Nat → Int32) (sx : Int32) (wx : Int32) => [(5, .int (nI i)), (4, .ref l0), (0, .ref xo), (1, .int i1), (2, .int a_), (3, .int k_)]) (fun (i : Nat) (wp3 : va_W) (x1 : Nat → Int32) (sx : Int32) (wx : Int32) => bPosts T po l0 x1 g2_18 g3_19 sx wx wp3 ∧ i ≤ 99 ∧ zP3 x1 g3_19) (fun (i : Nat) (wp3 : va_W) (x1 : Nat → Int32) (sx : Int32) (wx : Int32) => 99 - i) ?_ 0 w2_16 g1_17 0 0 (show bPosts T po l0 g1_17 g2_18 g3_19 0 0 w2_16 ∧ 0 ≤ 99 ∧ zP3 g1_17 g3_19 from ⟨h_20, by omega, hQ⟩) G (lv_sub hl [0, 1, 2, 3, 4, 5] rfl)
          intro i wp3 x1 sx wx hI9 ih_49 H locs ls G hl
          replace hI9 : bPosts T po l0 x1 g2_18 g3_19 sx wx wp3 ∧ i ≤ 99 ∧ zP3 x1 g3_19 := hI9
          refine zAn3 hI9 ?_
          intro hp3 hi hQx
          clear hI9
          replace G : zS T A s.heap s [[zO10 xo t im mk rd po co tr wa wb_ fi cd], z1_, wt, wp3, z0_] _ _ := G
          replace hl : lv_has ls 6 [(5, .int (nI i)), (4, .ref l0), (0, .ref xo), (1, .int i1), (2, .int a_), (3, .int k_)] := hl
          refine lv_iload hx hb dX11_come_49 (lv_at hl 0 rfl) ?_
          refine lv_iload_n hx hb dX11_come_51 rfl (lv_at hl 5 rfl) ?_
          refine lv_icmp_ge (tgt := 69) hx hb dX11_come_52 (by decide) (fun c_25 => ?_) (fun c_25 => ?_)
          · have c_25n : k_.toInt ≤ (i : Int) := by have q := (fa_le _ _).mp c_25; rw [nI_toInt (n := i) (by omega)] at q; exact q
            refine lv_aload_n hx hb dX11_come_69 rfl (lv_at hl 2 rfl) ?_
            refine z_get C G clX11 0 rfl 4 (by decide) m_fl_RX11_34 rfl dX11_come_70 ?_
            refine zEx3 hp3 ?_
            intro a1_26 a2_27 a3_28 hbs9
            clear hp3
            subst hbs9
            have G : zS T A s.heap s [[zO10 xo t im mk rd po co tr wa wb_ fi cd], z1_, wt, [zO6 po l0 a1_26 a2_27 sx wx a3_28], [zAr T 0 a1_26 7 x1], [zAr T 0 a2_27 7 g2_18], [zAr T 0 a3_28 7 g3_19], z0_] _ _ := G.re rfl
            refine z_get C G clX6 3 rfl 4 (by decide) m_fl_RX11_211 rfl dX11_come_73 ?_
            have hw_29 : bPosts T po l0 x1 g2_18 g3_19 sx wx [zO6 po l0 a1_26 a2_27 sx wx a3_28, zAr T 0 a1_26 7 x1, zAr T 0 a2_27 7 g2_18, zAr T 0 a3_28 7 g3_19] := ⟨a1_26, a2_27, a3_28, rfl⟩
            have G : zS T A s.heap s [[zO10 xo t im mk rd po co tr wa wb_ fi cd], z1_, wt, [zO6 po l0 a1_26 a2_27 sx wx a3_28, zAr T 0 a1_26 7 x1, zAr T 0 a2_27 7 g2_18, zAr T 0 a3_28 7 g3_19], z0_] _ _ := G.re rfl
            have G := G.sub (bs' := [[zO10 xo t im mk rd po co tr wa wb_ fi cd], wt, z0_, z1_, [zO6 po l0 a1_26 a2_27 sx wx a3_28, zAr T 0 a1_26 7 x1, zAr T 0 a2_27 7 g2_18, zAr T 0 a3_28 7 g3_19]]) [0, 2, 4, 1, 3] rfl
            exact z_back hQz_ (z_iret C hr hlocks G (Nat.le_of_ble_eq_true rfl) (Nat.le_of_ble_eq_true rfl) dX11_come_76 ⟨l0, x1, g2_18, g3_19, sx, wx, ([zO6 po l0 a1_26 a2_27 sx wx a3_28, zAr T 0 a1_26 7 x1, zAr T 0 a2_27 7 g2_18, zAr T 0 a3_28 7 g3_19]), rfl, hw_29⟩)
          · have c_25n : ¬ k_.toInt ≤ (i : Int) := fun q => c_25 ((fa_le _ _).mpr (by rw [nI_toInt (n := i) (by omega)]; exact q))
            refine lv_aload_n hx hb dX11_come_55 rfl (lv_at hl 2 rfl) ?_
            refine z_get C G clX11 0 rfl 4 (by decide) m_fl_RX11_34 rfl dX11_come_56 ?_
            refine lv_iload_n hx hb dX11_come_59 rfl (lv_at hl 4 rfl) ?_
            refine z_Vv (bc := [wp3, z0_]) (br := [[zO10 xo t im mk rd po co tr wa wb_ fi cd], z1_, wt]) (As := [.int a_]) (rest := []) C G (c_Posts_run l T po l0 x1 g2_18 g3_19 sx wx wp3 cr0_ inn0_ k10_ k20_ k30_ k40_ z0_ a_ hp3 hz0_ (by first | with_reducible assumption | with_reducible rfl | omega | assumption | rfl)) (kV_RX11_208 C.2.2.2.2 (Nat.le_of_ble_eq_true rfl) (Nat.le_of_ble_eq_true rfl)) [3, 4] [3, 0] rfl rfl (ci := 6) (qc := (RX6, TX6, 6)) rfl rfl (List.mem_flatten.mpr ⟨_, List.mem_of_getElem? (i := 0) rfl, (bPosts_mem hp3).choose_spec⟩) rfl rfl hl.1 dX11_come_60 (Nat.le_of_ble_eq_true rfl) (Nat.le_of_ble_eq_true rfl) (fun b1 H locs hw G => ?_)
            refine zEx4 hw ?_
            intro w2_30 g1_31 s2_32 x2_33
            refine zCu5 ?_
            intro hbs9 h_34 h_35 h_36 h_37
            clear hw
            subst hbs9
            have G : zS T A s.heap s [[zO10 xo t im mk rd po co tr wa wb_ fi cd], z1_, wt, w2_30, z0_] _ _ := G
            have hQ2 : zP3 g1_31 g3_19 := by rw [h_35]; exact zRunN_I _ _ _ _ hQx
            refine lv_iinc (v := nI (i + 1)) (lv' := [(5, .int (nI (i + 1))), (4, .ref l0), (0, .ref xo), (1, .int i1), (2, .int a_), (3, .int k_)]) hx hb dX11_come_63 hl (k := 0) rfl (z_inc i 1) (by decide) (zLvf_h rfl) (fun ls hl => ?_)
            refine lv_goto (tgt := 49) hx hb dX11_come_66 (by decide) ?_
            exact ih_49 (i + 1) w2_30 g1_31 s2_32 x2_33 (show bPosts T po l0 g1_31 g2_18 g3_19 s2_32 x2_33 w2_30 ∧ (i + 1) ≤ 99 ∧ zP3 g1_31 g3_19 from ⟨h_34, by omega, hQ2⟩) (show 99 - (i + 1) < 99 - i from by omega) _ _ ls G (lv_sub hl [0, 1, 2, 3, 4, 5] rfl)
        · have c_15n : ¬ k_.toInt ≤ (99 : Int) := fun q => c_15 ((fa_le _ _).mpr q)
          refine lv_iconst (v := (-1)) hx hb dX11_come_35 (by decide) ?_
          have G := G.sub (bs' := [[zO10 xo t im mk rd po co tr wa wb_ fi cd], wt, z0_, z1_, wp]) [0, 3, 4, 1, 2] rfl
          exact z_back hQz_ (z_iret C hr hlocks G (Nat.le_of_ble_eq_true rfl) (Nat.le_of_ble_eq_true rfl) dX11_come_36 ⟨lp, f1, f2, f3, st, wh, wp, rfl, hp⟩)
    · have h_13 : (a_.toInt < 0 ∨ cr0_.toInt ≤ a_.toInt ∨ 7 ≤ a_.toInt) := h_13
      refine lv_if_eq (tgt := 35) hx hb dX11_come_21 (by decide) (fun _ => ?_) (fun q => absurd (by decide) q)
      refine lv_iconst (v := (-1)) hx hb dX11_come_35 (by decide) ?_
      have G := G.sub (bs' := [[zO10 xo t im mk rd po co tr wa wb_ fi cd], wt, z0_, z1_, wp]) [0, 3, 4, 1, 2] rfl
      exact z_back hQz_ (z_iret C hr hlocks G (Nat.le_of_ble_eq_true rfl) (Nat.le_of_ble_eq_true rfl) dX11_come_36 ⟨lp, f1, f2, f3, st, wh, wp, rfl, hp⟩)
  · have h_6 : i1.toInt = 1 := h_6
    have h_7 : 1 < (fk 0).toInt := h_7
    refine lv_astore (lv' := [(4, .ref l1), (0, .ref xo), (1, .int i1), (2, .int a_), (3, .int k_)]) hx hb dX11_come_8 hl (by decide) (zLvf_h rfl) (fun ls hl => ?_)
    refine lv_aload hx hb dX11_come_10 (lv_at hl 0 rfl) ?_
    refine lv_ifnull hx hb dX11_come_12 ?_
    refine lv_aload hx hb dX11_come_15 (lv_at hl 0 rfl) ?_
    refine lv_iload_n hx hb dX11_come_17 rfl (lv_at hl 3 rfl) ?_
    refine z_Vi (bc := [z1_]) (br := [[zO10 xo t im mk rd po co tr wa wb_ fi cd], z0_, wp, wt]) (As := [.int a_]) (rest := []) C G (c_has l T l1 cr1_ inn1_ k11_ k21_ k31_ k41_ z1_ a_ hz1_) (kV_RX11_160 C.2.2.2.2 (Nat.le_of_ble_eq_true rfl) (Nat.le_of_ble_eq_true rfl)) [2] [2] rfl rfl (ci := 4) (qc := (RX4, TX4, 6)) rfl rfl (List.mem_flatten.mpr ⟨_, List.mem_of_getElem? (i := 0) rfl, (bLand_mem hz1_).choose_spec⟩) rfl rfl hl.1 dX11_come_18 (Nat.le_of_ble_eq_true rfl) (Nat.le_of_ble_eq_true rfl) (fun r_40 b1 H locs hw G => ?_)
    refine zAn2 hw ?_
    intro hbs9 hc_39
    clear hw
    subst hbs9
    have G : zS T A s.heap s [[zO10 xo t im mk rd po co tr wa wb_ fi cd], z0_, wp, wt, z1_] _ _ := G
    rcases hc_39 with ⟨rfl, h_41, h_42, h_43⟩ | ⟨rfl, h_44⟩
    · have h_41 : 0 ≤ a_.toInt := h_41
      have h_42 : a_.toInt < cr1_.toInt := h_42
      have h_43 : a_.toInt < 7 := h_43
      refine lv_if_eq (tgt := 35) hx hb dX11_come_21 (by decide) (fun q => absurd q (by decide)) (fun _ => ?_)
      refine lv_iload_n hx hb dX11_come_24 rfl (lv_at hl 4 rfl) ?_
      refine lv_iconst (v := 1) hx hb dX11_come_25 (by decide) ?_
      refine lv_icmp_lt (tgt := 35) hx hb dX11_come_26 (by decide) (fun c_45 => ?_) (fun c_45 => ?_)
      · have c_45n : k_.toInt < (1 : Int) := (fa_lt _ _).mp c_45
        refine lv_iconst (v := (-1)) hx hb dX11_come_35 (by decide) ?_
        have G := G.sub (bs' := [[zO10 xo t im mk rd po co tr wa wb_ fi cd], wt, z0_, z1_, wp]) [0, 3, 1, 4, 2] rfl
        exact z_back hQz_ (z_iret C hr hlocks G (Nat.le_of_ble_eq_true rfl) (Nat.le_of_ble_eq_true rfl) dX11_come_36 ⟨lp, f1, f2, f3, st, wh, wp, rfl, hp⟩)
      · have c_45n : ¬ k_.toInt < (1 : Int) := fun q => c_45 ((fa_lt _ _).mpr q)
        refine lv_iload_n hx hb dX11_come_29 rfl (lv_at hl 4 rfl) ?_
        refine lv_bipush (v := 99) hx hb dX11_come_30 (by decide) ?_
        refine lv_icmp_le (tgt := 37) hx hb dX11_come_32 (by decide) (fun c_46 => ?_) (fun c_46 => ?_)
        · have c_46n : k_.toInt ≤ (99 : Int) := (fa_le _ _).mp c_46
          refine lv_aload_n hx hb dX11_come_37 rfl (lv_at hl 1 rfl) ?_
          refine z_get C G clX11 0 rfl 4 (by decide) m_fl_RX11_34 rfl dX11_come_38 ?_
          refine lv_aload hx hb dX11_come_41 (lv_at hl 0 rfl) ?_
          refine z_Vv (bc := [wp, z1_]) (br := [[zO10 xo t im mk rd po co tr wa wb_ fi cd], z0_, wt]) (As := [.ref l1]) (rest := []) C G (c_Posts_begin l T po lp f1 f2 f3 st wh wp l1 cr1_ inn1_ k11_ k21_ k31_ k41_ z1_ hp hz1_) (kV_RX11_205 C.2.2.2.2 (Nat.le_of_ble_eq_true rfl) (Nat.le_of_ble_eq_true rfl)) [2, 4] [2, 1] rfl rfl (ci := 6) (qc := (RX6, TX6, 6)) rfl rfl (List.mem_flatten.mpr ⟨_, List.mem_of_getElem? (i := 0) rfl, (bPosts_mem hp).choose_spec⟩) rfl rfl hl.1 dX11_come_43 (Nat.le_of_ble_eq_true rfl) (Nat.le_of_ble_eq_true rfl) (fun b1 H locs hw G => ?_)
          refine zEx4 hw ?_
          intro w2_47 g1_48 g2_49 g3_50
          refine zCu5 ?_
          intro hbs9 h_51 h_52 h_53 h_54
          clear hw
          subst hbs9
          have G : zS T A s.heap s [[zO10 xo t im mk rd po co tr wa wb_ fi cd], z0_, wt, w2_47, z1_] _ _ := G
          have hQ : zP3 g1_48 g3_50 := z_P3 hI1_ h_52 h_54
          refine lv_iconst (v := 0) hx hb dX11_come_46 (by decide) ?_
          refine lv_istore (lv' := [(5, .int 0), (4, .ref l1), (0, .ref xo), (1, .int i1), (2, .int a_), (3, .int k_)]) hx hb dX11_come_47 hl (by decide) (zLvf_h rfl) (fun ls hl => ?_)
          refine z_lp5 (T := T) 49 (fun (i : Nat) (wp3 : va_W) (x1 : Nat → Int32) (sx : Int32) (wx : Int32) => [[zO10 xo t im mk rd po co tr wa wb_ fi cd], z0_, wt, wp3, z1_]) (fun (i : Nat) (wp3 : va_W) (x1 : Nat → Int32) (sx : Int32) (wx : Int32) => [(5, .int (nI i)), (4, .ref l1), (0, .ref xo), (1, .int i1), (2, .int a_), (3, .int k_)]) (fun (i : Nat) (wp3 : va_W) (x1 : Nat → Int32) (sx : Int32) (wx : Int32) => bPosts T po l1 x1 g2_49 g3_50 sx wx wp3 ∧ i ≤ 99 ∧ zP3 x1 g3_50) (fun (i : Nat) (wp3 : va_W) (x1 : Nat → Int32) (sx : Int32) (wx : Int32) => 99 - i) ?_ 0 w2_47 g1_48 0 0 (show bPosts T po l1 g1_48 g2_49 g3_50 0 0 w2_47 ∧ 0 ≤ 99 ∧ zP3 g1_48 g3_50 from ⟨h_51, by omega, hQ⟩) G (lv_sub hl [0, 1, 2, 3, 4, 5] rfl)
          intro i wp3 x1 sx wx hI9 ih_49 H locs ls G hl
          replace hI9 : bPosts T po l1 x1 g2_49 g3_50 sx wx wp3 ∧ i ≤ 99 ∧ zP3 x1 g3_50 := hI9
          refine zAn3 hI9 ?_
          intro hp3 hi hQx
          clear hI9
          replace G : zS T A s.heap s [[zO10 xo t im mk rd po co tr wa wb_ fi cd], z0_, wt, wp3, z1_] _ _ := G
          replace hl : lv_has ls 6 [(5, .int (nI i)), (4, .ref l1), (0, .ref xo), (1, .int i1), (2, .int a_), (3, .int k_)] := hl
          refine lv_iload hx hb dX11_come_49 (lv_at hl 0 rfl) ?_
          refine lv_iload_n hx hb dX11_come_51 rfl (lv_at hl 5 rfl) ?_
          refine lv_icmp_ge (tgt := 69) hx hb dX11_come_52 (by decide) (fun c_56 => ?_) (fun c_56 => ?_)
          · have c_56n : k_.toInt ≤ (i : Int) := by have q := (fa_le _ _).mp c_56; rw [nI_toInt (n := i) (by omega)] at q; exact q
            refine lv_aload_n hx hb dX11_come_69 rfl (lv_at hl 2 rfl) ?_
            refine z_get C G clX11 0 rfl 4 (by decide) m_fl_RX11_34 rfl dX11_come_70 ?_
            refine zEx3 hp3 ?_
            intro a1_57 a2_58 a3_59 hbs9
            clear hp3
            subst hbs9
            have G : zS T A s.heap s [[zO10 xo t im mk rd po co tr wa wb_ fi cd], z0_, wt, [zO6 po l1 a1_57 a2_58 sx wx a3_59], [zAr T 0 a1_57 7 x1], [zAr T 0 a2_58 7 g2_49], [zAr T 0 a3_59 7 g3_50], z1_] _ _ := G.re rfl
            refine z_get C G clX6 3 rfl 4 (by decide) m_fl_RX11_211 rfl dX11_come_73 ?_
            have hw_60 : bPosts T po l1 x1 g2_49 g3_50 sx wx [zO6 po l1 a1_57 a2_58 sx wx a3_59, zAr T 0 a1_57 7 x1, zAr T 0 a2_58 7 g2_49, zAr T 0 a3_59 7 g3_50] := ⟨a1_57, a2_58, a3_59, rfl⟩
            have G : zS T A s.heap s [[zO10 xo t im mk rd po co tr wa wb_ fi cd], z0_, wt, [zO6 po l1 a1_57 a2_58 sx wx a3_59, zAr T 0 a1_57 7 x1, zAr T 0 a2_58 7 g2_49, zAr T 0 a3_59 7 g3_50], z1_] _ _ := G.re rfl
            have G := G.sub (bs' := [[zO10 xo t im mk rd po co tr wa wb_ fi cd], wt, z0_, z1_, [zO6 po l1 a1_57 a2_58 sx wx a3_59, zAr T 0 a1_57 7 x1, zAr T 0 a2_58 7 g2_49, zAr T 0 a3_59 7 g3_50]]) [0, 2, 1, 4, 3] rfl
            exact z_back hQz_ (z_iret C hr hlocks G (Nat.le_of_ble_eq_true rfl) (Nat.le_of_ble_eq_true rfl) dX11_come_76 ⟨l1, x1, g2_49, g3_50, sx, wx, ([zO6 po l1 a1_57 a2_58 sx wx a3_59, zAr T 0 a1_57 7 x1, zAr T 0 a2_58 7 g2_49, zAr T 0 a3_59 7 g3_50]), rfl, hw_60⟩)
          · have c_56n : ¬ k_.toInt ≤ (i : Int) := fun q => c_56 ((fa_le _ _).mpr (by rw [nI_toInt (n := i) (by omega)]; exact q))
            refine lv_aload_n hx hb dX11_come_55 rfl (lv_at hl 2 rfl) ?_
            refine z_get C G clX11 0 rfl 4 (by decide) m_fl_RX11_34 rfl dX11_come_56 ?_
            refine lv_iload_n hx hb dX11_come_59 rfl (lv_at hl 4 rfl) ?_
            refine z_Vv (bc := [wp3, z1_]) (br := [[zO10 xo t im mk rd po co tr wa wb_ fi cd], z0_, wt]) (As := [.int a_]) (rest := []) C G (c_Posts_run l T po l1 x1 g2_49 g3_50 sx wx wp3 cr1_ inn1_ k11_ k21_ k31_ k41_ z1_ a_ hp3 hz1_ (by first | with_reducible assumption | with_reducible rfl | omega | assumption | rfl)) (kV_RX11_208 C.2.2.2.2 (Nat.le_of_ble_eq_true rfl) (Nat.le_of_ble_eq_true rfl)) [3, 4] [3, 0] rfl rfl (ci := 6) (qc := (RX6, TX6, 6)) rfl rfl (List.mem_flatten.mpr ⟨_, List.mem_of_getElem? (i := 0) rfl, (bPosts_mem hp3).choose_spec⟩) rfl rfl hl.1 dX11_come_60 (Nat.le_of_ble_eq_true rfl) (Nat.le_of_ble_eq_true rfl) (fun b1 H locs hw G => ?_)
            refine zEx4 hw ?_
            intro w2_61 g1_62 s2_63 x2_64
            refine zCu5 ?_
            intro hbs9 h_65 h_66 h_67 h_68
            clear hw
            subst hbs9
            have G : zS T A s.heap s [[zO10 xo t im mk rd po co tr wa wb_ fi cd], z0_, wt, w2_61, z1_] _ _ := G
            have hQ2 : zP3 g1_62 g3_50 := by rw [h_66]; exact zRunN_I _ _ _ _ hQx
            refine lv_iinc (v := nI (i + 1)) (lv' := [(5, .int (nI (i + 1))), (4, .ref l1), (0, .ref xo), (1, .int i1), (2, .int a_), (3, .int k_)]) hx hb dX11_come_63 hl (k := 0) rfl (z_inc i 1) (by decide) (zLvf_h rfl) (fun ls hl => ?_)
            refine lv_goto (tgt := 49) hx hb dX11_come_66 (by decide) ?_
            exact ih_49 (i + 1) w2_61 g1_62 s2_63 x2_64 (show bPosts T po l1 g1_62 g2_49 g3_50 s2_63 x2_64 w2_61 ∧ (i + 1) ≤ 99 ∧ zP3 g1_62 g3_50 from ⟨h_65, by omega, hQ2⟩) (show 99 - (i + 1) < 99 - i from by omega) _ _ ls G (lv_sub hl [0, 1, 2, 3, 4, 5] rfl)
        · have c_46n : ¬ k_.toInt ≤ (99 : Int) := fun q => c_46 ((fa_le _ _).mpr q)
          refine lv_iconst (v := (-1)) hx hb dX11_come_35 (by decide) ?_
          have G := G.sub (bs' := [[zO10 xo t im mk rd po co tr wa wb_ fi cd], wt, z0_, z1_, wp]) [0, 3, 1, 4, 2] rfl
          exact z_back hQz_ (z_iret C hr hlocks G (Nat.le_of_ble_eq_true rfl) (Nat.le_of_ble_eq_true rfl) dX11_come_36 ⟨lp, f1, f2, f3, st, wh, wp, rfl, hp⟩)
    · have h_44 : (a_.toInt < 0 ∨ cr1_.toInt ≤ a_.toInt ∨ 7 ≤ a_.toInt) := h_44
      refine lv_if_eq (tgt := 35) hx hb dX11_come_21 (by decide) (fun _ => ?_) (fun q => absurd (by decide) q)
      refine lv_iconst (v := (-1)) hx hb dX11_come_35 (by decide) ?_
      have G := G.sub (bs' := [[zO10 xo t im mk rd po co tr wa wb_ fi cd], wt, z0_, z1_, wp]) [0, 3, 1, 4, 2] rfl
      exact z_back hQz_ (z_iret C hr hlocks G (Nat.le_of_ble_eq_true rfl) (Nat.le_of_ble_eq_true rfl) dX11_come_36 ⟨lp, f1, f2, f3, st, wh, wp, rfl, hp⟩)
set_option maxHeartbeats 4000000 in
set_option maxRecDepth 100000 in
/-- c_share -/
theorem c_share (l : Launch) (T : zTy) (xo : Nat) (t : Nat) (im : Nat) (mk : Nat) (rd : Nat) (po : Nat) (co : Nat) (tr : Nat) (wa : Nat) (wb_ : Nat) (fi : Nat) (cd : Nat) (l0 : Nat) (l1 : Nat) (d0 : Nat) (d1 : Nat) (g0 : Nat) (g1 : Nat) (ln : Int32) (fl : Int32) (pl : Int32) (ft : Nat → Int32) (fk : Nat → Int32) (wt : va_W) (cr0_ : Int32) (inn0_ : Int32) (k10_ : Nat → Int32) (k20_ : Nat → Int32) (k30_ : Nat → Int32) (k40_ : Nat → Int32) (z0_ : va_W) (cr1_ : Int32) (inn1_ : Int32) (k11_ : Nat → Int32) (k21_ : Nat → Int32) (k31_ : Nat → Int32) (k41_ : Nat → Int32) (z1_ : va_W) (lp : Nat) (f1 : Nat → Int32) (f2 : Nat → Int32) (f3 : Nat → Int32) (st : Int32) (wh : Int32) (wp : va_W) (i1 : Int32) (a_ : Int32) (k_ : Int32) (n : Int32) (ht : bTold T t l0 l1 d0 d1 g0 g1 ln fl pl ft fk wt) (hK : zKT fk) (hz0_ : bLand T l0 cr0_ inn0_ k10_ k20_ k30_ k40_ z0_) (hI0_ : zLI cr0_ k10_ k30_) (hz1_ : bLand T l1 cr1_ inn1_ k11_ k21_ k31_ k41_ z1_) (hI1_ : zLI cr1_ k11_ k31_) (hp : bPosts T po lp f1 f2 f3 st wh wp) : zMi l T yX11_share cX11_share 8 (some .int) 5 0 0 [.ref xo, .int i1, .int a_, .int k_, .int n] [[zO10 xo t im mk rd po co tr wa wb_ fi cd], wt, z0_, z1_, wp] (fun (r : Int32) bs => ∃ (lp_2 : Nat) (f1_2 : Nat → Int32) (f2_2 : Nat → Int32) (f3_2 : Nat → Int32) (st_2 : Int32) (wh_2 : Int32) (wp_2 : va_W), bs = [[zO10 xo t im mk rd po co tr wa wb_ fi cd], wt, z0_, z1_, wp_2] ∧ bPosts T po lp_2 f1_2 f2_2 f3_2 st_2 wh_2 wp_2) := by
  refine zMi_of (own := RX11) (by decide) rfl (Nat.le_of_ble_eq_true rfl) ?_
  intro p e s m args below meth c A ls C hr hlocks hnm hAe G hl
  refine zHide (fun Qz_ hQz_ => ?_)
  have hx := C.1
  have hb := C.2.1
  have hl : lv_has ls 8 [(0, .ref xo), (1, .int i1), (2, .int a_), (3, .int k_), (4, .int n)] := hl
  refine lv_aload_n hx hb dX11_share_0 rfl (lv_at hl 0 rfl) ?_
  refine z_get C G clX11 0 rfl 0 (by decide) m_fl_RX11_10 rfl dX11_share_1 ?_
  refine lv_iload_n hx hb dX11_share_4 rfl (lv_at hl 1 rfl) ?_
  refine z_Vq (bc := [wt]) (br := [[zO10 xo t im mk rd po co tr wa wb_ fi cd], z0_, z1_, wp]) (As := [.int i1]) (rest := []) C G (c_landAt l T t l0 l1 d0 d1 g0 g1 ln fl pl ft fk wt i1 ht) (kV_RX11_121 C.2.2.2.2 (Nat.le_of_ble_eq_true rfl) (Nat.le_of_ble_eq_true rfl)) [1] [1] rfl rfl (ci := 8) (qc := (RX9, TX9, 8)) rfl rfl (List.mem_flatten.mpr ⟨_, List.mem_of_getElem? (i := 0) rfl, (bTold_mem ht).choose_spec⟩) rfl rfl hl.1 dX11_share_5 (Nat.le_of_ble_eq_true rfl) (Nat.le_of_ble_eq_true rfl) (fun r_2 b1 H locs hw G => ?_)
  refine zAn2 hw ?_
  intro hbs9 hc_1
  clear hw
  subst hbs9
  have G : zS T A s.heap s [[zO10 xo t im mk rd po co tr wa wb_ fi cd], z0_, z1_, wp, wt] _ _ := G
  rcases hc_1 with ⟨rfl, h_3⟩ | ⟨rfl, h_4, h_5⟩ | ⟨rfl, h_6, h_7⟩
  · have h_3 : (i1.toInt < 0 ∨ (fk 0).toInt ≤ i1.toInt ∨ 2 ≤ i1.toInt) := h_3
    refine lv_astoreN (lv' := [(5, .null), (0, .ref xo), (1, .int i1), (2, .int a_), (3, .int k_), (4, .int n)]) hx hb dX11_share_8 hl (by decide) (zLvf_h rfl) (fun ls hl => ?_)
    refine lv_aloadN hx hb dX11_share_10 (lv_at hl 0 rfl) ?_
    refine lv_ifnullN (tgt := 44) hx hb dX11_share_12 (by decide) ?_
    refine lv_iconst (v := (-1)) hx hb dX11_share_44 (by decide) ?_
    have G := G.sub (bs' := [[zO10 xo t im mk rd po co tr wa wb_ fi cd], wt, z0_, z1_, wp]) [0, 4, 1, 2, 3] rfl
    exact z_back hQz_ (z_iret C hr hlocks G (Nat.le_of_ble_eq_true rfl) (Nat.le_of_ble_eq_true rfl) dX11_share_45 ⟨lp, f1, f2, f3, st, wh, wp, rfl, hp⟩)
  · have h_4 : i1.toInt = 0 := h_4
    have h_5 : 0 < (fk 0).toInt := h_5
    refine lv_astore (lv' := [(5, .ref l0), (0, .ref xo), (1, .int i1), (2, .int a_), (3, .int k_), (4, .int n)]) hx hb dX11_share_8 hl (by decide) (zLvf_h rfl) (fun ls hl => ?_)
    refine lv_aload hx hb dX11_share_10 (lv_at hl 0 rfl) ?_
    refine lv_ifnull hx hb dX11_share_12 ?_
    refine lv_aload hx hb dX11_share_15 (lv_at hl 0 rfl) ?_
    refine lv_iload_n hx hb dX11_share_17 rfl (lv_at hl 3 rfl) ?_
    refine z_Vi (bc := [z0_]) (br := [[zO10 xo t im mk rd po co tr wa wb_ fi cd], z1_, wp, wt]) (As := [.int a_]) (rest := []) C G (c_has l T l0 cr0_ inn0_ k10_ k20_ k30_ k40_ z0_ a_ hz0_) (kV_RX11_160 C.2.2.2.2 (Nat.le_of_ble_eq_true rfl) (Nat.le_of_ble_eq_true rfl)) [1] [1] rfl rfl (ci := 4) (qc := (RX4, TX4, 6)) rfl rfl (List.mem_flatten.mpr ⟨_, List.mem_of_getElem? (i := 0) rfl, (bLand_mem hz0_).choose_spec⟩) rfl rfl hl.1 dX11_share_18 (Nat.le_of_ble_eq_true rfl) (Nat.le_of_ble_eq_true rfl) (fun r_9 b1 H locs hw G => ?_)
    refine zAn2 hw ?_
    intro hbs9 hc_8
    clear hw
    subst hbs9
    have G : zS T A s.heap s [[zO10 xo t im mk rd po co tr wa wb_ fi cd], z1_, wp, wt, z0_] _ _ := G
    rcases hc_8 with ⟨rfl, h_10, h_11, h_12⟩ | ⟨rfl, h_13⟩
    · have h_10 : 0 ≤ a_.toInt := h_10
      have h_11 : a_.toInt < cr0_.toInt := h_11
      have h_12 : a_.toInt < 7 := h_12
      refine lv_if_eq (tgt := 44) hx hb dX11_share_21 (by decide) (fun q => absurd q (by decide)) (fun _ => ?_)
      refine lv_aload hx hb dX11_share_24 (lv_at hl 0 rfl) ?_
      refine lv_iload hx hb dX11_share_26 (lv_at hl 5 rfl) ?_
      refine z_Vi (bc := [z0_]) (br := [[zO10 xo t im mk rd po co tr wa wb_ fi cd], z1_, wp, wt]) (As := [.int n]) (rest := []) C G (c_isInn l T l0 cr0_ inn0_ k10_ k20_ k30_ k40_ z0_ n hz0_) (kV_RX11_174 C.2.2.2.2 (Nat.le_of_ble_eq_true rfl) (Nat.le_of_ble_eq_true rfl)) [4] [4] rfl rfl (ci := 4) (qc := (RX4, TX4, 6)) rfl rfl (List.mem_flatten.mpr ⟨_, List.mem_of_getElem? (i := 0) rfl, (bLand_mem hz0_).choose_spec⟩) rfl rfl hl.1 dX11_share_28 (Nat.le_of_ble_eq_true rfl) (Nat.le_of_ble_eq_true rfl) (fun r_15 b1 H locs hw G => ?_)
      refine zAn2 hw ?_
      intro hbs9 hc_14
      clear hw
      subst hbs9
      have G : zS T A s.heap s [[zO10 xo t im mk rd po co tr wa wb_ fi cd], z1_, wp, wt, z0_] _ _ := G
      rcases hc_14 with ⟨rfl, h_16, h_17, h_18, h_19⟩ | ⟨rfl, h_20⟩
      · have h_16 : 0 ≤ n.toInt := h_16
        have h_17 : n.toInt < cr0_.toInt := h_17
        have h_18 : n.toInt < 7 := h_18
        have h_19 : ¬ zBit inn0_ n = 0 := h_19
        refine lv_if_eq (tgt := 44) hx hb dX11_share_31 (by decide) (fun q => absurd q (by decide)) (fun _ => ?_)
        refine lv_iload_n hx hb dX11_share_34 rfl (lv_at hl 4 rfl) ?_
        refine lv_if_lt (tgt := 44) hx hb dX11_share_35 (by decide) (fun c_21 => ?_) (fun c_21 => ?_)
        · have c_21n : k_.toInt < (0 : Int) := (fa_lt _ _).mp c_21
          refine lv_iconst (v := (-1)) hx hb dX11_share_44 (by decide) ?_
          have G := G.sub (bs' := [[zO10 xo t im mk rd po co tr wa wb_ fi cd], wt, z0_, z1_, wp]) [0, 3, 4, 1, 2] rfl
          exact z_back hQz_ (z_iret C hr hlocks G (Nat.le_of_ble_eq_true rfl) (Nat.le_of_ble_eq_true rfl) dX11_share_45 ⟨lp, f1, f2, f3, st, wh, wp, rfl, hp⟩)
        · have c_21n : ¬ k_.toInt < (0 : Int) := fun q => c_21 ((fa_lt _ _).mpr q)
          refine lv_iload_n hx hb dX11_share_38 rfl (lv_at hl 4 rfl) ?_
          refine lv_bipush (v := 99) hx hb dX11_share_39 (by decide) ?_
          refine lv_icmp_le (tgt := 46) hx hb dX11_share_41 (by decide) (fun c_22 => ?_) (fun c_22 => ?_)
          · have c_22n : k_.toInt ≤ (99 : Int) := (fa_le _ _).mp c_22
            refine lv_iconst (v := 0) hx hb dX11_share_46 (by decide) ?_
            refine lv_istore (lv' := [(6, .int 0), (5, .ref l0), (0, .ref xo), (1, .int i1), (2, .int a_), (3, .int k_), (4, .int n)]) hx hb dX11_share_47 hl (by decide) (zLvf_h rfl) (fun ls hl => ?_)
            refine lv_aload_n hx hb dX11_share_49 rfl (lv_at hl 2 rfl) ?_
            refine z_get C G clX11 0 rfl 4 (by decide) m_fl_RX11_34 rfl dX11_share_50 ?_
            refine lv_aload hx hb dX11_share_53 (lv_at hl 1 rfl) ?_
            refine z_Vv (bc := [wp, z0_]) (br := [[zO10 xo t im mk rd po co tr wa wb_ fi cd], z1_, wt]) (As := [.ref l0]) (rest := []) C G (c_Posts_begin l T po lp f1 f2 f3 st wh wp l0 cr0_ inn0_ k10_ k20_ k30_ k40_ z0_ hp hz0_) (kV_RX11_205 C.2.2.2.2 (Nat.le_of_ble_eq_true rfl) (Nat.le_of_ble_eq_true rfl)) [2, 4] [2, 1] rfl rfl (ci := 6) (qc := (RX6, TX6, 6)) rfl rfl (List.mem_flatten.mpr ⟨_, List.mem_of_getElem? (i := 0) rfl, (bPosts_mem hp).choose_spec⟩) rfl rfl hl.1 dX11_share_55 (Nat.le_of_ble_eq_true rfl) (Nat.le_of_ble_eq_true rfl) (fun b1 H locs hw G => ?_)
            refine zEx4 hw ?_
            intro w2_23 g1_24 g2_25 g3_26
            refine zCu5 ?_
            intro hbs9 h_27 h_28 h_29 h_30
            clear hw
            subst hbs9
            have G : zS T A s.heap s [[zO10 xo t im mk rd po co tr wa wb_ fi cd], z1_, wt, w2_23, z0_] _ _ := G
            have hQ : zP3 g1_24 g3_26 := z_P3 hI0_ h_28 h_30
            refine lv_iconst (v := 0) hx hb dX11_share_58 (by decide) ?_
            refine lv_istore (lv' := [(7, .int 0), (6, .int 0), (5, .ref l0), (0, .ref xo), (1, .int i1), (2, .int a_), (3, .int k_), (4, .int n)]) hx hb dX11_share_59 hl (by decide) (zLvf_h rfl) (fun ls hl => ?_)
            refine z_lp6 (T := T) 61 (fun (i : Nat) (wp3 : va_W) (x1 : Nat → Int32) (sx : Int32) (wx : Int32) (u6 : Int32) => [[zO10 xo t im mk rd po co tr wa wb_ fi cd], z1_, wt, wp3, z0_]) (fun (i : Nat) (wp3 : va_W) (x1 : Nat → Int32) (sx : Int32) (wx : Int32) (u6 : Int32) => [(7, .int (nI i)), (6, .int u6), (5, .ref l0), (0, .ref xo), (1, .int i1), (2, .int a_), (3, .int k_), (4, .int n)]) (fun (i : Nat) (wp3 : va_W) (x1 : Nat → Int32) (sx : Int32) (wx : Int32) (u6 : Int32) => bPosts T po l0 x1 g2_25 g3_26 sx wx wp3 ∧ i ≤ 99 ∧ zP3 x1 g3_26) (fun (i : Nat) (wp3 : va_W) (x1 : Nat → Int32) (sx : Int32) (wx : Int32) (u6 : Int32) => 99 - i) ?_ 0 w2_23 g1_24 0 0 0 (show bPosts T po l0 g1_24 g2_25 g3_26 0 0 w2_23 ∧ 0 ≤ 99 ∧ zP3 g1_24 g3_26 from ⟨h_27, by omega, hQ⟩) G (lv_sub hl [0, 1, 2, 3, 4, 5, 6, 7] rfl)
            intro i wp3 x1 sx wx u6 hI9 ih_61 H locs ls G hl
            replace hI9 : bPosts T po l0 x1 g2_25 g3_26 sx wx wp3 ∧ i ≤ 99 ∧ zP3 x1 g3_26 := hI9
            refine zAn3 hI9 ?_
            intro hp3 hi hQx
            clear hI9
            replace G : zS T A s.heap s [[zO10 xo t im mk rd po co tr wa wb_ fi cd], z1_, wt, wp3, z0_] _ _ := G
            replace hl : lv_has ls 8 [(7, .int (nI i)), (6, .int u6), (5, .ref l0), (0, .ref xo), (1, .int i1), (2, .int a_), (3, .int k_), (4, .int n)] := hl
            refine lv_iload hx hb dX11_share_61 (lv_at hl 0 rfl) ?_
            refine lv_iload_n hx hb dX11_share_63 rfl (lv_at hl 6 rfl) ?_
            refine lv_icmp_ge (tgt := 96) hx hb dX11_share_64 (by decide) (fun c_32 => ?_) (fun c_32 => ?_)
            · have c_32n : k_.toInt ≤ (i : Int) := by have q := (fa_le _ _).mp c_32; rw [nI_toInt (n := i) (by omega)] at q; exact q
              refine lv_iload hx hb dX11_share_96 (lv_at hl 1 rfl) ?_
              have G := G.sub (bs' := [[zO10 xo t im mk rd po co tr wa wb_ fi cd], wt, z0_, z1_, wp3]) [0, 2, 4, 1, 3] rfl
              exact z_back hQz_ (z_iret C hr hlocks G (Nat.le_of_ble_eq_true rfl) (Nat.le_of_ble_eq_true rfl) dX11_share_98 ⟨l0, x1, g2_25, g3_26, sx, wx, wp3, rfl, hp3⟩)
            · have c_32n : ¬ k_.toInt ≤ (i : Int) := fun q => c_32 ((fa_le _ _).mpr (by rw [nI_toInt (n := i) (by omega)]; exact q))
              refine lv_aload_n hx hb dX11_share_67 rfl (lv_at hl 3 rfl) ?_
              refine z_get C G clX11 0 rfl 4 (by decide) m_fl_RX11_34 rfl dX11_share_68 ?_
              refine lv_iload_n hx hb dX11_share_71 rfl (lv_at hl 5 rfl) ?_
              refine z_Vv (bc := [wp3, z0_]) (br := [[zO10 xo t im mk rd po co tr wa wb_ fi cd], z1_, wt]) (As := [.int a_]) (rest := []) C G (c_Posts_run l T po l0 x1 g2_25 g3_26 sx wx wp3 cr0_ inn0_ k10_ k20_ k30_ k40_ z0_ a_ hp3 hz0_ (by first | with_reducible assumption | with_reducible rfl | omega | assumption | rfl)) (kV_RX11_208 C.2.2.2.2 (Nat.le_of_ble_eq_true rfl) (Nat.le_of_ble_eq_true rfl)) [3, 4] [3, 0] rfl rfl (ci := 6) (qc := (RX6, TX6, 6)) rfl rfl (List.mem_flatten.mpr ⟨_, List.mem_of_getElem? (i := 0) rfl, (bPosts_mem hp3).choose_spec⟩) rfl rfl hl.1 dX11_share_72 (Nat.le_of_ble_eq_true rfl) (Nat.le_of_ble_eq_true rfl) (fun b1 H locs hw G => ?_)
              refine zEx4 hw ?_
              intro w2_33 g1_34 s2_35 x2_36
              refine zCu5 ?_
              intro hbs9 h_37 h_38 h_39 h_40
              clear hw
              subst hbs9
              have G : zS T A s.heap s [[zO10 xo t im mk rd po co tr wa wb_ fi cd], z1_, wt, w2_33, z0_] _ _ := G
              have hQ2 : zP3 g1_34 g3_26 := by rw [h_38]; exact zRunN_I _ _ _ _ hQx
              refine lv_aload_n hx hb dX11_share_75 rfl (lv_at hl 3 rfl) ?_
              refine z_get C G clX11 0 rfl 4 (by decide) m_fl_RX11_34 rfl dX11_share_76 ?_
              refine zEx3 h_37 ?_
              intro a1_42 a2_43 a3_44 hbs9
              clear h_37
              subst hbs9
              have G : zS T A s.heap s [[zO10 xo t im mk rd po co tr wa wb_ fi cd], z1_, wt, [zO6 po l0 a1_42 a2_43 s2_35 x2_36 a3_44], [zAr T 0 a1_42 7 g1_34], [zAr T 0 a2_43 7 g2_25], [zAr T 0 a3_44 7 g3_26], z0_] _ _ := G.re rfl
              refine z_get C G clX6 3 rfl 4 (by decide) m_fl_RX11_211 rfl dX11_share_79 ?_
              refine lv_iload hx hb dX11_share_82 (lv_at hl 7 rfl) ?_
              refine lv_icmp_ne (tgt := 90) hx hb dX11_share_84 (by decide) (fun c_45 => ?_) (fun c_45 => ?_)
              · have c_45n : ¬ x2_36.toInt = n.toInt := fun q => c_45 ((fa_eq _ _).mpr q)
                refine lv_iinc (v := nI (i + 1)) (lv' := [(7, .int (nI (i + 1))), (6, .int u6), (5, .ref l0), (0, .ref xo), (1, .int i1), (2, .int a_), (3, .int k_), (4, .int n)]) hx hb dX11_share_90 hl (k := 0) rfl (z_inc i 1) (by decide) (zLvf_h rfl) (fun ls hl => ?_)
                refine lv_goto (tgt := 61) hx hb dX11_share_93 (by decide) ?_
                have hw_46 : bPosts T po l0 g1_34 g2_25 g3_26 s2_35 x2_36 [zO6 po l0 a1_42 a2_43 s2_35 x2_36 a3_44, zAr T 0 a1_42 7 g1_34, zAr T 0 a2_43 7 g2_25, zAr T 0 a3_44 7 g3_26] := ⟨a1_42, a2_43, a3_44, rfl⟩
                have G : zS T A s.heap s [[zO10 xo t im mk rd po co tr wa wb_ fi cd], z1_, wt, [zO6 po l0 a1_42 a2_43 s2_35 x2_36 a3_44, zAr T 0 a1_42 7 g1_34, zAr T 0 a2_43 7 g2_25, zAr T 0 a3_44 7 g3_26], z0_] _ _ := G.re rfl
                exact ih_61 (i + 1) ([zO6 po l0 a1_42 a2_43 s2_35 x2_36 a3_44, zAr T 0 a1_42 7 g1_34, zAr T 0 a2_43 7 g2_25, zAr T 0 a3_44 7 g3_26]) g1_34 s2_35 x2_36 u6 (show bPosts T po l0 g1_34 g2_25 g3_26 s2_35 x2_36 ([zO6 po l0 a1_42 a2_43 s2_35 x2_36 a3_44, zAr T 0 a1_42 7 g1_34, zAr T 0 a2_43 7 g2_25, zAr T 0 a3_44 7 g3_26]) ∧ (i + 1) ≤ 99 ∧ zP3 g1_34 g3_26 from ⟨hw_46, by omega, hQ2⟩) (show 99 - (i + 1) < 99 - i from by omega) _ _ ls G (lv_sub hl [0, 1, 2, 3, 4, 5, 6, 7] rfl)
              · have c_45n : x2_36.toInt = n.toInt := (fa_eq _ _).mp c_45
                refine lv_iinc (v := u6 + 1) (lv' := [(6, .int (u6 + 1)), (7, .int (nI i)), (5, .ref l0), (0, .ref xo), (1, .int i1), (2, .int a_), (3, .int k_), (4, .int n)]) hx hb dX11_share_87 hl (k := 1) rfl rfl (by decide) (zLvf_h rfl) (fun ls hl => ?_)
                refine lv_iinc (v := nI (i + 1)) (lv' := [(7, .int (nI (i + 1))), (6, .int (u6 + 1)), (5, .ref l0), (0, .ref xo), (1, .int i1), (2, .int a_), (3, .int k_), (4, .int n)]) hx hb dX11_share_90 hl (k := 1) rfl (z_inc i 1) (by decide) (zLvf_h rfl) (fun ls hl => ?_)
                refine lv_goto (tgt := 61) hx hb dX11_share_93 (by decide) ?_
                have hw_47 : bPosts T po l0 g1_34 g2_25 g3_26 s2_35 x2_36 [zO6 po l0 a1_42 a2_43 s2_35 x2_36 a3_44, zAr T 0 a1_42 7 g1_34, zAr T 0 a2_43 7 g2_25, zAr T 0 a3_44 7 g3_26] := ⟨a1_42, a2_43, a3_44, rfl⟩
                have G : zS T A s.heap s [[zO10 xo t im mk rd po co tr wa wb_ fi cd], z1_, wt, [zO6 po l0 a1_42 a2_43 s2_35 x2_36 a3_44, zAr T 0 a1_42 7 g1_34, zAr T 0 a2_43 7 g2_25, zAr T 0 a3_44 7 g3_26], z0_] _ _ := G.re rfl
                exact ih_61 (i + 1) ([zO6 po l0 a1_42 a2_43 s2_35 x2_36 a3_44, zAr T 0 a1_42 7 g1_34, zAr T 0 a2_43 7 g2_25, zAr T 0 a3_44 7 g3_26]) g1_34 s2_35 x2_36 (u6 + 1) (show bPosts T po l0 g1_34 g2_25 g3_26 s2_35 x2_36 ([zO6 po l0 a1_42 a2_43 s2_35 x2_36 a3_44, zAr T 0 a1_42 7 g1_34, zAr T 0 a2_43 7 g2_25, zAr T 0 a3_44 7 g3_26]) ∧ (i + 1) ≤ 99 ∧ zP3 g1_34 g3_26 from ⟨hw_47, by omega, hQ2⟩) (show 99 - (i + 1) < 99 - i from by omega) _ _ ls G (lv_sub hl [0, 1, 2, 3, 4, 5, 6, 7] rfl)
          · have c_22n : ¬ k_.toInt ≤ (99 : Int) := fun q => c_22 ((fa_le _ _).mpr q)
            refine lv_iconst (v := (-1)) hx hb dX11_share_44 (by decide) ?_
            have G := G.sub (bs' := [[zO10 xo t im mk rd po co tr wa wb_ fi cd], wt, z0_, z1_, wp]) [0, 3, 4, 1, 2] rfl
            exact z_back hQz_ (z_iret C hr hlocks G (Nat.le_of_ble_eq_true rfl) (Nat.le_of_ble_eq_true rfl) dX11_share_45 ⟨lp, f1, f2, f3, st, wh, wp, rfl, hp⟩)
      · have h_20 : (n.toInt < 0 ∨ cr0_.toInt ≤ n.toInt ∨ 7 ≤ n.toInt ∨ zBit inn0_ n = 0) := h_20
        refine lv_if_eq (tgt := 44) hx hb dX11_share_31 (by decide) (fun _ => ?_) (fun q => absurd (by decide) q)
        refine lv_iconst (v := (-1)) hx hb dX11_share_44 (by decide) ?_
        have G := G.sub (bs' := [[zO10 xo t im mk rd po co tr wa wb_ fi cd], wt, z0_, z1_, wp]) [0, 3, 4, 1, 2] rfl
        exact z_back hQz_ (z_iret C hr hlocks G (Nat.le_of_ble_eq_true rfl) (Nat.le_of_ble_eq_true rfl) dX11_share_45 ⟨lp, f1, f2, f3, st, wh, wp, rfl, hp⟩)
    · have h_13 : (a_.toInt < 0 ∨ cr0_.toInt ≤ a_.toInt ∨ 7 ≤ a_.toInt) := h_13
      refine lv_if_eq (tgt := 44) hx hb dX11_share_21 (by decide) (fun _ => ?_) (fun q => absurd (by decide) q)
      refine lv_iconst (v := (-1)) hx hb dX11_share_44 (by decide) ?_
      have G := G.sub (bs' := [[zO10 xo t im mk rd po co tr wa wb_ fi cd], wt, z0_, z1_, wp]) [0, 3, 4, 1, 2] rfl
      exact z_back hQz_ (z_iret C hr hlocks G (Nat.le_of_ble_eq_true rfl) (Nat.le_of_ble_eq_true rfl) dX11_share_45 ⟨lp, f1, f2, f3, st, wh, wp, rfl, hp⟩)
  · have h_6 : i1.toInt = 1 := h_6
    have h_7 : 1 < (fk 0).toInt := h_7
    refine lv_astore (lv' := [(5, .ref l1), (0, .ref xo), (1, .int i1), (2, .int a_), (3, .int k_), (4, .int n)]) hx hb dX11_share_8 hl (by decide) (zLvf_h rfl) (fun ls hl => ?_)
    refine lv_aload hx hb dX11_share_10 (lv_at hl 0 rfl) ?_
    refine lv_ifnull hx hb dX11_share_12 ?_
    refine lv_aload hx hb dX11_share_15 (lv_at hl 0 rfl) ?_
    refine lv_iload_n hx hb dX11_share_17 rfl (lv_at hl 3 rfl) ?_
    refine z_Vi (bc := [z1_]) (br := [[zO10 xo t im mk rd po co tr wa wb_ fi cd], z0_, wp, wt]) (As := [.int a_]) (rest := []) C G (c_has l T l1 cr1_ inn1_ k11_ k21_ k31_ k41_ z1_ a_ hz1_) (kV_RX11_160 C.2.2.2.2 (Nat.le_of_ble_eq_true rfl) (Nat.le_of_ble_eq_true rfl)) [2] [2] rfl rfl (ci := 4) (qc := (RX4, TX4, 6)) rfl rfl (List.mem_flatten.mpr ⟨_, List.mem_of_getElem? (i := 0) rfl, (bLand_mem hz1_).choose_spec⟩) rfl rfl hl.1 dX11_share_18 (Nat.le_of_ble_eq_true rfl) (Nat.le_of_ble_eq_true rfl) (fun r_49 b1 H locs hw G => ?_)
    refine zAn2 hw ?_
    intro hbs9 hc_48
    clear hw
    subst hbs9
    have G : zS T A s.heap s [[zO10 xo t im mk rd po co tr wa wb_ fi cd], z0_, wp, wt, z1_] _ _ := G
    rcases hc_48 with ⟨rfl, h_50, h_51, h_52⟩ | ⟨rfl, h_53⟩
    · have h_50 : 0 ≤ a_.toInt := h_50
      have h_51 : a_.toInt < cr1_.toInt := h_51
      have h_52 : a_.toInt < 7 := h_52
      refine lv_if_eq (tgt := 44) hx hb dX11_share_21 (by decide) (fun q => absurd q (by decide)) (fun _ => ?_)
      refine lv_aload hx hb dX11_share_24 (lv_at hl 0 rfl) ?_
      refine lv_iload hx hb dX11_share_26 (lv_at hl 5 rfl) ?_
      refine z_Vi (bc := [z1_]) (br := [[zO10 xo t im mk rd po co tr wa wb_ fi cd], z0_, wp, wt]) (As := [.int n]) (rest := []) C G (c_isInn l T l1 cr1_ inn1_ k11_ k21_ k31_ k41_ z1_ n hz1_) (kV_RX11_174 C.2.2.2.2 (Nat.le_of_ble_eq_true rfl) (Nat.le_of_ble_eq_true rfl)) [4] [4] rfl rfl (ci := 4) (qc := (RX4, TX4, 6)) rfl rfl (List.mem_flatten.mpr ⟨_, List.mem_of_getElem? (i := 0) rfl, (bLand_mem hz1_).choose_spec⟩) rfl rfl hl.1 dX11_share_28 (Nat.le_of_ble_eq_true rfl) (Nat.le_of_ble_eq_true rfl) (fun r_55 b1 H locs hw G => ?_)
      refine zAn2 hw ?_
      intro hbs9 hc_54
      clear hw
      subst hbs9
      have G : zS T A s.heap s [[zO10 xo t im mk rd po co tr wa wb_ fi cd], z0_, wp, wt, z1_] _ _ := G
      rcases hc_54 with ⟨rfl, h_56, h_57, h_58, h_59⟩ | ⟨rfl, h_60⟩
      · have h_56 : 0 ≤ n.toInt := h_56
        have h_57 : n.toInt < cr1_.toInt := h_57
        have h_58 : n.toInt < 7 := h_58
        have h_59 : ¬ zBit inn1_ n = 0 := h_59
        refine lv_if_eq (tgt := 44) hx hb dX11_share_31 (by decide) (fun q => absurd q (by decide)) (fun _ => ?_)
        refine lv_iload_n hx hb dX11_share_34 rfl (lv_at hl 4 rfl) ?_
        refine lv_if_lt (tgt := 44) hx hb dX11_share_35 (by decide) (fun c_61 => ?_) (fun c_61 => ?_)
        · have c_61n : k_.toInt < (0 : Int) := (fa_lt _ _).mp c_61
          refine lv_iconst (v := (-1)) hx hb dX11_share_44 (by decide) ?_
          have G := G.sub (bs' := [[zO10 xo t im mk rd po co tr wa wb_ fi cd], wt, z0_, z1_, wp]) [0, 3, 1, 4, 2] rfl
          exact z_back hQz_ (z_iret C hr hlocks G (Nat.le_of_ble_eq_true rfl) (Nat.le_of_ble_eq_true rfl) dX11_share_45 ⟨lp, f1, f2, f3, st, wh, wp, rfl, hp⟩)
        · have c_61n : ¬ k_.toInt < (0 : Int) := fun q => c_61 ((fa_lt _ _).mpr q)
          refine lv_iload_n hx hb dX11_share_38 rfl (lv_at hl 4 rfl) ?_
          refine lv_bipush (v := 99) hx hb dX11_share_39 (by decide) ?_
          refine lv_icmp_le (tgt := 46) hx hb dX11_share_41 (by decide) (fun c_62 => ?_) (fun c_62 => ?_)
          · have c_62n : k_.toInt ≤ (99 : Int) := (fa_le _ _).mp c_62
            refine lv_iconst (v := 0) hx hb dX11_share_46 (by decide) ?_
            refine lv_istore (lv' := [(6, .int 0), (5, .ref l1), (0, .ref xo), (1, .int i1), (2, .int a_), (3, .int k_), (4, .int n)]) hx hb dX11_share_47 hl (by decide) (zLvf_h rfl) (fun ls hl => ?_)
            refine lv_aload_n hx hb dX11_share_49 rfl (lv_at hl 2 rfl) ?_
            refine z_get C G clX11 0 rfl 4 (by decide) m_fl_RX11_34 rfl dX11_share_50 ?_
            refine lv_aload hx hb dX11_share_53 (lv_at hl 1 rfl) ?_
            refine z_Vv (bc := [wp, z1_]) (br := [[zO10 xo t im mk rd po co tr wa wb_ fi cd], z0_, wt]) (As := [.ref l1]) (rest := []) C G (c_Posts_begin l T po lp f1 f2 f3 st wh wp l1 cr1_ inn1_ k11_ k21_ k31_ k41_ z1_ hp hz1_) (kV_RX11_205 C.2.2.2.2 (Nat.le_of_ble_eq_true rfl) (Nat.le_of_ble_eq_true rfl)) [2, 4] [2, 1] rfl rfl (ci := 6) (qc := (RX6, TX6, 6)) rfl rfl (List.mem_flatten.mpr ⟨_, List.mem_of_getElem? (i := 0) rfl, (bPosts_mem hp).choose_spec⟩) rfl rfl hl.1 dX11_share_55 (Nat.le_of_ble_eq_true rfl) (Nat.le_of_ble_eq_true rfl) (fun b1 H locs hw G => ?_)
            refine zEx4 hw ?_
            intro w2_63 g1_64 g2_65 g3_66
            refine zCu5 ?_
            intro hbs9 h_67 h_68 h_69 h_70
            clear hw
            subst hbs9
            have G : zS T A s.heap s [[zO10 xo t im mk rd po co tr wa wb_ fi cd], z0_, wt, w2_63, z1_] _ _ := G
            have hQ : zP3 g1_64 g3_66 := z_P3 hI1_ h_68 h_70
            refine lv_iconst (v := 0) hx hb dX11_share_58 (by decide) ?_
            refine lv_istore (lv' := [(7, .int 0), (6, .int 0), (5, .ref l1), (0, .ref xo), (1, .int i1), (2, .int a_), (3, .int k_), (4, .int n)]) hx hb dX11_share_59 hl (by decide) (zLvf_h rfl) (fun ls hl => ?_)
            refine z_lp6 (T := T) 61 (fun (i : Nat) (wp3 : va_W) (x1 : Nat → Int32) (sx : Int32) (wx : Int32) (u6 : Int32) => [[zO10 xo t im mk rd po co tr wa wb_ fi cd], z0_, wt, wp3, z1_]) (fun (i : Nat) (wp3 : va_W) (x1 : Nat → Int32) (sx : Int32) (wx : Int32) (u6 : Int32) => [(7, .int (nI i)), (6, .int u6), (5, .ref l1), (0, .ref xo), (1, .int i1), (2, .int a_), (3, .int k_), (4, .int n)]) (fun (i : Nat) (wp3 : va_W) (x1 : Nat → Int32) (sx : Int32) (wx : Int32) (u6 : Int32) => bPosts T po l1 x1 g2_65 g3_66 sx wx wp3 ∧ i ≤ 99 ∧ zP3 x1 g3_66) (fun (i : Nat) (wp3 : va_W) (x1 : Nat → Int32) (sx : Int32) (wx : Int32) (u6 : Int32) => 99 - i) ?_ 0 w2_63 g1_64 0 0 0 (show bPosts T po l1 g1_64 g2_65 g3_66 0 0 w2_63 ∧ 0 ≤ 99 ∧ zP3 g1_64 g3_66 from ⟨h_67, by omega, hQ⟩) G (lv_sub hl [0, 1, 2, 3, 4, 5, 6, 7] rfl)
            intro i wp3 x1 sx wx u6 hI9 ih_61 H locs ls G hl
            replace hI9 : bPosts T po l1 x1 g2_65 g3_66 sx wx wp3 ∧ i ≤ 99 ∧ zP3 x1 g3_66 := hI9
            refine zAn3 hI9 ?_
            intro hp3 hi hQx
            clear hI9
            replace G : zS T A s.heap s [[zO10 xo t im mk rd po co tr wa wb_ fi cd], z0_, wt, wp3, z1_] _ _ := G
            replace hl : lv_has ls 8 [(7, .int (nI i)), (6, .int u6), (5, .ref l1), (0, .ref xo), (1, .int i1), (2, .int a_), (3, .int k_), (4, .int n)] := hl
            refine lv_iload hx hb dX11_share_61 (lv_at hl 0 rfl) ?_
            refine lv_iload_n hx hb dX11_share_63 rfl (lv_at hl 6 rfl) ?_
            refine lv_icmp_ge (tgt := 96) hx hb dX11_share_64 (by decide) (fun c_72 => ?_) (fun c_72 => ?_)
            · have c_72n : k_.toInt ≤ (i : Int) := by have q := (fa_le _ _).mp c_72; rw [nI_toInt (n := i) (by omega)] at q; exact q
              refine lv_iload hx hb dX11_share_96 (lv_at hl 1 rfl) ?_
              have G := G.sub (bs' := [[zO10 xo t im mk rd po co tr wa wb_ fi cd], wt, z0_, z1_, wp3]) [0, 2, 1, 4, 3] rfl
              exact z_back hQz_ (z_iret C hr hlocks G (Nat.le_of_ble_eq_true rfl) (Nat.le_of_ble_eq_true rfl) dX11_share_98 ⟨l1, x1, g2_65, g3_66, sx, wx, wp3, rfl, hp3⟩)
            · have c_72n : ¬ k_.toInt ≤ (i : Int) := fun q => c_72 ((fa_le _ _).mpr (by rw [nI_toInt (n := i) (by omega)]; exact q))
              refine lv_aload_n hx hb dX11_share_67 rfl (lv_at hl 3 rfl) ?_
              refine z_get C G clX11 0 rfl 4 (by decide) m_fl_RX11_34 rfl dX11_share_68 ?_
              refine lv_iload_n hx hb dX11_share_71 rfl (lv_at hl 5 rfl) ?_
              refine z_Vv (bc := [wp3, z1_]) (br := [[zO10 xo t im mk rd po co tr wa wb_ fi cd], z0_, wt]) (As := [.int a_]) (rest := []) C G (c_Posts_run l T po l1 x1 g2_65 g3_66 sx wx wp3 cr1_ inn1_ k11_ k21_ k31_ k41_ z1_ a_ hp3 hz1_ (by first | with_reducible assumption | with_reducible rfl | omega | assumption | rfl)) (kV_RX11_208 C.2.2.2.2 (Nat.le_of_ble_eq_true rfl) (Nat.le_of_ble_eq_true rfl)) [3, 4] [3, 0] rfl rfl (ci := 6) (qc := (RX6, TX6, 6)) rfl rfl (List.mem_flatten.mpr ⟨_, List.mem_of_getElem? (i := 0) rfl, (bPosts_mem hp3).choose_spec⟩) rfl rfl hl.1 dX11_share_72 (Nat.le_of_ble_eq_true rfl) (Nat.le_of_ble_eq_true rfl) (fun b1 H locs hw G => ?_)
              refine zEx4 hw ?_
              intro w2_73 g1_74 s2_75 x2_76
              refine zCu5 ?_
              intro hbs9 h_77 h_78 h_79 h_80
              clear hw
              subst hbs9
              have G : zS T A s.heap s [[zO10 xo t im mk rd po co tr wa wb_ fi cd], z0_, wt, w2_73, z1_] _ _ := G
              have hQ2 : zP3 g1_74 g3_66 := by rw [h_78]; exact zRunN_I _ _ _ _ hQx
              refine lv_aload_n hx hb dX11_share_75 rfl (lv_at hl 3 rfl) ?_
              refine z_get C G clX11 0 rfl 4 (by decide) m_fl_RX11_34 rfl dX11_share_76 ?_
              refine zEx3 h_77 ?_
              intro a1_82 a2_83 a3_84 hbs9
              clear h_77
              subst hbs9
              have G : zS T A s.heap s [[zO10 xo t im mk rd po co tr wa wb_ fi cd], z0_, wt, [zO6 po l1 a1_82 a2_83 s2_75 x2_76 a3_84], [zAr T 0 a1_82 7 g1_74], [zAr T 0 a2_83 7 g2_65], [zAr T 0 a3_84 7 g3_66], z1_] _ _ := G.re rfl
              refine z_get C G clX6 3 rfl 4 (by decide) m_fl_RX11_211 rfl dX11_share_79 ?_
              refine lv_iload hx hb dX11_share_82 (lv_at hl 7 rfl) ?_
              refine lv_icmp_ne (tgt := 90) hx hb dX11_share_84 (by decide) (fun c_85 => ?_) (fun c_85 => ?_)
              · have c_85n : ¬ x2_76.toInt = n.toInt := fun q => c_85 ((fa_eq _ _).mpr q)
                refine lv_iinc (v := nI (i + 1)) (lv' := [(7, .int (nI (i + 1))), (6, .int u6), (5, .ref l1), (0, .ref xo), (1, .int i1), (2, .int a_), (3, .int k_), (4, .int n)]) hx hb dX11_share_90 hl (k := 0) rfl (z_inc i 1) (by decide) (zLvf_h rfl) (fun ls hl => ?_)
                refine lv_goto (tgt := 61) hx hb dX11_share_93 (by decide) ?_
                have hw_86 : bPosts T po l1 g1_74 g2_65 g3_66 s2_75 x2_76 [zO6 po l1 a1_82 a2_83 s2_75 x2_76 a3_84, zAr T 0 a1_82 7 g1_74, zAr T 0 a2_83 7 g2_65, zAr T 0 a3_84 7 g3_66] := ⟨a1_82, a2_83, a3_84, rfl⟩
                have G : zS T A s.heap s [[zO10 xo t im mk rd po co tr wa wb_ fi cd], z0_, wt, [zO6 po l1 a1_82 a2_83 s2_75 x2_76 a3_84, zAr T 0 a1_82 7 g1_74, zAr T 0 a2_83 7 g2_65, zAr T 0 a3_84 7 g3_66], z1_] _ _ := G.re rfl
                exact ih_61 (i + 1) ([zO6 po l1 a1_82 a2_83 s2_75 x2_76 a3_84, zAr T 0 a1_82 7 g1_74, zAr T 0 a2_83 7 g2_65, zAr T 0 a3_84 7 g3_66]) g1_74 s2_75 x2_76 u6 (show bPosts T po l1 g1_74 g2_65 g3_66 s2_75 x2_76 ([zO6 po l1 a1_82 a2_83 s2_75 x2_76 a3_84, zAr T 0 a1_82 7 g1_74, zAr T 0 a2_83 7 g2_65, zAr T 0 a3_84 7 g3_66]) ∧ (i + 1) ≤ 99 ∧ zP3 g1_74 g3_66 from ⟨hw_86, by omega, hQ2⟩) (show 99 - (i + 1) < 99 - i from by omega) _ _ ls G (lv_sub hl [0, 1, 2, 3, 4, 5, 6, 7] rfl)
              · have c_85n : x2_76.toInt = n.toInt := (fa_eq _ _).mp c_85
                refine lv_iinc (v := u6 + 1) (lv' := [(6, .int (u6 + 1)), (7, .int (nI i)), (5, .ref l1), (0, .ref xo), (1, .int i1), (2, .int a_), (3, .int k_), (4, .int n)]) hx hb dX11_share_87 hl (k := 1) rfl rfl (by decide) (zLvf_h rfl) (fun ls hl => ?_)
                refine lv_iinc (v := nI (i + 1)) (lv' := [(7, .int (nI (i + 1))), (6, .int (u6 + 1)), (5, .ref l1), (0, .ref xo), (1, .int i1), (2, .int a_), (3, .int k_), (4, .int n)]) hx hb dX11_share_90 hl (k := 1) rfl (z_inc i 1) (by decide) (zLvf_h rfl) (fun ls hl => ?_)
                refine lv_goto (tgt := 61) hx hb dX11_share_93 (by decide) ?_
                have hw_87 : bPosts T po l1 g1_74 g2_65 g3_66 s2_75 x2_76 [zO6 po l1 a1_82 a2_83 s2_75 x2_76 a3_84, zAr T 0 a1_82 7 g1_74, zAr T 0 a2_83 7 g2_65, zAr T 0 a3_84 7 g3_66] := ⟨a1_82, a2_83, a3_84, rfl⟩
                have G : zS T A s.heap s [[zO10 xo t im mk rd po co tr wa wb_ fi cd], z0_, wt, [zO6 po l1 a1_82 a2_83 s2_75 x2_76 a3_84, zAr T 0 a1_82 7 g1_74, zAr T 0 a2_83 7 g2_65, zAr T 0 a3_84 7 g3_66], z1_] _ _ := G.re rfl
                exact ih_61 (i + 1) ([zO6 po l1 a1_82 a2_83 s2_75 x2_76 a3_84, zAr T 0 a1_82 7 g1_74, zAr T 0 a2_83 7 g2_65, zAr T 0 a3_84 7 g3_66]) g1_74 s2_75 x2_76 (u6 + 1) (show bPosts T po l1 g1_74 g2_65 g3_66 s2_75 x2_76 ([zO6 po l1 a1_82 a2_83 s2_75 x2_76 a3_84, zAr T 0 a1_82 7 g1_74, zAr T 0 a2_83 7 g2_65, zAr T 0 a3_84 7 g3_66]) ∧ (i + 1) ≤ 99 ∧ zP3 g1_74 g3_66 from ⟨hw_87, by omega, hQ2⟩) (show 99 - (i + 1) < 99 - i from by omega) _ _ ls G (lv_sub hl [0, 1, 2, 3, 4, 5, 6, 7] rfl)
          · have c_62n : ¬ k_.toInt ≤ (99 : Int) := fun q => c_62 ((fa_le _ _).mpr q)
            refine lv_iconst (v := (-1)) hx hb dX11_share_44 (by decide) ?_
            have G := G.sub (bs' := [[zO10 xo t im mk rd po co tr wa wb_ fi cd], wt, z0_, z1_, wp]) [0, 3, 1, 4, 2] rfl
            exact z_back hQz_ (z_iret C hr hlocks G (Nat.le_of_ble_eq_true rfl) (Nat.le_of_ble_eq_true rfl) dX11_share_45 ⟨lp, f1, f2, f3, st, wh, wp, rfl, hp⟩)
      · have h_60 : (n.toInt < 0 ∨ cr1_.toInt ≤ n.toInt ∨ 7 ≤ n.toInt ∨ zBit inn1_ n = 0) := h_60
        refine lv_if_eq (tgt := 44) hx hb dX11_share_31 (by decide) (fun _ => ?_) (fun q => absurd (by decide) q)
        refine lv_iconst (v := (-1)) hx hb dX11_share_44 (by decide) ?_
        have G := G.sub (bs' := [[zO10 xo t im mk rd po co tr wa wb_ fi cd], wt, z0_, z1_, wp]) [0, 3, 1, 4, 2] rfl
        exact z_back hQz_ (z_iret C hr hlocks G (Nat.le_of_ble_eq_true rfl) (Nat.le_of_ble_eq_true rfl) dX11_share_45 ⟨lp, f1, f2, f3, st, wh, wp, rfl, hp⟩)
    · have h_53 : (a_.toInt < 0 ∨ cr1_.toInt ≤ a_.toInt ∨ 7 ≤ a_.toInt) := h_53
      refine lv_if_eq (tgt := 44) hx hb dX11_share_21 (by decide) (fun _ => ?_) (fun q => absurd (by decide) q)
      refine lv_iconst (v := (-1)) hx hb dX11_share_44 (by decide) ?_
      have G := G.sub (bs' := [[zO10 xo t im mk rd po co tr wa wb_ fi cd], wt, z0_, z1_, wp]) [0, 3, 1, 4, 2] rfl
      exact z_back hQz_ (z_iret C hr hlocks G (Nat.le_of_ble_eq_true rfl) (Nat.le_of_ble_eq_true rfl) dX11_share_45 ⟨lp, f1, f2, f3, st, wh, wp, rfl, hp⟩)
set_option maxHeartbeats 4000000 in
set_option maxRecDepth 100000 in
/-- period -/
theorem c_period (l : Launch) (T : zTy) (xo : Nat) (t : Nat) (im : Nat) (mk : Nat) (rd : Nat) (po : Nat) (co : Nat) (tr : Nat) (wa : Nat) (wb_ : Nat) (fi : Nat) (cd : Nat) (l0 : Nat) (l1 : Nat) (d0 : Nat) (d1 : Nat) (g0 : Nat) (g1 : Nat) (ln : Int32) (fl : Int32) (pl : Int32) (ft : Nat → Int32) (fk : Nat → Int32) (wt : va_W) (cr0_ : Int32) (inn0_ : Int32) (k10_ : Nat → Int32) (k20_ : Nat → Int32) (k30_ : Nat → Int32) (k40_ : Nat → Int32) (z0_ : va_W) (cr1_ : Int32) (inn1_ : Int32) (k11_ : Nat → Int32) (k21_ : Nat → Int32) (k31_ : Nat → Int32) (k41_ : Nat → Int32) (z1_ : va_W) (lp : Nat) (f1 : Nat → Int32) (f2 : Nat → Int32) (f3 : Nat → Int32) (st : Int32) (wh : Int32) (wp : va_W) (fcd : Nat → Int32) (i1 : Int32) (a_ : Int32) (w_ : Int32) (ht : bTold T t l0 l1 d0 d1 g0 g1 ln fl pl ft fk wt) (hK : zKT fk) (hz0_ : bLand T l0 cr0_ inn0_ k10_ k20_ k30_ k40_ z0_) (hI0_ : zLI cr0_ k10_ k30_) (hz1_ : bLand T l1 cr1_ inn1_ k11_ k21_ k31_ k41_ z1_) (hI1_ : zLI cr1_ k11_ k31_) (hp : bPosts T po lp f1 f2 f3 st wh wp) : zMi l T yX11_period cX11_period 8 (some .int) 5 0 0 [.ref xo, .int i1, .int a_, .int w_] [[zO10 xo t im mk rd po co tr wa wb_ fi cd], wt, z0_, z1_, wp, [zAr T 0 cd 1000 fcd]] (fun (r : Int32) bs => ∃ (lp_2 : Nat) (f1_2 : Nat → Int32) (f2_2 : Nat → Int32) (f3_2 : Nat → Int32) (st_2 : Int32) (wh_2 : Int32) (wp_2 : va_W) (fcd_2 : Nat → Int32), bs = [[zO10 xo t im mk rd po co tr wa wb_ fi cd], wt, z0_, z1_, wp_2, [zAr T 0 cd 1000 fcd_2]] ∧ bPosts T po lp_2 f1_2 f2_2 f3_2 st_2 wh_2 wp_2) := by
  refine zMi_of (own := RX11) (by decide) rfl (Nat.le_of_ble_eq_true rfl) ?_
  intro p e s m args below meth c A ls C hr hlocks hnm hAe G hl
  refine zHide (fun Qz_ hQz_ => ?_)
  have hx := C.1
  have hb := C.2.1
  have hl : lv_has ls 8 [(0, .ref xo), (1, .int i1), (2, .int a_), (3, .int w_)] := hl
  refine lv_aload_n hx hb dX11_period_0 rfl (lv_at hl 0 rfl) ?_
  refine z_get C G clX11 0 rfl 0 (by decide) m_fl_RX11_10 rfl dX11_period_1 ?_
  refine lv_iload_n hx hb dX11_period_4 rfl (lv_at hl 1 rfl) ?_
  refine z_Vq (bc := [wt]) (br := [[zO10 xo t im mk rd po co tr wa wb_ fi cd], z0_, z1_, wp, [zAr T 0 cd 1000 fcd]]) (As := [.int i1]) (rest := []) C G (c_landAt l T t l0 l1 d0 d1 g0 g1 ln fl pl ft fk wt i1 ht) (kV_RX11_121 C.2.2.2.2 (Nat.le_of_ble_eq_true rfl) (Nat.le_of_ble_eq_true rfl)) [1] [1] rfl rfl (ci := 8) (qc := (RX9, TX9, 8)) rfl rfl (List.mem_flatten.mpr ⟨_, List.mem_of_getElem? (i := 0) rfl, (bTold_mem ht).choose_spec⟩) rfl rfl hl.1 dX11_period_5 (Nat.le_of_ble_eq_true rfl) (Nat.le_of_ble_eq_true rfl) (fun r_2 b1 H locs hw G => ?_)
  refine zAn2 hw ?_
  intro hbs9 hc_1
  clear hw
  subst hbs9
  have G : zS T A s.heap s [[zO10 xo t im mk rd po co tr wa wb_ fi cd], z0_, z1_, wp, [zAr T 0 cd 1000 fcd], wt] _ _ := G
  rcases hc_1 with ⟨rfl, h_3⟩ | ⟨rfl, h_4, h_5⟩ | ⟨rfl, h_6, h_7⟩
  · have h_3 : (i1.toInt < 0 ∨ (fk 0).toInt ≤ i1.toInt ∨ 2 ≤ i1.toInt) := h_3
    refine lv_astoreN (lv' := [(4, .null), (0, .ref xo), (1, .int i1), (2, .int a_), (3, .int w_)]) hx hb dX11_period_8 hl (by decide) (zLvf_h rfl) (fun ls hl => ?_)
    refine lv_aloadN hx hb dX11_period_10 (lv_at hl 0 rfl) ?_
    refine lv_ifnullN (tgt := 24) hx hb dX11_period_12 (by decide) ?_
    refine lv_iconst (v := (-1)) hx hb dX11_period_24 (by decide) ?_
    have G := G.sub (bs' := [[zO10 xo t im mk rd po co tr wa wb_ fi cd], wt, z0_, z1_, wp, [zAr T 0 cd 1000 fcd]]) [0, 5, 1, 2, 3, 4] rfl
    exact z_back hQz_ (z_iret C hr hlocks G (Nat.le_of_ble_eq_true rfl) (Nat.le_of_ble_eq_true rfl) dX11_period_25 ⟨lp, f1, f2, f3, st, wh, wp, fcd, rfl, hp⟩)
  · have h_4 : i1.toInt = 0 := h_4
    have h_5 : 0 < (fk 0).toInt := h_5
    refine lv_astore (lv' := [(4, .ref l0), (0, .ref xo), (1, .int i1), (2, .int a_), (3, .int w_)]) hx hb dX11_period_8 hl (by decide) (zLvf_h rfl) (fun ls hl => ?_)
    refine lv_aload hx hb dX11_period_10 (lv_at hl 0 rfl) ?_
    refine lv_ifnull hx hb dX11_period_12 ?_
    refine lv_aload hx hb dX11_period_15 (lv_at hl 0 rfl) ?_
    refine lv_iload_n hx hb dX11_period_17 rfl (lv_at hl 3 rfl) ?_
    refine z_Vi (bc := [z0_]) (br := [[zO10 xo t im mk rd po co tr wa wb_ fi cd], z1_, wp, [zAr T 0 cd 1000 fcd], wt]) (As := [.int a_]) (rest := []) C G (c_has l T l0 cr0_ inn0_ k10_ k20_ k30_ k40_ z0_ a_ hz0_) (kV_RX11_160 C.2.2.2.2 (Nat.le_of_ble_eq_true rfl) (Nat.le_of_ble_eq_true rfl)) [1] [1] rfl rfl (ci := 4) (qc := (RX4, TX4, 6)) rfl rfl (List.mem_flatten.mpr ⟨_, List.mem_of_getElem? (i := 0) rfl, (bLand_mem hz0_).choose_spec⟩) rfl rfl hl.1 dX11_period_18 (Nat.le_of_ble_eq_true rfl) (Nat.le_of_ble_eq_true rfl) (fun r_9 b1 H locs hw G => ?_)
    refine zAn2 hw ?_
    intro hbs9 hc_8
    clear hw
    subst hbs9
    have G : zS T A s.heap s [[zO10 xo t im mk rd po co tr wa wb_ fi cd], z1_, wp, [zAr T 0 cd 1000 fcd], wt, z0_] _ _ := G
    rcases hc_8 with ⟨rfl, h_10, h_11, h_12⟩ | ⟨rfl, h_13⟩
    · have h_10 : 0 ≤ a_.toInt := h_10
      have h_11 : a_.toInt < cr0_.toInt := h_11
      have h_12 : a_.toInt < 7 := h_12
      refine lv_if_ne (tgt := 26) hx hb dX11_period_21 (by decide) (fun _ => ?_) (fun q => absurd q (by decide))
      refine lv_aload_n hx hb dX11_period_26 rfl (lv_at hl 1 rfl) ?_
      refine z_get C G clX11 0 rfl 4 (by decide) m_fl_RX11_34 rfl dX11_period_27 ?_
      refine lv_aload hx hb dX11_period_30 (lv_at hl 0 rfl) ?_
      refine z_Vv (bc := [wp, z0_]) (br := [[zO10 xo t im mk rd po co tr wa wb_ fi cd], z1_, [zAr T 0 cd 1000 fcd], wt]) (As := [.ref l0]) (rest := []) C G (c_Posts_begin l T po lp f1 f2 f3 st wh wp l0 cr0_ inn0_ k10_ k20_ k30_ k40_ z0_ hp hz0_) (kV_RX11_205 C.2.2.2.2 (Nat.le_of_ble_eq_true rfl) (Nat.le_of_ble_eq_true rfl)) [2, 5] [2, 2] rfl rfl (ci := 6) (qc := (RX6, TX6, 6)) rfl rfl (List.mem_flatten.mpr ⟨_, List.mem_of_getElem? (i := 0) rfl, (bPosts_mem hp).choose_spec⟩) rfl rfl hl.1 dX11_period_32 (Nat.le_of_ble_eq_true rfl) (Nat.le_of_ble_eq_true rfl) (fun b1 H locs hw G => ?_)
      refine zEx4 hw ?_
      intro w2_14 g1_15 g2_16 g3_17
      refine zCu5 ?_
      intro hbs9 h_18 h_19 h_20 h_21
      clear hw
      subst hbs9
      have G : zS T A s.heap s [[zO10 xo t im mk rd po co tr wa wb_ fi cd], z1_, [zAr T 0 cd 1000 fcd], wt, w2_14, z0_] _ _ := G
      have hQ : zP3 g1_15 g3_17 := z_P3 hI0_ h_19 h_21
      refine lv_aload_n hx hb dX11_period_35 rfl (lv_at hl 1 rfl) ?_
      refine z_get C G clX11 0 rfl 10 (by decide) m_fl_RX11_69 rfl dX11_period_36 ?_
      refine lv_iconst (v := 0) hx hb dX11_period_39 (by decide) ?_
      refine lv_aload_n hx hb dX11_period_40 rfl (lv_at hl 1 rfl) ?_
      refine z_get C G clX11 0 rfl 4 (by decide) m_fl_RX11_34 rfl dX11_period_41 ?_
      refine z_Vi (bc := [w2_14]) (br := [[zO10 xo t im mk rd po co tr wa wb_ fi cd], z1_, [zAr T 0 cd 1000 fcd], wt, z0_]) (As := []) (rest := [.int 0, .ref cd]) C G (c_code l T po l0 g1_15 g2_16 g3_17 0 0 w2_14 h_18) (kV_RX11_212 C.2.2.2.2 (Nat.le_of_ble_eq_true rfl) (Nat.le_of_ble_eq_true rfl)) [4] [4] rfl rfl (ci := 6) (qc := (RX6, TX6, 6)) rfl rfl (List.mem_flatten.mpr ⟨_, List.mem_of_getElem? (i := 0) rfl, (bPosts_mem h_18).choose_spec⟩) rfl rfl hl.1 dX11_period_44 (Nat.le_of_ble_eq_true rfl) (Nat.le_of_ble_eq_true rfl) (fun r_24 b1 H locs hw G => ?_)
      refine zAn2 hw ?_
      intro hbs9 h_23
      clear hw
      subst hbs9
      have G : zS T A s.heap s [[zO10 xo t im mk rd po co tr wa wb_ fi cd], z1_, [zAr T 0 cd 1000 fcd], wt, z0_, w2_14] _ _ := G
      subst h_23
      refine z_ist C G 2 rfl (vp_in_nI (n := 0) (by decide) (by decide)) dX11_period_47 (fun H locs G => ?_)
      have G : zS T A s.heap s [[zO10 xo t im mk rd po co tr wa wb_ fi cd], z1_, [zAr T 0 cd 1000 (upd fcd 0 (zCode g1_15 7))], wt, z0_, w2_14] _ _ := G
      refine lv_iconst (v := 1) hx hb dX11_period_48 (by decide) ?_
      refine lv_istore (lv' := [(5, .int 1), (4, .ref l0), (0, .ref xo), (1, .int i1), (2, .int a_), (3, .int w_)]) hx hb dX11_period_49 hl (by decide) (zLvf_h rfl) (fun ls hl => ?_)
      refine z_lp6 (T := T) 51 (fun (i : Nat) (wp3 : va_W) (x1 : Nat → Int32) (sx : Int32) (wx : Int32) (fx : Nat → Int32) => [[zO10 xo t im mk rd po co tr wa wb_ fi cd], z1_, [zAr T 0 cd 1000 fx], wt, z0_, wp3]) (fun (i : Nat) (wp3 : va_W) (x1 : Nat → Int32) (sx : Int32) (wx : Int32) (fx : Nat → Int32) => [(5, .int (nI i)), (4, .ref l0), (0, .ref xo), (1, .int i1), (2, .int a_), (3, .int w_)]) (fun (i : Nat) (wp3 : va_W) (x1 : Nat → Int32) (sx : Int32) (wx : Int32) (fx : Nat → Int32) => bPosts T po l0 x1 g2_16 g3_17 sx wx wp3 ∧ i ≤ 1000 ∧ zP3 x1 g3_17 ∧ 1 ≤ i) (fun (i : Nat) (wp3 : va_W) (x1 : Nat → Int32) (sx : Int32) (wx : Int32) (fx : Nat → Int32) => 1000 - i) ?_ 1 w2_14 g1_15 0 0 (upd fcd 0 (zCode g1_15 7)) (show bPosts T po l0 g1_15 g2_16 g3_17 0 0 w2_14 ∧ 1 ≤ 1000 ∧ zP3 g1_15 g3_17 ∧ 1 ≤ 1 from ⟨h_18, by omega, hQ, by omega⟩) G (lv_sub hl [0, 1, 2, 3, 4, 5] rfl)
      intro i wp3 x1 sx wx fx hI9 ih_51 H locs ls G hl
      replace hI9 : bPosts T po l0 x1 g2_16 g3_17 sx wx wp3 ∧ i ≤ 1000 ∧ zP3 x1 g3_17 ∧ 1 ≤ i := hI9
      refine zAn4 hI9 ?_
      intro hp3 hi hQx hi1
      clear hI9
      replace G : zS T A s.heap s [[zO10 xo t im mk rd po co tr wa wb_ fi cd], z1_, [zAr T 0 cd 1000 fx], wt, z0_, wp3] _ _ := G
      replace hl : lv_has ls 8 [(5, .int (nI i)), (4, .ref l0), (0, .ref xo), (1, .int i1), (2, .int a_), (3, .int w_)] := hl
      refine lv_iload hx hb dX11_period_51 (lv_at hl 0 rfl) ?_
      refine lv_sipush (v := 999) hx hb dX11_period_53 (by decide) ?_
      refine lv_icmp_gt (tgt := 122) hx hb dX11_period_56 (by decide) (fun c_25 => ?_) (fun c_25 => ?_)
      · have c_25n : 999 < i := (nI_ltI (a := 999) (b := i) (by omega) (by omega)).mp c_25
        refine lv_iconst (v := (-1)) hx hb dX11_period_122 (by decide) ?_
        have G := G.sub (bs' := [[zO10 xo t im mk rd po co tr wa wb_ fi cd], wt, z0_, z1_, wp3, [zAr T 0 cd 1000 fx]]) [0, 3, 4, 1, 5, 2] rfl
        exact z_back hQz_ (z_iret C hr hlocks G (Nat.le_of_ble_eq_true rfl) (Nat.le_of_ble_eq_true rfl) dX11_period_123 ⟨l0, x1, g2_16, g3_17, sx, wx, wp3, fx, rfl, hp3⟩)
      · have c_25n : ¬ 999 < i := fun q => c_25 ((nI_ltI (a := 999) (b := i) (by omega) (by omega)).mpr q)
        refine lv_aload_n hx hb dX11_period_59 rfl (lv_at hl 2 rfl) ?_
        refine z_get C G clX11 0 rfl 4 (by decide) m_fl_RX11_34 rfl dX11_period_60 ?_
        refine lv_iload_n hx hb dX11_period_63 rfl (lv_at hl 4 rfl) ?_
        refine z_Vv (bc := [wp3, z0_]) (br := [[zO10 xo t im mk rd po co tr wa wb_ fi cd], z1_, [zAr T 0 cd 1000 fx], wt]) (As := [.int a_]) (rest := []) C G (c_Posts_run l T po l0 x1 g2_16 g3_17 sx wx wp3 cr0_ inn0_ k10_ k20_ k30_ k40_ z0_ a_ hp3 hz0_ (by first | with_reducible assumption | with_reducible rfl | omega | assumption | rfl)) (kV_RX11_208 C.2.2.2.2 (Nat.le_of_ble_eq_true rfl) (Nat.le_of_ble_eq_true rfl)) [5, 4] [4, 0] rfl rfl (ci := 6) (qc := (RX6, TX6, 6)) rfl rfl (List.mem_flatten.mpr ⟨_, List.mem_of_getElem? (i := 0) rfl, (bPosts_mem hp3).choose_spec⟩) rfl rfl hl.1 dX11_period_64 (Nat.le_of_ble_eq_true rfl) (Nat.le_of_ble_eq_true rfl) (fun b1 H locs hw G => ?_)
        refine zEx4 hw ?_
        intro w2_26 g1_27 s2_28 x2_29
        refine zCu5 ?_
        intro hbs9 h_30 h_31 h_32 h_33
        clear hw
        subst hbs9
        have G : zS T A s.heap s [[zO10 xo t im mk rd po co tr wa wb_ fi cd], z1_, [zAr T 0 cd 1000 fx], wt, w2_26, z0_] _ _ := G
        have hQ2 : zP3 g1_27 g3_17 := by rw [h_31]; exact zRunN_I _ _ _ _ hQx
        refine lv_aload_n hx hb dX11_period_67 rfl (lv_at hl 2 rfl) ?_
        refine z_get C G clX11 0 rfl 4 (by decide) m_fl_RX11_34 rfl dX11_period_68 ?_
        refine z_Vi (bc := [w2_26]) (br := [[zO10 xo t im mk rd po co tr wa wb_ fi cd], z1_, [zAr T 0 cd 1000 fx], wt, z0_]) (As := []) (rest := []) C G (c_code l T po l0 g1_27 g2_16 g3_17 s2_28 x2_29 w2_26 h_30) (kV_RX11_212 C.2.2.2.2 (Nat.le_of_ble_eq_true rfl) (Nat.le_of_ble_eq_true rfl)) [4] [4] rfl rfl (ci := 6) (qc := (RX6, TX6, 6)) rfl rfl (List.mem_flatten.mpr ⟨_, List.mem_of_getElem? (i := 0) rfl, (bPosts_mem h_30).choose_spec⟩) rfl rfl hl.1 dX11_period_71 (Nat.le_of_ble_eq_true rfl) (Nat.le_of_ble_eq_true rfl) (fun r_36 b1 H locs hw G => ?_)
        refine zAn2 hw ?_
        intro hbs9 h_35
        clear hw
        subst hbs9
        have G : zS T A s.heap s [[zO10 xo t im mk rd po co tr wa wb_ fi cd], z1_, [zAr T 0 cd 1000 fx], wt, z0_, w2_26] _ _ := G
        subst h_35
        refine lv_istore (lv' := [(6, .int (zCode g1_27 7)), (5, .int (nI i)), (4, .ref l0), (0, .ref xo), (1, .int i1), (2, .int a_), (3, .int w_)]) hx hb dX11_period_74 hl (by decide) (zLvf_h rfl) (fun ls hl => ?_)
        refine lv_aload_n hx hb dX11_period_76 rfl (lv_at hl 3 rfl) ?_
        refine lv_iload hx hb dX11_period_77 (lv_at hl 0 rfl) ?_
        refine lv_iload hx hb dX11_period_79 (lv_at hl 1 rfl) ?_
        refine z_Vi (bc := [[zO10 xo t im mk rd po co tr wa wb_ fi cd], [zAr T 0 cd 1000 fx]]) (br := [z1_, wt, z0_, w2_26]) (As := [.int (zCode g1_27 7), .int (nI i)]) (rest := []) C G (c_placeOfCode l T xo t im mk rd po co tr wa wb_ fi cd fx (zCode g1_27 7) (nI i)) (kV_RX11_215 C.2.2.2.2 (Nat.le_of_ble_eq_true rfl) (Nat.le_of_ble_eq_true rfl)) [0, 2] [0, 1] rfl rfl (ci := 10) (qc := (RX11, TX11, 11)) rfl rfl (List.mem_flatten.mpr ⟨_, List.mem_of_getElem? (i := 0) rfl, List.mem_cons_self⟩) rfl rfl hl.1 dX11_period_81 (Nat.le_of_ble_eq_true rfl) (Nat.le_of_ble_eq_true rfl) (fun r_37 b1 H locs hw G => ?_)
        obtain rfl := hw
        have G : zS T A s.heap s [z1_, wt, z0_, w2_26, [zO10 xo t im mk rd po co tr wa wb_ fi cd], [zAr T 0 cd 1000 fx]] _ _ := G
        refine lv_istore (lv' := [(7, .int r_37), (6, .int (zCode g1_27 7)), (5, .int (nI i)), (4, .ref l0), (0, .ref xo), (1, .int i1), (2, .int a_), (3, .int w_)]) hx hb dX11_period_84 hl (by decide) (zLvf_h rfl) (fun ls hl => ?_)
        refine lv_iload hx hb dX11_period_86 (lv_at hl 0 rfl) ?_
        refine lv_iconst (v := (-1)) hx hb dX11_period_88 (by decide) ?_
        refine lv_icmp_eq (tgt := 107) hx hb dX11_period_89 (by decide) (fun c_38 => ?_) (fun c_38 => ?_)
        · have c_38n : r_37.toInt = (-1 : Int) := (fa_eq _ _).mp c_38
          refine lv_aload_n hx hb dX11_period_107 rfl (lv_at hl 4 rfl) ?_
          refine z_get C G clX11 4 rfl 10 (by decide) m_fl_RX11_69 rfl dX11_period_108 ?_
          refine lv_iload hx hb dX11_period_111 (lv_at hl 2 rfl) ?_
          refine lv_iload hx hb dX11_period_113 (lv_at hl 1 rfl) ?_
          refine z_ist C G 5 rfl (vp_in_nI (by omega) (by decide)) dX11_period_115 (fun H locs G => ?_)
          rw [nI_clamp (by omega)] at G
          have G : zS T A s.heap s [z1_, wt, z0_, w2_26, [zO10 xo t im mk rd po co tr wa wb_ fi cd], [zAr T 0 cd 1000 (upd fx i (zCode g1_27 7))]] _ _ := G
          refine lv_iinc (v := nI (i + 1)) (lv' := [(5, .int (nI (i + 1))), (7, .int r_37), (6, .int (zCode g1_27 7)), (4, .ref l0), (0, .ref xo), (1, .int i1), (2, .int a_), (3, .int w_)]) hx hb dX11_period_116 hl (k := 2) rfl (z_inc i 1) (by decide) (zLvf_h rfl) (fun ls hl => ?_)
          refine lv_goto (tgt := 51) hx hb dX11_period_119 (by decide) ?_
          have G := G.sub (bs' := [[zO10 xo t im mk rd po co tr wa wb_ fi cd], z1_, [zAr T 0 cd 1000 (upd fx i (zCode g1_27 7))], wt, z0_, w2_26]) [4, 0, 5, 1, 2, 3] rfl
          exact ih_51 (i + 1) w2_26 g1_27 s2_28 x2_29 (upd fx i (zCode g1_27 7)) (show bPosts T po l0 g1_27 g2_16 g3_17 s2_28 x2_29 w2_26 ∧ (i + 1) ≤ 1000 ∧ zP3 g1_27 g3_17 ∧ 1 ≤ (i + 1) from ⟨h_30, by omega, hQ2, by omega⟩) (show 1000 - (i + 1) < 1000 - i from by omega) _ _ ls G (lv_sub hl [0, 3, 4, 5, 6, 7] rfl)
        · have c_38n : ¬ r_37.toInt = (-1 : Int) := fun q => c_38 ((fa_eq _ _).mpr q)
          refine lv_iload_n hx hb dX11_period_92 rfl (lv_at hl 7 rfl) ?_
          refine lv_if_eq (tgt := 101) hx hb dX11_period_93 (by decide) (fun c_39 => ?_) (fun c_39 => ?_)
          · have c_39n : w_.toInt = (0 : Int) := (fa_eq _ _).mp c_39
            refine lv_iload hx hb dX11_period_101 (lv_at hl 2 rfl) ?_
            refine lv_iload hx hb dX11_period_103 (lv_at hl 0 rfl) ?_
            refine lv_isub hx hb dX11_period_105 ?_
            have G := G.sub (bs' := [[zO10 xo t im mk rd po co tr wa wb_ fi cd], wt, z0_, z1_, w2_26, [zAr T 0 cd 1000 fx]]) [4, 1, 2, 0, 3, 5] rfl
            exact z_back hQz_ (z_iret C hr hlocks G (Nat.le_of_ble_eq_true rfl) (Nat.le_of_ble_eq_true rfl) dX11_period_106 ⟨l0, g1_27, g2_16, g3_17, s2_28, x2_29, w2_26, fx, rfl, h_30⟩)
          · have c_39n : ¬ w_.toInt = (0 : Int) := fun q => c_39 ((fa_eq _ _).mpr q)
            refine lv_iload hx hb dX11_period_96 (lv_at hl 0 rfl) ?_
            refine lv_goto (tgt := 106) hx hb dX11_period_98 (by decide) ?_
            have G := G.sub (bs' := [[zO10 xo t im mk rd po co tr wa wb_ fi cd], wt, z0_, z1_, w2_26, [zAr T 0 cd 1000 fx]]) [4, 1, 2, 0, 3, 5] rfl
            exact z_back hQz_ (z_iret C hr hlocks G (Nat.le_of_ble_eq_true rfl) (Nat.le_of_ble_eq_true rfl) dX11_period_106 ⟨l0, g1_27, g2_16, g3_17, s2_28, x2_29, w2_26, fx, rfl, h_30⟩)
    · have h_13 : (a_.toInt < 0 ∨ cr0_.toInt ≤ a_.toInt ∨ 7 ≤ a_.toInt) := h_13
      refine lv_if_ne (tgt := 26) hx hb dX11_period_21 (by decide) (fun q => absurd (by decide) q) (fun _ => ?_)
      refine lv_iconst (v := (-1)) hx hb dX11_period_24 (by decide) ?_
      have G := G.sub (bs' := [[zO10 xo t im mk rd po co tr wa wb_ fi cd], wt, z0_, z1_, wp, [zAr T 0 cd 1000 fcd]]) [0, 4, 5, 1, 2, 3] rfl
      exact z_back hQz_ (z_iret C hr hlocks G (Nat.le_of_ble_eq_true rfl) (Nat.le_of_ble_eq_true rfl) dX11_period_25 ⟨lp, f1, f2, f3, st, wh, wp, fcd, rfl, hp⟩)
  · have h_6 : i1.toInt = 1 := h_6
    have h_7 : 1 < (fk 0).toInt := h_7
    refine lv_astore (lv' := [(4, .ref l1), (0, .ref xo), (1, .int i1), (2, .int a_), (3, .int w_)]) hx hb dX11_period_8 hl (by decide) (zLvf_h rfl) (fun ls hl => ?_)
    refine lv_aload hx hb dX11_period_10 (lv_at hl 0 rfl) ?_
    refine lv_ifnull hx hb dX11_period_12 ?_
    refine lv_aload hx hb dX11_period_15 (lv_at hl 0 rfl) ?_
    refine lv_iload_n hx hb dX11_period_17 rfl (lv_at hl 3 rfl) ?_
    refine z_Vi (bc := [z1_]) (br := [[zO10 xo t im mk rd po co tr wa wb_ fi cd], z0_, wp, [zAr T 0 cd 1000 fcd], wt]) (As := [.int a_]) (rest := []) C G (c_has l T l1 cr1_ inn1_ k11_ k21_ k31_ k41_ z1_ a_ hz1_) (kV_RX11_160 C.2.2.2.2 (Nat.le_of_ble_eq_true rfl) (Nat.le_of_ble_eq_true rfl)) [2] [2] rfl rfl (ci := 4) (qc := (RX4, TX4, 6)) rfl rfl (List.mem_flatten.mpr ⟨_, List.mem_of_getElem? (i := 0) rfl, (bLand_mem hz1_).choose_spec⟩) rfl rfl hl.1 dX11_period_18 (Nat.le_of_ble_eq_true rfl) (Nat.le_of_ble_eq_true rfl) (fun r_41 b1 H locs hw G => ?_)
    refine zAn2 hw ?_
    intro hbs9 hc_40
    clear hw
    subst hbs9
    have G : zS T A s.heap s [[zO10 xo t im mk rd po co tr wa wb_ fi cd], z0_, wp, [zAr T 0 cd 1000 fcd], wt, z1_] _ _ := G
    rcases hc_40 with ⟨rfl, h_42, h_43, h_44⟩ | ⟨rfl, h_45⟩
    · have h_42 : 0 ≤ a_.toInt := h_42
      have h_43 : a_.toInt < cr1_.toInt := h_43
      have h_44 : a_.toInt < 7 := h_44
      refine lv_if_ne (tgt := 26) hx hb dX11_period_21 (by decide) (fun _ => ?_) (fun q => absurd q (by decide))
      refine lv_aload_n hx hb dX11_period_26 rfl (lv_at hl 1 rfl) ?_
      refine z_get C G clX11 0 rfl 4 (by decide) m_fl_RX11_34 rfl dX11_period_27 ?_
      refine lv_aload hx hb dX11_period_30 (lv_at hl 0 rfl) ?_
      refine z_Vv (bc := [wp, z1_]) (br := [[zO10 xo t im mk rd po co tr wa wb_ fi cd], z0_, [zAr T 0 cd 1000 fcd], wt]) (As := [.ref l1]) (rest := []) C G (c_Posts_begin l T po lp f1 f2 f3 st wh wp l1 cr1_ inn1_ k11_ k21_ k31_ k41_ z1_ hp hz1_) (kV_RX11_205 C.2.2.2.2 (Nat.le_of_ble_eq_true rfl) (Nat.le_of_ble_eq_true rfl)) [2, 5] [2, 2] rfl rfl (ci := 6) (qc := (RX6, TX6, 6)) rfl rfl (List.mem_flatten.mpr ⟨_, List.mem_of_getElem? (i := 0) rfl, (bPosts_mem hp).choose_spec⟩) rfl rfl hl.1 dX11_period_32 (Nat.le_of_ble_eq_true rfl) (Nat.le_of_ble_eq_true rfl) (fun b1 H locs hw G => ?_)
      refine zEx4 hw ?_
      intro w2_46 g1_47 g2_48 g3_49
      refine zCu5 ?_
      intro hbs9 h_50 h_51 h_52 h_53
      clear hw
      subst hbs9
      have G : zS T A s.heap s [[zO10 xo t im mk rd po co tr wa wb_ fi cd], z0_, [zAr T 0 cd 1000 fcd], wt, w2_46, z1_] _ _ := G
      have hQ : zP3 g1_47 g3_49 := z_P3 hI1_ h_51 h_53
      refine lv_aload_n hx hb dX11_period_35 rfl (lv_at hl 1 rfl) ?_
      refine z_get C G clX11 0 rfl 10 (by decide) m_fl_RX11_69 rfl dX11_period_36 ?_
      refine lv_iconst (v := 0) hx hb dX11_period_39 (by decide) ?_
      refine lv_aload_n hx hb dX11_period_40 rfl (lv_at hl 1 rfl) ?_
      refine z_get C G clX11 0 rfl 4 (by decide) m_fl_RX11_34 rfl dX11_period_41 ?_
      refine z_Vi (bc := [w2_46]) (br := [[zO10 xo t im mk rd po co tr wa wb_ fi cd], z0_, [zAr T 0 cd 1000 fcd], wt, z1_]) (As := []) (rest := [.int 0, .ref cd]) C G (c_code l T po l1 g1_47 g2_48 g3_49 0 0 w2_46 h_50) (kV_RX11_212 C.2.2.2.2 (Nat.le_of_ble_eq_true rfl) (Nat.le_of_ble_eq_true rfl)) [4] [4] rfl rfl (ci := 6) (qc := (RX6, TX6, 6)) rfl rfl (List.mem_flatten.mpr ⟨_, List.mem_of_getElem? (i := 0) rfl, (bPosts_mem h_50).choose_spec⟩) rfl rfl hl.1 dX11_period_44 (Nat.le_of_ble_eq_true rfl) (Nat.le_of_ble_eq_true rfl) (fun r_56 b1 H locs hw G => ?_)
      refine zAn2 hw ?_
      intro hbs9 h_55
      clear hw
      subst hbs9
      have G : zS T A s.heap s [[zO10 xo t im mk rd po co tr wa wb_ fi cd], z0_, [zAr T 0 cd 1000 fcd], wt, z1_, w2_46] _ _ := G
      subst h_55
      refine z_ist C G 2 rfl (vp_in_nI (n := 0) (by decide) (by decide)) dX11_period_47 (fun H locs G => ?_)
      have G : zS T A s.heap s [[zO10 xo t im mk rd po co tr wa wb_ fi cd], z0_, [zAr T 0 cd 1000 (upd fcd 0 (zCode g1_47 7))], wt, z1_, w2_46] _ _ := G
      refine lv_iconst (v := 1) hx hb dX11_period_48 (by decide) ?_
      refine lv_istore (lv' := [(5, .int 1), (4, .ref l1), (0, .ref xo), (1, .int i1), (2, .int a_), (3, .int w_)]) hx hb dX11_period_49 hl (by decide) (zLvf_h rfl) (fun ls hl => ?_)
      refine z_lp6 (T := T) 51 (fun (i : Nat) (wp3 : va_W) (x1 : Nat → Int32) (sx : Int32) (wx : Int32) (fx : Nat → Int32) => [[zO10 xo t im mk rd po co tr wa wb_ fi cd], z0_, [zAr T 0 cd 1000 fx], wt, z1_, wp3]) (fun (i : Nat) (wp3 : va_W) (x1 : Nat → Int32) (sx : Int32) (wx : Int32) (fx : Nat → Int32) => [(5, .int (nI i)), (4, .ref l1), (0, .ref xo), (1, .int i1), (2, .int a_), (3, .int w_)]) (fun (i : Nat) (wp3 : va_W) (x1 : Nat → Int32) (sx : Int32) (wx : Int32) (fx : Nat → Int32) => bPosts T po l1 x1 g2_48 g3_49 sx wx wp3 ∧ i ≤ 1000 ∧ zP3 x1 g3_49 ∧ 1 ≤ i) (fun (i : Nat) (wp3 : va_W) (x1 : Nat → Int32) (sx : Int32) (wx : Int32) (fx : Nat → Int32) => 1000 - i) ?_ 1 w2_46 g1_47 0 0 (upd fcd 0 (zCode g1_47 7)) (show bPosts T po l1 g1_47 g2_48 g3_49 0 0 w2_46 ∧ 1 ≤ 1000 ∧ zP3 g1_47 g3_49 ∧ 1 ≤ 1 from ⟨h_50, by omega, hQ, by omega⟩) G (lv_sub hl [0, 1, 2, 3, 4, 5] rfl)
      intro i wp3 x1 sx wx fx hI9 ih_51 H locs ls G hl
      replace hI9 : bPosts T po l1 x1 g2_48 g3_49 sx wx wp3 ∧ i ≤ 1000 ∧ zP3 x1 g3_49 ∧ 1 ≤ i := hI9
      refine zAn4 hI9 ?_
      intro hp3 hi hQx hi1
      clear hI9
      replace G : zS T A s.heap s [[zO10 xo t im mk rd po co tr wa wb_ fi cd], z0_, [zAr T 0 cd 1000 fx], wt, z1_, wp3] _ _ := G
      replace hl : lv_has ls 8 [(5, .int (nI i)), (4, .ref l1), (0, .ref xo), (1, .int i1), (2, .int a_), (3, .int w_)] := hl
      refine lv_iload hx hb dX11_period_51 (lv_at hl 0 rfl) ?_
      refine lv_sipush (v := 999) hx hb dX11_period_53 (by decide) ?_
      refine lv_icmp_gt (tgt := 122) hx hb dX11_period_56 (by decide) (fun c_57 => ?_) (fun c_57 => ?_)
      · have c_57n : 999 < i := (nI_ltI (a := 999) (b := i) (by omega) (by omega)).mp c_57
        refine lv_iconst (v := (-1)) hx hb dX11_period_122 (by decide) ?_
        have G := G.sub (bs' := [[zO10 xo t im mk rd po co tr wa wb_ fi cd], wt, z0_, z1_, wp3, [zAr T 0 cd 1000 fx]]) [0, 3, 1, 4, 5, 2] rfl
        exact z_back hQz_ (z_iret C hr hlocks G (Nat.le_of_ble_eq_true rfl) (Nat.le_of_ble_eq_true rfl) dX11_period_123 ⟨l1, x1, g2_48, g3_49, sx, wx, wp3, fx, rfl, hp3⟩)
      · have c_57n : ¬ 999 < i := fun q => c_57 ((nI_ltI (a := 999) (b := i) (by omega) (by omega)).mpr q)
        refine lv_aload_n hx hb dX11_period_59 rfl (lv_at hl 2 rfl) ?_
        refine z_get C G clX11 0 rfl 4 (by decide) m_fl_RX11_34 rfl dX11_period_60 ?_
        refine lv_iload_n hx hb dX11_period_63 rfl (lv_at hl 4 rfl) ?_
        refine z_Vv (bc := [wp3, z1_]) (br := [[zO10 xo t im mk rd po co tr wa wb_ fi cd], z0_, [zAr T 0 cd 1000 fx], wt]) (As := [.int a_]) (rest := []) C G (c_Posts_run l T po l1 x1 g2_48 g3_49 sx wx wp3 cr1_ inn1_ k11_ k21_ k31_ k41_ z1_ a_ hp3 hz1_ (by first | with_reducible assumption | with_reducible rfl | omega | assumption | rfl)) (kV_RX11_208 C.2.2.2.2 (Nat.le_of_ble_eq_true rfl) (Nat.le_of_ble_eq_true rfl)) [5, 4] [4, 0] rfl rfl (ci := 6) (qc := (RX6, TX6, 6)) rfl rfl (List.mem_flatten.mpr ⟨_, List.mem_of_getElem? (i := 0) rfl, (bPosts_mem hp3).choose_spec⟩) rfl rfl hl.1 dX11_period_64 (Nat.le_of_ble_eq_true rfl) (Nat.le_of_ble_eq_true rfl) (fun b1 H locs hw G => ?_)
        refine zEx4 hw ?_
        intro w2_58 g1_59 s2_60 x2_61
        refine zCu5 ?_
        intro hbs9 h_62 h_63 h_64 h_65
        clear hw
        subst hbs9
        have G : zS T A s.heap s [[zO10 xo t im mk rd po co tr wa wb_ fi cd], z0_, [zAr T 0 cd 1000 fx], wt, w2_58, z1_] _ _ := G
        have hQ2 : zP3 g1_59 g3_49 := by rw [h_63]; exact zRunN_I _ _ _ _ hQx
        refine lv_aload_n hx hb dX11_period_67 rfl (lv_at hl 2 rfl) ?_
        refine z_get C G clX11 0 rfl 4 (by decide) m_fl_RX11_34 rfl dX11_period_68 ?_
        refine z_Vi (bc := [w2_58]) (br := [[zO10 xo t im mk rd po co tr wa wb_ fi cd], z0_, [zAr T 0 cd 1000 fx], wt, z1_]) (As := []) (rest := []) C G (c_code l T po l1 g1_59 g2_48 g3_49 s2_60 x2_61 w2_58 h_62) (kV_RX11_212 C.2.2.2.2 (Nat.le_of_ble_eq_true rfl) (Nat.le_of_ble_eq_true rfl)) [4] [4] rfl rfl (ci := 6) (qc := (RX6, TX6, 6)) rfl rfl (List.mem_flatten.mpr ⟨_, List.mem_of_getElem? (i := 0) rfl, (bPosts_mem h_62).choose_spec⟩) rfl rfl hl.1 dX11_period_71 (Nat.le_of_ble_eq_true rfl) (Nat.le_of_ble_eq_true rfl) (fun r_68 b1 H locs hw G => ?_)
        refine zAn2 hw ?_
        intro hbs9 h_67
        clear hw
        subst hbs9
        have G : zS T A s.heap s [[zO10 xo t im mk rd po co tr wa wb_ fi cd], z0_, [zAr T 0 cd 1000 fx], wt, z1_, w2_58] _ _ := G
        subst h_67
        refine lv_istore (lv' := [(6, .int (zCode g1_59 7)), (5, .int (nI i)), (4, .ref l1), (0, .ref xo), (1, .int i1), (2, .int a_), (3, .int w_)]) hx hb dX11_period_74 hl (by decide) (zLvf_h rfl) (fun ls hl => ?_)
        refine lv_aload_n hx hb dX11_period_76 rfl (lv_at hl 3 rfl) ?_
        refine lv_iload hx hb dX11_period_77 (lv_at hl 0 rfl) ?_
        refine lv_iload hx hb dX11_period_79 (lv_at hl 1 rfl) ?_
        refine z_Vi (bc := [[zO10 xo t im mk rd po co tr wa wb_ fi cd], [zAr T 0 cd 1000 fx]]) (br := [z0_, wt, z1_, w2_58]) (As := [.int (zCode g1_59 7), .int (nI i)]) (rest := []) C G (c_placeOfCode l T xo t im mk rd po co tr wa wb_ fi cd fx (zCode g1_59 7) (nI i)) (kV_RX11_215 C.2.2.2.2 (Nat.le_of_ble_eq_true rfl) (Nat.le_of_ble_eq_true rfl)) [0, 2] [0, 1] rfl rfl (ci := 10) (qc := (RX11, TX11, 11)) rfl rfl (List.mem_flatten.mpr ⟨_, List.mem_of_getElem? (i := 0) rfl, List.mem_cons_self⟩) rfl rfl hl.1 dX11_period_81 (Nat.le_of_ble_eq_true rfl) (Nat.le_of_ble_eq_true rfl) (fun r_69 b1 H locs hw G => ?_)
        obtain rfl := hw
        have G : zS T A s.heap s [z0_, wt, z1_, w2_58, [zO10 xo t im mk rd po co tr wa wb_ fi cd], [zAr T 0 cd 1000 fx]] _ _ := G
        refine lv_istore (lv' := [(7, .int r_69), (6, .int (zCode g1_59 7)), (5, .int (nI i)), (4, .ref l1), (0, .ref xo), (1, .int i1), (2, .int a_), (3, .int w_)]) hx hb dX11_period_84 hl (by decide) (zLvf_h rfl) (fun ls hl => ?_)
        refine lv_iload hx hb dX11_period_86 (lv_at hl 0 rfl) ?_
        refine lv_iconst (v := (-1)) hx hb dX11_period_88 (by decide) ?_
        refine lv_icmp_eq (tgt := 107) hx hb dX11_period_89 (by decide) (fun c_70 => ?_) (fun c_70 => ?_)
        · have c_70n : r_69.toInt = (-1 : Int) := (fa_eq _ _).mp c_70
          refine lv_aload_n hx hb dX11_period_107 rfl (lv_at hl 4 rfl) ?_
          refine z_get C G clX11 4 rfl 10 (by decide) m_fl_RX11_69 rfl dX11_period_108 ?_
          refine lv_iload hx hb dX11_period_111 (lv_at hl 2 rfl) ?_
          refine lv_iload hx hb dX11_period_113 (lv_at hl 1 rfl) ?_
          refine z_ist C G 5 rfl (vp_in_nI (by omega) (by decide)) dX11_period_115 (fun H locs G => ?_)
          rw [nI_clamp (by omega)] at G
          have G : zS T A s.heap s [z0_, wt, z1_, w2_58, [zO10 xo t im mk rd po co tr wa wb_ fi cd], [zAr T 0 cd 1000 (upd fx i (zCode g1_59 7))]] _ _ := G
          refine lv_iinc (v := nI (i + 1)) (lv' := [(5, .int (nI (i + 1))), (7, .int r_69), (6, .int (zCode g1_59 7)), (4, .ref l1), (0, .ref xo), (1, .int i1), (2, .int a_), (3, .int w_)]) hx hb dX11_period_116 hl (k := 2) rfl (z_inc i 1) (by decide) (zLvf_h rfl) (fun ls hl => ?_)
          refine lv_goto (tgt := 51) hx hb dX11_period_119 (by decide) ?_
          have G := G.sub (bs' := [[zO10 xo t im mk rd po co tr wa wb_ fi cd], z0_, [zAr T 0 cd 1000 (upd fx i (zCode g1_59 7))], wt, z1_, w2_58]) [4, 0, 5, 1, 2, 3] rfl
          exact ih_51 (i + 1) w2_58 g1_59 s2_60 x2_61 (upd fx i (zCode g1_59 7)) (show bPosts T po l1 g1_59 g2_48 g3_49 s2_60 x2_61 w2_58 ∧ (i + 1) ≤ 1000 ∧ zP3 g1_59 g3_49 ∧ 1 ≤ (i + 1) from ⟨h_62, by omega, hQ2, by omega⟩) (show 1000 - (i + 1) < 1000 - i from by omega) _ _ ls G (lv_sub hl [0, 3, 4, 5, 6, 7] rfl)
        · have c_70n : ¬ r_69.toInt = (-1 : Int) := fun q => c_70 ((fa_eq _ _).mpr q)
          refine lv_iload_n hx hb dX11_period_92 rfl (lv_at hl 7 rfl) ?_
          refine lv_if_eq (tgt := 101) hx hb dX11_period_93 (by decide) (fun c_71 => ?_) (fun c_71 => ?_)
          · have c_71n : w_.toInt = (0 : Int) := (fa_eq _ _).mp c_71
            refine lv_iload hx hb dX11_period_101 (lv_at hl 2 rfl) ?_
            refine lv_iload hx hb dX11_period_103 (lv_at hl 0 rfl) ?_
            refine lv_isub hx hb dX11_period_105 ?_
            have G := G.sub (bs' := [[zO10 xo t im mk rd po co tr wa wb_ fi cd], wt, z0_, z1_, w2_58, [zAr T 0 cd 1000 fx]]) [4, 1, 0, 2, 3, 5] rfl
            exact z_back hQz_ (z_iret C hr hlocks G (Nat.le_of_ble_eq_true rfl) (Nat.le_of_ble_eq_true rfl) dX11_period_106 ⟨l1, g1_59, g2_48, g3_49, s2_60, x2_61, w2_58, fx, rfl, h_62⟩)
          · have c_71n : ¬ w_.toInt = (0 : Int) := fun q => c_71 ((fa_eq _ _).mpr q)
            refine lv_iload hx hb dX11_period_96 (lv_at hl 0 rfl) ?_
            refine lv_goto (tgt := 106) hx hb dX11_period_98 (by decide) ?_
            have G := G.sub (bs' := [[zO10 xo t im mk rd po co tr wa wb_ fi cd], wt, z0_, z1_, w2_58, [zAr T 0 cd 1000 fx]]) [4, 1, 0, 2, 3, 5] rfl
            exact z_back hQz_ (z_iret C hr hlocks G (Nat.le_of_ble_eq_true rfl) (Nat.le_of_ble_eq_true rfl) dX11_period_106 ⟨l1, g1_59, g2_48, g3_49, s2_60, x2_61, w2_58, fx, rfl, h_62⟩)
    · have h_45 : (a_.toInt < 0 ∨ cr1_.toInt ≤ a_.toInt ∨ 7 ≤ a_.toInt) := h_45
      refine lv_if_ne (tgt := 26) hx hb dX11_period_21 (by decide) (fun q => absurd (by decide) q) (fun _ => ?_)
      refine lv_iconst (v := (-1)) hx hb dX11_period_24 (by decide) ?_
      have G := G.sub (bs' := [[zO10 xo t im mk rd po co tr wa wb_ fi cd], wt, z0_, z1_, wp, [zAr T 0 cd 1000 fcd]]) [0, 4, 1, 5, 2, 3] rfl
      exact z_back hQz_ (z_iret C hr hlocks G (Nat.le_of_ble_eq_true rfl) (Nat.le_of_ble_eq_true rfl) dX11_period_25 ⟨lp, f1, f2, f3, st, wh, wp, fcd, rfl, hp⟩)
set_option maxHeartbeats 4000000 in
set_option maxRecDepth 100000 in
/-- c_keys -/
theorem c_keys (l : Launch) (T : zTy) (xo : Nat) (t : Nat) (im : Nat) (mk : Nat) (rd : Nat) (po : Nat) (co : Nat) (tr : Nat) (wa : Nat) (wb_ : Nat) (fi : Nat) (cd : Nat) (l0 : Nat) (l1 : Nat) (d0 : Nat) (d1 : Nat) (g0 : Nat) (g1 : Nat) (ln : Int32) (fl : Int32) (pl : Int32) (ft : Nat → Int32) (fk : Nat → Int32) (wt : va_W) (cr0_ : Int32) (inn0_ : Int32) (k10_ : Nat → Int32) (k20_ : Nat → Int32) (k30_ : Nat → Int32) (k40_ : Nat → Int32) (z0_ : va_W) (cr1_ : Int32) (inn1_ : Int32) (k11_ : Nat → Int32) (k21_ : Nat → Int32) (k31_ : Nat → Int32) (k41_ : Nat → Int32) (z1_ : va_W) (lp : Nat) (f1 : Nat → Int32) (f2 : Nat → Int32) (f3 : Nat → Int32) (st : Int32) (wh : Int32) (wp : va_W) (i1 : Int32) (a_ : Int32) (w_ : Int32) (ht : bTold T t l0 l1 d0 d1 g0 g1 ln fl pl ft fk wt) (hK : zKT fk) (hz0_ : bLand T l0 cr0_ inn0_ k10_ k20_ k30_ k40_ z0_) (hI0_ : zLI cr0_ k10_ k30_) (hz1_ : bLand T l1 cr1_ inn1_ k11_ k21_ k31_ k41_ z1_) (hI1_ : zLI cr1_ k11_ k31_) (hp : bPosts T po lp f1 f2 f3 st wh wp) : zMi l T yX11_keys cX11_keys 9 (some .int) 5 0 0 [.ref xo, .int i1, .int a_, .int w_] [[zO10 xo t im mk rd po co tr wa wb_ fi cd], wt, z0_, z1_, wp] (fun (r : Int32) bs => ∃ (lp_2 : Nat) (f1_2 : Nat → Int32) (f2_2 : Nat → Int32) (f3_2 : Nat → Int32) (st_2 : Int32) (wh_2 : Int32) (wp_2 : va_W), bs = [[zO10 xo t im mk rd po co tr wa wb_ fi cd], wt, z0_, z1_, wp_2] ∧ bPosts T po lp_2 f1_2 f2_2 f3_2 st_2 wh_2 wp_2) := by
  refine zMi_of (own := RX11) (by decide) rfl (Nat.le_of_ble_eq_true rfl) ?_
  intro p e s m args below meth c A ls C hr hlocks hnm hAe G hl
  refine zHide (fun Qz_ hQz_ => ?_)
  have hx := C.1
  have hb := C.2.1
  have hl : lv_has ls 9 [(0, .ref xo), (1, .int i1), (2, .int a_), (3, .int w_)] := hl
  refine lv_aload_n hx hb dX11_keys_0 rfl (lv_at hl 0 rfl) ?_
  refine z_get C G clX11 0 rfl 0 (by decide) m_fl_RX11_10 rfl dX11_keys_1 ?_
  refine lv_iload_n hx hb dX11_keys_4 rfl (lv_at hl 1 rfl) ?_
  refine z_Vq (bc := [wt]) (br := [[zO10 xo t im mk rd po co tr wa wb_ fi cd], z0_, z1_, wp]) (As := [.int i1]) (rest := []) C G (c_landAt l T t l0 l1 d0 d1 g0 g1 ln fl pl ft fk wt i1 ht) (kV_RX11_121 C.2.2.2.2 (Nat.le_of_ble_eq_true rfl) (Nat.le_of_ble_eq_true rfl)) [1] [1] rfl rfl (ci := 8) (qc := (RX9, TX9, 8)) rfl rfl (List.mem_flatten.mpr ⟨_, List.mem_of_getElem? (i := 0) rfl, (bTold_mem ht).choose_spec⟩) rfl rfl hl.1 dX11_keys_5 (Nat.le_of_ble_eq_true rfl) (Nat.le_of_ble_eq_true rfl) (fun r_2 b1 H locs hw G => ?_)
  refine zAn2 hw ?_
  intro hbs9 hc_1
  clear hw
  subst hbs9
  have G : zS T A s.heap s [[zO10 xo t im mk rd po co tr wa wb_ fi cd], z0_, z1_, wp, wt] _ _ := G
  rcases hc_1 with ⟨rfl, h_3⟩ | ⟨rfl, h_4, h_5⟩ | ⟨rfl, h_6, h_7⟩
  · have h_3 : (i1.toInt < 0 ∨ (fk 0).toInt ≤ i1.toInt ∨ 2 ≤ i1.toInt) := h_3
    refine lv_astoreN (lv' := [(4, .null), (0, .ref xo), (1, .int i1), (2, .int a_), (3, .int w_)]) hx hb dX11_keys_8 hl (by decide) (zLvf_h rfl) (fun ls hl => ?_)
    refine lv_aloadN hx hb dX11_keys_10 (lv_at hl 0 rfl) ?_
    refine lv_ifnullN (tgt := 24) hx hb dX11_keys_12 (by decide) ?_
    refine lv_bipush (v := (-2)) hx hb dX11_keys_24 (by decide) ?_
    have G := G.sub (bs' := [[zO10 xo t im mk rd po co tr wa wb_ fi cd], wt, z0_, z1_, wp]) [0, 4, 1, 2, 3] rfl
    exact z_back hQz_ (z_iret C hr hlocks G (Nat.le_of_ble_eq_true rfl) (Nat.le_of_ble_eq_true rfl) dX11_keys_26 ⟨lp, f1, f2, f3, st, wh, wp, rfl, hp⟩)
  · have h_4 : i1.toInt = 0 := h_4
    have h_5 : 0 < (fk 0).toInt := h_5
    refine lv_astore (lv' := [(4, .ref l0), (0, .ref xo), (1, .int i1), (2, .int a_), (3, .int w_)]) hx hb dX11_keys_8 hl (by decide) (zLvf_h rfl) (fun ls hl => ?_)
    refine lv_aload hx hb dX11_keys_10 (lv_at hl 0 rfl) ?_
    refine lv_ifnull hx hb dX11_keys_12 ?_
    refine lv_aload hx hb dX11_keys_15 (lv_at hl 0 rfl) ?_
    refine lv_iload_n hx hb dX11_keys_17 rfl (lv_at hl 3 rfl) ?_
    refine z_Vi (bc := [z0_]) (br := [[zO10 xo t im mk rd po co tr wa wb_ fi cd], z1_, wp, wt]) (As := [.int a_]) (rest := []) C G (c_has l T l0 cr0_ inn0_ k10_ k20_ k30_ k40_ z0_ a_ hz0_) (kV_RX11_160 C.2.2.2.2 (Nat.le_of_ble_eq_true rfl) (Nat.le_of_ble_eq_true rfl)) [1] [1] rfl rfl (ci := 4) (qc := (RX4, TX4, 6)) rfl rfl (List.mem_flatten.mpr ⟨_, List.mem_of_getElem? (i := 0) rfl, (bLand_mem hz0_).choose_spec⟩) rfl rfl hl.1 dX11_keys_18 (Nat.le_of_ble_eq_true rfl) (Nat.le_of_ble_eq_true rfl) (fun r_9 b1 H locs hw G => ?_)
    refine zAn2 hw ?_
    intro hbs9 hc_8
    clear hw
    subst hbs9
    have G : zS T A s.heap s [[zO10 xo t im mk rd po co tr wa wb_ fi cd], z1_, wp, wt, z0_] _ _ := G
    rcases hc_8 with ⟨rfl, h_10, h_11, h_12⟩ | ⟨rfl, h_13⟩
    · have h_10 : 0 ≤ a_.toInt := h_10
      have h_11 : a_.toInt < cr0_.toInt := h_11
      have h_12 : a_.toInt < 7 := h_12
      refine lv_if_ne (tgt := 27) hx hb dX11_keys_21 (by decide) (fun _ => ?_) (fun q => absurd q (by decide))
      refine lv_aload_n hx hb dX11_keys_27 rfl (lv_at hl 1 rfl) ?_
      refine z_get C G clX11 0 rfl 4 (by decide) m_fl_RX11_34 rfl dX11_keys_28 ?_
      refine lv_aload hx hb dX11_keys_31 (lv_at hl 0 rfl) ?_
      refine z_Vv (bc := [wp, z0_]) (br := [[zO10 xo t im mk rd po co tr wa wb_ fi cd], z1_, wt]) (As := [.ref l0]) (rest := []) C G (c_Posts_begin l T po lp f1 f2 f3 st wh wp l0 cr0_ inn0_ k10_ k20_ k30_ k40_ z0_ hp hz0_) (kV_RX11_205 C.2.2.2.2 (Nat.le_of_ble_eq_true rfl) (Nat.le_of_ble_eq_true rfl)) [2, 4] [2, 1] rfl rfl (ci := 6) (qc := (RX6, TX6, 6)) rfl rfl (List.mem_flatten.mpr ⟨_, List.mem_of_getElem? (i := 0) rfl, (bPosts_mem hp).choose_spec⟩) rfl rfl hl.1 dX11_keys_33 (Nat.le_of_ble_eq_true rfl) (Nat.le_of_ble_eq_true rfl) (fun b1 H locs hw G => ?_)
      refine zEx4 hw ?_
      intro w2_14 g1_15 g2_16 g3_17
      refine zCu5 ?_
      intro hbs9 h_18 h_19 h_20 h_21
      clear hw
      subst hbs9
      have G : zS T A s.heap s [[zO10 xo t im mk rd po co tr wa wb_ fi cd], z1_, wt, w2_14, z0_] _ _ := G
      have hQ : zP3 g1_15 g3_17 := z_P3 hI0_ h_19 h_21
      refine lv_aload_n hx hb dX11_keys_36 rfl (lv_at hl 1 rfl) ?_
      refine z_get C G clX11 0 rfl 4 (by decide) m_fl_RX11_34 rfl dX11_keys_37 ?_
      refine lv_iload_n hx hb dX11_keys_40 rfl (lv_at hl 3 rfl) ?_
      refine z_Vv (bc := [w2_14, z0_]) (br := [[zO10 xo t im mk rd po co tr wa wb_ fi cd], z1_, wt]) (As := [.int a_]) (rest := []) C G (c_Posts_run l T po l0 g1_15 g2_16 g3_17 0 0 w2_14 cr0_ inn0_ k10_ k20_ k30_ k40_ z0_ a_ h_18 hz0_ (by first | with_reducible assumption | with_reducible rfl | omega | assumption | rfl)) (kV_RX11_208 C.2.2.2.2 (Nat.le_of_ble_eq_true rfl) (Nat.le_of_ble_eq_true rfl)) [3, 4] [3, 0] rfl rfl (ci := 6) (qc := (RX6, TX6, 6)) rfl rfl (List.mem_flatten.mpr ⟨_, List.mem_of_getElem? (i := 0) rfl, (bPosts_mem h_18).choose_spec⟩) rfl rfl hl.1 dX11_keys_41 (Nat.le_of_ble_eq_true rfl) (Nat.le_of_ble_eq_true rfl) (fun b1 H locs hw G => ?_)
      refine zEx4 hw ?_
      intro w2_23 g1_24 s2_25 x2_26
      refine zCu5 ?_
      intro hbs9 h_27 h_28 h_29 h_30
      clear hw
      subst hbs9
      have G : zS T A s.heap s [[zO10 xo t im mk rd po co tr wa wb_ fi cd], z1_, wt, w2_23, z0_] _ _ := G
      refine lv_aload hx hb dX11_keys_44 (lv_at hl 0 rfl) ?_
      refine lv_aload_n hx hb dX11_keys_46 rfl (lv_at hl 1 rfl) ?_
      refine z_get C G clX11 0 rfl 4 (by decide) m_fl_RX11_34 rfl dX11_keys_47 ?_
      refine zEx3 h_27 ?_
      intro a1_32 a2_33 a3_34 hbs9
      clear h_27
      subst hbs9
      have G : zS T A s.heap s [[zO10 xo t im mk rd po co tr wa wb_ fi cd], z1_, wt, [zO6 po l0 a1_32 a2_33 s2_25 x2_26 a3_34], [zAr T 0 a1_32 7 g1_24], [zAr T 0 a2_33 7 g2_16], [zAr T 0 a3_34 7 g3_17], z0_] _ _ := G.re rfl
      refine z_get C G clX6 3 rfl 4 (by decide) m_fl_RX11_211 rfl dX11_keys_50 ?_
      refine z_Vi (bc := [z0_]) (br := [[zO10 xo t im mk rd po co tr wa wb_ fi cd], z1_, wt, [zO6 po l0 a1_32 a2_33 s2_25 x2_26 a3_34], [zAr T 0 a1_32 7 g1_24], [zAr T 0 a2_33 7 g2_16], [zAr T 0 a3_34 7 g3_17]]) (As := [.int x2_26]) (rest := []) C G (c_isInn l T l0 cr0_ inn0_ k10_ k20_ k30_ k40_ z0_ x2_26 hz0_) (kV_RX11_174 C.2.2.2.2 (Nat.le_of_ble_eq_true rfl) (Nat.le_of_ble_eq_true rfl)) [7] [7] rfl rfl (ci := 4) (qc := (RX4, TX4, 6)) rfl rfl (List.mem_flatten.mpr ⟨_, List.mem_of_getElem? (i := 0) rfl, (bLand_mem hz0_).choose_spec⟩) rfl rfl hl.1 dX11_keys_53 (Nat.le_of_ble_eq_true rfl) (Nat.le_of_ble_eq_true rfl) (fun r_36 b1 H locs hw G => ?_)
      refine zAn2 hw ?_
      intro hbs9 hc_35
      clear hw
      subst hbs9
      have G : zS T A s.heap s [[zO10 xo t im mk rd po co tr wa wb_ fi cd], z1_, wt, [zO6 po l0 a1_32 a2_33 s2_25 x2_26 a3_34], [zAr T 0 a1_32 7 g1_24], [zAr T 0 a2_33 7 g2_16], [zAr T 0 a3_34 7 g3_17], z0_] _ _ := G
      rcases hc_35 with ⟨rfl, h_37, h_38, h_39, h_40⟩ | ⟨rfl, h_41⟩
      · have h_37 : 0 ≤ x2_26.toInt := h_37
        have h_38 : x2_26.toInt < cr0_.toInt := h_38
        have h_39 : x2_26.toInt < 7 := h_39
        have h_40 : ¬ zBit inn0_ x2_26 = 0 := h_40
        refine lv_if_ne (tgt := 62) hx hb dX11_keys_56 (by decide) (fun _ => ?_) (fun q => absurd q (by decide))
        have hc0 := hI0_.1
        refine lv_iconst (v := 0) hx hb dX11_keys_62 (by decide) ?_
        refine lv_istore (lv' := [(5, .int 0), (4, .ref l0), (0, .ref xo), (1, .int i1), (2, .int a_), (3, .int w_)]) hx hb dX11_keys_63 hl (by decide) (zLvf_h rfl) (fun ls hl => ?_)
        refine lv_iconst (v := (-1)) hx hb dX11_keys_65 (by decide) ?_
        refine lv_istore (lv' := [(6, .int (-1)), (5, .int 0), (4, .ref l0), (0, .ref xo), (1, .int i1), (2, .int a_), (3, .int w_)]) hx hb dX11_keys_66 hl (by decide) (zLvf_h rfl) (fun ls hl => ?_)
        refine lv_iconst (v := 0) hx hb dX11_keys_68 (by decide) ?_
        refine lv_istore (lv' := [(7, .int 0), (6, .int (-1)), (5, .int 0), (4, .ref l0), (0, .ref xo), (1, .int i1), (2, .int a_), (3, .int w_)]) hx hb dX11_keys_69 hl (by decide) (zLvf_h rfl) (fun ls hl => ?_)
        refine zEx4 hz0_ ?_
        intro a1_42 a2_43 a3_44 a4_45 hbs9
        clear hz0_
        subst hbs9
        have G : zS T A s.heap s [[zO10 xo t im mk rd po co tr wa wb_ fi cd], z1_, wt, [zO6 po l0 a1_32 a2_33 s2_25 x2_26 a3_34], [zAr T 0 a1_32 7 g1_24], [zAr T 0 a2_33 7 g2_16], [zAr T 0 a3_34 7 g3_17], [zO4 l0 cr0_ inn0_ a1_42 a2_43 a3_44 a4_45], [zAr T 0 a1_42 7 k10_], [zAr T 0 a2_43 28 k20_], [zAr T 0 a3_44 7 k30_], [zAr T 0 a4_45 7 k40_]] _ _ := G.re rfl
        have hw_46 : bPosts T po l0 g1_24 g2_16 g3_17 s2_25 x2_26 [zO6 po l0 a1_32 a2_33 s2_25 x2_26 a3_34, zAr T 0 a1_32 7 g1_24, zAr T 0 a2_33 7 g2_16, zAr T 0 a3_34 7 g3_17] := ⟨a1_32, a2_33, a3_34, rfl⟩
        have G : zS T A s.heap s [[zO10 xo t im mk rd po co tr wa wb_ fi cd], z1_, wt, [zO6 po l0 a1_32 a2_33 s2_25 x2_26 a3_34, zAr T 0 a1_32 7 g1_24, zAr T 0 a2_33 7 g2_16, zAr T 0 a3_34 7 g3_17], [zO4 l0 cr0_ inn0_ a1_42 a2_43 a3_44 a4_45], [zAr T 0 a1_42 7 k10_], [zAr T 0 a2_43 28 k20_], [zAr T 0 a3_44 7 k30_], [zAr T 0 a4_45 7 k40_]] _ _ := G.re rfl
        have hw_47 : bLand T l0 cr0_ inn0_ k10_ k20_ k30_ k40_ [zO4 l0 cr0_ inn0_ a1_42 a2_43 a3_44 a4_45, zAr T 0 a1_42 7 k10_, zAr T 0 a2_43 28 k20_, zAr T 0 a3_44 7 k30_, zAr T 0 a4_45 7 k40_] := ⟨a1_42, a2_43, a3_44, a4_45, rfl⟩
        have G : zS T A s.heap s [[zO10 xo t im mk rd po co tr wa wb_ fi cd], z1_, wt, [zO6 po l0 a1_32 a2_33 s2_25 x2_26 a3_34, zAr T 0 a1_32 7 g1_24, zAr T 0 a2_33 7 g2_16, zAr T 0 a3_34 7 g3_17], [zO4 l0 cr0_ inn0_ a1_42 a2_43 a3_44 a4_45, zAr T 0 a1_42 7 k10_, zAr T 0 a2_43 28 k20_, zAr T 0 a3_44 7 k30_, zAr T 0 a4_45 7 k40_]] _ _ := G.re rfl
        refine z_lp9 (T := T) 71 (fun (i : Nat) (u5 : Int32) (u6 : Int32) (wp3 : va_W) (x1 : Nat → Int32) (x2 : Nat → Int32) (x3 : Nat → Int32) (sx : Int32) (wx : Int32) => [[zO10 xo t im mk rd po co tr wa wb_ fi cd], z1_, wt, wp3, [zO4 l0 cr0_ inn0_ a1_42 a2_43 a3_44 a4_45, zAr T 0 a1_42 7 k10_, zAr T 0 a2_43 28 k20_, zAr T 0 a3_44 7 k30_, zAr T 0 a4_45 7 k40_]]) (fun (i : Nat) (u5 : Int32) (u6 : Int32) (wp3 : va_W) (x1 : Nat → Int32) (x2 : Nat → Int32) (x3 : Nat → Int32) (sx : Int32) (wx : Int32) => [(7, .int (nI i)), (6, .int u6), (5, .int u5), (4, .ref l0), (0, .ref xo), (1, .int i1), (2, .int a_), (3, .int w_)]) (fun (i : Nat) (u5 : Int32) (u6 : Int32) (wp3 : va_W) (x1 : Nat → Int32) (x2 : Nat → Int32) (x3 : Nat → Int32) (sx : Int32) (wx : Int32) => bPosts T po l0 x1 x2 x3 sx wx wp3 ∧ i ≤ 7) (fun (i : Nat) (u5 : Int32) (u6 : Int32) (wp3 : va_W) (x1 : Nat → Int32) (x2 : Nat → Int32) (x3 : Nat → Int32) (sx : Int32) (wx : Int32) => 7 - i) ?_ 0 0 (-1) ([zO6 po l0 a1_32 a2_33 s2_25 x2_26 a3_34, zAr T 0 a1_32 7 g1_24, zAr T 0 a2_33 7 g2_16, zAr T 0 a3_34 7 g3_17]) g1_24 g2_16 g3_17 s2_25 x2_26 (show bPosts T po l0 g1_24 g2_16 g3_17 s2_25 x2_26 ([zO6 po l0 a1_32 a2_33 s2_25 x2_26 a3_34, zAr T 0 a1_32 7 g1_24, zAr T 0 a2_33 7 g2_16, zAr T 0 a3_34 7 g3_17]) ∧ 0 ≤ 7 from ⟨hw_46, by omega⟩) G (lv_sub hl [0, 1, 2, 3, 4, 5, 6, 7] rfl)
        intro i u5 u6 wp3 x1 x2 x3 sx wx hI9 ih_71 H locs ls G hl
        replace hI9 : bPosts T po l0 x1 x2 x3 sx wx wp3 ∧ i ≤ 7 := hI9
        refine zAn2 hI9 ?_
        intro hp3 hi
        clear hI9
        replace G : zS T A s.heap s [[zO10 xo t im mk rd po co tr wa wb_ fi cd], z1_, wt, wp3, [zO4 l0 cr0_ inn0_ a1_42 a2_43 a3_44 a4_45, zAr T 0 a1_42 7 k10_, zAr T 0 a2_43 28 k20_, zAr T 0 a3_44 7 k30_, zAr T 0 a4_45 7 k40_]] _ _ := G
        replace hl : lv_has ls 9 [(7, .int (nI i)), (6, .int u6), (5, .int u5), (4, .ref l0), (0, .ref xo), (1, .int i1), (2, .int a_), (3, .int w_)] := hl
        refine lv_iload hx hb dX11_keys_71 (lv_at hl 0 rfl) ?_
        refine lv_aload hx hb dX11_keys_73 (lv_at hl 3 rfl) ?_
        have G : zS T A s.heap s [[zO10 xo t im mk rd po co tr wa wb_ fi cd], z1_, wt, wp3, [zO4 l0 cr0_ inn0_ a1_42 a2_43 a3_44 a4_45], [zAr T 0 a1_42 7 k10_], [zAr T 0 a2_43 28 k20_], [zAr T 0 a3_44 7 k30_], [zAr T 0 a4_45 7 k40_]] _ _ := G.re rfl
        refine z_get C G clX4 4 rfl 0 (by decide) m_fl_RX11_218 rfl dX11_keys_75 ?_
        refine lv_icmp_ge (tgt := 146) hx hb dX11_keys_78 (by decide) (fun c_48 => ?_) (fun c_48 => ?_)
        · have c_48n : cr0_.toInt ≤ (i : Int) := by have q := (fa_le _ _).mp c_48; rw [nI_toInt (n := i) (by omega)] at q; exact q
          refine lv_iload_n hx hb dX11_keys_146 rfl (lv_at hl 7 rfl) ?_
          refine lv_if_eq (tgt := 155) hx hb dX11_keys_147 (by decide) (fun c_49 => ?_) (fun c_49 => ?_)
          · have c_49n : w_.toInt = (0 : Int) := (fa_eq _ _).mp c_49
            refine lv_iload hx hb dX11_keys_155 (lv_at hl 2 rfl) ?_
            have hw_50 : bLand T l0 cr0_ inn0_ k10_ k20_ k30_ k40_ [zO4 l0 cr0_ inn0_ a1_42 a2_43 a3_44 a4_45, zAr T 0 a1_42 7 k10_, zAr T 0 a2_43 28 k20_, zAr T 0 a3_44 7 k30_, zAr T 0 a4_45 7 k40_] := ⟨a1_42, a2_43, a3_44, a4_45, rfl⟩
            have G : zS T A s.heap s [[zO10 xo t im mk rd po co tr wa wb_ fi cd], z1_, wt, wp3, [zO4 l0 cr0_ inn0_ a1_42 a2_43 a3_44 a4_45, zAr T 0 a1_42 7 k10_, zAr T 0 a2_43 28 k20_, zAr T 0 a3_44 7 k30_, zAr T 0 a4_45 7 k40_]] _ _ := G.re rfl
            have G := G.sub (bs' := [[zO10 xo t im mk rd po co tr wa wb_ fi cd], wt, [zO4 l0 cr0_ inn0_ a1_42 a2_43 a3_44 a4_45, zAr T 0 a1_42 7 k10_, zAr T 0 a2_43 28 k20_, zAr T 0 a3_44 7 k30_, zAr T 0 a4_45 7 k40_], z1_, wp3]) [0, 2, 4, 1, 3] rfl
            exact z_back hQz_ (z_iret C hr hlocks G (Nat.le_of_ble_eq_true rfl) (Nat.le_of_ble_eq_true rfl) dX11_keys_157 ⟨l0, x1, x2, x3, sx, wx, wp3, rfl, hp3⟩)
          · have c_49n : ¬ w_.toInt = (0 : Int) := fun q => c_49 ((fa_eq _ _).mpr q)
            refine lv_iload hx hb dX11_keys_150 (lv_at hl 1 rfl) ?_
            refine lv_goto (tgt := 157) hx hb dX11_keys_152 (by decide) ?_
            have hw_51 : bLand T l0 cr0_ inn0_ k10_ k20_ k30_ k40_ [zO4 l0 cr0_ inn0_ a1_42 a2_43 a3_44 a4_45, zAr T 0 a1_42 7 k10_, zAr T 0 a2_43 28 k20_, zAr T 0 a3_44 7 k30_, zAr T 0 a4_45 7 k40_] := ⟨a1_42, a2_43, a3_44, a4_45, rfl⟩
            have G : zS T A s.heap s [[zO10 xo t im mk rd po co tr wa wb_ fi cd], z1_, wt, wp3, [zO4 l0 cr0_ inn0_ a1_42 a2_43 a3_44 a4_45, zAr T 0 a1_42 7 k10_, zAr T 0 a2_43 28 k20_, zAr T 0 a3_44 7 k30_, zAr T 0 a4_45 7 k40_]] _ _ := G.re rfl
            have G := G.sub (bs' := [[zO10 xo t im mk rd po co tr wa wb_ fi cd], wt, [zO4 l0 cr0_ inn0_ a1_42 a2_43 a3_44 a4_45, zAr T 0 a1_42 7 k10_, zAr T 0 a2_43 28 k20_, zAr T 0 a3_44 7 k30_, zAr T 0 a4_45 7 k40_], z1_, wp3]) [0, 2, 4, 1, 3] rfl
            exact z_back hQz_ (z_iret C hr hlocks G (Nat.le_of_ble_eq_true rfl) (Nat.le_of_ble_eq_true rfl) dX11_keys_157 ⟨l0, x1, x2, x3, sx, wx, wp3, rfl, hp3⟩)
        · have c_48n : ¬ cr0_.toInt ≤ (i : Int) := fun q => c_48 ((fa_le _ _).mpr (by rw [nI_toInt (n := i) (by omega)]; exact q))
          have hwl := zWays_le (inn := inn0_) hI0_ (nI i)
          refine lv_iconst (v := 0) hx hb dX11_keys_81 (by decide) ?_
          refine lv_istore (lv' := [(8, .int 0), (7, .int (nI i)), (6, .int u6), (5, .int u5), (4, .ref l0), (0, .ref xo), (1, .int i1), (2, .int a_), (3, .int w_)]) hx hb dX11_keys_82 hl (by decide) (zLvf_h rfl) (fun ls hl => ?_)
          have hw_52 : bLand T l0 cr0_ inn0_ k10_ k20_ k30_ k40_ [zO4 l0 cr0_ inn0_ a1_42 a2_43 a3_44 a4_45, zAr T 0 a1_42 7 k10_, zAr T 0 a2_43 28 k20_, zAr T 0 a3_44 7 k30_, zAr T 0 a4_45 7 k40_] := ⟨a1_42, a2_43, a3_44, a4_45, rfl⟩
          have G : zS T A s.heap s [[zO10 xo t im mk rd po co tr wa wb_ fi cd], z1_, wt, wp3, [zO4 l0 cr0_ inn0_ a1_42 a2_43 a3_44 a4_45, zAr T 0 a1_42 7 k10_, zAr T 0 a2_43 28 k20_, zAr T 0 a3_44 7 k30_, zAr T 0 a4_45 7 k40_]] _ _ := G.re rfl
          refine z_lp9 (T := T) 84 (fun (j : Nat) (v5 : Int32) (v6 : Int32) (wp4 : va_W) (y1 : Nat → Int32) (y2 : Nat → Int32) (y3 : Nat → Int32) (sy : Int32) (wy : Int32) => [[zO10 xo t im mk rd po co tr wa wb_ fi cd], z1_, wt, wp4, [zO4 l0 cr0_ inn0_ a1_42 a2_43 a3_44 a4_45, zAr T 0 a1_42 7 k10_, zAr T 0 a2_43 28 k20_, zAr T 0 a3_44 7 k30_, zAr T 0 a4_45 7 k40_]]) (fun (j : Nat) (v5 : Int32) (v6 : Int32) (wp4 : va_W) (y1 : Nat → Int32) (y2 : Nat → Int32) (y3 : Nat → Int32) (sy : Int32) (wy : Int32) => [(8, .int (nI j)), (7, .int (nI i)), (6, .int v6), (5, .int v5), (4, .ref l0), (0, .ref xo), (1, .int i1), (2, .int a_), (3, .int w_)]) (fun (j : Nat) (v5 : Int32) (v6 : Int32) (wp4 : va_W) (y1 : Nat → Int32) (y2 : Nat → Int32) (y3 : Nat → Int32) (sy : Int32) (wy : Int32) => bPosts T po l0 y1 y2 y3 sy wy wp4 ∧ j ≤ 4) (fun (j : Nat) (v5 : Int32) (v6 : Int32) (wp4 : va_W) (y1 : Nat → Int32) (y2 : Nat → Int32) (y3 : Nat → Int32) (sy : Int32) (wy : Int32) => 4 - j) ?_ 0 u5 u6 wp3 x1 x2 x3 sx wx (show bPosts T po l0 x1 x2 x3 sx wx wp3 ∧ 0 ≤ 4 from ⟨hp3, by omega⟩) G (lv_sub hl [0, 1, 2, 3, 4, 5, 6, 7, 8] rfl)
          intro j v5 v6 wp4 y1 y2 y3 sy wy hI9 ih_84 H locs ls G hl
          replace hI9 : bPosts T po l0 y1 y2 y3 sy wy wp4 ∧ j ≤ 4 := hI9
          refine zAn2 hI9 ?_
          intro hp4 hj
          clear hI9
          replace G : zS T A s.heap s [[zO10 xo t im mk rd po co tr wa wb_ fi cd], z1_, wt, wp4, [zO4 l0 cr0_ inn0_ a1_42 a2_43 a3_44 a4_45, zAr T 0 a1_42 7 k10_, zAr T 0 a2_43 28 k20_, zAr T 0 a3_44 7 k30_, zAr T 0 a4_45 7 k40_]] _ _ := G
          replace hl : lv_has ls 9 [(8, .int (nI j)), (7, .int (nI i)), (6, .int v6), (5, .int v5), (4, .ref l0), (0, .ref xo), (1, .int i1), (2, .int a_), (3, .int w_)] := hl
          refine lv_iload hx hb dX11_keys_84 (lv_at hl 0 rfl) ?_
          refine lv_aload hx hb dX11_keys_86 (lv_at hl 4 rfl) ?_
          refine lv_iload hx hb dX11_keys_88 (lv_at hl 1 rfl) ?_
          refine z_Vi (bc := [[zO4 l0 cr0_ inn0_ a1_42 a2_43 a3_44 a4_45, zAr T 0 a1_42 7 k10_, zAr T 0 a2_43 28 k20_, zAr T 0 a3_44 7 k30_, zAr T 0 a4_45 7 k40_]]) (br := [[zO10 xo t im mk rd po co tr wa wb_ fi cd], z1_, wt, wp4]) (As := [.int (nI i)]) (rest := [.int (nI j)]) C G (c_waysOut l T l0 cr0_ inn0_ k10_ k20_ k30_ k40_ ([zO4 l0 cr0_ inn0_ a1_42 a2_43 a3_44 a4_45, zAr T 0 a1_42 7 k10_, zAr T 0 a2_43 28 k20_, zAr T 0 a3_44 7 k30_, zAr T 0 a4_45 7 k40_]) (nI i) hw_52) (kV_RX11_221 C.2.2.2.2 (Nat.le_of_ble_eq_true rfl) (Nat.le_of_ble_eq_true rfl)) [4] [4] rfl rfl (ci := 4) (qc := (RX4, TX4, 6)) rfl rfl (List.mem_flatten.mpr ⟨_, List.mem_of_getElem? (i := 0) rfl, (bLand_mem hw_52).choose_spec⟩) rfl rfl hl.1 dX11_keys_90 (Nat.le_of_ble_eq_true rfl) (Nat.le_of_ble_eq_true rfl) (fun r_54 b1 H locs hw G => ?_)
          refine zAn2 hw ?_
          intro hbs9 h_53
          clear hw
          subst hbs9
          have G : zS T A s.heap s [[zO10 xo t im mk rd po co tr wa wb_ fi cd], z1_, wt, wp4, [zO4 l0 cr0_ inn0_ a1_42 a2_43 a3_44 a4_45, zAr T 0 a1_42 7 k10_, zAr T 0 a2_43 28 k20_, zAr T 0 a3_44 7 k30_, zAr T 0 a4_45 7 k40_]] _ _ := G
          subst h_53
          refine lv_icmp_ge (tgt := 140) hx hb dX11_keys_93 (by decide) (fun c_55 => ?_) (fun c_55 => ?_)
          · have c_55n : (zWays cr0_ inn0_ k10_ (nI i)).toInt ≤ (j : Int) := by have q := (fa_le _ _).mp c_55; rw [nI_toInt (n := j) (by omega)] at q; exact q
            refine lv_iinc (v := nI (i + 1)) (lv' := [(7, .int (nI (i + 1))), (8, .int (nI j)), (6, .int v6), (5, .int v5), (4, .ref l0), (0, .ref xo), (1, .int i1), (2, .int a_), (3, .int w_)]) hx hb dX11_keys_140 hl (k := 1) rfl (z_inc i 1) (by decide) (zLvf_h rfl) (fun ls hl => ?_)
            refine lv_goto (tgt := 71) hx hb dX11_keys_143 (by decide) ?_
            exact ih_71 (i + 1) v5 v6 wp4 y1 y2 y3 sy wy (show bPosts T po l0 y1 y2 y3 sy wy wp4 ∧ (i + 1) ≤ 7 from ⟨hp4, by omega⟩) (show 7 - (i + 1) < 7 - i from by omega) _ _ ls G (lv_sub hl [0, 2, 3, 4, 5, 6, 7, 8] rfl)
          · have c_55n : ¬ (zWays cr0_ inn0_ k10_ (nI i)).toInt ≤ (j : Int) := fun q => c_55 ((fa_le _ _).mpr (by rw [nI_toInt (n := j) (by omega)]; exact q))
            refine lv_aload_n hx hb dX11_keys_96 rfl (lv_at hl 5 rfl) ?_
            refine lv_aload hx hb dX11_keys_97 (lv_at hl 4 rfl) ?_
            refine lv_iload_n hx hb dX11_keys_99 rfl (lv_at hl 7 rfl) ?_
            refine lv_iload hx hb dX11_keys_100 (lv_at hl 1 rfl) ?_
            refine lv_iload hx hb dX11_keys_102 (lv_at hl 0 rfl) ?_
            refine z_Vi (bc := [[zO10 xo t im mk rd po co tr wa wb_ fi cd], wp4, [zO4 l0 cr0_ inn0_ a1_42 a2_43 a3_44 a4_45, zAr T 0 a1_42 7 k10_, zAr T 0 a2_43 28 k20_, zAr T 0 a3_44 7 k30_, zAr T 0 a4_45 7 k40_]]) (br := [z1_, wt]) (As := [.ref l0, .int a_, .int (nI i), .int (nI j)]) (rest := []) C G (c_isKey l T xo t im mk rd po co tr wa wb_ fi cd l0 y1 y2 y3 sy wy wp4 l0 cr0_ inn0_ k10_ k20_ k30_ k40_ ([zO4 l0 cr0_ inn0_ a1_42 a2_43 a3_44 a4_45, zAr T 0 a1_42 7 k10_, zAr T 0 a2_43 28 k20_, zAr T 0 a3_44 7 k30_, zAr T 0 a4_45 7 k40_]) a_ (nI i) (nI j) hp4 hw_52 (by first | with_reducible assumption | with_reducible rfl | omega | assumption | rfl)) (kV_RX11_224 C.2.2.2.2 (Nat.le_of_ble_eq_true rfl) (Nat.le_of_ble_eq_true rfl)) [0, 3, 4] [0, 2, 0] rfl rfl (ci := 10) (qc := (RX11, TX11, 11)) rfl rfl (List.mem_flatten.mpr ⟨_, List.mem_of_getElem? (i := 0) rfl, List.mem_cons_self⟩) rfl rfl hl.1 dX11_keys_104 (Nat.le_of_ble_eq_true rfl) (Nat.le_of_ble_eq_true rfl) (fun r_64 b1 H locs hw G => ?_)
            refine zEx6 hw ?_
            intro f1_56 f2_57 f3_58 st_59 wh_60 wp_61
            refine zCu3 ?_
            intro hbs9 h_62 h_63
            clear hw
            subst hbs9
            have G : zS T A s.heap s [z1_, wt, [zO10 xo t im mk rd po co tr wa wb_ fi cd], wp_61, [zO4 l0 cr0_ inn0_ a1_42 a2_43 a3_44 a4_45, zAr T 0 a1_42 7 k10_, zAr T 0 a2_43 28 k20_, zAr T 0 a3_44 7 k30_, zAr T 0 a4_45 7 k40_]] _ _ := G
            replace h_63 : zHd ((r_64 = 0 ∨ r_64 = 1)) := h_63
            refine lv_if_eq (tgt := 134) hx hb dX11_keys_107 (by decide) (fun c_65 => ?_) (fun c_65 => ?_)
            · have c_65n : r_64.toInt = (0 : Int) := (fa_eq _ _).mp c_65
              refine lv_iinc (v := nI (j + 1)) (lv' := [(8, .int (nI (j + 1))), (7, .int (nI i)), (6, .int v6), (5, .int v5), (4, .ref l0), (0, .ref xo), (1, .int i1), (2, .int a_), (3, .int w_)]) hx hb dX11_keys_134 hl (k := 0) rfl (z_inc j 1) (by decide) (zLvf_h rfl) (fun ls hl => ?_)
              refine lv_goto (tgt := 84) hx hb dX11_keys_137 (by decide) ?_
              have G := G.sub (bs' := [[zO10 xo t im mk rd po co tr wa wb_ fi cd], z1_, wt, wp_61, [zO4 l0 cr0_ inn0_ a1_42 a2_43 a3_44 a4_45, zAr T 0 a1_42 7 k10_, zAr T 0 a2_43 28 k20_, zAr T 0 a3_44 7 k30_, zAr T 0 a4_45 7 k40_]]) [2, 0, 1, 3, 4] rfl
              exact ih_84 (j + 1) v5 v6 wp_61 f1_56 f2_57 f3_58 st_59 wh_60 (show bPosts T po l0 f1_56 f2_57 f3_58 st_59 wh_60 wp_61 ∧ (j + 1) ≤ 4 from ⟨h_62, by omega⟩) (show 4 - (j + 1) < 4 - j from by omega) _ _ ls G (lv_sub hl [0, 1, 2, 3, 4, 5, 6, 7, 8] rfl)
            · have c_65n : ¬ r_64.toInt = (0 : Int) := fun q => c_65 ((fa_eq _ _).mpr q)
              refine lv_iinc (v := v5 + 1) (lv' := [(5, .int (v5 + 1)), (8, .int (nI j)), (7, .int (nI i)), (6, .int v6), (4, .ref l0), (0, .ref xo), (1, .int i1), (2, .int a_), (3, .int w_)]) hx hb dX11_keys_110 hl (k := 3) rfl rfl (by decide) (zLvf_h rfl) (fun ls hl => ?_)
              refine lv_iload hx hb dX11_keys_113 (lv_at hl 3 rfl) ?_
              refine lv_iconst (v := (-1)) hx hb dX11_keys_115 (by decide) ?_
              refine lv_icmp_ne (tgt := 130) hx hb dX11_keys_116 (by decide) (fun c_66 => ?_) (fun c_66 => ?_)
              · have c_66n : ¬ v6.toInt = (-1 : Int) := fun q => c_66 ((fa_eq _ _).mpr q)
                refine lv_iload hx hb dX11_keys_130 (lv_at hl 3 rfl) ?_
                refine lv_istore (lv' := [(6, .int v6), (5, .int (v5 + 1)), (8, .int (nI j)), (7, .int (nI i)), (4, .ref l0), (0, .ref xo), (1, .int i1), (2, .int a_), (3, .int w_)]) hx hb dX11_keys_132 hl (by decide) (zLvf_h rfl) (fun ls hl => ?_)
                refine lv_iinc (v := nI (j + 1)) (lv' := [(8, .int (nI (j + 1))), (6, .int v6), (5, .int (v5 + 1)), (7, .int (nI i)), (4, .ref l0), (0, .ref xo), (1, .int i1), (2, .int a_), (3, .int w_)]) hx hb dX11_keys_134 hl (k := 2) rfl (z_inc j 1) (by decide) (zLvf_h rfl) (fun ls hl => ?_)
                refine lv_goto (tgt := 84) hx hb dX11_keys_137 (by decide) ?_
                have G := G.sub (bs' := [[zO10 xo t im mk rd po co tr wa wb_ fi cd], z1_, wt, wp_61, [zO4 l0 cr0_ inn0_ a1_42 a2_43 a3_44 a4_45, zAr T 0 a1_42 7 k10_, zAr T 0 a2_43 28 k20_, zAr T 0 a3_44 7 k30_, zAr T 0 a4_45 7 k40_]]) [2, 0, 1, 3, 4] rfl
                exact ih_84 (j + 1) (v5 + 1) v6 wp_61 f1_56 f2_57 f3_58 st_59 wh_60 (show bPosts T po l0 f1_56 f2_57 f3_58 st_59 wh_60 wp_61 ∧ (j + 1) ≤ 4 from ⟨h_62, by omega⟩) (show 4 - (j + 1) < 4 - j from by omega) _ _ ls G (lv_sub hl [0, 3, 1, 2, 4, 5, 6, 7, 8] rfl)
              · have c_66n : v6.toInt = (-1 : Int) := (fa_eq _ _).mp c_66
                refine lv_bipush (v := 10) hx hb dX11_keys_119 (by decide) ?_
                refine lv_iload hx hb dX11_keys_121 (lv_at hl 2 rfl) ?_
                refine lv_imul hx hb dX11_keys_123 ?_
                refine lv_topi (fun y_67 ey_67 => ?_)
                obtain rfl : y_67 = nI (10 * i) := ey_67.trans (z_imuln 10 i rfl rfl)
                refine lv_iload hx hb dX11_keys_124 (lv_at hl 1 rfl) ?_
                refine lv_iadd hx hb dX11_keys_126 ?_
                refine lv_topi (fun y_68 ey_68 => ?_)
                obtain rfl : y_68 = nI ((10 * i) + j) := ey_68.trans (z_iaddn (10 * i) j rfl rfl)
                refine lv_goto (tgt := 132) hx hb dX11_keys_127 (by decide) ?_
                refine lv_istore (lv' := [(6, .int (nI ((10 * i) + j))), (5, .int (v5 + 1)), (8, .int (nI j)), (7, .int (nI i)), (4, .ref l0), (0, .ref xo), (1, .int i1), (2, .int a_), (3, .int w_)]) hx hb dX11_keys_132 hl (by decide) (zLvf_h rfl) (fun ls hl => ?_)
                refine lv_iinc (v := nI (j + 1)) (lv' := [(8, .int (nI (j + 1))), (6, .int (nI ((10 * i) + j))), (5, .int (v5 + 1)), (7, .int (nI i)), (4, .ref l0), (0, .ref xo), (1, .int i1), (2, .int a_), (3, .int w_)]) hx hb dX11_keys_134 hl (k := 2) rfl (z_inc j 1) (by decide) (zLvf_h rfl) (fun ls hl => ?_)
                refine lv_goto (tgt := 84) hx hb dX11_keys_137 (by decide) ?_
                have G := G.sub (bs' := [[zO10 xo t im mk rd po co tr wa wb_ fi cd], z1_, wt, wp_61, [zO4 l0 cr0_ inn0_ a1_42 a2_43 a3_44 a4_45, zAr T 0 a1_42 7 k10_, zAr T 0 a2_43 28 k20_, zAr T 0 a3_44 7 k30_, zAr T 0 a4_45 7 k40_]]) [2, 0, 1, 3, 4] rfl
                exact ih_84 (j + 1) (v5 + 1) (nI ((10 * i) + j)) wp_61 f1_56 f2_57 f3_58 st_59 wh_60 (show bPosts T po l0 f1_56 f2_57 f3_58 st_59 wh_60 wp_61 ∧ (j + 1) ≤ 4 from ⟨h_62, by omega⟩) (show 4 - (j + 1) < 4 - j from by omega) _ _ ls G (lv_sub hl [0, 3, 1, 2, 4, 5, 6, 7, 8] rfl)
      · have h_41 : (x2_26.toInt < 0 ∨ cr0_.toInt ≤ x2_26.toInt ∨ 7 ≤ x2_26.toInt ∨ zBit inn0_ x2_26 = 0) := h_41
        refine lv_if_ne (tgt := 62) hx hb dX11_keys_56 (by decide) (fun q => absurd (by decide) q) (fun _ => ?_)
        refine lv_bipush (v := (-2)) hx hb dX11_keys_59 (by decide) ?_
        have hw_69 : bPosts T po l0 g1_24 g2_16 g3_17 s2_25 x2_26 [zO6 po l0 a1_32 a2_33 s2_25 x2_26 a3_34, zAr T 0 a1_32 7 g1_24, zAr T 0 a2_33 7 g2_16, zAr T 0 a3_34 7 g3_17] := ⟨a1_32, a2_33, a3_34, rfl⟩
        have G : zS T A s.heap s [[zO10 xo t im mk rd po co tr wa wb_ fi cd], z1_, wt, [zO6 po l0 a1_32 a2_33 s2_25 x2_26 a3_34, zAr T 0 a1_32 7 g1_24, zAr T 0 a2_33 7 g2_16, zAr T 0 a3_34 7 g3_17], z0_] _ _ := G.re rfl
        have G := G.sub (bs' := [[zO10 xo t im mk rd po co tr wa wb_ fi cd], wt, z0_, z1_, [zO6 po l0 a1_32 a2_33 s2_25 x2_26 a3_34, zAr T 0 a1_32 7 g1_24, zAr T 0 a2_33 7 g2_16, zAr T 0 a3_34 7 g3_17]]) [0, 2, 4, 1, 3] rfl
        exact z_back hQz_ (z_iret C hr hlocks G (Nat.le_of_ble_eq_true rfl) (Nat.le_of_ble_eq_true rfl) dX11_keys_61 ⟨l0, g1_24, g2_16, g3_17, s2_25, x2_26, ([zO6 po l0 a1_32 a2_33 s2_25 x2_26 a3_34, zAr T 0 a1_32 7 g1_24, zAr T 0 a2_33 7 g2_16, zAr T 0 a3_34 7 g3_17]), rfl, hw_69⟩)
    · have h_13 : (a_.toInt < 0 ∨ cr0_.toInt ≤ a_.toInt ∨ 7 ≤ a_.toInt) := h_13
      refine lv_if_ne (tgt := 27) hx hb dX11_keys_21 (by decide) (fun q => absurd (by decide) q) (fun _ => ?_)
      refine lv_bipush (v := (-2)) hx hb dX11_keys_24 (by decide) ?_
      have G := G.sub (bs' := [[zO10 xo t im mk rd po co tr wa wb_ fi cd], wt, z0_, z1_, wp]) [0, 3, 4, 1, 2] rfl
      exact z_back hQz_ (z_iret C hr hlocks G (Nat.le_of_ble_eq_true rfl) (Nat.le_of_ble_eq_true rfl) dX11_keys_26 ⟨lp, f1, f2, f3, st, wh, wp, rfl, hp⟩)
  · have h_6 : i1.toInt = 1 := h_6
    have h_7 : 1 < (fk 0).toInt := h_7
    refine lv_astore (lv' := [(4, .ref l1), (0, .ref xo), (1, .int i1), (2, .int a_), (3, .int w_)]) hx hb dX11_keys_8 hl (by decide) (zLvf_h rfl) (fun ls hl => ?_)
    refine lv_aload hx hb dX11_keys_10 (lv_at hl 0 rfl) ?_
    refine lv_ifnull hx hb dX11_keys_12 ?_
    refine lv_aload hx hb dX11_keys_15 (lv_at hl 0 rfl) ?_
    refine lv_iload_n hx hb dX11_keys_17 rfl (lv_at hl 3 rfl) ?_
    refine z_Vi (bc := [z1_]) (br := [[zO10 xo t im mk rd po co tr wa wb_ fi cd], z0_, wp, wt]) (As := [.int a_]) (rest := []) C G (c_has l T l1 cr1_ inn1_ k11_ k21_ k31_ k41_ z1_ a_ hz1_) (kV_RX11_160 C.2.2.2.2 (Nat.le_of_ble_eq_true rfl) (Nat.le_of_ble_eq_true rfl)) [2] [2] rfl rfl (ci := 4) (qc := (RX4, TX4, 6)) rfl rfl (List.mem_flatten.mpr ⟨_, List.mem_of_getElem? (i := 0) rfl, (bLand_mem hz1_).choose_spec⟩) rfl rfl hl.1 dX11_keys_18 (Nat.le_of_ble_eq_true rfl) (Nat.le_of_ble_eq_true rfl) (fun r_71 b1 H locs hw G => ?_)
    refine zAn2 hw ?_
    intro hbs9 hc_70
    clear hw
    subst hbs9
    have G : zS T A s.heap s [[zO10 xo t im mk rd po co tr wa wb_ fi cd], z0_, wp, wt, z1_] _ _ := G
    rcases hc_70 with ⟨rfl, h_72, h_73, h_74⟩ | ⟨rfl, h_75⟩
    · have h_72 : 0 ≤ a_.toInt := h_72
      have h_73 : a_.toInt < cr1_.toInt := h_73
      have h_74 : a_.toInt < 7 := h_74
      refine lv_if_ne (tgt := 27) hx hb dX11_keys_21 (by decide) (fun _ => ?_) (fun q => absurd q (by decide))
      refine lv_aload_n hx hb dX11_keys_27 rfl (lv_at hl 1 rfl) ?_
      refine z_get C G clX11 0 rfl 4 (by decide) m_fl_RX11_34 rfl dX11_keys_28 ?_
      refine lv_aload hx hb dX11_keys_31 (lv_at hl 0 rfl) ?_
      refine z_Vv (bc := [wp, z1_]) (br := [[zO10 xo t im mk rd po co tr wa wb_ fi cd], z0_, wt]) (As := [.ref l1]) (rest := []) C G (c_Posts_begin l T po lp f1 f2 f3 st wh wp l1 cr1_ inn1_ k11_ k21_ k31_ k41_ z1_ hp hz1_) (kV_RX11_205 C.2.2.2.2 (Nat.le_of_ble_eq_true rfl) (Nat.le_of_ble_eq_true rfl)) [2, 4] [2, 1] rfl rfl (ci := 6) (qc := (RX6, TX6, 6)) rfl rfl (List.mem_flatten.mpr ⟨_, List.mem_of_getElem? (i := 0) rfl, (bPosts_mem hp).choose_spec⟩) rfl rfl hl.1 dX11_keys_33 (Nat.le_of_ble_eq_true rfl) (Nat.le_of_ble_eq_true rfl) (fun b1 H locs hw G => ?_)
      refine zEx4 hw ?_
      intro w2_76 g1_77 g2_78 g3_79
      refine zCu5 ?_
      intro hbs9 h_80 h_81 h_82 h_83
      clear hw
      subst hbs9
      have G : zS T A s.heap s [[zO10 xo t im mk rd po co tr wa wb_ fi cd], z0_, wt, w2_76, z1_] _ _ := G
      have hQ : zP3 g1_77 g3_79 := z_P3 hI1_ h_81 h_83
      refine lv_aload_n hx hb dX11_keys_36 rfl (lv_at hl 1 rfl) ?_
      refine z_get C G clX11 0 rfl 4 (by decide) m_fl_RX11_34 rfl dX11_keys_37 ?_
      refine lv_iload_n hx hb dX11_keys_40 rfl (lv_at hl 3 rfl) ?_
      refine z_Vv (bc := [w2_76, z1_]) (br := [[zO10 xo t im mk rd po co tr wa wb_ fi cd], z0_, wt]) (As := [.int a_]) (rest := []) C G (c_Posts_run l T po l1 g1_77 g2_78 g3_79 0 0 w2_76 cr1_ inn1_ k11_ k21_ k31_ k41_ z1_ a_ h_80 hz1_ (by first | with_reducible assumption | with_reducible rfl | omega | assumption | rfl)) (kV_RX11_208 C.2.2.2.2 (Nat.le_of_ble_eq_true rfl) (Nat.le_of_ble_eq_true rfl)) [3, 4] [3, 0] rfl rfl (ci := 6) (qc := (RX6, TX6, 6)) rfl rfl (List.mem_flatten.mpr ⟨_, List.mem_of_getElem? (i := 0) rfl, (bPosts_mem h_80).choose_spec⟩) rfl rfl hl.1 dX11_keys_41 (Nat.le_of_ble_eq_true rfl) (Nat.le_of_ble_eq_true rfl) (fun b1 H locs hw G => ?_)
      refine zEx4 hw ?_
      intro w2_85 g1_86 s2_87 x2_88
      refine zCu5 ?_
      intro hbs9 h_89 h_90 h_91 h_92
      clear hw
      subst hbs9
      have G : zS T A s.heap s [[zO10 xo t im mk rd po co tr wa wb_ fi cd], z0_, wt, w2_85, z1_] _ _ := G
      refine lv_aload hx hb dX11_keys_44 (lv_at hl 0 rfl) ?_
      refine lv_aload_n hx hb dX11_keys_46 rfl (lv_at hl 1 rfl) ?_
      refine z_get C G clX11 0 rfl 4 (by decide) m_fl_RX11_34 rfl dX11_keys_47 ?_
      refine zEx3 h_89 ?_
      intro a1_94 a2_95 a3_96 hbs9
      clear h_89
      subst hbs9
      have G : zS T A s.heap s [[zO10 xo t im mk rd po co tr wa wb_ fi cd], z0_, wt, [zO6 po l1 a1_94 a2_95 s2_87 x2_88 a3_96], [zAr T 0 a1_94 7 g1_86], [zAr T 0 a2_95 7 g2_78], [zAr T 0 a3_96 7 g3_79], z1_] _ _ := G.re rfl
      refine z_get C G clX6 3 rfl 4 (by decide) m_fl_RX11_211 rfl dX11_keys_50 ?_
      refine z_Vi (bc := [z1_]) (br := [[zO10 xo t im mk rd po co tr wa wb_ fi cd], z0_, wt, [zO6 po l1 a1_94 a2_95 s2_87 x2_88 a3_96], [zAr T 0 a1_94 7 g1_86], [zAr T 0 a2_95 7 g2_78], [zAr T 0 a3_96 7 g3_79]]) (As := [.int x2_88]) (rest := []) C G (c_isInn l T l1 cr1_ inn1_ k11_ k21_ k31_ k41_ z1_ x2_88 hz1_) (kV_RX11_174 C.2.2.2.2 (Nat.le_of_ble_eq_true rfl) (Nat.le_of_ble_eq_true rfl)) [7] [7] rfl rfl (ci := 4) (qc := (RX4, TX4, 6)) rfl rfl (List.mem_flatten.mpr ⟨_, List.mem_of_getElem? (i := 0) rfl, (bLand_mem hz1_).choose_spec⟩) rfl rfl hl.1 dX11_keys_53 (Nat.le_of_ble_eq_true rfl) (Nat.le_of_ble_eq_true rfl) (fun r_98 b1 H locs hw G => ?_)
      refine zAn2 hw ?_
      intro hbs9 hc_97
      clear hw
      subst hbs9
      have G : zS T A s.heap s [[zO10 xo t im mk rd po co tr wa wb_ fi cd], z0_, wt, [zO6 po l1 a1_94 a2_95 s2_87 x2_88 a3_96], [zAr T 0 a1_94 7 g1_86], [zAr T 0 a2_95 7 g2_78], [zAr T 0 a3_96 7 g3_79], z1_] _ _ := G
      rcases hc_97 with ⟨rfl, h_99, h_100, h_101, h_102⟩ | ⟨rfl, h_103⟩
      · have h_99 : 0 ≤ x2_88.toInt := h_99
        have h_100 : x2_88.toInt < cr1_.toInt := h_100
        have h_101 : x2_88.toInt < 7 := h_101
        have h_102 : ¬ zBit inn1_ x2_88 = 0 := h_102
        refine lv_if_ne (tgt := 62) hx hb dX11_keys_56 (by decide) (fun _ => ?_) (fun q => absurd q (by decide))
        have hc0 := hI1_.1
        refine lv_iconst (v := 0) hx hb dX11_keys_62 (by decide) ?_
        refine lv_istore (lv' := [(5, .int 0), (4, .ref l1), (0, .ref xo), (1, .int i1), (2, .int a_), (3, .int w_)]) hx hb dX11_keys_63 hl (by decide) (zLvf_h rfl) (fun ls hl => ?_)
        refine lv_iconst (v := (-1)) hx hb dX11_keys_65 (by decide) ?_
        refine lv_istore (lv' := [(6, .int (-1)), (5, .int 0), (4, .ref l1), (0, .ref xo), (1, .int i1), (2, .int a_), (3, .int w_)]) hx hb dX11_keys_66 hl (by decide) (zLvf_h rfl) (fun ls hl => ?_)
        refine lv_iconst (v := 0) hx hb dX11_keys_68 (by decide) ?_
        refine lv_istore (lv' := [(7, .int 0), (6, .int (-1)), (5, .int 0), (4, .ref l1), (0, .ref xo), (1, .int i1), (2, .int a_), (3, .int w_)]) hx hb dX11_keys_69 hl (by decide) (zLvf_h rfl) (fun ls hl => ?_)
        refine zEx4 hz1_ ?_
        intro a1_104 a2_105 a3_106 a4_107 hbs9
        clear hz1_
        subst hbs9
        have G : zS T A s.heap s [[zO10 xo t im mk rd po co tr wa wb_ fi cd], z0_, wt, [zO6 po l1 a1_94 a2_95 s2_87 x2_88 a3_96], [zAr T 0 a1_94 7 g1_86], [zAr T 0 a2_95 7 g2_78], [zAr T 0 a3_96 7 g3_79], [zO4 l1 cr1_ inn1_ a1_104 a2_105 a3_106 a4_107], [zAr T 0 a1_104 7 k11_], [zAr T 0 a2_105 28 k21_], [zAr T 0 a3_106 7 k31_], [zAr T 0 a4_107 7 k41_]] _ _ := G.re rfl
        have hw_108 : bPosts T po l1 g1_86 g2_78 g3_79 s2_87 x2_88 [zO6 po l1 a1_94 a2_95 s2_87 x2_88 a3_96, zAr T 0 a1_94 7 g1_86, zAr T 0 a2_95 7 g2_78, zAr T 0 a3_96 7 g3_79] := ⟨a1_94, a2_95, a3_96, rfl⟩
        have G : zS T A s.heap s [[zO10 xo t im mk rd po co tr wa wb_ fi cd], z0_, wt, [zO6 po l1 a1_94 a2_95 s2_87 x2_88 a3_96, zAr T 0 a1_94 7 g1_86, zAr T 0 a2_95 7 g2_78, zAr T 0 a3_96 7 g3_79], [zO4 l1 cr1_ inn1_ a1_104 a2_105 a3_106 a4_107], [zAr T 0 a1_104 7 k11_], [zAr T 0 a2_105 28 k21_], [zAr T 0 a3_106 7 k31_], [zAr T 0 a4_107 7 k41_]] _ _ := G.re rfl
        have hw_109 : bLand T l1 cr1_ inn1_ k11_ k21_ k31_ k41_ [zO4 l1 cr1_ inn1_ a1_104 a2_105 a3_106 a4_107, zAr T 0 a1_104 7 k11_, zAr T 0 a2_105 28 k21_, zAr T 0 a3_106 7 k31_, zAr T 0 a4_107 7 k41_] := ⟨a1_104, a2_105, a3_106, a4_107, rfl⟩
        have G : zS T A s.heap s [[zO10 xo t im mk rd po co tr wa wb_ fi cd], z0_, wt, [zO6 po l1 a1_94 a2_95 s2_87 x2_88 a3_96, zAr T 0 a1_94 7 g1_86, zAr T 0 a2_95 7 g2_78, zAr T 0 a3_96 7 g3_79], [zO4 l1 cr1_ inn1_ a1_104 a2_105 a3_106 a4_107, zAr T 0 a1_104 7 k11_, zAr T 0 a2_105 28 k21_, zAr T 0 a3_106 7 k31_, zAr T 0 a4_107 7 k41_]] _ _ := G.re rfl
        refine z_lp9 (T := T) 71 (fun (i : Nat) (u5 : Int32) (u6 : Int32) (wp3 : va_W) (x1 : Nat → Int32) (x2 : Nat → Int32) (x3 : Nat → Int32) (sx : Int32) (wx : Int32) => [[zO10 xo t im mk rd po co tr wa wb_ fi cd], z0_, wt, wp3, [zO4 l1 cr1_ inn1_ a1_104 a2_105 a3_106 a4_107, zAr T 0 a1_104 7 k11_, zAr T 0 a2_105 28 k21_, zAr T 0 a3_106 7 k31_, zAr T 0 a4_107 7 k41_]]) (fun (i : Nat) (u5 : Int32) (u6 : Int32) (wp3 : va_W) (x1 : Nat → Int32) (x2 : Nat → Int32) (x3 : Nat → Int32) (sx : Int32) (wx : Int32) => [(7, .int (nI i)), (6, .int u6), (5, .int u5), (4, .ref l1), (0, .ref xo), (1, .int i1), (2, .int a_), (3, .int w_)]) (fun (i : Nat) (u5 : Int32) (u6 : Int32) (wp3 : va_W) (x1 : Nat → Int32) (x2 : Nat → Int32) (x3 : Nat → Int32) (sx : Int32) (wx : Int32) => bPosts T po l1 x1 x2 x3 sx wx wp3 ∧ i ≤ 7) (fun (i : Nat) (u5 : Int32) (u6 : Int32) (wp3 : va_W) (x1 : Nat → Int32) (x2 : Nat → Int32) (x3 : Nat → Int32) (sx : Int32) (wx : Int32) => 7 - i) ?_ 0 0 (-1) ([zO6 po l1 a1_94 a2_95 s2_87 x2_88 a3_96, zAr T 0 a1_94 7 g1_86, zAr T 0 a2_95 7 g2_78, zAr T 0 a3_96 7 g3_79]) g1_86 g2_78 g3_79 s2_87 x2_88 (show bPosts T po l1 g1_86 g2_78 g3_79 s2_87 x2_88 ([zO6 po l1 a1_94 a2_95 s2_87 x2_88 a3_96, zAr T 0 a1_94 7 g1_86, zAr T 0 a2_95 7 g2_78, zAr T 0 a3_96 7 g3_79]) ∧ 0 ≤ 7 from ⟨hw_108, by omega⟩) G (lv_sub hl [0, 1, 2, 3, 4, 5, 6, 7] rfl)
        intro i u5 u6 wp3 x1 x2 x3 sx wx hI9 ih_71 H locs ls G hl
        replace hI9 : bPosts T po l1 x1 x2 x3 sx wx wp3 ∧ i ≤ 7 := hI9
        refine zAn2 hI9 ?_
        intro hp3 hi
        clear hI9
        replace G : zS T A s.heap s [[zO10 xo t im mk rd po co tr wa wb_ fi cd], z0_, wt, wp3, [zO4 l1 cr1_ inn1_ a1_104 a2_105 a3_106 a4_107, zAr T 0 a1_104 7 k11_, zAr T 0 a2_105 28 k21_, zAr T 0 a3_106 7 k31_, zAr T 0 a4_107 7 k41_]] _ _ := G
        replace hl : lv_has ls 9 [(7, .int (nI i)), (6, .int u6), (5, .int u5), (4, .ref l1), (0, .ref xo), (1, .int i1), (2, .int a_), (3, .int w_)] := hl
        refine lv_iload hx hb dX11_keys_71 (lv_at hl 0 rfl) ?_
        refine lv_aload hx hb dX11_keys_73 (lv_at hl 3 rfl) ?_
        have G : zS T A s.heap s [[zO10 xo t im mk rd po co tr wa wb_ fi cd], z0_, wt, wp3, [zO4 l1 cr1_ inn1_ a1_104 a2_105 a3_106 a4_107], [zAr T 0 a1_104 7 k11_], [zAr T 0 a2_105 28 k21_], [zAr T 0 a3_106 7 k31_], [zAr T 0 a4_107 7 k41_]] _ _ := G.re rfl
        refine z_get C G clX4 4 rfl 0 (by decide) m_fl_RX11_218 rfl dX11_keys_75 ?_
        refine lv_icmp_ge (tgt := 146) hx hb dX11_keys_78 (by decide) (fun c_110 => ?_) (fun c_110 => ?_)
        · have c_110n : cr1_.toInt ≤ (i : Int) := by have q := (fa_le _ _).mp c_110; rw [nI_toInt (n := i) (by omega)] at q; exact q
          refine lv_iload_n hx hb dX11_keys_146 rfl (lv_at hl 7 rfl) ?_
          refine lv_if_eq (tgt := 155) hx hb dX11_keys_147 (by decide) (fun c_111 => ?_) (fun c_111 => ?_)
          · have c_111n : w_.toInt = (0 : Int) := (fa_eq _ _).mp c_111
            refine lv_iload hx hb dX11_keys_155 (lv_at hl 2 rfl) ?_
            have hw_112 : bLand T l1 cr1_ inn1_ k11_ k21_ k31_ k41_ [zO4 l1 cr1_ inn1_ a1_104 a2_105 a3_106 a4_107, zAr T 0 a1_104 7 k11_, zAr T 0 a2_105 28 k21_, zAr T 0 a3_106 7 k31_, zAr T 0 a4_107 7 k41_] := ⟨a1_104, a2_105, a3_106, a4_107, rfl⟩
            have G : zS T A s.heap s [[zO10 xo t im mk rd po co tr wa wb_ fi cd], z0_, wt, wp3, [zO4 l1 cr1_ inn1_ a1_104 a2_105 a3_106 a4_107, zAr T 0 a1_104 7 k11_, zAr T 0 a2_105 28 k21_, zAr T 0 a3_106 7 k31_, zAr T 0 a4_107 7 k41_]] _ _ := G.re rfl
            have G := G.sub (bs' := [[zO10 xo t im mk rd po co tr wa wb_ fi cd], wt, z0_, [zO4 l1 cr1_ inn1_ a1_104 a2_105 a3_106 a4_107, zAr T 0 a1_104 7 k11_, zAr T 0 a2_105 28 k21_, zAr T 0 a3_106 7 k31_, zAr T 0 a4_107 7 k41_], wp3]) [0, 2, 1, 4, 3] rfl
            exact z_back hQz_ (z_iret C hr hlocks G (Nat.le_of_ble_eq_true rfl) (Nat.le_of_ble_eq_true rfl) dX11_keys_157 ⟨l1, x1, x2, x3, sx, wx, wp3, rfl, hp3⟩)
          · have c_111n : ¬ w_.toInt = (0 : Int) := fun q => c_111 ((fa_eq _ _).mpr q)
            refine lv_iload hx hb dX11_keys_150 (lv_at hl 1 rfl) ?_
            refine lv_goto (tgt := 157) hx hb dX11_keys_152 (by decide) ?_
            have hw_113 : bLand T l1 cr1_ inn1_ k11_ k21_ k31_ k41_ [zO4 l1 cr1_ inn1_ a1_104 a2_105 a3_106 a4_107, zAr T 0 a1_104 7 k11_, zAr T 0 a2_105 28 k21_, zAr T 0 a3_106 7 k31_, zAr T 0 a4_107 7 k41_] := ⟨a1_104, a2_105, a3_106, a4_107, rfl⟩
            have G : zS T A s.heap s [[zO10 xo t im mk rd po co tr wa wb_ fi cd], z0_, wt, wp3, [zO4 l1 cr1_ inn1_ a1_104 a2_105 a3_106 a4_107, zAr T 0 a1_104 7 k11_, zAr T 0 a2_105 28 k21_, zAr T 0 a3_106 7 k31_, zAr T 0 a4_107 7 k41_]] _ _ := G.re rfl
            have G := G.sub (bs' := [[zO10 xo t im mk rd po co tr wa wb_ fi cd], wt, z0_, [zO4 l1 cr1_ inn1_ a1_104 a2_105 a3_106 a4_107, zAr T 0 a1_104 7 k11_, zAr T 0 a2_105 28 k21_, zAr T 0 a3_106 7 k31_, zAr T 0 a4_107 7 k41_], wp3]) [0, 2, 1, 4, 3] rfl
            exact z_back hQz_ (z_iret C hr hlocks G (Nat.le_of_ble_eq_true rfl) (Nat.le_of_ble_eq_true rfl) dX11_keys_157 ⟨l1, x1, x2, x3, sx, wx, wp3, rfl, hp3⟩)
        · have c_110n : ¬ cr1_.toInt ≤ (i : Int) := fun q => c_110 ((fa_le _ _).mpr (by rw [nI_toInt (n := i) (by omega)]; exact q))
          have hwl := zWays_le (inn := inn1_) hI1_ (nI i)
          refine lv_iconst (v := 0) hx hb dX11_keys_81 (by decide) ?_
          refine lv_istore (lv' := [(8, .int 0), (7, .int (nI i)), (6, .int u6), (5, .int u5), (4, .ref l1), (0, .ref xo), (1, .int i1), (2, .int a_), (3, .int w_)]) hx hb dX11_keys_82 hl (by decide) (zLvf_h rfl) (fun ls hl => ?_)
          have hw_114 : bLand T l1 cr1_ inn1_ k11_ k21_ k31_ k41_ [zO4 l1 cr1_ inn1_ a1_104 a2_105 a3_106 a4_107, zAr T 0 a1_104 7 k11_, zAr T 0 a2_105 28 k21_, zAr T 0 a3_106 7 k31_, zAr T 0 a4_107 7 k41_] := ⟨a1_104, a2_105, a3_106, a4_107, rfl⟩
          have G : zS T A s.heap s [[zO10 xo t im mk rd po co tr wa wb_ fi cd], z0_, wt, wp3, [zO4 l1 cr1_ inn1_ a1_104 a2_105 a3_106 a4_107, zAr T 0 a1_104 7 k11_, zAr T 0 a2_105 28 k21_, zAr T 0 a3_106 7 k31_, zAr T 0 a4_107 7 k41_]] _ _ := G.re rfl
          refine z_lp9 (T := T) 84 (fun (j : Nat) (v5 : Int32) (v6 : Int32) (wp4 : va_W) (y1 : Nat → Int32) (y2 : Nat → Int32) (y3 : Nat → Int32) (sy : Int32) (wy : Int32) => [[zO10 xo t im mk rd po co tr wa wb_ fi cd], z0_, wt, wp4, [zO4 l1 cr1_ inn1_ a1_104 a2_105 a3_106 a4_107, zAr T 0 a1_104 7 k11_, zAr T 0 a2_105 28 k21_, zAr T 0 a3_106 7 k31_, zAr T 0 a4_107 7 k41_]]) (fun (j : Nat) (v5 : Int32) (v6 : Int32) (wp4 : va_W) (y1 : Nat → Int32) (y2 : Nat → Int32) (y3 : Nat → Int32) (sy : Int32) (wy : Int32) => [(8, .int (nI j)), (7, .int (nI i)), (6, .int v6), (5, .int v5), (4, .ref l1), (0, .ref xo), (1, .int i1), (2, .int a_), (3, .int w_)]) (fun (j : Nat) (v5 : Int32) (v6 : Int32) (wp4 : va_W) (y1 : Nat → Int32) (y2 : Nat → Int32) (y3 : Nat → Int32) (sy : Int32) (wy : Int32) => bPosts T po l1 y1 y2 y3 sy wy wp4 ∧ j ≤ 4) (fun (j : Nat) (v5 : Int32) (v6 : Int32) (wp4 : va_W) (y1 : Nat → Int32) (y2 : Nat → Int32) (y3 : Nat → Int32) (sy : Int32) (wy : Int32) => 4 - j) ?_ 0 u5 u6 wp3 x1 x2 x3 sx wx (show bPosts T po l1 x1 x2 x3 sx wx wp3 ∧ 0 ≤ 4 from ⟨hp3, by omega⟩) G (lv_sub hl [0, 1, 2, 3, 4, 5, 6, 7, 8] rfl)
          intro j v5 v6 wp4 y1 y2 y3 sy wy hI9 ih_84 H locs ls G hl
          replace hI9 : bPosts T po l1 y1 y2 y3 sy wy wp4 ∧ j ≤ 4 := hI9
          refine zAn2 hI9 ?_
          intro hp4 hj
          clear hI9
          replace G : zS T A s.heap s [[zO10 xo t im mk rd po co tr wa wb_ fi cd], z0_, wt, wp4, [zO4 l1 cr1_ inn1_ a1_104 a2_105 a3_106 a4_107, zAr T 0 a1_104 7 k11_, zAr T 0 a2_105 28 k21_, zAr T 0 a3_106 7 k31_, zAr T 0 a4_107 7 k41_]] _ _ := G
          replace hl : lv_has ls 9 [(8, .int (nI j)), (7, .int (nI i)), (6, .int v6), (5, .int v5), (4, .ref l1), (0, .ref xo), (1, .int i1), (2, .int a_), (3, .int w_)] := hl
          refine lv_iload hx hb dX11_keys_84 (lv_at hl 0 rfl) ?_
          refine lv_aload hx hb dX11_keys_86 (lv_at hl 4 rfl) ?_
          refine lv_iload hx hb dX11_keys_88 (lv_at hl 1 rfl) ?_
          refine z_Vi (bc := [[zO4 l1 cr1_ inn1_ a1_104 a2_105 a3_106 a4_107, zAr T 0 a1_104 7 k11_, zAr T 0 a2_105 28 k21_, zAr T 0 a3_106 7 k31_, zAr T 0 a4_107 7 k41_]]) (br := [[zO10 xo t im mk rd po co tr wa wb_ fi cd], z0_, wt, wp4]) (As := [.int (nI i)]) (rest := [.int (nI j)]) C G (c_waysOut l T l1 cr1_ inn1_ k11_ k21_ k31_ k41_ ([zO4 l1 cr1_ inn1_ a1_104 a2_105 a3_106 a4_107, zAr T 0 a1_104 7 k11_, zAr T 0 a2_105 28 k21_, zAr T 0 a3_106 7 k31_, zAr T 0 a4_107 7 k41_]) (nI i) hw_114) (kV_RX11_221 C.2.2.2.2 (Nat.le_of_ble_eq_true rfl) (Nat.le_of_ble_eq_true rfl)) [4] [4] rfl rfl (ci := 4) (qc := (RX4, TX4, 6)) rfl rfl (List.mem_flatten.mpr ⟨_, List.mem_of_getElem? (i := 0) rfl, (bLand_mem hw_114).choose_spec⟩) rfl rfl hl.1 dX11_keys_90 (Nat.le_of_ble_eq_true rfl) (Nat.le_of_ble_eq_true rfl) (fun r_116 b1 H locs hw G => ?_)
          refine zAn2 hw ?_
          intro hbs9 h_115
          clear hw
          subst hbs9
          have G : zS T A s.heap s [[zO10 xo t im mk rd po co tr wa wb_ fi cd], z0_, wt, wp4, [zO4 l1 cr1_ inn1_ a1_104 a2_105 a3_106 a4_107, zAr T 0 a1_104 7 k11_, zAr T 0 a2_105 28 k21_, zAr T 0 a3_106 7 k31_, zAr T 0 a4_107 7 k41_]] _ _ := G
          subst h_115
          refine lv_icmp_ge (tgt := 140) hx hb dX11_keys_93 (by decide) (fun c_117 => ?_) (fun c_117 => ?_)
          · have c_117n : (zWays cr1_ inn1_ k11_ (nI i)).toInt ≤ (j : Int) := by have q := (fa_le _ _).mp c_117; rw [nI_toInt (n := j) (by omega)] at q; exact q
            refine lv_iinc (v := nI (i + 1)) (lv' := [(7, .int (nI (i + 1))), (8, .int (nI j)), (6, .int v6), (5, .int v5), (4, .ref l1), (0, .ref xo), (1, .int i1), (2, .int a_), (3, .int w_)]) hx hb dX11_keys_140 hl (k := 1) rfl (z_inc i 1) (by decide) (zLvf_h rfl) (fun ls hl => ?_)
            refine lv_goto (tgt := 71) hx hb dX11_keys_143 (by decide) ?_
            exact ih_71 (i + 1) v5 v6 wp4 y1 y2 y3 sy wy (show bPosts T po l1 y1 y2 y3 sy wy wp4 ∧ (i + 1) ≤ 7 from ⟨hp4, by omega⟩) (show 7 - (i + 1) < 7 - i from by omega) _ _ ls G (lv_sub hl [0, 2, 3, 4, 5, 6, 7, 8] rfl)
          · have c_117n : ¬ (zWays cr1_ inn1_ k11_ (nI i)).toInt ≤ (j : Int) := fun q => c_117 ((fa_le _ _).mpr (by rw [nI_toInt (n := j) (by omega)]; exact q))
            refine lv_aload_n hx hb dX11_keys_96 rfl (lv_at hl 5 rfl) ?_
            refine lv_aload hx hb dX11_keys_97 (lv_at hl 4 rfl) ?_
            refine lv_iload_n hx hb dX11_keys_99 rfl (lv_at hl 7 rfl) ?_
            refine lv_iload hx hb dX11_keys_100 (lv_at hl 1 rfl) ?_
            refine lv_iload hx hb dX11_keys_102 (lv_at hl 0 rfl) ?_
            refine z_Vi (bc := [[zO10 xo t im mk rd po co tr wa wb_ fi cd], wp4, [zO4 l1 cr1_ inn1_ a1_104 a2_105 a3_106 a4_107, zAr T 0 a1_104 7 k11_, zAr T 0 a2_105 28 k21_, zAr T 0 a3_106 7 k31_, zAr T 0 a4_107 7 k41_]]) (br := [z0_, wt]) (As := [.ref l1, .int a_, .int (nI i), .int (nI j)]) (rest := []) C G (c_isKey l T xo t im mk rd po co tr wa wb_ fi cd l1 y1 y2 y3 sy wy wp4 l1 cr1_ inn1_ k11_ k21_ k31_ k41_ ([zO4 l1 cr1_ inn1_ a1_104 a2_105 a3_106 a4_107, zAr T 0 a1_104 7 k11_, zAr T 0 a2_105 28 k21_, zAr T 0 a3_106 7 k31_, zAr T 0 a4_107 7 k41_]) a_ (nI i) (nI j) hp4 hw_114 (by first | with_reducible assumption | with_reducible rfl | omega | assumption | rfl)) (kV_RX11_224 C.2.2.2.2 (Nat.le_of_ble_eq_true rfl) (Nat.le_of_ble_eq_true rfl)) [0, 3, 4] [0, 2, 0] rfl rfl (ci := 10) (qc := (RX11, TX11, 11)) rfl rfl (List.mem_flatten.mpr ⟨_, List.mem_of_getElem? (i := 0) rfl, List.mem_cons_self⟩) rfl rfl hl.1 dX11_keys_104 (Nat.le_of_ble_eq_true rfl) (Nat.le_of_ble_eq_true rfl) (fun r_126 b1 H locs hw G => ?_)
            refine zEx6 hw ?_
            intro f1_118 f2_119 f3_120 st_121 wh_122 wp_123
            refine zCu3 ?_
            intro hbs9 h_124 h_125
            clear hw
            subst hbs9
            have G : zS T A s.heap s [z0_, wt, [zO10 xo t im mk rd po co tr wa wb_ fi cd], wp_123, [zO4 l1 cr1_ inn1_ a1_104 a2_105 a3_106 a4_107, zAr T 0 a1_104 7 k11_, zAr T 0 a2_105 28 k21_, zAr T 0 a3_106 7 k31_, zAr T 0 a4_107 7 k41_]] _ _ := G
            replace h_125 : zHd ((r_126 = 0 ∨ r_126 = 1)) := h_125
            refine lv_if_eq (tgt := 134) hx hb dX11_keys_107 (by decide) (fun c_127 => ?_) (fun c_127 => ?_)
            · have c_127n : r_126.toInt = (0 : Int) := (fa_eq _ _).mp c_127
              refine lv_iinc (v := nI (j + 1)) (lv' := [(8, .int (nI (j + 1))), (7, .int (nI i)), (6, .int v6), (5, .int v5), (4, .ref l1), (0, .ref xo), (1, .int i1), (2, .int a_), (3, .int w_)]) hx hb dX11_keys_134 hl (k := 0) rfl (z_inc j 1) (by decide) (zLvf_h rfl) (fun ls hl => ?_)
              refine lv_goto (tgt := 84) hx hb dX11_keys_137 (by decide) ?_
              have G := G.sub (bs' := [[zO10 xo t im mk rd po co tr wa wb_ fi cd], z0_, wt, wp_123, [zO4 l1 cr1_ inn1_ a1_104 a2_105 a3_106 a4_107, zAr T 0 a1_104 7 k11_, zAr T 0 a2_105 28 k21_, zAr T 0 a3_106 7 k31_, zAr T 0 a4_107 7 k41_]]) [2, 0, 1, 3, 4] rfl
              exact ih_84 (j + 1) v5 v6 wp_123 f1_118 f2_119 f3_120 st_121 wh_122 (show bPosts T po l1 f1_118 f2_119 f3_120 st_121 wh_122 wp_123 ∧ (j + 1) ≤ 4 from ⟨h_124, by omega⟩) (show 4 - (j + 1) < 4 - j from by omega) _ _ ls G (lv_sub hl [0, 1, 2, 3, 4, 5, 6, 7, 8] rfl)
            · have c_127n : ¬ r_126.toInt = (0 : Int) := fun q => c_127 ((fa_eq _ _).mpr q)
              refine lv_iinc (v := v5 + 1) (lv' := [(5, .int (v5 + 1)), (8, .int (nI j)), (7, .int (nI i)), (6, .int v6), (4, .ref l1), (0, .ref xo), (1, .int i1), (2, .int a_), (3, .int w_)]) hx hb dX11_keys_110 hl (k := 3) rfl rfl (by decide) (zLvf_h rfl) (fun ls hl => ?_)
              refine lv_iload hx hb dX11_keys_113 (lv_at hl 3 rfl) ?_
              refine lv_iconst (v := (-1)) hx hb dX11_keys_115 (by decide) ?_
              refine lv_icmp_ne (tgt := 130) hx hb dX11_keys_116 (by decide) (fun c_128 => ?_) (fun c_128 => ?_)
              · have c_128n : ¬ v6.toInt = (-1 : Int) := fun q => c_128 ((fa_eq _ _).mpr q)
                refine lv_iload hx hb dX11_keys_130 (lv_at hl 3 rfl) ?_
                refine lv_istore (lv' := [(6, .int v6), (5, .int (v5 + 1)), (8, .int (nI j)), (7, .int (nI i)), (4, .ref l1), (0, .ref xo), (1, .int i1), (2, .int a_), (3, .int w_)]) hx hb dX11_keys_132 hl (by decide) (zLvf_h rfl) (fun ls hl => ?_)
                refine lv_iinc (v := nI (j + 1)) (lv' := [(8, .int (nI (j + 1))), (6, .int v6), (5, .int (v5 + 1)), (7, .int (nI i)), (4, .ref l1), (0, .ref xo), (1, .int i1), (2, .int a_), (3, .int w_)]) hx hb dX11_keys_134 hl (k := 2) rfl (z_inc j 1) (by decide) (zLvf_h rfl) (fun ls hl => ?_)
                refine lv_goto (tgt := 84) hx hb dX11_keys_137 (by decide) ?_
                have G := G.sub (bs' := [[zO10 xo t im mk rd po co tr wa wb_ fi cd], z0_, wt, wp_123, [zO4 l1 cr1_ inn1_ a1_104 a2_105 a3_106 a4_107, zAr T 0 a1_104 7 k11_, zAr T 0 a2_105 28 k21_, zAr T 0 a3_106 7 k31_, zAr T 0 a4_107 7 k41_]]) [2, 0, 1, 3, 4] rfl
                exact ih_84 (j + 1) (v5 + 1) v6 wp_123 f1_118 f2_119 f3_120 st_121 wh_122 (show bPosts T po l1 f1_118 f2_119 f3_120 st_121 wh_122 wp_123 ∧ (j + 1) ≤ 4 from ⟨h_124, by omega⟩) (show 4 - (j + 1) < 4 - j from by omega) _ _ ls G (lv_sub hl [0, 3, 1, 2, 4, 5, 6, 7, 8] rfl)
              · have c_128n : v6.toInt = (-1 : Int) := (fa_eq _ _).mp c_128
                refine lv_bipush (v := 10) hx hb dX11_keys_119 (by decide) ?_
                refine lv_iload hx hb dX11_keys_121 (lv_at hl 2 rfl) ?_
                refine lv_imul hx hb dX11_keys_123 ?_
                refine lv_topi (fun y_129 ey_129 => ?_)
                obtain rfl : y_129 = nI (10 * i) := ey_129.trans (z_imuln 10 i rfl rfl)
                refine lv_iload hx hb dX11_keys_124 (lv_at hl 1 rfl) ?_
                refine lv_iadd hx hb dX11_keys_126 ?_
                refine lv_topi (fun y_130 ey_130 => ?_)
                obtain rfl : y_130 = nI ((10 * i) + j) := ey_130.trans (z_iaddn (10 * i) j rfl rfl)
                refine lv_goto (tgt := 132) hx hb dX11_keys_127 (by decide) ?_
                refine lv_istore (lv' := [(6, .int (nI ((10 * i) + j))), (5, .int (v5 + 1)), (8, .int (nI j)), (7, .int (nI i)), (4, .ref l1), (0, .ref xo), (1, .int i1), (2, .int a_), (3, .int w_)]) hx hb dX11_keys_132 hl (by decide) (zLvf_h rfl) (fun ls hl => ?_)
                refine lv_iinc (v := nI (j + 1)) (lv' := [(8, .int (nI (j + 1))), (6, .int (nI ((10 * i) + j))), (5, .int (v5 + 1)), (7, .int (nI i)), (4, .ref l1), (0, .ref xo), (1, .int i1), (2, .int a_), (3, .int w_)]) hx hb dX11_keys_134 hl (k := 2) rfl (z_inc j 1) (by decide) (zLvf_h rfl) (fun ls hl => ?_)
                refine lv_goto (tgt := 84) hx hb dX11_keys_137 (by decide) ?_
                have G := G.sub (bs' := [[zO10 xo t im mk rd po co tr wa wb_ fi cd], z0_, wt, wp_123, [zO4 l1 cr1_ inn1_ a1_104 a2_105 a3_106 a4_107, zAr T 0 a1_104 7 k11_, zAr T 0 a2_105 28 k21_, zAr T 0 a3_106 7 k31_, zAr T 0 a4_107 7 k41_]]) [2, 0, 1, 3, 4] rfl
                exact ih_84 (j + 1) (v5 + 1) (nI ((10 * i) + j)) wp_123 f1_118 f2_119 f3_120 st_121 wh_122 (show bPosts T po l1 f1_118 f2_119 f3_120 st_121 wh_122 wp_123 ∧ (j + 1) ≤ 4 from ⟨h_124, by omega⟩) (show 4 - (j + 1) < 4 - j from by omega) _ _ ls G (lv_sub hl [0, 3, 1, 2, 4, 5, 6, 7, 8] rfl)
      · have h_103 : (x2_88.toInt < 0 ∨ cr1_.toInt ≤ x2_88.toInt ∨ 7 ≤ x2_88.toInt ∨ zBit inn1_ x2_88 = 0) := h_103
        refine lv_if_ne (tgt := 62) hx hb dX11_keys_56 (by decide) (fun q => absurd (by decide) q) (fun _ => ?_)
        refine lv_bipush (v := (-2)) hx hb dX11_keys_59 (by decide) ?_
        have hw_131 : bPosts T po l1 g1_86 g2_78 g3_79 s2_87 x2_88 [zO6 po l1 a1_94 a2_95 s2_87 x2_88 a3_96, zAr T 0 a1_94 7 g1_86, zAr T 0 a2_95 7 g2_78, zAr T 0 a3_96 7 g3_79] := ⟨a1_94, a2_95, a3_96, rfl⟩
        have G : zS T A s.heap s [[zO10 xo t im mk rd po co tr wa wb_ fi cd], z0_, wt, [zO6 po l1 a1_94 a2_95 s2_87 x2_88 a3_96, zAr T 0 a1_94 7 g1_86, zAr T 0 a2_95 7 g2_78, zAr T 0 a3_96 7 g3_79], z1_] _ _ := G.re rfl
        have G := G.sub (bs' := [[zO10 xo t im mk rd po co tr wa wb_ fi cd], wt, z0_, z1_, [zO6 po l1 a1_94 a2_95 s2_87 x2_88 a3_96, zAr T 0 a1_94 7 g1_86, zAr T 0 a2_95 7 g2_78, zAr T 0 a3_96 7 g3_79]]) [0, 2, 1, 4, 3] rfl
        exact z_back hQz_ (z_iret C hr hlocks G (Nat.le_of_ble_eq_true rfl) (Nat.le_of_ble_eq_true rfl) dX11_keys_61 ⟨l1, g1_86, g2_78, g3_79, s2_87, x2_88, ([zO6 po l1 a1_94 a2_95 s2_87 x2_88 a3_96, zAr T 0 a1_94 7 g1_86, zAr T 0 a2_95 7 g2_78, zAr T 0 a3_96 7 g3_79]), rfl, hw_131⟩)
    · have h_75 : (a_.toInt < 0 ∨ cr1_.toInt ≤ a_.toInt ∨ 7 ≤ a_.toInt) := h_75
      refine lv_if_ne (tgt := 27) hx hb dX11_keys_21 (by decide) (fun q => absurd (by decide) q) (fun _ => ?_)
      refine lv_bipush (v := (-2)) hx hb dX11_keys_24 (by decide) ?_
      have G := G.sub (bs' := [[zO10 xo t im mk rd po co tr wa wb_ fi cd], wt, z0_, z1_, wp]) [0, 3, 1, 4, 2] rfl
      exact z_back hQz_ (z_iret C hr hlocks G (Nat.le_of_ble_eq_true rfl) (Nat.le_of_ble_eq_true rfl) dX11_keys_26 ⟨lp, f1, f2, f3, st, wh, wp, rfl, hp⟩)
set_option maxHeartbeats 4000000 in
set_option maxRecDepth 100000 in
/-- c_led -/
theorem c_led (l : Launch) (T : zTy) (xo : Nat) (t : Nat) (im : Nat) (mk : Nat) (rd : Nat) (po : Nat) (co : Nat) (tr : Nat) (wa : Nat) (wb_ : Nat) (fi : Nat) (cd : Nat) (l0 : Nat) (l1 : Nat) (d0 : Nat) (d1 : Nat) (g0 : Nat) (g1 : Nat) (ln : Int32) (fl : Int32) (pl : Int32) (ft : Nat → Int32) (fk : Nat → Int32) (wt : va_W) (cr0_ : Int32) (inn0_ : Int32) (k10_ : Nat → Int32) (k20_ : Nat → Int32) (k30_ : Nat → Int32) (k40_ : Nat → Int32) (z0_ : va_W) (cr1_ : Int32) (inn1_ : Int32) (k11_ : Nat → Int32) (k21_ : Nat → Int32) (k31_ : Nat → Int32) (k41_ : Nat → Int32) (z1_ : va_W) (i1 : Int32) (a_ : Int32) (w_ : Int32) (ht : bTold T t l0 l1 d0 d1 g0 g1 ln fl pl ft fk wt) (hK : zKT fk) (hz0_ : bLand T l0 cr0_ inn0_ k10_ k20_ k30_ k40_ z0_) (hI0_ : zLI cr0_ k10_ k30_) (hz1_ : bLand T l1 cr1_ inn1_ k11_ k21_ k31_ k41_ z1_) (hI1_ : zLI cr1_ k11_ k31_) : zMi l T yX11_led cX11_led 7 (some .int) 4 0 0 [.ref xo, .int i1, .int a_, .int w_] [[zO10 xo t im mk rd po co tr wa wb_ fi cd], wt, z0_, z1_] (fun (r : Int32) bs => bs = [[zO10 xo t im mk rd po co tr wa wb_ fi cd], wt, z0_, z1_]) := by
  refine zMi_of (own := RX11) (by decide) rfl (Nat.le_of_ble_eq_true rfl) ?_
  intro p e s m args below meth c A ls C hr hlocks hnm hAe G hl
  refine zHide (fun Qz_ hQz_ => ?_)
  have hx := C.1
  have hb := C.2.1
  have hl : lv_has ls 7 [(0, .ref xo), (1, .int i1), (2, .int a_), (3, .int w_)] := hl
  refine lv_aload_n hx hb dX11_led_0 rfl (lv_at hl 0 rfl) ?_
  refine z_get C G clX11 0 rfl 0 (by decide) m_fl_RX11_10 rfl dX11_led_1 ?_
  refine lv_iload_n hx hb dX11_led_4 rfl (lv_at hl 1 rfl) ?_
  refine z_Vq (bc := [wt]) (br := [[zO10 xo t im mk rd po co tr wa wb_ fi cd], z0_, z1_]) (As := [.int i1]) (rest := []) C G (c_landAt l T t l0 l1 d0 d1 g0 g1 ln fl pl ft fk wt i1 ht) (kV_RX11_121 C.2.2.2.2 (Nat.le_of_ble_eq_true rfl) (Nat.le_of_ble_eq_true rfl)) [1] [1] rfl rfl (ci := 8) (qc := (RX9, TX9, 8)) rfl rfl (List.mem_flatten.mpr ⟨_, List.mem_of_getElem? (i := 0) rfl, (bTold_mem ht).choose_spec⟩) rfl rfl hl.1 dX11_led_5 (Nat.le_of_ble_eq_true rfl) (Nat.le_of_ble_eq_true rfl) (fun r_2 b1 H locs hw G => ?_)
  refine zAn2 hw ?_
  intro hbs9 hc_1
  clear hw
  subst hbs9
  have G : zS T A s.heap s [[zO10 xo t im mk rd po co tr wa wb_ fi cd], z0_, z1_, wt] _ _ := G
  rcases hc_1 with ⟨rfl, h_3⟩ | ⟨rfl, h_4, h_5⟩ | ⟨rfl, h_6, h_7⟩
  · have h_3 : (i1.toInt < 0 ∨ (fk 0).toInt ≤ i1.toInt ∨ 2 ≤ i1.toInt) := h_3
    refine lv_astoreN (lv' := [(4, .null), (0, .ref xo), (1, .int i1), (2, .int a_), (3, .int w_)]) hx hb dX11_led_8 hl (by decide) (zLvf_h rfl) (fun ls hl => ?_)
    refine lv_aloadN hx hb dX11_led_10 (lv_at hl 0 rfl) ?_
    refine lv_ifnullN (tgt := 33) hx hb dX11_led_12 (by decide) ?_
    refine lv_bipush (v := (-2)) hx hb dX11_led_33 (by decide) ?_
    have G := G.sub (bs' := [[zO10 xo t im mk rd po co tr wa wb_ fi cd], wt, z0_, z1_]) [0, 3, 1, 2] rfl
    exact z_back hQz_ (z_iret C hr hlocks G (Nat.le_of_ble_eq_true rfl) (Nat.le_of_ble_eq_true rfl) dX11_led_35 rfl)
  · have h_4 : i1.toInt = 0 := h_4
    have h_5 : 0 < (fk 0).toInt := h_5
    refine lv_astore (lv' := [(4, .ref l0), (0, .ref xo), (1, .int i1), (2, .int a_), (3, .int w_)]) hx hb dX11_led_8 hl (by decide) (zLvf_h rfl) (fun ls hl => ?_)
    refine lv_aload hx hb dX11_led_10 (lv_at hl 0 rfl) ?_
    refine lv_ifnull hx hb dX11_led_12 ?_
    refine lv_aload hx hb dX11_led_15 (lv_at hl 0 rfl) ?_
    refine lv_iload_n hx hb dX11_led_17 rfl (lv_at hl 3 rfl) ?_
    refine z_Vi (bc := [z0_]) (br := [[zO10 xo t im mk rd po co tr wa wb_ fi cd], z1_, wt]) (As := [.int a_]) (rest := []) C G (c_has l T l0 cr0_ inn0_ k10_ k20_ k30_ k40_ z0_ a_ hz0_) (kV_RX11_160 C.2.2.2.2 (Nat.le_of_ble_eq_true rfl) (Nat.le_of_ble_eq_true rfl)) [1] [1] rfl rfl (ci := 4) (qc := (RX4, TX4, 6)) rfl rfl (List.mem_flatten.mpr ⟨_, List.mem_of_getElem? (i := 0) rfl, (bLand_mem hz0_).choose_spec⟩) rfl rfl hl.1 dX11_led_18 (Nat.le_of_ble_eq_true rfl) (Nat.le_of_ble_eq_true rfl) (fun r_9 b1 H locs hw G => ?_)
    refine zAn2 hw ?_
    intro hbs9 hc_8
    clear hw
    subst hbs9
    have G : zS T A s.heap s [[zO10 xo t im mk rd po co tr wa wb_ fi cd], z1_, wt, z0_] _ _ := G
    rcases hc_8 with ⟨rfl, h_10, h_11, h_12⟩ | ⟨rfl, h_13⟩
    · have h_10 : 0 ≤ a_.toInt := h_10
      have h_11 : a_.toInt < cr0_.toInt := h_11
      have h_12 : a_.toInt < 7 := h_12
      refine lv_if_eq (tgt := 33) hx hb dX11_led_21 (by decide) (fun q => absurd q (by decide)) (fun _ => ?_)
      refine lv_iload_n hx hb dX11_led_24 rfl (lv_at hl 4 rfl) ?_
      refine lv_if_lt (tgt := 33) hx hb dX11_led_25 (by decide) (fun c_14 => ?_) (fun c_14 => ?_)
      · have c_14n : w_.toInt < (0 : Int) := (fa_lt _ _).mp c_14
        refine lv_bipush (v := (-2)) hx hb dX11_led_33 (by decide) ?_
        have G := G.sub (bs' := [[zO10 xo t im mk rd po co tr wa wb_ fi cd], wt, z0_, z1_]) [0, 2, 3, 1] rfl
        exact z_back hQz_ (z_iret C hr hlocks G (Nat.le_of_ble_eq_true rfl) (Nat.le_of_ble_eq_true rfl) dX11_led_35 rfl)
      · have c_14n : ¬ w_.toInt < (0 : Int) := fun q => c_14 ((fa_lt _ _).mpr q)
        refine lv_iload_n hx hb dX11_led_28 rfl (lv_at hl 4 rfl) ?_
        refine lv_iconst (v := 2) hx hb dX11_led_29 (by decide) ?_
        refine lv_icmp_le (tgt := 36) hx hb dX11_led_30 (by decide) (fun c_15 => ?_) (fun c_15 => ?_)
        · have c_15n : w_.toInt ≤ (2 : Int) := (fa_le _ _).mp c_15
          refine lv_iload_n hx hb dX11_led_36 rfl (lv_at hl 3 rfl) ?_
          refine lv_istore (lv' := [(5, .int a_), (4, .ref l0), (0, .ref xo), (1, .int i1), (2, .int a_), (3, .int w_)]) hx hb dX11_led_37 hl (by decide) (zLvf_h rfl) (fun ls hl => ?_)
          have hc0 := hI0_.1
          refine lv_iconst (v := 0) hx hb dX11_led_39 (by decide) ?_
          refine lv_istore (lv' := [(6, .int 0), (5, .int a_), (4, .ref l0), (0, .ref xo), (1, .int i1), (2, .int a_), (3, .int w_)]) hx hb dX11_led_40 hl (by decide) (zLvf_h rfl) (fun ls hl => ?_)
          refine zEx4 hz0_ ?_
          intro a1_16 a2_17 a3_18 a4_19 hbs9
          clear hz0_
          subst hbs9
          have G : zS T A s.heap s [[zO10 xo t im mk rd po co tr wa wb_ fi cd], z1_, wt, [zO4 l0 cr0_ inn0_ a1_16 a2_17 a3_18 a4_19], [zAr T 0 a1_16 7 k10_], [zAr T 0 a2_17 28 k20_], [zAr T 0 a3_18 7 k30_], [zAr T 0 a4_19 7 k40_]] _ _ := G.re rfl
          have hw_20 : bLand T l0 cr0_ inn0_ k10_ k20_ k30_ k40_ [zO4 l0 cr0_ inn0_ a1_16 a2_17 a3_18 a4_19, zAr T 0 a1_16 7 k10_, zAr T 0 a2_17 28 k20_, zAr T 0 a3_18 7 k30_, zAr T 0 a4_19 7 k40_] := ⟨a1_16, a2_17, a3_18, a4_19, rfl⟩
          have G : zS T A s.heap s [[zO10 xo t im mk rd po co tr wa wb_ fi cd], z1_, wt, [zO4 l0 cr0_ inn0_ a1_16 a2_17 a3_18 a4_19, zAr T 0 a1_16 7 k10_, zAr T 0 a2_17 28 k20_, zAr T 0 a3_18 7 k30_, zAr T 0 a4_19 7 k40_]] _ _ := G.re rfl
          refine z_lp2 (T := T) 42 (fun (i : Nat) (u5 : Int32) => [[zO10 xo t im mk rd po co tr wa wb_ fi cd], z1_, wt, [zO4 l0 cr0_ inn0_ a1_16 a2_17 a3_18 a4_19, zAr T 0 a1_16 7 k10_, zAr T 0 a2_17 28 k20_, zAr T 0 a3_18 7 k30_, zAr T 0 a4_19 7 k40_]]) (fun (i : Nat) (u5 : Int32) => [(6, .int (nI i)), (5, .int u5), (4, .ref l0), (0, .ref xo), (1, .int i1), (2, .int a_), (3, .int w_)]) (fun (i : Nat) (u5 : Int32) => i ≤ 8) (fun (i : Nat) (u5 : Int32) => 8 - i) ?_ 0 a_ (show 0 ≤ 8 from by omega) G (lv_sub hl [0, 1, 2, 3, 4, 5, 6] rfl)
          intro i u5 hi ih_42 H locs ls G hl
          replace hi : i ≤ 8 := hi
          replace G : zS T A s.heap s [[zO10 xo t im mk rd po co tr wa wb_ fi cd], z1_, wt, [zO4 l0 cr0_ inn0_ a1_16 a2_17 a3_18 a4_19, zAr T 0 a1_16 7 k10_, zAr T 0 a2_17 28 k20_, zAr T 0 a3_18 7 k30_, zAr T 0 a4_19 7 k40_]] _ _ := G
          replace hl : lv_has ls 7 [(6, .int (nI i)), (5, .int u5), (4, .ref l0), (0, .ref xo), (1, .int i1), (2, .int a_), (3, .int w_)] := hl
          refine lv_iload hx hb dX11_led_42 (lv_at hl 0 rfl) ?_
          refine lv_aload hx hb dX11_led_44 (lv_at hl 2 rfl) ?_
          have G : zS T A s.heap s [[zO10 xo t im mk rd po co tr wa wb_ fi cd], z1_, wt, [zO4 l0 cr0_ inn0_ a1_16 a2_17 a3_18 a4_19], [zAr T 0 a1_16 7 k10_], [zAr T 0 a2_17 28 k20_], [zAr T 0 a3_18 7 k30_], [zAr T 0 a4_19 7 k40_]] _ _ := G.re rfl
          refine z_get C G clX4 3 rfl 0 (by decide) m_fl_RX11_218 rfl dX11_led_46 ?_
          refine lv_icmp_gt (tgt := 106) hx hb dX11_led_49 (by decide) (fun c_21 => ?_) (fun c_21 => ?_)
          · have c_21n : cr0_.toInt < (i : Int) := by have q := (fa_lt _ _).mp c_21; rw [nI_toInt (n := i) (by omega)] at q; exact q
            refine lv_iload_n hx hb dX11_led_106 rfl (lv_at hl 6 rfl) ?_
            refine lv_iconst (v := 2) hx hb dX11_led_107 (by decide) ?_
            refine lv_icmp_ne (tgt := 121) hx hb dX11_led_108 (by decide) (fun c_22 => ?_) (fun c_22 => ?_)
            · have c_22n : ¬ w_.toInt = (2 : Int) := fun q => c_22 ((fa_eq _ _).mpr q)
              refine lv_iconst (v := (-1)) hx hb dX11_led_121 (by decide) ?_
              have hw_23 : bLand T l0 cr0_ inn0_ k10_ k20_ k30_ k40_ [zO4 l0 cr0_ inn0_ a1_16 a2_17 a3_18 a4_19, zAr T 0 a1_16 7 k10_, zAr T 0 a2_17 28 k20_, zAr T 0 a3_18 7 k30_, zAr T 0 a4_19 7 k40_] := ⟨a1_16, a2_17, a3_18, a4_19, rfl⟩
              have G : zS T A s.heap s [[zO10 xo t im mk rd po co tr wa wb_ fi cd], z1_, wt, [zO4 l0 cr0_ inn0_ a1_16 a2_17 a3_18 a4_19, zAr T 0 a1_16 7 k10_, zAr T 0 a2_17 28 k20_, zAr T 0 a3_18 7 k30_, zAr T 0 a4_19 7 k40_]] _ _ := G.re rfl
              have G := G.sub (bs' := [[zO10 xo t im mk rd po co tr wa wb_ fi cd], wt, [zO4 l0 cr0_ inn0_ a1_16 a2_17 a3_18 a4_19, zAr T 0 a1_16 7 k10_, zAr T 0 a2_17 28 k20_, zAr T 0 a3_18 7 k30_, zAr T 0 a4_19 7 k40_], z1_]) [0, 2, 3, 1] rfl
              exact z_back hQz_ (z_iret C hr hlocks G (Nat.le_of_ble_eq_true rfl) (Nat.le_of_ble_eq_true rfl) dX11_led_122 rfl)
            · have c_22n : w_.toInt = (2 : Int) := (fa_eq _ _).mp c_22
              refine lv_aload hx hb dX11_led_111 (lv_at hl 2 rfl) ?_
              refine lv_iload hx hb dX11_led_113 (lv_at hl 1 rfl) ?_
              have hw_24 : bLand T l0 cr0_ inn0_ k10_ k20_ k30_ k40_ [zO4 l0 cr0_ inn0_ a1_16 a2_17 a3_18 a4_19, zAr T 0 a1_16 7 k10_, zAr T 0 a2_17 28 k20_, zAr T 0 a3_18 7 k30_, zAr T 0 a4_19 7 k40_] := ⟨a1_16, a2_17, a3_18, a4_19, rfl⟩
              have G : zS T A s.heap s [[zO10 xo t im mk rd po co tr wa wb_ fi cd], z1_, wt, [zO4 l0 cr0_ inn0_ a1_16 a2_17 a3_18 a4_19, zAr T 0 a1_16 7 k10_, zAr T 0 a2_17 28 k20_, zAr T 0 a3_18 7 k30_, zAr T 0 a4_19 7 k40_]] _ _ := G.re rfl
              refine z_Si (bc := [[zO4 l0 cr0_ inn0_ a1_16 a2_17 a3_18 a4_19, zAr T 0 a1_16 7 k10_, zAr T 0 a2_17 28 k20_, zAr T 0 a3_18 7 k30_, zAr T 0 a4_19 7 k40_]]) (br := [[zO10 xo t im mk rd po co tr wa wb_ fi cd], z1_, wt]) (As := [.ref l0, .int u5]) (rest := []) C G (c_ring l T l0 cr0_ inn0_ k10_ k20_ k30_ k40_ ([zO4 l0 cr0_ inn0_ a1_16 a2_17 a3_18 a4_19, zAr T 0 a1_16 7 k10_, zAr T 0 a2_17 28 k20_, zAr T 0 a3_18 7 k30_, zAr T 0 a4_19 7 k40_]) u5 hw_24 (by first | with_reducible assumption | with_reducible rfl | omega | assumption | rfl)) (kS_RX11_368 C.2.2.2.2 (Nat.le_of_ble_eq_true rfl) (Nat.le_of_ble_eq_true rfl)) [3] [3] rfl rfl rfl rfl hl.1 dX11_led_115 (Nat.le_of_ble_eq_true rfl) (Nat.le_of_ble_eq_true rfl) (fun r_25 b1 H locs hw G => ?_)
              obtain rfl := hw
              have G : zS T A s.heap s [[zO10 xo t im mk rd po co tr wa wb_ fi cd], z1_, wt, [zO4 l0 cr0_ inn0_ a1_16 a2_17 a3_18 a4_19, zAr T 0 a1_16 7 k10_, zAr T 0 a2_17 28 k20_, zAr T 0 a3_18 7 k30_, zAr T 0 a4_19 7 k40_]] _ _ := G
              refine lv_goto (tgt := 122) hx hb dX11_led_118 (by decide) ?_
              have G := G.sub (bs' := [[zO10 xo t im mk rd po co tr wa wb_ fi cd], wt, [zO4 l0 cr0_ inn0_ a1_16 a2_17 a3_18 a4_19, zAr T 0 a1_16 7 k10_, zAr T 0 a2_17 28 k20_, zAr T 0 a3_18 7 k30_, zAr T 0 a4_19 7 k40_], z1_]) [0, 2, 3, 1] rfl
              exact z_back hQz_ (z_iret C hr hlocks G (Nat.le_of_ble_eq_true rfl) (Nat.le_of_ble_eq_true rfl) dX11_led_122 rfl)
          · have c_21n : ¬ cr0_.toInt < (i : Int) := fun q => c_21 ((fa_lt _ _).mpr (by rw [nI_toInt (n := i) (by omega)]; exact q))
            refine lv_aload hx hb dX11_led_52 (lv_at hl 2 rfl) ?_
            refine lv_iload hx hb dX11_led_54 (lv_at hl 1 rfl) ?_
            have hw_26 : bLand T l0 cr0_ inn0_ k10_ k20_ k30_ k40_ [zO4 l0 cr0_ inn0_ a1_16 a2_17 a3_18 a4_19, zAr T 0 a1_16 7 k10_, zAr T 0 a2_17 28 k20_, zAr T 0 a3_18 7 k30_, zAr T 0 a4_19 7 k40_] := ⟨a1_16, a2_17, a3_18, a4_19, rfl⟩
            have G : zS T A s.heap s [[zO10 xo t im mk rd po co tr wa wb_ fi cd], z1_, wt, [zO4 l0 cr0_ inn0_ a1_16 a2_17 a3_18 a4_19, zAr T 0 a1_16 7 k10_, zAr T 0 a2_17 28 k20_, zAr T 0 a3_18 7 k30_, zAr T 0 a4_19 7 k40_]] _ _ := G.re rfl
            refine z_Vi (bc := [[zO4 l0 cr0_ inn0_ a1_16 a2_17 a3_18 a4_19, zAr T 0 a1_16 7 k10_, zAr T 0 a2_17 28 k20_, zAr T 0 a3_18 7 k30_, zAr T 0 a4_19 7 k40_]]) (br := [[zO10 xo t im mk rd po co tr wa wb_ fi cd], z1_, wt]) (As := [.int u5]) (rest := []) C G (c_waysOut l T l0 cr0_ inn0_ k10_ k20_ k30_ k40_ ([zO4 l0 cr0_ inn0_ a1_16 a2_17 a3_18 a4_19, zAr T 0 a1_16 7 k10_, zAr T 0 a2_17 28 k20_, zAr T 0 a3_18 7 k30_, zAr T 0 a4_19 7 k40_]) u5 hw_26) (kV_RX11_221 C.2.2.2.2 (Nat.le_of_ble_eq_true rfl) (Nat.le_of_ble_eq_true rfl)) [3] [3] rfl rfl (ci := 4) (qc := (RX4, TX4, 6)) rfl rfl (List.mem_flatten.mpr ⟨_, List.mem_of_getElem? (i := 0) rfl, (bLand_mem hw_26).choose_spec⟩) rfl rfl hl.1 dX11_led_56 (Nat.le_of_ble_eq_true rfl) (Nat.le_of_ble_eq_true rfl) (fun r_28 b1 H locs hw G => ?_)
            refine zAn2 hw ?_
            intro hbs9 h_27
            clear hw
            subst hbs9
            have G : zS T A s.heap s [[zO10 xo t im mk rd po co tr wa wb_ fi cd], z1_, wt, [zO4 l0 cr0_ inn0_ a1_16 a2_17 a3_18 a4_19, zAr T 0 a1_16 7 k10_, zAr T 0 a2_17 28 k20_, zAr T 0 a3_18 7 k30_, zAr T 0 a4_19 7 k40_]] _ _ := G
            subst h_27
            refine lv_if_ne (tgt := 83) hx hb dX11_led_59 (by decide) (fun c_29 => ?_) (fun c_29 => ?_)
            · have c_29n : ¬ (zWays cr0_ inn0_ k10_ u5).toInt = (0 : Int) := fun q => c_29 ((fa_eq _ _).mpr q)
              have hwi := zWays_in (cr := cr0_) (inn := inn0_) (f1 := k10_) (x := u5) (fun q => absurd (congrArg Int32.toInt q) (by show ¬ _ = (0 : Int); omega))
              refine lv_aload hx hb dX11_led_83 (lv_at hl 2 rfl) ?_
              refine lv_iload hx hb dX11_led_85 (lv_at hl 1 rfl) ?_
              refine lv_aload hx hb dX11_led_87 (lv_at hl 2 rfl) ?_
              have G : zS T A s.heap s [[zO10 xo t im mk rd po co tr wa wb_ fi cd], z1_, wt, [zO4 l0 cr0_ inn0_ a1_16 a2_17 a3_18 a4_19], [zAr T 0 a1_16 7 k10_], [zAr T 0 a2_17 28 k20_], [zAr T 0 a3_18 7 k30_], [zAr T 0 a4_19 7 k40_]] _ _ := G.re rfl
              refine z_get C G clX4 3 rfl 4 (by decide) m_fl_RX11_256 rfl dX11_led_89 ?_
              refine lv_iload hx hb dX11_led_92 (lv_at hl 1 rfl) ?_
              refine z_ild C G 6 rfl (vp_in_iff.mpr ⟨hwi.1, hwi.2.2.1⟩) dX11_led_94 ?_
              refine lv_topi (fun v_30 ev_30 => ?_)
              subst ev_30
              have hw_31 : bLand T l0 cr0_ inn0_ k10_ k20_ k30_ k40_ [zO4 l0 cr0_ inn0_ a1_16 a2_17 a3_18 a4_19, zAr T 0 a1_16 7 k10_, zAr T 0 a2_17 28 k20_, zAr T 0 a3_18 7 k30_, zAr T 0 a4_19 7 k40_] := ⟨a1_16, a2_17, a3_18, a4_19, rfl⟩
              have G : zS T A s.heap s [[zO10 xo t im mk rd po co tr wa wb_ fi cd], z1_, wt, [zO4 l0 cr0_ inn0_ a1_16 a2_17 a3_18 a4_19, zAr T 0 a1_16 7 k10_, zAr T 0 a2_17 28 k20_, zAr T 0 a3_18 7 k30_, zAr T 0 a4_19 7 k40_]] _ _ := G.re rfl
              refine z_Vi (bc := [[zO4 l0 cr0_ inn0_ a1_16 a2_17 a3_18 a4_19, zAr T 0 a1_16 7 k10_, zAr T 0 a2_17 28 k20_, zAr T 0 a3_18 7 k30_, zAr T 0 a4_19 7 k40_]]) (br := [[zO10 xo t im mk rd po co tr wa wb_ fi cd], z1_, wt]) (As := [.int u5, .int (k30_ u5.toNatClampNeg)]) (rest := []) C G (c_target l T l0 cr0_ inn0_ k10_ k20_ k30_ k40_ ([zO4 l0 cr0_ inn0_ a1_16 a2_17 a3_18 a4_19, zAr T 0 a1_16 7 k10_, zAr T 0 a2_17 28 k20_, zAr T 0 a3_18 7 k30_, zAr T 0 a4_19 7 k40_]) u5 (k30_ u5.toNatClampNeg) hw_31) (kV_RX11_365 C.2.2.2.2 (Nat.le_of_ble_eq_true rfl) (Nat.le_of_ble_eq_true rfl)) [3] [3] rfl rfl (ci := 4) (qc := (RX4, TX4, 6)) rfl rfl (List.mem_flatten.mpr ⟨_, List.mem_of_getElem? (i := 0) rfl, (bLand_mem hw_31).choose_spec⟩) rfl rfl hl.1 dX11_led_95 (Nat.le_of_ble_eq_true rfl) (Nat.le_of_ble_eq_true rfl) (fun r_33 b1 H locs hw G => ?_)
              refine zAn2 hw ?_
              intro hbs9 h_32
              clear hw
              subst hbs9
              have G : zS T A s.heap s [[zO10 xo t im mk rd po co tr wa wb_ fi cd], z1_, wt, [zO4 l0 cr0_ inn0_ a1_16 a2_17 a3_18 a4_19, zAr T 0 a1_16 7 k10_, zAr T 0 a2_17 28 k20_, zAr T 0 a3_18 7 k30_, zAr T 0 a4_19 7 k40_]] _ _ := G
              subst h_32
              refine lv_istore (lv' := [(5, .int (zTarget cr0_ k10_ k20_ u5 (k30_ u5.toNatClampNeg))), (6, .int (nI i)), (4, .ref l0), (0, .ref xo), (1, .int i1), (2, .int a_), (3, .int w_)]) hx hb dX11_led_98 hl (by decide) (zLvf_h rfl) (fun ls hl => ?_)
              refine lv_iinc (v := nI (i + 1)) (lv' := [(6, .int (nI (i + 1))), (5, .int (zTarget cr0_ k10_ k20_ u5 (k30_ u5.toNatClampNeg))), (4, .ref l0), (0, .ref xo), (1, .int i1), (2, .int a_), (3, .int w_)]) hx hb dX11_led_100 hl (k := 1) rfl (z_inc i 1) (by decide) (zLvf_h rfl) (fun ls hl => ?_)
              refine lv_goto (tgt := 42) hx hb dX11_led_103 (by decide) ?_
              exact ih_42 (i + 1) (zTarget cr0_ k10_ k20_ u5 (k30_ u5.toNatClampNeg)) (show (i + 1) ≤ 8 from by omega) (show 8 - (i + 1) < 8 - i from by omega) _ _ ls G (lv_sub hl [0, 1, 2, 3, 4, 5, 6] rfl)
            · have c_29n : (zWays cr0_ inn0_ k10_ u5).toInt = (0 : Int) := (fa_eq _ _).mp c_29
              refine lv_iload_n hx hb dX11_led_62 rfl (lv_at hl 6 rfl) ?_
              refine lv_if_ne (tgt := 71) hx hb dX11_led_63 (by decide) (fun c_34 => ?_) (fun c_34 => ?_)
              · have c_34n : ¬ w_.toInt = (0 : Int) := fun q => c_34 ((fa_eq _ _).mpr q)
                refine lv_iload_n hx hb dX11_led_71 rfl (lv_at hl 6 rfl) ?_
                refine lv_iconst (v := 1) hx hb dX11_led_72 (by decide) ?_
                refine lv_icmp_ne (tgt := 81) hx hb dX11_led_73 (by decide) (fun c_35 => ?_) (fun c_35 => ?_)
                · have c_35n : ¬ w_.toInt = (1 : Int) := fun q => c_35 ((fa_eq _ _).mpr q)
                  refine lv_iconst (v := 0) hx hb dX11_led_81 (by decide) ?_
                  have G := G.sub (bs' := [[zO10 xo t im mk rd po co tr wa wb_ fi cd], wt, [zO4 l0 cr0_ inn0_ a1_16 a2_17 a3_18 a4_19, zAr T 0 a1_16 7 k10_, zAr T 0 a2_17 28 k20_, zAr T 0 a3_18 7 k30_, zAr T 0 a4_19 7 k40_], z1_]) [0, 2, 3, 1] rfl
                  exact z_back hQz_ (z_iret C hr hlocks G (Nat.le_of_ble_eq_true rfl) (Nat.le_of_ble_eq_true rfl) dX11_led_82 rfl)
                · have c_35n : w_.toInt = (1 : Int) := (fa_eq _ _).mp c_35
                  refine lv_iload hx hb dX11_led_76 (lv_at hl 1 rfl) ?_
                  refine lv_goto (tgt := 82) hx hb dX11_led_78 (by decide) ?_
                  have G := G.sub (bs' := [[zO10 xo t im mk rd po co tr wa wb_ fi cd], wt, [zO4 l0 cr0_ inn0_ a1_16 a2_17 a3_18 a4_19, zAr T 0 a1_16 7 k10_, zAr T 0 a2_17 28 k20_, zAr T 0 a3_18 7 k30_, zAr T 0 a4_19 7 k40_], z1_]) [0, 2, 3, 1] rfl
                  exact z_back hQz_ (z_iret C hr hlocks G (Nat.le_of_ble_eq_true rfl) (Nat.le_of_ble_eq_true rfl) dX11_led_82 rfl)
              · have c_34n : w_.toInt = (0 : Int) := (fa_eq _ _).mp c_34
                refine lv_iload hx hb dX11_led_66 (lv_at hl 0 rfl) ?_
                refine lv_goto (tgt := 82) hx hb dX11_led_68 (by decide) ?_
                have G := G.sub (bs' := [[zO10 xo t im mk rd po co tr wa wb_ fi cd], wt, [zO4 l0 cr0_ inn0_ a1_16 a2_17 a3_18 a4_19, zAr T 0 a1_16 7 k10_, zAr T 0 a2_17 28 k20_, zAr T 0 a3_18 7 k30_, zAr T 0 a4_19 7 k40_], z1_]) [0, 2, 3, 1] rfl
                exact z_back hQz_ (z_iret C hr hlocks G (Nat.le_of_ble_eq_true rfl) (Nat.le_of_ble_eq_true rfl) dX11_led_82 rfl)
        · have c_15n : ¬ w_.toInt ≤ (2 : Int) := fun q => c_15 ((fa_le _ _).mpr q)
          refine lv_bipush (v := (-2)) hx hb dX11_led_33 (by decide) ?_
          have G := G.sub (bs' := [[zO10 xo t im mk rd po co tr wa wb_ fi cd], wt, z0_, z1_]) [0, 2, 3, 1] rfl
          exact z_back hQz_ (z_iret C hr hlocks G (Nat.le_of_ble_eq_true rfl) (Nat.le_of_ble_eq_true rfl) dX11_led_35 rfl)
    · have h_13 : (a_.toInt < 0 ∨ cr0_.toInt ≤ a_.toInt ∨ 7 ≤ a_.toInt) := h_13
      refine lv_if_eq (tgt := 33) hx hb dX11_led_21 (by decide) (fun _ => ?_) (fun q => absurd (by decide) q)
      refine lv_bipush (v := (-2)) hx hb dX11_led_33 (by decide) ?_
      have G := G.sub (bs' := [[zO10 xo t im mk rd po co tr wa wb_ fi cd], wt, z0_, z1_]) [0, 2, 3, 1] rfl
      exact z_back hQz_ (z_iret C hr hlocks G (Nat.le_of_ble_eq_true rfl) (Nat.le_of_ble_eq_true rfl) dX11_led_35 rfl)
  · have h_6 : i1.toInt = 1 := h_6
    have h_7 : 1 < (fk 0).toInt := h_7
    refine lv_astore (lv' := [(4, .ref l1), (0, .ref xo), (1, .int i1), (2, .int a_), (3, .int w_)]) hx hb dX11_led_8 hl (by decide) (zLvf_h rfl) (fun ls hl => ?_)
    refine lv_aload hx hb dX11_led_10 (lv_at hl 0 rfl) ?_
    refine lv_ifnull hx hb dX11_led_12 ?_
    refine lv_aload hx hb dX11_led_15 (lv_at hl 0 rfl) ?_
    refine lv_iload_n hx hb dX11_led_17 rfl (lv_at hl 3 rfl) ?_
    refine z_Vi (bc := [z1_]) (br := [[zO10 xo t im mk rd po co tr wa wb_ fi cd], z0_, wt]) (As := [.int a_]) (rest := []) C G (c_has l T l1 cr1_ inn1_ k11_ k21_ k31_ k41_ z1_ a_ hz1_) (kV_RX11_160 C.2.2.2.2 (Nat.le_of_ble_eq_true rfl) (Nat.le_of_ble_eq_true rfl)) [2] [2] rfl rfl (ci := 4) (qc := (RX4, TX4, 6)) rfl rfl (List.mem_flatten.mpr ⟨_, List.mem_of_getElem? (i := 0) rfl, (bLand_mem hz1_).choose_spec⟩) rfl rfl hl.1 dX11_led_18 (Nat.le_of_ble_eq_true rfl) (Nat.le_of_ble_eq_true rfl) (fun r_37 b1 H locs hw G => ?_)
    refine zAn2 hw ?_
    intro hbs9 hc_36
    clear hw
    subst hbs9
    have G : zS T A s.heap s [[zO10 xo t im mk rd po co tr wa wb_ fi cd], z0_, wt, z1_] _ _ := G
    rcases hc_36 with ⟨rfl, h_38, h_39, h_40⟩ | ⟨rfl, h_41⟩
    · have h_38 : 0 ≤ a_.toInt := h_38
      have h_39 : a_.toInt < cr1_.toInt := h_39
      have h_40 : a_.toInt < 7 := h_40
      refine lv_if_eq (tgt := 33) hx hb dX11_led_21 (by decide) (fun q => absurd q (by decide)) (fun _ => ?_)
      refine lv_iload_n hx hb dX11_led_24 rfl (lv_at hl 4 rfl) ?_
      refine lv_if_lt (tgt := 33) hx hb dX11_led_25 (by decide) (fun c_42 => ?_) (fun c_42 => ?_)
      · have c_42n : w_.toInt < (0 : Int) := (fa_lt _ _).mp c_42
        refine lv_bipush (v := (-2)) hx hb dX11_led_33 (by decide) ?_
        have G := G.sub (bs' := [[zO10 xo t im mk rd po co tr wa wb_ fi cd], wt, z0_, z1_]) [0, 2, 1, 3] rfl
        exact z_back hQz_ (z_iret C hr hlocks G (Nat.le_of_ble_eq_true rfl) (Nat.le_of_ble_eq_true rfl) dX11_led_35 rfl)
      · have c_42n : ¬ w_.toInt < (0 : Int) := fun q => c_42 ((fa_lt _ _).mpr q)
        refine lv_iload_n hx hb dX11_led_28 rfl (lv_at hl 4 rfl) ?_
        refine lv_iconst (v := 2) hx hb dX11_led_29 (by decide) ?_
        refine lv_icmp_le (tgt := 36) hx hb dX11_led_30 (by decide) (fun c_43 => ?_) (fun c_43 => ?_)
        · have c_43n : w_.toInt ≤ (2 : Int) := (fa_le _ _).mp c_43
          refine lv_iload_n hx hb dX11_led_36 rfl (lv_at hl 3 rfl) ?_
          refine lv_istore (lv' := [(5, .int a_), (4, .ref l1), (0, .ref xo), (1, .int i1), (2, .int a_), (3, .int w_)]) hx hb dX11_led_37 hl (by decide) (zLvf_h rfl) (fun ls hl => ?_)
          have hc0 := hI1_.1
          refine lv_iconst (v := 0) hx hb dX11_led_39 (by decide) ?_
          refine lv_istore (lv' := [(6, .int 0), (5, .int a_), (4, .ref l1), (0, .ref xo), (1, .int i1), (2, .int a_), (3, .int w_)]) hx hb dX11_led_40 hl (by decide) (zLvf_h rfl) (fun ls hl => ?_)
          refine zEx4 hz1_ ?_
          intro a1_44 a2_45 a3_46 a4_47 hbs9
          clear hz1_
          subst hbs9
          have G : zS T A s.heap s [[zO10 xo t im mk rd po co tr wa wb_ fi cd], z0_, wt, [zO4 l1 cr1_ inn1_ a1_44 a2_45 a3_46 a4_47], [zAr T 0 a1_44 7 k11_], [zAr T 0 a2_45 28 k21_], [zAr T 0 a3_46 7 k31_], [zAr T 0 a4_47 7 k41_]] _ _ := G.re rfl
          have hw_48 : bLand T l1 cr1_ inn1_ k11_ k21_ k31_ k41_ [zO4 l1 cr1_ inn1_ a1_44 a2_45 a3_46 a4_47, zAr T 0 a1_44 7 k11_, zAr T 0 a2_45 28 k21_, zAr T 0 a3_46 7 k31_, zAr T 0 a4_47 7 k41_] := ⟨a1_44, a2_45, a3_46, a4_47, rfl⟩
          have G : zS T A s.heap s [[zO10 xo t im mk rd po co tr wa wb_ fi cd], z0_, wt, [zO4 l1 cr1_ inn1_ a1_44 a2_45 a3_46 a4_47, zAr T 0 a1_44 7 k11_, zAr T 0 a2_45 28 k21_, zAr T 0 a3_46 7 k31_, zAr T 0 a4_47 7 k41_]] _ _ := G.re rfl
          refine z_lp2 (T := T) 42 (fun (i : Nat) (u5 : Int32) => [[zO10 xo t im mk rd po co tr wa wb_ fi cd], z0_, wt, [zO4 l1 cr1_ inn1_ a1_44 a2_45 a3_46 a4_47, zAr T 0 a1_44 7 k11_, zAr T 0 a2_45 28 k21_, zAr T 0 a3_46 7 k31_, zAr T 0 a4_47 7 k41_]]) (fun (i : Nat) (u5 : Int32) => [(6, .int (nI i)), (5, .int u5), (4, .ref l1), (0, .ref xo), (1, .int i1), (2, .int a_), (3, .int w_)]) (fun (i : Nat) (u5 : Int32) => i ≤ 8) (fun (i : Nat) (u5 : Int32) => 8 - i) ?_ 0 a_ (show 0 ≤ 8 from by omega) G (lv_sub hl [0, 1, 2, 3, 4, 5, 6] rfl)
          intro i u5 hi ih_42 H locs ls G hl
          replace hi : i ≤ 8 := hi
          replace G : zS T A s.heap s [[zO10 xo t im mk rd po co tr wa wb_ fi cd], z0_, wt, [zO4 l1 cr1_ inn1_ a1_44 a2_45 a3_46 a4_47, zAr T 0 a1_44 7 k11_, zAr T 0 a2_45 28 k21_, zAr T 0 a3_46 7 k31_, zAr T 0 a4_47 7 k41_]] _ _ := G
          replace hl : lv_has ls 7 [(6, .int (nI i)), (5, .int u5), (4, .ref l1), (0, .ref xo), (1, .int i1), (2, .int a_), (3, .int w_)] := hl
          refine lv_iload hx hb dX11_led_42 (lv_at hl 0 rfl) ?_
          refine lv_aload hx hb dX11_led_44 (lv_at hl 2 rfl) ?_
          have G : zS T A s.heap s [[zO10 xo t im mk rd po co tr wa wb_ fi cd], z0_, wt, [zO4 l1 cr1_ inn1_ a1_44 a2_45 a3_46 a4_47], [zAr T 0 a1_44 7 k11_], [zAr T 0 a2_45 28 k21_], [zAr T 0 a3_46 7 k31_], [zAr T 0 a4_47 7 k41_]] _ _ := G.re rfl
          refine z_get C G clX4 3 rfl 0 (by decide) m_fl_RX11_218 rfl dX11_led_46 ?_
          refine lv_icmp_gt (tgt := 106) hx hb dX11_led_49 (by decide) (fun c_49 => ?_) (fun c_49 => ?_)
          · have c_49n : cr1_.toInt < (i : Int) := by have q := (fa_lt _ _).mp c_49; rw [nI_toInt (n := i) (by omega)] at q; exact q
            refine lv_iload_n hx hb dX11_led_106 rfl (lv_at hl 6 rfl) ?_
            refine lv_iconst (v := 2) hx hb dX11_led_107 (by decide) ?_
            refine lv_icmp_ne (tgt := 121) hx hb dX11_led_108 (by decide) (fun c_50 => ?_) (fun c_50 => ?_)
            · have c_50n : ¬ w_.toInt = (2 : Int) := fun q => c_50 ((fa_eq _ _).mpr q)
              refine lv_iconst (v := (-1)) hx hb dX11_led_121 (by decide) ?_
              have hw_51 : bLand T l1 cr1_ inn1_ k11_ k21_ k31_ k41_ [zO4 l1 cr1_ inn1_ a1_44 a2_45 a3_46 a4_47, zAr T 0 a1_44 7 k11_, zAr T 0 a2_45 28 k21_, zAr T 0 a3_46 7 k31_, zAr T 0 a4_47 7 k41_] := ⟨a1_44, a2_45, a3_46, a4_47, rfl⟩
              have G : zS T A s.heap s [[zO10 xo t im mk rd po co tr wa wb_ fi cd], z0_, wt, [zO4 l1 cr1_ inn1_ a1_44 a2_45 a3_46 a4_47, zAr T 0 a1_44 7 k11_, zAr T 0 a2_45 28 k21_, zAr T 0 a3_46 7 k31_, zAr T 0 a4_47 7 k41_]] _ _ := G.re rfl
              have G := G.sub (bs' := [[zO10 xo t im mk rd po co tr wa wb_ fi cd], wt, z0_, [zO4 l1 cr1_ inn1_ a1_44 a2_45 a3_46 a4_47, zAr T 0 a1_44 7 k11_, zAr T 0 a2_45 28 k21_, zAr T 0 a3_46 7 k31_, zAr T 0 a4_47 7 k41_]]) [0, 2, 1, 3] rfl
              exact z_back hQz_ (z_iret C hr hlocks G (Nat.le_of_ble_eq_true rfl) (Nat.le_of_ble_eq_true rfl) dX11_led_122 rfl)
            · have c_50n : w_.toInt = (2 : Int) := (fa_eq _ _).mp c_50
              refine lv_aload hx hb dX11_led_111 (lv_at hl 2 rfl) ?_
              refine lv_iload hx hb dX11_led_113 (lv_at hl 1 rfl) ?_
              have hw_52 : bLand T l1 cr1_ inn1_ k11_ k21_ k31_ k41_ [zO4 l1 cr1_ inn1_ a1_44 a2_45 a3_46 a4_47, zAr T 0 a1_44 7 k11_, zAr T 0 a2_45 28 k21_, zAr T 0 a3_46 7 k31_, zAr T 0 a4_47 7 k41_] := ⟨a1_44, a2_45, a3_46, a4_47, rfl⟩
              have G : zS T A s.heap s [[zO10 xo t im mk rd po co tr wa wb_ fi cd], z0_, wt, [zO4 l1 cr1_ inn1_ a1_44 a2_45 a3_46 a4_47, zAr T 0 a1_44 7 k11_, zAr T 0 a2_45 28 k21_, zAr T 0 a3_46 7 k31_, zAr T 0 a4_47 7 k41_]] _ _ := G.re rfl
              refine z_Si (bc := [[zO4 l1 cr1_ inn1_ a1_44 a2_45 a3_46 a4_47, zAr T 0 a1_44 7 k11_, zAr T 0 a2_45 28 k21_, zAr T 0 a3_46 7 k31_, zAr T 0 a4_47 7 k41_]]) (br := [[zO10 xo t im mk rd po co tr wa wb_ fi cd], z0_, wt]) (As := [.ref l1, .int u5]) (rest := []) C G (c_ring l T l1 cr1_ inn1_ k11_ k21_ k31_ k41_ ([zO4 l1 cr1_ inn1_ a1_44 a2_45 a3_46 a4_47, zAr T 0 a1_44 7 k11_, zAr T 0 a2_45 28 k21_, zAr T 0 a3_46 7 k31_, zAr T 0 a4_47 7 k41_]) u5 hw_52 (by first | with_reducible assumption | with_reducible rfl | omega | assumption | rfl)) (kS_RX11_368 C.2.2.2.2 (Nat.le_of_ble_eq_true rfl) (Nat.le_of_ble_eq_true rfl)) [3] [3] rfl rfl rfl rfl hl.1 dX11_led_115 (Nat.le_of_ble_eq_true rfl) (Nat.le_of_ble_eq_true rfl) (fun r_53 b1 H locs hw G => ?_)
              obtain rfl := hw
              have G : zS T A s.heap s [[zO10 xo t im mk rd po co tr wa wb_ fi cd], z0_, wt, [zO4 l1 cr1_ inn1_ a1_44 a2_45 a3_46 a4_47, zAr T 0 a1_44 7 k11_, zAr T 0 a2_45 28 k21_, zAr T 0 a3_46 7 k31_, zAr T 0 a4_47 7 k41_]] _ _ := G
              refine lv_goto (tgt := 122) hx hb dX11_led_118 (by decide) ?_
              have G := G.sub (bs' := [[zO10 xo t im mk rd po co tr wa wb_ fi cd], wt, z0_, [zO4 l1 cr1_ inn1_ a1_44 a2_45 a3_46 a4_47, zAr T 0 a1_44 7 k11_, zAr T 0 a2_45 28 k21_, zAr T 0 a3_46 7 k31_, zAr T 0 a4_47 7 k41_]]) [0, 2, 1, 3] rfl
              exact z_back hQz_ (z_iret C hr hlocks G (Nat.le_of_ble_eq_true rfl) (Nat.le_of_ble_eq_true rfl) dX11_led_122 rfl)
          · have c_49n : ¬ cr1_.toInt < (i : Int) := fun q => c_49 ((fa_lt _ _).mpr (by rw [nI_toInt (n := i) (by omega)]; exact q))
            refine lv_aload hx hb dX11_led_52 (lv_at hl 2 rfl) ?_
            refine lv_iload hx hb dX11_led_54 (lv_at hl 1 rfl) ?_
            have hw_54 : bLand T l1 cr1_ inn1_ k11_ k21_ k31_ k41_ [zO4 l1 cr1_ inn1_ a1_44 a2_45 a3_46 a4_47, zAr T 0 a1_44 7 k11_, zAr T 0 a2_45 28 k21_, zAr T 0 a3_46 7 k31_, zAr T 0 a4_47 7 k41_] := ⟨a1_44, a2_45, a3_46, a4_47, rfl⟩
            have G : zS T A s.heap s [[zO10 xo t im mk rd po co tr wa wb_ fi cd], z0_, wt, [zO4 l1 cr1_ inn1_ a1_44 a2_45 a3_46 a4_47, zAr T 0 a1_44 7 k11_, zAr T 0 a2_45 28 k21_, zAr T 0 a3_46 7 k31_, zAr T 0 a4_47 7 k41_]] _ _ := G.re rfl
            refine z_Vi (bc := [[zO4 l1 cr1_ inn1_ a1_44 a2_45 a3_46 a4_47, zAr T 0 a1_44 7 k11_, zAr T 0 a2_45 28 k21_, zAr T 0 a3_46 7 k31_, zAr T 0 a4_47 7 k41_]]) (br := [[zO10 xo t im mk rd po co tr wa wb_ fi cd], z0_, wt]) (As := [.int u5]) (rest := []) C G (c_waysOut l T l1 cr1_ inn1_ k11_ k21_ k31_ k41_ ([zO4 l1 cr1_ inn1_ a1_44 a2_45 a3_46 a4_47, zAr T 0 a1_44 7 k11_, zAr T 0 a2_45 28 k21_, zAr T 0 a3_46 7 k31_, zAr T 0 a4_47 7 k41_]) u5 hw_54) (kV_RX11_221 C.2.2.2.2 (Nat.le_of_ble_eq_true rfl) (Nat.le_of_ble_eq_true rfl)) [3] [3] rfl rfl (ci := 4) (qc := (RX4, TX4, 6)) rfl rfl (List.mem_flatten.mpr ⟨_, List.mem_of_getElem? (i := 0) rfl, (bLand_mem hw_54).choose_spec⟩) rfl rfl hl.1 dX11_led_56 (Nat.le_of_ble_eq_true rfl) (Nat.le_of_ble_eq_true rfl) (fun r_56 b1 H locs hw G => ?_)
            refine zAn2 hw ?_
            intro hbs9 h_55
            clear hw
            subst hbs9
            have G : zS T A s.heap s [[zO10 xo t im mk rd po co tr wa wb_ fi cd], z0_, wt, [zO4 l1 cr1_ inn1_ a1_44 a2_45 a3_46 a4_47, zAr T 0 a1_44 7 k11_, zAr T 0 a2_45 28 k21_, zAr T 0 a3_46 7 k31_, zAr T 0 a4_47 7 k41_]] _ _ := G
            subst h_55
            refine lv_if_ne (tgt := 83) hx hb dX11_led_59 (by decide) (fun c_57 => ?_) (fun c_57 => ?_)
            · have c_57n : ¬ (zWays cr1_ inn1_ k11_ u5).toInt = (0 : Int) := fun q => c_57 ((fa_eq _ _).mpr q)
              have hwi := zWays_in (cr := cr1_) (inn := inn1_) (f1 := k11_) (x := u5) (fun q => absurd (congrArg Int32.toInt q) (by show ¬ _ = (0 : Int); omega))
              refine lv_aload hx hb dX11_led_83 (lv_at hl 2 rfl) ?_
              refine lv_iload hx hb dX11_led_85 (lv_at hl 1 rfl) ?_
              refine lv_aload hx hb dX11_led_87 (lv_at hl 2 rfl) ?_
              have G : zS T A s.heap s [[zO10 xo t im mk rd po co tr wa wb_ fi cd], z0_, wt, [zO4 l1 cr1_ inn1_ a1_44 a2_45 a3_46 a4_47], [zAr T 0 a1_44 7 k11_], [zAr T 0 a2_45 28 k21_], [zAr T 0 a3_46 7 k31_], [zAr T 0 a4_47 7 k41_]] _ _ := G.re rfl
              refine z_get C G clX4 3 rfl 4 (by decide) m_fl_RX11_256 rfl dX11_led_89 ?_
              refine lv_iload hx hb dX11_led_92 (lv_at hl 1 rfl) ?_
              refine z_ild C G 6 rfl (vp_in_iff.mpr ⟨hwi.1, hwi.2.2.1⟩) dX11_led_94 ?_
              refine lv_topi (fun v_58 ev_58 => ?_)
              subst ev_58
              have hw_59 : bLand T l1 cr1_ inn1_ k11_ k21_ k31_ k41_ [zO4 l1 cr1_ inn1_ a1_44 a2_45 a3_46 a4_47, zAr T 0 a1_44 7 k11_, zAr T 0 a2_45 28 k21_, zAr T 0 a3_46 7 k31_, zAr T 0 a4_47 7 k41_] := ⟨a1_44, a2_45, a3_46, a4_47, rfl⟩
              have G : zS T A s.heap s [[zO10 xo t im mk rd po co tr wa wb_ fi cd], z0_, wt, [zO4 l1 cr1_ inn1_ a1_44 a2_45 a3_46 a4_47, zAr T 0 a1_44 7 k11_, zAr T 0 a2_45 28 k21_, zAr T 0 a3_46 7 k31_, zAr T 0 a4_47 7 k41_]] _ _ := G.re rfl
              refine z_Vi (bc := [[zO4 l1 cr1_ inn1_ a1_44 a2_45 a3_46 a4_47, zAr T 0 a1_44 7 k11_, zAr T 0 a2_45 28 k21_, zAr T 0 a3_46 7 k31_, zAr T 0 a4_47 7 k41_]]) (br := [[zO10 xo t im mk rd po co tr wa wb_ fi cd], z0_, wt]) (As := [.int u5, .int (k31_ u5.toNatClampNeg)]) (rest := []) C G (c_target l T l1 cr1_ inn1_ k11_ k21_ k31_ k41_ ([zO4 l1 cr1_ inn1_ a1_44 a2_45 a3_46 a4_47, zAr T 0 a1_44 7 k11_, zAr T 0 a2_45 28 k21_, zAr T 0 a3_46 7 k31_, zAr T 0 a4_47 7 k41_]) u5 (k31_ u5.toNatClampNeg) hw_59) (kV_RX11_365 C.2.2.2.2 (Nat.le_of_ble_eq_true rfl) (Nat.le_of_ble_eq_true rfl)) [3] [3] rfl rfl (ci := 4) (qc := (RX4, TX4, 6)) rfl rfl (List.mem_flatten.mpr ⟨_, List.mem_of_getElem? (i := 0) rfl, (bLand_mem hw_59).choose_spec⟩) rfl rfl hl.1 dX11_led_95 (Nat.le_of_ble_eq_true rfl) (Nat.le_of_ble_eq_true rfl) (fun r_61 b1 H locs hw G => ?_)
              refine zAn2 hw ?_
              intro hbs9 h_60
              clear hw
              subst hbs9
              have G : zS T A s.heap s [[zO10 xo t im mk rd po co tr wa wb_ fi cd], z0_, wt, [zO4 l1 cr1_ inn1_ a1_44 a2_45 a3_46 a4_47, zAr T 0 a1_44 7 k11_, zAr T 0 a2_45 28 k21_, zAr T 0 a3_46 7 k31_, zAr T 0 a4_47 7 k41_]] _ _ := G
              subst h_60
              refine lv_istore (lv' := [(5, .int (zTarget cr1_ k11_ k21_ u5 (k31_ u5.toNatClampNeg))), (6, .int (nI i)), (4, .ref l1), (0, .ref xo), (1, .int i1), (2, .int a_), (3, .int w_)]) hx hb dX11_led_98 hl (by decide) (zLvf_h rfl) (fun ls hl => ?_)
              refine lv_iinc (v := nI (i + 1)) (lv' := [(6, .int (nI (i + 1))), (5, .int (zTarget cr1_ k11_ k21_ u5 (k31_ u5.toNatClampNeg))), (4, .ref l1), (0, .ref xo), (1, .int i1), (2, .int a_), (3, .int w_)]) hx hb dX11_led_100 hl (k := 1) rfl (z_inc i 1) (by decide) (zLvf_h rfl) (fun ls hl => ?_)
              refine lv_goto (tgt := 42) hx hb dX11_led_103 (by decide) ?_
              exact ih_42 (i + 1) (zTarget cr1_ k11_ k21_ u5 (k31_ u5.toNatClampNeg)) (show (i + 1) ≤ 8 from by omega) (show 8 - (i + 1) < 8 - i from by omega) _ _ ls G (lv_sub hl [0, 1, 2, 3, 4, 5, 6] rfl)
            · have c_57n : (zWays cr1_ inn1_ k11_ u5).toInt = (0 : Int) := (fa_eq _ _).mp c_57
              refine lv_iload_n hx hb dX11_led_62 rfl (lv_at hl 6 rfl) ?_
              refine lv_if_ne (tgt := 71) hx hb dX11_led_63 (by decide) (fun c_62 => ?_) (fun c_62 => ?_)
              · have c_62n : ¬ w_.toInt = (0 : Int) := fun q => c_62 ((fa_eq _ _).mpr q)
                refine lv_iload_n hx hb dX11_led_71 rfl (lv_at hl 6 rfl) ?_
                refine lv_iconst (v := 1) hx hb dX11_led_72 (by decide) ?_
                refine lv_icmp_ne (tgt := 81) hx hb dX11_led_73 (by decide) (fun c_63 => ?_) (fun c_63 => ?_)
                · have c_63n : ¬ w_.toInt = (1 : Int) := fun q => c_63 ((fa_eq _ _).mpr q)
                  refine lv_iconst (v := 0) hx hb dX11_led_81 (by decide) ?_
                  have G := G.sub (bs' := [[zO10 xo t im mk rd po co tr wa wb_ fi cd], wt, z0_, [zO4 l1 cr1_ inn1_ a1_44 a2_45 a3_46 a4_47, zAr T 0 a1_44 7 k11_, zAr T 0 a2_45 28 k21_, zAr T 0 a3_46 7 k31_, zAr T 0 a4_47 7 k41_]]) [0, 2, 1, 3] rfl
                  exact z_back hQz_ (z_iret C hr hlocks G (Nat.le_of_ble_eq_true rfl) (Nat.le_of_ble_eq_true rfl) dX11_led_82 rfl)
                · have c_63n : w_.toInt = (1 : Int) := (fa_eq _ _).mp c_63
                  refine lv_iload hx hb dX11_led_76 (lv_at hl 1 rfl) ?_
                  refine lv_goto (tgt := 82) hx hb dX11_led_78 (by decide) ?_
                  have G := G.sub (bs' := [[zO10 xo t im mk rd po co tr wa wb_ fi cd], wt, z0_, [zO4 l1 cr1_ inn1_ a1_44 a2_45 a3_46 a4_47, zAr T 0 a1_44 7 k11_, zAr T 0 a2_45 28 k21_, zAr T 0 a3_46 7 k31_, zAr T 0 a4_47 7 k41_]]) [0, 2, 1, 3] rfl
                  exact z_back hQz_ (z_iret C hr hlocks G (Nat.le_of_ble_eq_true rfl) (Nat.le_of_ble_eq_true rfl) dX11_led_82 rfl)
              · have c_62n : w_.toInt = (0 : Int) := (fa_eq _ _).mp c_62
                refine lv_iload hx hb dX11_led_66 (lv_at hl 0 rfl) ?_
                refine lv_goto (tgt := 82) hx hb dX11_led_68 (by decide) ?_
                have G := G.sub (bs' := [[zO10 xo t im mk rd po co tr wa wb_ fi cd], wt, z0_, [zO4 l1 cr1_ inn1_ a1_44 a2_45 a3_46 a4_47, zAr T 0 a1_44 7 k11_, zAr T 0 a2_45 28 k21_, zAr T 0 a3_46 7 k31_, zAr T 0 a4_47 7 k41_]]) [0, 2, 1, 3] rfl
                exact z_back hQz_ (z_iret C hr hlocks G (Nat.le_of_ble_eq_true rfl) (Nat.le_of_ble_eq_true rfl) dX11_led_82 rfl)
        · have c_43n : ¬ w_.toInt ≤ (2 : Int) := fun q => c_43 ((fa_le _ _).mpr q)
          refine lv_bipush (v := (-2)) hx hb dX11_led_33 (by decide) ?_
          have G := G.sub (bs' := [[zO10 xo t im mk rd po co tr wa wb_ fi cd], wt, z0_, z1_]) [0, 2, 1, 3] rfl
          exact z_back hQz_ (z_iret C hr hlocks G (Nat.le_of_ble_eq_true rfl) (Nat.le_of_ble_eq_true rfl) dX11_led_35 rfl)
    · have h_41 : (a_.toInt < 0 ∨ cr1_.toInt ≤ a_.toInt ∨ 7 ≤ a_.toInt) := h_41
      refine lv_if_eq (tgt := 33) hx hb dX11_led_21 (by decide) (fun _ => ?_) (fun q => absurd (by decide) q)
      refine lv_bipush (v := (-2)) hx hb dX11_led_33 (by decide) ?_
      have G := G.sub (bs' := [[zO10 xo t im mk rd po co tr wa wb_ fi cd], wt, z0_, z1_]) [0, 2, 1, 3] rfl
      exact z_back hQz_ (z_iret C hr hlocks G (Nat.le_of_ble_eq_true rfl) (Nat.le_of_ble_eq_true rfl) dX11_led_35 rfl)
theorem m_fl_RX11_65 : Cond.fieldLink RX11 65 (TX11 9).1 (TX11 9).2.1 (TX11 9).2.2.1 ∈ zT := zmem1 zsub_2 185 rfl rfl
theorem m_fl_RX11_109 : Cond.fieldLink RX11 109 (TX3 0).1 (TX3 0).2.1 (TX3 0).2.2.1 ∈ zT := zmem1 zsub_2 146 rfl rfl
theorem m_fl_RX11_55 : Cond.fieldLink RX11 55 (TX11 7).1 (TX11 7).2.1 (TX11 7).2.2.1 ∈ zT := zmem1 zsub_2 183 rfl rfl
theorem m_fl_RX11_113 : Cond.fieldLink RX11 113 (TX0 0).1 (TX0 0).2.1 (TX0 0).2.2.1 ∈ zT := zmem1 zsub_2 106 rfl rfl
theorem m_fl_RX11_59 : Cond.fieldLink RX11 59 (TX11 8).1 (TX11 8).2.1 (TX11 8).2.2.1 ∈ zT := zmem1 zsub_2 184 rfl rfl
theorem m_co_X9_placeFor : Cond.code yX9_placeFor cX9_placeFor 3 (some .int) ∈ zT := zmem1 zsub_2 229 rfl rfl
theorem m_ml_RX11_81 : Cond.methodLink RX11 81 yX9_placeFor ∈ zT := zmem1 zsub_2 226 rfl rfl
theorem m_im_X9_placeFor : Cond.instanceMethod yX9_placeFor ∈ zT := zmem1 zsub_2 227 rfl rfl
theorem m_se_X9_placeFor : Cond.selects RX9 yX9_placeFor yX9_placeFor ∈ zT := zmem1 zsub_2 228 rfl rfl
theorem m_fl_RX11_27 : Cond.fieldLink RX11 27 (TX11 3).1 (TX11 3).2.1 (TX11 3).2.2.1 ∈ zT := zmem1 zsub_2 179 rfl rfl
theorem m_fl_RX11_91 : Cond.fieldLink RX11 91 (TX9 0).1 (TX9 0).2.1 (TX9 0).2.2.1 ∈ zT := zmem1 zsub_1 129 rfl rfl
theorem m_co_X7_read : Cond.code yX7_read cX7_read 5 none ∈ zT := zmem1 zsub_2 233 rfl rfl
theorem m_ml_RX11_95 : Cond.methodLink RX11 95 yX7_read ∈ zT := zmem1 zsub_2 230 rfl rfl
theorem m_im_X7_read : Cond.instanceMethod yX7_read ∈ zT := zmem1 zsub_2 231 rfl rfl
theorem m_se_X7_read : Cond.selects RX7 yX7_read yX7_read ∈ zT := zmem1 zsub_2 232 rfl rfl
theorem m_fl_RX11_99 : Cond.fieldLink RX11 99 (TX7 3).1 (TX7 3).2.1 (TX7 3).2.2.1 ∈ zT := zmem1 zsub_1 178 rfl rfl
theorem m_fl_RX11_100 : Cond.fieldLink RX11 100 (TX7 4).1 (TX7 4).2.1 (TX7 4).2.2.1 ∈ zT := zmem1 zsub_1 180 rfl rfl
theorem m_co_X9_keep : Cond.code yX9_keep cX9_keep 4 none ∈ zT := zmem1 zsub_3 149 rfl rfl
theorem m_ml_RX11_101 : Cond.methodLink RX11 101 yX9_keep ∈ zT := zmem1 zsub_3 146 rfl rfl
theorem m_im_X9_keep : Cond.instanceMethod yX9_keep ∈ zT := zmem1 zsub_3 147 rfl rfl
theorem m_se_X9_keep : Cond.selects RX9 yX9_keep yX9_keep ∈ zT := zmem1 zsub_3 148 rfl rfl
theorem m_co_X11_forgetWhatFollows : Cond.code yX11_forgetWhatFollows cX11_forgetWhatFollows 2 none ∈ zT := zmem1 zsub_3 168 rfl rfl
theorem m_ml_RX11_105 : Cond.methodLink RX11 105 yX11_forgetWhatFollows ∈ zT := zmem1 zsub_3 165 rfl rfl
theorem m_im_X11_forgetWhatFollows : Cond.instanceMethod yX11_forgetWhatFollows ∈ zT := zmem1 zsub_3 167 rfl rfl
theorem m_se_X11_forgetWhatFollows : Cond.selects RX11 yX11_forgetWhatFollows yX11_forgetWhatFollows ∈ zT := zmem 15 rfl rfl
theorem m_fl_RX11_16 : Cond.fieldLink RX11 16 (TX11 1).1 (TX11 1).2.1 (TX11 1).2.2.1 ∈ zT := zmem1 zsub_2 177 rfl rfl
theorem m_co_X9_takeAll : Cond.code yX9_takeAll cX9_takeAll 3 none ∈ zT := zmem1 zsub_3 184 rfl rfl
theorem m_ml_RX11_117 : Cond.methodLink RX11 117 yX9_takeAll ∈ zT := zmem1 zsub_3 181 rfl rfl
theorem m_im_X9_takeAll : Cond.instanceMethod yX9_takeAll ∈ zT := zmem1 zsub_3 182 rfl rfl
theorem m_se_X9_takeAll : Cond.selects RX9 yX9_takeAll yX9_takeAll ∈ zT := zmem1 zsub_3 183 rfl rfl
theorem m_fl_RX11_20 : Cond.fieldLink RX11 20 (TX11 2).1 (TX11 2).2.1 (TX11 2).2.2.1 ∈ zT := zmem1 zsub_2 178 rfl rfl
theorem kV_RX11_81 {R : Room} {s : State} {args : Array Value} {d mc ms : Nat} (hts : ∀ w ∈ zT, w.before args s = true) (h1 : d + 1 ≤ R.frames) (h2 : 8 + (3 + 11) + 40 * d ≤ R.locals) : CallW R s args RX11 RX9 81 yX9_placeFor cX9_placeFor 3 (some .int) (zW yX9_placeFor cX9_placeFor 3 (some .int)) (zR d mc ms) mc ms 2 := z_cwV hts m_co_X9_placeFor m_ml_RX11_81 m_im_X9_placeFor m_se_X9_placeFor m_ii_RX9 (by decide +kernel) h1 h2
theorem kV_RX11_95 {R : Room} {s : State} {args : Array Value} {d mc ms : Nat} (hts : ∀ w ∈ zT, w.before args s = true) (h1 : d + 1 ≤ R.frames) (h2 : 8 + (5 + 11) + 40 * d ≤ R.locals) : CallW R s args RX11 RX7 95 yX7_read cX7_read 5 none (zW yX7_read cX7_read 5 none) (zR d mc ms) mc ms 3 := z_cwV hts m_co_X7_read m_ml_RX11_95 m_im_X7_read m_se_X7_read m_ii_RX7 (by decide +kernel) h1 h2
theorem kV_RX11_101 {R : Room} {s : State} {args : Array Value} {d mc ms : Nat} (hts : ∀ w ∈ zT, w.before args s = true) (h1 : d + 1 ≤ R.frames) (h2 : 8 + (4 + 11) + 40 * d ≤ R.locals) : CallW R s args RX11 RX9 101 yX9_keep cX9_keep 4 none (zW yX9_keep cX9_keep 4 none) (zR d mc ms) mc ms 3 := z_cwV hts m_co_X9_keep m_ml_RX11_101 m_im_X9_keep m_se_X9_keep m_ii_RX9 (by decide +kernel) h1 h2
theorem kV_RX11_105 {R : Room} {s : State} {args : Array Value} {d mc ms : Nat} (hts : ∀ w ∈ zT, w.before args s = true) (h1 : d + 1 ≤ R.frames) (h2 : 8 + (2 + 11) + 40 * d ≤ R.locals) : CallW R s args RX11 RX11 105 yX11_forgetWhatFollows cX11_forgetWhatFollows 2 none (zW yX11_forgetWhatFollows cX11_forgetWhatFollows 2 none) (zR d mc ms) mc ms 1 := z_cwV hts m_co_X11_forgetWhatFollows m_ml_RX11_105 m_im_X11_forgetWhatFollows m_se_X11_forgetWhatFollows m_ii_RX11 (by decide +kernel) h1 h2
theorem kV_RX11_117 {R : Room} {s : State} {args : Array Value} {d mc ms : Nat} (hts : ∀ w ∈ zT, w.before args s = true) (h1 : d + 1 ≤ R.frames) (h2 : 8 + (3 + 11) + 40 * d ≤ R.locals) : CallW R s args RX11 RX9 117 yX9_takeAll cX9_takeAll 3 none (zW yX9_takeAll cX9_takeAll 3 none) (zR d mc ms) mc ms 1 := z_cwV hts m_co_X9_takeAll m_ml_RX11_117 m_im_X9_takeAll m_se_X9_takeAll m_ii_RX9 (by decide +kernel) h1 h2
theorem dX11_forgetWhatFollows_0 : decode cX11_forgetWhatFollows 0 = .ok (.aload_n 0, 1) := zo_42 (by decide +kernel)
theorem dX11_forgetWhatFollows_1 : decode cX11_forgetWhatFollows 1 = .ok (.getfield 65, 3) := zo_180 (by decide +kernel)
theorem dX11_forgetWhatFollows_4 : decode cX11_forgetWhatFollows 4 = .ok (.iconst 0, 1) := zo_3 (by decide +kernel)
theorem dX11_forgetWhatFollows_5 : decode cX11_forgetWhatFollows 5 = .ok (.putfield 109, 3) := zo_181 (by decide +kernel)
theorem dX11_forgetWhatFollows_8 : decode cX11_forgetWhatFollows 8 = .ok (.iload_n 1, 1) := zo_27 (by decide +kernel)
theorem dX11_forgetWhatFollows_9 : decode cX11_forgetWhatFollows 9 = .ok (.ifCond .eq 19, 3) := zo_153 (by decide +kernel)
theorem dX11_forgetWhatFollows_12 : decode cX11_forgetWhatFollows 12 = .ok (.aload_n 0, 1) := zo_42 (by decide +kernel)
theorem dX11_forgetWhatFollows_13 : decode cX11_forgetWhatFollows 13 = .ok (.getfield 55, 3) := zo_180 (by decide +kernel)
theorem dX11_forgetWhatFollows_16 : decode cX11_forgetWhatFollows 16 = .ok (.iconst 0, 1) := zo_3 (by decide +kernel)
theorem dX11_forgetWhatFollows_17 : decode cX11_forgetWhatFollows 17 = .ok (.putfield 113, 3) := zo_181 (by decide +kernel)
theorem dX11_forgetWhatFollows_20 : decode cX11_forgetWhatFollows 20 = .ok (.aload_n 0, 1) := zo_42 (by decide +kernel)
theorem dX11_forgetWhatFollows_21 : decode cX11_forgetWhatFollows 21 = .ok (.getfield 59, 3) := zo_180 (by decide +kernel)
theorem dX11_forgetWhatFollows_24 : decode cX11_forgetWhatFollows 24 = .ok (.iconst 0, 1) := zo_3 (by decide +kernel)
theorem dX11_forgetWhatFollows_25 : decode cX11_forgetWhatFollows 25 = .ok (.putfield 113, 3) := zo_181 (by decide +kernel)
theorem dX11_forgetWhatFollows_28 : decode cX11_forgetWhatFollows 28 = .ok (.return_, 1) := zo_177 (by decide +kernel)
theorem dX11_text_0 : decode cX11_text 0 = .ok (.aload_n 0, 1) := zo_42 (by decide +kernel)
theorem dX11_text_1 : decode cX11_text 1 = .ok (.getfield 10, 3) := zo_180 (by decide +kernel)
theorem dX11_text_4 : decode cX11_text 4 = .ok (.iload_n 1, 1) := zo_27 (by decide +kernel)
theorem dX11_text_5 : decode cX11_text 5 = .ok (.iload_n 2, 1) := zo_28 (by decide +kernel)
theorem dX11_text_6 : decode cX11_text 6 = .ok (.invokevirtual 81, 3) := zo_182 (by decide +kernel)
theorem dX11_text_9 : decode cX11_text 9 = .ok (.istore_n 3, 1) := zo_62 (by decide +kernel)
theorem dX11_text_10 : decode cX11_text 10 = .ok (.aload_n 0, 1) := zo_42 (by decide +kernel)
theorem dX11_text_11 : decode cX11_text 11 = .ok (.getfield 10, 3) := zo_180 (by decide +kernel)
theorem dX11_text_14 : decode cX11_text 14 = .ok (.getfield 73, 3) := zo_180 (by decide +kernel)
theorem dX11_text_17 : decode cX11_text 17 = .ok (.istore 4, 2) := zo_54 (by decide +kernel)
theorem dX11_text_19 : decode cX11_text 19 = .ok (.aload_n 0, 1) := zo_42 (by decide +kernel)
theorem dX11_text_20 : decode cX11_text 20 = .ok (.getfield 10, 3) := zo_180 (by decide +kernel)
theorem dX11_text_23 : decode cX11_text 23 = .ok (.iconst 0, 1) := zo_3 (by decide +kernel)
theorem dX11_text_24 : decode cX11_text 24 = .ok (.putfield 73, 3) := zo_181 (by decide +kernel)
theorem dX11_text_27 : decode cX11_text 27 = .ok (.aload_n 0, 1) := zo_42 (by decide +kernel)
theorem dX11_text_28 : decode cX11_text 28 = .ok (.getfield 10, 3) := zo_180 (by decide +kernel)
theorem dX11_text_31 : decode cX11_text 31 = .ok (.iconst 0, 1) := zo_3 (by decide +kernel)
theorem dX11_text_32 : decode cX11_text 32 = .ok (.putfield 85, 3) := zo_181 (by decide +kernel)
theorem dX11_text_35 : decode cX11_text 35 = .ok (.aload_n 0, 1) := zo_42 (by decide +kernel)
theorem dX11_text_36 : decode cX11_text 36 = .ok (.getfield 10, 3) := zo_180 (by decide +kernel)
theorem dX11_text_39 : decode cX11_text 39 = .ok (.iconst (-1), 1) := zo_2 (by decide +kernel)
theorem dX11_text_40 : decode cX11_text 40 = .ok (.putfield 88, 3) := zo_181 (by decide +kernel)
theorem dX11_text_43 : decode cX11_text 43 = .ok (.iload_n 3, 1) := zo_29 (by decide +kernel)
theorem dX11_text_44 : decode cX11_text 44 = .ok (.bipush (-2), 2) := zo_16 (by decide +kernel)
theorem dX11_text_46 : decode cX11_text 46 = .ok (.if_icmp .ne 6, 3) := zo_160 (by decide +kernel)
theorem dX11_text_49 : decode cX11_text 49 = .ok (.bipush (-2), 2) := zo_16 (by decide +kernel)
theorem dX11_text_51 : decode cX11_text 51 = .ok (.ireturn, 1) := zo_172 (by decide +kernel)
theorem dX11_text_52 : decode cX11_text 52 = .ok (.aload_n 0, 1) := zo_42 (by decide +kernel)
theorem dX11_text_53 : decode cX11_text 53 = .ok (.getfield 27, 3) := zo_180 (by decide +kernel)
theorem dX11_text_56 : decode cX11_text 56 = .ok (.aload_n 0, 1) := zo_42 (by decide +kernel)
theorem dX11_text_57 : decode cX11_text 57 = .ok (.getfield 10, 3) := zo_180 (by decide +kernel)
theorem dX11_text_60 : decode cX11_text 60 = .ok (.getfield 91, 3) := zo_180 (by decide +kernel)
theorem dX11_text_63 : decode cX11_text 63 = .ok (.iload 4, 2) := zo_21 (by decide +kernel)
theorem dX11_text_65 : decode cX11_text 65 = .ok (.iload_n 1, 1) := zo_27 (by decide +kernel)
theorem dX11_text_66 : decode cX11_text 66 = .ok (.invokevirtual 95, 3) := zo_182 (by decide +kernel)
theorem dX11_text_69 : decode cX11_text 69 = .ok (.aload_n 0, 1) := zo_42 (by decide +kernel)
theorem dX11_text_70 : decode cX11_text 70 = .ok (.getfield 10, 3) := zo_180 (by decide +kernel)
theorem dX11_text_73 : decode cX11_text 73 = .ok (.aload_n 0, 1) := zo_42 (by decide +kernel)
theorem dX11_text_74 : decode cX11_text 74 = .ok (.getfield 27, 3) := zo_180 (by decide +kernel)
theorem dX11_text_77 : decode cX11_text 77 = .ok (.getfield 99, 3) := zo_180 (by decide +kernel)
theorem dX11_text_80 : decode cX11_text 80 = .ok (.putfield 85, 3) := zo_181 (by decide +kernel)
theorem dX11_text_83 : decode cX11_text 83 = .ok (.aload_n 0, 1) := zo_42 (by decide +kernel)
theorem dX11_text_84 : decode cX11_text 84 = .ok (.getfield 10, 3) := zo_180 (by decide +kernel)
theorem dX11_text_87 : decode cX11_text 87 = .ok (.aload_n 0, 1) := zo_42 (by decide +kernel)
theorem dX11_text_88 : decode cX11_text 88 = .ok (.getfield 27, 3) := zo_180 (by decide +kernel)
theorem dX11_text_91 : decode cX11_text 91 = .ok (.getfield 100, 3) := zo_180 (by decide +kernel)
theorem dX11_text_94 : decode cX11_text 94 = .ok (.putfield 88, 3) := zo_181 (by decide +kernel)
theorem dX11_text_97 : decode cX11_text 97 = .ok (.aload_n 0, 1) := zo_42 (by decide +kernel)
theorem dX11_text_98 : decode cX11_text 98 = .ok (.getfield 27, 3) := zo_180 (by decide +kernel)
theorem dX11_text_101 : decode cX11_text 101 = .ok (.getfield 99, 3) := zo_180 (by decide +kernel)
theorem dX11_text_104 : decode cX11_text 104 = .ok (.ifCond .eq 5, 3) := zo_153 (by decide +kernel)
theorem dX11_text_107 : decode cX11_text 107 = .ok (.iconst (-1), 1) := zo_2 (by decide +kernel)
theorem dX11_text_108 : decode cX11_text 108 = .ok (.ireturn, 1) := zo_172 (by decide +kernel)
theorem dX11_text_109 : decode cX11_text 109 = .ok (.aload_n 0, 1) := zo_42 (by decide +kernel)
theorem dX11_text_110 : decode cX11_text 110 = .ok (.getfield 10, 3) := zo_180 (by decide +kernel)
theorem dX11_text_113 : decode cX11_text 113 = .ok (.iload_n 1, 1) := zo_27 (by decide +kernel)
theorem dX11_text_114 : decode cX11_text 114 = .ok (.iload_n 3, 1) := zo_29 (by decide +kernel)
theorem dX11_text_115 : decode cX11_text 115 = .ok (.aload_n 0, 1) := zo_42 (by decide +kernel)
theorem dX11_text_116 : decode cX11_text 116 = .ok (.getfield 27, 3) := zo_180 (by decide +kernel)
theorem dX11_text_119 : decode cX11_text 119 = .ok (.invokevirtual 101, 3) := zo_182 (by decide +kernel)
theorem dX11_text_122 : decode cX11_text 122 = .ok (.aload_n 0, 1) := zo_42 (by decide +kernel)
theorem dX11_text_123 : decode cX11_text 123 = .ok (.iload_n 1, 1) := zo_27 (by decide +kernel)
theorem dX11_text_124 : decode cX11_text 124 = .ok (.ifCond .ne 7, 3) := zo_154 (by decide +kernel)
theorem dX11_text_127 : decode cX11_text 127 = .ok (.iconst 1, 1) := zo_4 (by decide +kernel)
theorem dX11_text_128 : decode cX11_text 128 = .ok (.goto 4, 3) := zo_167 (by decide +kernel)
theorem dX11_text_131 : decode cX11_text 131 = .ok (.iconst 0, 1) := zo_3 (by decide +kernel)
theorem dX11_text_132 : decode cX11_text 132 = .ok (.invokevirtual 105, 3) := zo_182 (by decide +kernel)
theorem dX11_text_135 : decode cX11_text 135 = .ok (.iload_n 3, 1) := zo_29 (by decide +kernel)
theorem dX11_text_136 : decode cX11_text 136 = .ok (.ireturn, 1) := zo_172 (by decide +kernel)
theorem dX11_image_0 : decode cX11_image 0 = .ok (.iload_n 1, 1) := zo_27 (by decide +kernel)
theorem dX11_image_1 : decode cX11_image 1 = .ok (.ifCond .lt 8, 3) := zo_155 (by decide +kernel)
theorem dX11_image_4 : decode cX11_image 4 = .ok (.iload_n 1, 1) := zo_27 (by decide +kernel)
theorem dX11_image_5 : decode cX11_image 5 = .ok (.iconst 3, 1) := zo_6 (by decide +kernel)
theorem dX11_image_6 : decode cX11_image 6 = .ok (.if_icmp .lt 5, 3) := zo_161 (by decide +kernel)
theorem dX11_image_9 : decode cX11_image 9 = .ok (.iconst 0, 1) := zo_3 (by decide +kernel)
theorem dX11_image_10 : decode cX11_image 10 = .ok (.ireturn, 1) := zo_172 (by decide +kernel)
theorem dX11_image_11 : decode cX11_image 11 = .ok (.aload_n 0, 1) := zo_42 (by decide +kernel)
theorem dX11_image_12 : decode cX11_image 12 = .ok (.getfield 16, 3) := zo_180 (by decide +kernel)
theorem dX11_image_15 : decode cX11_image 15 = .ok (.iload_n 1, 1) := zo_27 (by decide +kernel)
theorem dX11_image_16 : decode cX11_image 16 = .ok (.aaload, 1) := zo_50 (by decide +kernel)
theorem dX11_image_17 : decode cX11_image 17 = .ok (.aload_n 0, 1) := zo_42 (by decide +kernel)
theorem dX11_image_18 : decode cX11_image 18 = .ok (.getfield 10, 3) := zo_180 (by decide +kernel)
theorem dX11_image_21 : decode cX11_image 21 = .ok (.invokevirtual 117, 3) := zo_182 (by decide +kernel)
theorem dX11_image_24 : decode cX11_image 24 = .ok (.aload_n 0, 1) := zo_42 (by decide +kernel)
theorem dX11_image_25 : decode cX11_image 25 = .ok (.getfield 20, 3) := zo_180 (by decide +kernel)
theorem dX11_image_28 : decode cX11_image 28 = .ok (.iload_n 1, 1) := zo_27 (by decide +kernel)
theorem dX11_image_29 : decode cX11_image 29 = .ok (.iconst 1, 1) := zo_4 (by decide +kernel)
theorem dX11_image_30 : decode cX11_image 30 = .ok (.bastore, 1) := zo_84 (by decide +kernel)
theorem dX11_image_31 : decode cX11_image 31 = .ok (.iconst 1, 1) := zo_4 (by decide +kernel)
theorem dX11_image_32 : decode cX11_image 32 = .ok (.ireturn, 1) := zo_172 (by decide +kernel)
theorem dX11_again_0 : decode cX11_again 0 = .ok (.iload_n 1, 1) := zo_27 (by decide +kernel)
theorem dX11_again_1 : decode cX11_again 1 = .ok (.ifCond .lt 17, 3) := zo_155 (by decide +kernel)
theorem dX11_again_4 : decode cX11_again 4 = .ok (.iload_n 1, 1) := zo_27 (by decide +kernel)
theorem dX11_again_5 : decode cX11_again 5 = .ok (.iconst 3, 1) := zo_6 (by decide +kernel)
theorem dX11_again_6 : decode cX11_again 6 = .ok (.if_icmp .ge 12, 3) := zo_162 (by decide +kernel)
theorem dX11_again_9 : decode cX11_again 9 = .ok (.aload_n 0, 1) := zo_42 (by decide +kernel)
theorem dX11_again_10 : decode cX11_again 10 = .ok (.getfield 20, 3) := zo_180 (by decide +kernel)
theorem dX11_again_13 : decode cX11_again 13 = .ok (.iload_n 1, 1) := zo_27 (by decide +kernel)
theorem dX11_again_14 : decode cX11_again 14 = .ok (.baload, 1) := zo_51 (by decide +kernel)
theorem dX11_again_15 : decode cX11_again 15 = .ok (.ifCond .ne 5, 3) := zo_154 (by decide +kernel)
theorem dX11_again_18 : decode cX11_again 18 = .ok (.iconst 0, 1) := zo_3 (by decide +kernel)
theorem dX11_again_19 : decode cX11_again 19 = .ok (.ireturn, 1) := zo_172 (by decide +kernel)
theorem dX11_again_20 : decode cX11_again 20 = .ok (.aload_n 0, 1) := zo_42 (by decide +kernel)
theorem dX11_again_21 : decode cX11_again 21 = .ok (.getfield 10, 3) := zo_180 (by decide +kernel)
theorem dX11_again_24 : decode cX11_again 24 = .ok (.aload_n 0, 1) := zo_42 (by decide +kernel)
theorem dX11_again_25 : decode cX11_again 25 = .ok (.getfield 16, 3) := zo_180 (by decide +kernel)
theorem dX11_again_28 : decode cX11_again 28 = .ok (.iload_n 1, 1) := zo_27 (by decide +kernel)
theorem dX11_again_29 : decode cX11_again 29 = .ok (.aaload, 1) := zo_50 (by decide +kernel)
theorem dX11_again_30 : decode cX11_again 30 = .ok (.invokevirtual 117, 3) := zo_182 (by decide +kernel)
theorem dX11_again_33 : decode cX11_again 33 = .ok (.aload_n 0, 1) := zo_42 (by decide +kernel)
theorem dX11_again_34 : decode cX11_again 34 = .ok (.iconst 1, 1) := zo_4 (by decide +kernel)
theorem dX11_again_35 : decode cX11_again 35 = .ok (.invokevirtual 105, 3) := zo_182 (by decide +kernel)
theorem dX11_again_38 : decode cX11_again 38 = .ok (.iconst 1, 1) := zo_4 (by decide +kernel)
theorem dX11_again_39 : decode cX11_again 39 = .ok (.ireturn, 1) := zo_172 (by decide +kernel)
set_option maxHeartbeats 4000000 in
set_option maxRecDepth 100000 in
/-- forget -/
theorem c_forget1 (l : Launch) (T : zTy) (xo : Nat) (t : Nat) (im : Nat) (mk : Nat) (rd : Nat) (po : Nat) (co : Nat) (tr : Nat) (wa : Nat) (wb_ : Nat) (fi : Nat) (cd : Nat) (laA : Nat) (mdA : Int32) (wyA : Int32) (pc_A : Int32) (f1A : Nat → Int32) (f2A : Nat → Int32) (f3A : Nat → Int32) (f4A : Nat → Int32) (f5A : Nat → Int32) (f6A : Nat → Int32) (n4A : Nat) (wwA : va_W) (laB : Nat) (mdB : Int32) (wyB : Int32) (pc_B : Int32) (f1B : Nat → Int32) (f2B : Nat → Int32) (f3B : Nat → Int32) (f4B : Nat → Int32) (f5B : Nat → Int32) (f6B : Nat → Int32) (n4B : Nat) (wwB : va_W) (e0f : Int32) (e1f : Int32) (e2f : Int32) (e3f : Int32) (e4f : Int32) (e5f : Int32) (r1f : Nat → Int32) (m1f : Nat) (r2f : Nat → Int32) (wff : va_W) (hwwA : bWays T wa laA mdA wyA pc_A f1A f2A f3A f4A f5A f6A n4A wwA) (hwwB : bWays T wb_ laB mdB wyB pc_B f1B f2B f3B f4B f5B f6B n4B wwB) (hwff : bFit T fi e0f e1f e2f e3f e4f e5f r1f m1f r2f wff) : zMv l T yX11_forgetWhatFollows cX11_forgetWhatFollows 2 1 0 0 [.ref xo, .int 1] [[zO10 xo t im mk rd po co tr wa wb_ fi cd], wwA, wwB, wff] (fun bs => ∃ (wwA_2 : va_W) (wwB_2 : va_W) (wff_2 : va_W), bs = [[zO10 xo t im mk rd po co tr wa wb_ fi cd], wwA_2, wwB_2, wff_2] ∧ bWays T wa laA 0 wyA pc_A f1A f2A f3A f4A f5A f6A n4A wwA_2 ∧ bWays T wb_ laB 0 wyB pc_B f1B f2B f3B f4B f5B f6B n4B wwB_2 ∧ bFit T fi 0 e1f e2f e3f e4f e5f r1f m1f r2f wff_2) := by
  refine zMv_of (own := RX11) (by decide) rfl (Nat.le_of_ble_eq_true rfl) ?_
  intro p e s m args below meth c A ls C hr hlocks hnm hAe G hl
  refine zHide (fun Qz_ hQz_ => ?_)
  have hx := C.1
  have hb := C.2.1
  have hl : lv_has ls 2 [(0, .ref xo), (1, .int 1)] := hl
  refine lv_aload_n hx hb dX11_forgetWhatFollows_0 rfl (lv_at hl 0 rfl) ?_
  refine z_get C G clX11 0 rfl 9 (by decide) m_fl_RX11_65 rfl dX11_forgetWhatFollows_1 ?_
  refine lv_iconst (v := 0) hx hb dX11_forgetWhatFollows_4 (by decide) ?_
  refine zEx2 hwff ?_
  intro a1_1 a2_2 hbs9
  clear hwff
  subst hbs9
  have G : zS T A s.heap s [[zO10 xo t im mk rd po co tr wa wb_ fi cd], wwA, wwB, [zO3 fi e0f e1f e2f e3f e4f e5f a1_1 a2_2], [zAr T 0 a1_1 m1f r1f], [zAr T 0 a2_2 7 r2f]] _ _ := G.re rfl
  refine z_put C G clX3 3 rfl 0 (by decide) m_fl_RX11_109 rfl rfl rfl (Nat.le_of_ble_eq_true rfl) dX11_forgetWhatFollows_5 (fun H locs G => ?_)
  have G : zS T A s.heap s [[zO10 xo t im mk rd po co tr wa wb_ fi cd], wwA, wwB, [zO3 fi 0 e1f e2f e3f e4f e5f a1_1 a2_2], [zAr T 0 a1_1 m1f r1f], [zAr T 0 a2_2 7 r2f]] _ _ := G
  refine lv_iload_n hx hb dX11_forgetWhatFollows_8 rfl (lv_at hl 1 rfl) ?_
  refine lv_if_eq (tgt := 28) hx hb dX11_forgetWhatFollows_9 (by decide) (fun q => absurd q (by decide)) (fun _ => ?_)
  refine lv_aload_n hx hb dX11_forgetWhatFollows_12 rfl (lv_at hl 0 rfl) ?_
  refine z_get C G clX11 0 rfl 7 (by decide) m_fl_RX11_55 rfl dX11_forgetWhatFollows_13 ?_
  refine lv_iconst (v := 0) hx hb dX11_forgetWhatFollows_16 (by decide) ?_
  refine zEx6 hwwA ?_
  intro a1_3 a2_4 a3_5 a4_6 a5_7 a6_8 hbs9
  clear hwwA
  subst hbs9
  have G : zS T A s.heap s [[zO10 xo t im mk rd po co tr wa wb_ fi cd], [zO0 wa mdA wyA laA pc_A a1_3 a2_4 a3_5 a4_6 a5_7 a6_8], [zAr T 0 a1_3 7 f1A], [zAr T 0 a2_4 7 f2A], [zAr T 0 a3_5 7 f3A], [zAr T 0 a4_6 n4A f4A], [zAr T 0 a5_7 n4A f5A], [zAr T 0 a6_8 n4A f6A], wwB, [zO3 fi 0 e1f e2f e3f e4f e5f a1_1 a2_2], [zAr T 0 a1_1 m1f r1f], [zAr T 0 a2_2 7 r2f]] _ _ := G.re rfl
  refine z_put C G clX0 1 rfl 0 (by decide) m_fl_RX11_113 rfl rfl rfl (Nat.le_of_ble_eq_true rfl) dX11_forgetWhatFollows_17 (fun H locs G => ?_)
  have G : zS T A s.heap s [[zO10 xo t im mk rd po co tr wa wb_ fi cd], [zO0 wa 0 wyA laA pc_A a1_3 a2_4 a3_5 a4_6 a5_7 a6_8], [zAr T 0 a1_3 7 f1A], [zAr T 0 a2_4 7 f2A], [zAr T 0 a3_5 7 f3A], [zAr T 0 a4_6 n4A f4A], [zAr T 0 a5_7 n4A f5A], [zAr T 0 a6_8 n4A f6A], wwB, [zO3 fi 0 e1f e2f e3f e4f e5f a1_1 a2_2], [zAr T 0 a1_1 m1f r1f], [zAr T 0 a2_2 7 r2f]] _ _ := G
  refine lv_aload_n hx hb dX11_forgetWhatFollows_20 rfl (lv_at hl 0 rfl) ?_
  refine z_get C G clX11 0 rfl 8 (by decide) m_fl_RX11_59 rfl dX11_forgetWhatFollows_21 ?_
  refine lv_iconst (v := 0) hx hb dX11_forgetWhatFollows_24 (by decide) ?_
  refine zEx6 hwwB ?_
  intro a1_9 a2_10 a3_11 a4_12 a5_13 a6_14 hbs9
  clear hwwB
  subst hbs9
  have G : zS T A s.heap s [[zO10 xo t im mk rd po co tr wa wb_ fi cd], [zO0 wa 0 wyA laA pc_A a1_3 a2_4 a3_5 a4_6 a5_7 a6_8], [zAr T 0 a1_3 7 f1A], [zAr T 0 a2_4 7 f2A], [zAr T 0 a3_5 7 f3A], [zAr T 0 a4_6 n4A f4A], [zAr T 0 a5_7 n4A f5A], [zAr T 0 a6_8 n4A f6A], [zO0 wb_ mdB wyB laB pc_B a1_9 a2_10 a3_11 a4_12 a5_13 a6_14], [zAr T 0 a1_9 7 f1B], [zAr T 0 a2_10 7 f2B], [zAr T 0 a3_11 7 f3B], [zAr T 0 a4_12 n4B f4B], [zAr T 0 a5_13 n4B f5B], [zAr T 0 a6_14 n4B f6B], [zO3 fi 0 e1f e2f e3f e4f e5f a1_1 a2_2], [zAr T 0 a1_1 m1f r1f], [zAr T 0 a2_2 7 r2f]] _ _ := G.re rfl
  refine z_put C G clX0 8 rfl 0 (by decide) m_fl_RX11_113 rfl rfl rfl (Nat.le_of_ble_eq_true rfl) dX11_forgetWhatFollows_25 (fun H locs G => ?_)
  have G : zS T A s.heap s [[zO10 xo t im mk rd po co tr wa wb_ fi cd], [zO0 wa 0 wyA laA pc_A a1_3 a2_4 a3_5 a4_6 a5_7 a6_8], [zAr T 0 a1_3 7 f1A], [zAr T 0 a2_4 7 f2A], [zAr T 0 a3_5 7 f3A], [zAr T 0 a4_6 n4A f4A], [zAr T 0 a5_7 n4A f5A], [zAr T 0 a6_8 n4A f6A], [zO0 wb_ 0 wyB laB pc_B a1_9 a2_10 a3_11 a4_12 a5_13 a6_14], [zAr T 0 a1_9 7 f1B], [zAr T 0 a2_10 7 f2B], [zAr T 0 a3_11 7 f3B], [zAr T 0 a4_12 n4B f4B], [zAr T 0 a5_13 n4B f5B], [zAr T 0 a6_14 n4B f6B], [zO3 fi 0 e1f e2f e3f e4f e5f a1_1 a2_2], [zAr T 0 a1_1 m1f r1f], [zAr T 0 a2_2 7 r2f]] _ _ := G
  have hw_15 : bFit T fi 0 e1f e2f e3f e4f e5f r1f m1f r2f [zO3 fi 0 e1f e2f e3f e4f e5f a1_1 a2_2, zAr T 0 a1_1 m1f r1f, zAr T 0 a2_2 7 r2f] := ⟨a1_1, a2_2, rfl⟩
  have G : zS T A s.heap s [[zO10 xo t im mk rd po co tr wa wb_ fi cd], [zO0 wa 0 wyA laA pc_A a1_3 a2_4 a3_5 a4_6 a5_7 a6_8], [zAr T 0 a1_3 7 f1A], [zAr T 0 a2_4 7 f2A], [zAr T 0 a3_5 7 f3A], [zAr T 0 a4_6 n4A f4A], [zAr T 0 a5_7 n4A f5A], [zAr T 0 a6_8 n4A f6A], [zO0 wb_ 0 wyB laB pc_B a1_9 a2_10 a3_11 a4_12 a5_13 a6_14], [zAr T 0 a1_9 7 f1B], [zAr T 0 a2_10 7 f2B], [zAr T 0 a3_11 7 f3B], [zAr T 0 a4_12 n4B f4B], [zAr T 0 a5_13 n4B f5B], [zAr T 0 a6_14 n4B f6B], [zO3 fi 0 e1f e2f e3f e4f e5f a1_1 a2_2, zAr T 0 a1_1 m1f r1f, zAr T 0 a2_2 7 r2f]] _ _ := G.re rfl
  have hw_16 : bWays T wa laA 0 wyA pc_A f1A f2A f3A f4A f5A f6A n4A [zO0 wa 0 wyA laA pc_A a1_3 a2_4 a3_5 a4_6 a5_7 a6_8, zAr T 0 a1_3 7 f1A, zAr T 0 a2_4 7 f2A, zAr T 0 a3_5 7 f3A, zAr T 0 a4_6 n4A f4A, zAr T 0 a5_7 n4A f5A, zAr T 0 a6_8 n4A f6A] := ⟨a1_3, a2_4, a3_5, a4_6, a5_7, a6_8, rfl⟩
  have G : zS T A s.heap s [[zO10 xo t im mk rd po co tr wa wb_ fi cd], [zO0 wa 0 wyA laA pc_A a1_3 a2_4 a3_5 a4_6 a5_7 a6_8, zAr T 0 a1_3 7 f1A, zAr T 0 a2_4 7 f2A, zAr T 0 a3_5 7 f3A, zAr T 0 a4_6 n4A f4A, zAr T 0 a5_7 n4A f5A, zAr T 0 a6_8 n4A f6A], [zO0 wb_ 0 wyB laB pc_B a1_9 a2_10 a3_11 a4_12 a5_13 a6_14], [zAr T 0 a1_9 7 f1B], [zAr T 0 a2_10 7 f2B], [zAr T 0 a3_11 7 f3B], [zAr T 0 a4_12 n4B f4B], [zAr T 0 a5_13 n4B f5B], [zAr T 0 a6_14 n4B f6B], [zO3 fi 0 e1f e2f e3f e4f e5f a1_1 a2_2, zAr T 0 a1_1 m1f r1f, zAr T 0 a2_2 7 r2f]] _ _ := G.re rfl
  have hw_17 : bWays T wb_ laB 0 wyB pc_B f1B f2B f3B f4B f5B f6B n4B [zO0 wb_ 0 wyB laB pc_B a1_9 a2_10 a3_11 a4_12 a5_13 a6_14, zAr T 0 a1_9 7 f1B, zAr T 0 a2_10 7 f2B, zAr T 0 a3_11 7 f3B, zAr T 0 a4_12 n4B f4B, zAr T 0 a5_13 n4B f5B, zAr T 0 a6_14 n4B f6B] := ⟨a1_9, a2_10, a3_11, a4_12, a5_13, a6_14, rfl⟩
  have G : zS T A s.heap s [[zO10 xo t im mk rd po co tr wa wb_ fi cd], [zO0 wa 0 wyA laA pc_A a1_3 a2_4 a3_5 a4_6 a5_7 a6_8, zAr T 0 a1_3 7 f1A, zAr T 0 a2_4 7 f2A, zAr T 0 a3_5 7 f3A, zAr T 0 a4_6 n4A f4A, zAr T 0 a5_7 n4A f5A, zAr T 0 a6_8 n4A f6A], [zO0 wb_ 0 wyB laB pc_B a1_9 a2_10 a3_11 a4_12 a5_13 a6_14, zAr T 0 a1_9 7 f1B, zAr T 0 a2_10 7 f2B, zAr T 0 a3_11 7 f3B, zAr T 0 a4_12 n4B f4B, zAr T 0 a5_13 n4B f5B, zAr T 0 a6_14 n4B f6B], [zO3 fi 0 e1f e2f e3f e4f e5f a1_1 a2_2, zAr T 0 a1_1 m1f r1f, zAr T 0 a2_2 7 r2f]] _ _ := G.re rfl
  exact z_back hQz_ (z_vret C hr hlocks G (Nat.le_of_ble_eq_true rfl) (Nat.le_of_ble_eq_true rfl) dX11_forgetWhatFollows_28 ⟨([zO0 wa 0 wyA laA pc_A a1_3 a2_4 a3_5 a4_6 a5_7 a6_8, zAr T 0 a1_3 7 f1A, zAr T 0 a2_4 7 f2A, zAr T 0 a3_5 7 f3A, zAr T 0 a4_6 n4A f4A, zAr T 0 a5_7 n4A f5A, zAr T 0 a6_8 n4A f6A]), ([zO0 wb_ 0 wyB laB pc_B a1_9 a2_10 a3_11 a4_12 a5_13 a6_14, zAr T 0 a1_9 7 f1B, zAr T 0 a2_10 7 f2B, zAr T 0 a3_11 7 f3B, zAr T 0 a4_12 n4B f4B, zAr T 0 a5_13 n4B f5B, zAr T 0 a6_14 n4B f6B]), ([zO3 fi 0 e1f e2f e3f e4f e5f a1_1 a2_2, zAr T 0 a1_1 m1f r1f, zAr T 0 a2_2 7 r2f]), rfl, hw_16, hw_17, hw_15⟩)
set_option maxHeartbeats 4000000 in
set_option maxRecDepth 100000 in
/-- forget -/
theorem c_forget0 (l : Launch) (T : zTy) (xo : Nat) (t : Nat) (im : Nat) (mk : Nat) (rd : Nat) (po : Nat) (co : Nat) (tr : Nat) (wa : Nat) (wb_ : Nat) (fi : Nat) (cd : Nat) (laA : Nat) (mdA : Int32) (wyA : Int32) (pc_A : Int32) (f1A : Nat → Int32) (f2A : Nat → Int32) (f3A : Nat → Int32) (f4A : Nat → Int32) (f5A : Nat → Int32) (f6A : Nat → Int32) (n4A : Nat) (wwA : va_W) (laB : Nat) (mdB : Int32) (wyB : Int32) (pc_B : Int32) (f1B : Nat → Int32) (f2B : Nat → Int32) (f3B : Nat → Int32) (f4B : Nat → Int32) (f5B : Nat → Int32) (f6B : Nat → Int32) (n4B : Nat) (wwB : va_W) (e0f : Int32) (e1f : Int32) (e2f : Int32) (e3f : Int32) (e4f : Int32) (e5f : Int32) (r1f : Nat → Int32) (m1f : Nat) (r2f : Nat → Int32) (wff : va_W) (hwwA : bWays T wa laA mdA wyA pc_A f1A f2A f3A f4A f5A f6A n4A wwA) (hwwB : bWays T wb_ laB mdB wyB pc_B f1B f2B f3B f4B f5B f6B n4B wwB) (hwff : bFit T fi e0f e1f e2f e3f e4f e5f r1f m1f r2f wff) : zMv l T yX11_forgetWhatFollows cX11_forgetWhatFollows 2 1 0 0 [.ref xo, .int 0] [[zO10 xo t im mk rd po co tr wa wb_ fi cd], wwA, wwB, wff] (fun bs => ∃ (wff_2 : va_W), bs = [[zO10 xo t im mk rd po co tr wa wb_ fi cd], wwA, wwB, wff_2] ∧ bFit T fi 0 e1f e2f e3f e4f e5f r1f m1f r2f wff_2) := by
  refine zMv_of (own := RX11) (by decide) rfl (Nat.le_of_ble_eq_true rfl) ?_
  intro p e s m args below meth c A ls C hr hlocks hnm hAe G hl
  refine zHide (fun Qz_ hQz_ => ?_)
  have hx := C.1
  have hb := C.2.1
  have hl : lv_has ls 2 [(0, .ref xo), (1, .int 0)] := hl
  refine lv_aload_n hx hb dX11_forgetWhatFollows_0 rfl (lv_at hl 0 rfl) ?_
  refine z_get C G clX11 0 rfl 9 (by decide) m_fl_RX11_65 rfl dX11_forgetWhatFollows_1 ?_
  refine lv_iconst (v := 0) hx hb dX11_forgetWhatFollows_4 (by decide) ?_
  refine zEx2 hwff ?_
  intro a1_1 a2_2 hbs9
  clear hwff
  subst hbs9
  have G : zS T A s.heap s [[zO10 xo t im mk rd po co tr wa wb_ fi cd], wwA, wwB, [zO3 fi e0f e1f e2f e3f e4f e5f a1_1 a2_2], [zAr T 0 a1_1 m1f r1f], [zAr T 0 a2_2 7 r2f]] _ _ := G.re rfl
  refine z_put C G clX3 3 rfl 0 (by decide) m_fl_RX11_109 rfl rfl rfl (Nat.le_of_ble_eq_true rfl) dX11_forgetWhatFollows_5 (fun H locs G => ?_)
  have G : zS T A s.heap s [[zO10 xo t im mk rd po co tr wa wb_ fi cd], wwA, wwB, [zO3 fi 0 e1f e2f e3f e4f e5f a1_1 a2_2], [zAr T 0 a1_1 m1f r1f], [zAr T 0 a2_2 7 r2f]] _ _ := G
  refine lv_iload_n hx hb dX11_forgetWhatFollows_8 rfl (lv_at hl 1 rfl) ?_
  refine lv_if_eq (tgt := 28) hx hb dX11_forgetWhatFollows_9 (by decide) (fun _ => ?_) (fun q => absurd (by decide) q)
  have hw_3 : bFit T fi 0 e1f e2f e3f e4f e5f r1f m1f r2f [zO3 fi 0 e1f e2f e3f e4f e5f a1_1 a2_2, zAr T 0 a1_1 m1f r1f, zAr T 0 a2_2 7 r2f] := ⟨a1_1, a2_2, rfl⟩
  have G : zS T A s.heap s [[zO10 xo t im mk rd po co tr wa wb_ fi cd], wwA, wwB, [zO3 fi 0 e1f e2f e3f e4f e5f a1_1 a2_2, zAr T 0 a1_1 m1f r1f, zAr T 0 a2_2 7 r2f]] _ _ := G.re rfl
  exact z_back hQz_ (z_vret C hr hlocks G (Nat.le_of_ble_eq_true rfl) (Nat.le_of_ble_eq_true rfl) dX11_forgetWhatFollows_28 ⟨([zO3 fi 0 e1f e2f e3f e4f e5f a1_1 a2_2, zAr T 0 a1_1 m1f r1f, zAr T 0 a2_2 7 r2f]), rfl, hw_3⟩)
theorem m_co_X0_stepsOrNever : Cond.code yX0_stepsOrNever cX0_stepsOrNever 3 (some .int) ∈ zT := zmem1 zsub_5 100 rfl rfl
theorem m_ml_RX11_286 : Cond.methodLink RX11 286 yX0_stepsOrNever ∈ zT := zmem1 zsub_5 97 rfl rfl
theorem m_im_X0_stepsOrNever : Cond.instanceMethod yX0_stepsOrNever ∈ zT := zmem1 zsub_5 98 rfl rfl
theorem m_se_X0_stepsOrNever : Cond.selects RX0 yX0_stepsOrNever yX0_stepsOrNever ∈ zT := zmem1 zsub_5 99 rfl rfl
theorem m_ml_RX11_289 : Cond.methodLink RX11 289 yX0_turned ∈ zT := zmem1 zsub_5 102 rfl rfl
theorem m_co_X11_worth : Cond.code yX11_worth cX11_worth 9 (some .int) ∈ zT := zmem1 zsub_5 96 rfl rfl
theorem m_ml_RX11_278 : Cond.methodLink RX11 278 yX11_worth ∈ zT := zmem1 zsub_5 94 rfl rfl
theorem m_st_X11_worth : Cond.static yX11_worth ∈ zT := zmem1 zsub_5 95 rfl rfl
theorem kV_RX11_286 {R : Room} {s : State} {args : Array Value} {d mc ms : Nat} (hts : ∀ w ∈ zT, w.before args s = true) (h1 : d + 1 ≤ R.frames) (h2 : 8 + (3 + 11) + 40 * d ≤ R.locals) : CallW R s args RX11 RX0 286 yX0_stepsOrNever cX0_stepsOrNever 3 (some .int) (zW yX0_stepsOrNever cX0_stepsOrNever 3 (some .int)) (zR d mc ms) mc ms 2 := z_cwV hts m_co_X0_stepsOrNever m_ml_RX11_286 m_im_X0_stepsOrNever m_se_X0_stepsOrNever m_ii_RX0 (by decide +kernel) h1 h2
theorem kV_RX11_289 {R : Room} {s : State} {args : Array Value} {d mc ms : Nat} (hts : ∀ w ∈ zT, w.before args s = true) (h1 : d + 1 ≤ R.frames) (h2 : 8 + (4 + 11) + 40 * d ≤ R.locals) : CallW R s args RX11 RX0 289 yX0_turned cX0_turned 4 (some .int) (zW yX0_turned cX0_turned 4 (some .int)) (zR d mc ms) mc ms 2 := z_cwV hts m_co_X0_turned m_ml_RX11_289 m_im_X0_turned m_se_X0_turned m_ii_RX0 (by decide +kernel) h1 h2
theorem kS_RX11_278 {R : Room} {s : State} {args : Array Value} {d mc ms : Nat} (hts : ∀ w ∈ zT, w.before args s = true) (h1 : d + 1 ≤ R.frames) (h2 : 8 + (9 + 11) + 40 * d ≤ R.locals) : CallB R s args RX11 278 yX11_worth cX11_worth 9 (some .int) (zW yX11_worth cX11_worth 9 (some .int)) (zR d mc ms) mc ms 5 ∧ (Cond.static yX11_worth).before args s = true := z_cwS hts m_co_X11_worth m_ml_RX11_278 m_st_X11_worth m_ii_RX11 (by decide +kernel) h1 h2
theorem dX11_worth_0 : decode cX11_worth 0 = .ok (.iload_n 3, 1) := zo_29 (by decide +kernel)
theorem dX11_worth_1 : decode cX11_worth 1 = .ok (.ifCond .le 8, 3) := zo_158 (by decide +kernel)
theorem dX11_worth_4 : decode cX11_worth 4 = .ok (.iload_n 3, 1) := zo_29 (by decide +kernel)
theorem dX11_worth_5 : decode cX11_worth 5 = .ok (.iconst 3, 1) := zo_6 (by decide +kernel)
theorem dX11_worth_6 : decode cX11_worth 6 = .ok (.if_icmp .le 10, 3) := zo_164 (by decide +kernel)
theorem dX11_worth_9 : decode cX11_worth 9 = .ok (.aload_n 0, 1) := zo_42 (by decide +kernel)
theorem dX11_worth_10 : decode cX11_worth 10 = .ok (.iload_n 1, 1) := zo_27 (by decide +kernel)
theorem dX11_worth_11 : decode cX11_worth 11 = .ok (.iload_n 2, 1) := zo_28 (by decide +kernel)
theorem dX11_worth_12 : decode cX11_worth 12 = .ok (.invokevirtual 286, 3) := zo_182 (by decide +kernel)
theorem dX11_worth_15 : decode cX11_worth 15 = .ok (.ireturn, 1) := zo_172 (by decide +kernel)
theorem dX11_worth_16 : decode cX11_worth 16 = .ok (.iconst (-1), 1) := zo_2 (by decide +kernel)
theorem dX11_worth_17 : decode cX11_worth 17 = .ok (.istore 5, 2) := zo_54 (by decide +kernel)
theorem dX11_worth_19 : decode cX11_worth 19 = .ok (.iconst 0, 1) := zo_3 (by decide +kernel)
theorem dX11_worth_20 : decode cX11_worth 20 = .ok (.istore 6, 2) := zo_54 (by decide +kernel)
theorem dX11_worth_22 : decode cX11_worth 22 = .ok (.iload 6, 2) := zo_21 (by decide +kernel)
theorem dX11_worth_24 : decode cX11_worth 24 = .ok (.bipush 7, 2) := zo_16 (by decide +kernel)
theorem dX11_worth_26 : decode cX11_worth 26 = .ok (.if_icmp .gt 94, 3) := zo_163 (by decide +kernel)
theorem dX11_worth_29 : decode cX11_worth 29 = .ok (.iload 6, 2) := zo_21 (by decide +kernel)
theorem dX11_worth_31 : decode cX11_worth 31 = .ok (.bipush 7, 2) := zo_16 (by decide +kernel)
theorem dX11_worth_33 : decode cX11_worth 33 = .ok (.if_icmp .ne 7, 3) := zo_160 (by decide +kernel)
theorem dX11_worth_36 : decode cX11_worth 36 = .ok (.iload_n 1, 1) := zo_27 (by decide +kernel)
theorem dX11_worth_37 : decode cX11_worth 37 = .ok (.goto 10, 3) := zo_167 (by decide +kernel)
theorem dX11_worth_40 : decode cX11_worth 40 = .ok (.aload_n 0, 1) := zo_42 (by decide +kernel)
theorem dX11_worth_41 : decode cX11_worth 41 = .ok (.iload_n 1, 1) := zo_27 (by decide +kernel)
theorem dX11_worth_42 : decode cX11_worth 42 = .ok (.iload 6, 2) := zo_21 (by decide +kernel)
theorem dX11_worth_44 : decode cX11_worth 44 = .ok (.invokevirtual 289, 3) := zo_182 (by decide +kernel)
theorem dX11_worth_47 : decode cX11_worth 47 = .ok (.istore 7, 2) := zo_54 (by decide +kernel)
theorem dX11_worth_49 : decode cX11_worth 49 = .ok (.iload 7, 2) := zo_21 (by decide +kernel)
theorem dX11_worth_51 : decode cX11_worth 51 = .ok (.iconst (-1), 1) := zo_2 (by decide +kernel)
theorem dX11_worth_52 : decode cX11_worth 52 = .ok (.if_icmp .eq 62, 3) := zo_159 (by decide +kernel)
theorem dX11_worth_55 : decode cX11_worth 55 = .ok (.aload_n 0, 1) := zo_42 (by decide +kernel)
theorem dX11_worth_56 : decode cX11_worth 56 = .ok (.iload 7, 2) := zo_21 (by decide +kernel)
theorem dX11_worth_58 : decode cX11_worth 58 = .ok (.iload_n 2, 1) := zo_28 (by decide +kernel)
theorem dX11_worth_59 : decode cX11_worth 59 = .ok (.iload_n 3, 1) := zo_29 (by decide +kernel)
theorem dX11_worth_60 : decode cX11_worth 60 = .ok (.iconst 1, 1) := zo_4 (by decide +kernel)
theorem dX11_worth_61 : decode cX11_worth 61 = .ok (.isub, 1) := zo_100 (by decide +kernel)
theorem dX11_worth_62 : decode cX11_worth 62 = .ok (.iload 4, 2) := zo_21 (by decide +kernel)
theorem dX11_worth_64 : decode cX11_worth 64 = .ok (.ifCond .ne 7, 3) := zo_154 (by decide +kernel)
theorem dX11_worth_67 : decode cX11_worth 67 = .ok (.iconst 1, 1) := zo_4 (by decide +kernel)
theorem dX11_worth_68 : decode cX11_worth 68 = .ok (.goto 4, 3) := zo_167 (by decide +kernel)
theorem dX11_worth_71 : decode cX11_worth 71 = .ok (.iconst 0, 1) := zo_3 (by decide +kernel)
theorem dX11_worth_72 : decode cX11_worth 72 = .ok (.invokestatic 278, 3) := zo_184 (by decide +kernel)
theorem dX11_worth_75 : decode cX11_worth 75 = .ok (.istore 8, 2) := zo_54 (by decide +kernel)
theorem dX11_worth_77 : decode cX11_worth 77 = .ok (.iload 5, 2) := zo_21 (by decide +kernel)
theorem dX11_worth_79 : decode cX11_worth 79 = .ok (.iconst (-1), 1) := zo_2 (by decide +kernel)
theorem dX11_worth_80 : decode cX11_worth 80 = .ok (.if_icmp .eq 25, 3) := zo_159 (by decide +kernel)
theorem dX11_worth_83 : decode cX11_worth 83 = .ok (.iload 4, 2) := zo_21 (by decide +kernel)
theorem dX11_worth_85 : decode cX11_worth 85 = .ok (.ifCond .eq 13, 3) := zo_153 (by decide +kernel)
theorem dX11_worth_88 : decode cX11_worth 88 = .ok (.iload 8, 2) := zo_21 (by decide +kernel)
theorem dX11_worth_90 : decode cX11_worth 90 = .ok (.iload 5, 2) := zo_21 (by decide +kernel)
theorem dX11_worth_92 : decode cX11_worth 92 = .ok (.if_icmp .ge 18, 3) := zo_162 (by decide +kernel)
theorem dX11_worth_95 : decode cX11_worth 95 = .ok (.goto 10, 3) := zo_167 (by decide +kernel)
theorem dX11_worth_98 : decode cX11_worth 98 = .ok (.iload 8, 2) := zo_21 (by decide +kernel)
theorem dX11_worth_100 : decode cX11_worth 100 = .ok (.iload 5, 2) := zo_21 (by decide +kernel)
theorem dX11_worth_102 : decode cX11_worth 102 = .ok (.if_icmp .le 8, 3) := zo_164 (by decide +kernel)
theorem dX11_worth_105 : decode cX11_worth 105 = .ok (.iload 8, 2) := zo_21 (by decide +kernel)
theorem dX11_worth_107 : decode cX11_worth 107 = .ok (.goto 5, 3) := zo_167 (by decide +kernel)
theorem dX11_worth_110 : decode cX11_worth 110 = .ok (.iload 5, 2) := zo_21 (by decide +kernel)
theorem dX11_worth_112 : decode cX11_worth 112 = .ok (.istore 5, 2) := zo_54 (by decide +kernel)
theorem dX11_worth_114 : decode cX11_worth 114 = .ok (.iinc 6 1, 3) := zo_132 (by decide +kernel)
theorem dX11_worth_117 : decode cX11_worth 117 = .ok (.goto (-95), 3) := zo_167 (by decide +kernel)
theorem dX11_worth_120 : decode cX11_worth 120 = .ok (.iload 5, 2) := zo_21 (by decide +kernel)
theorem dX11_worth_122 : decode cX11_worth 122 = .ok (.ireturn, 1) := zo_172 (by decide +kernel)
theorem dX11_bestTurn_0 : decode cX11_bestTurn 0 = .ok (.iconst 0, 1) := zo_3 (by decide +kernel)
theorem dX11_bestTurn_1 : decode cX11_bestTurn 1 = .ok (.istore 5, 2) := zo_54 (by decide +kernel)
theorem dX11_bestTurn_3 : decode cX11_bestTurn 3 = .ok (.iload 5, 2) := zo_21 (by decide +kernel)
theorem dX11_bestTurn_5 : decode cX11_bestTurn 5 = .ok (.bipush 7, 2) := zo_16 (by decide +kernel)
theorem dX11_bestTurn_7 : decode cX11_bestTurn 7 = .ok (.if_icmp .ge 43, 3) := zo_162 (by decide +kernel)
theorem dX11_bestTurn_10 : decode cX11_bestTurn 10 = .ok (.aload_n 0, 1) := zo_42 (by decide +kernel)
theorem dX11_bestTurn_11 : decode cX11_bestTurn 11 = .ok (.iload_n 1, 1) := zo_27 (by decide +kernel)
theorem dX11_bestTurn_12 : decode cX11_bestTurn 12 = .ok (.iload 5, 2) := zo_21 (by decide +kernel)
theorem dX11_bestTurn_14 : decode cX11_bestTurn 14 = .ok (.invokevirtual 289, 3) := zo_182 (by decide +kernel)
theorem dX11_bestTurn_17 : decode cX11_bestTurn 17 = .ok (.istore 6, 2) := zo_54 (by decide +kernel)
theorem dX11_bestTurn_19 : decode cX11_bestTurn 19 = .ok (.iload 6, 2) := zo_21 (by decide +kernel)
theorem dX11_bestTurn_21 : decode cX11_bestTurn 21 = .ok (.iconst (-1), 1) := zo_2 (by decide +kernel)
theorem dX11_bestTurn_22 : decode cX11_bestTurn 22 = .ok (.if_icmp .eq 22, 3) := zo_159 (by decide +kernel)
theorem dX11_bestTurn_25 : decode cX11_bestTurn 25 = .ok (.aload_n 0, 1) := zo_42 (by decide +kernel)
theorem dX11_bestTurn_26 : decode cX11_bestTurn 26 = .ok (.iload 6, 2) := zo_21 (by decide +kernel)
theorem dX11_bestTurn_28 : decode cX11_bestTurn 28 = .ok (.iload_n 2, 1) := zo_28 (by decide +kernel)
theorem dX11_bestTurn_29 : decode cX11_bestTurn 29 = .ok (.iload_n 3, 1) := zo_29 (by decide +kernel)
theorem dX11_bestTurn_30 : decode cX11_bestTurn 30 = .ok (.iconst 1, 1) := zo_4 (by decide +kernel)
theorem dX11_bestTurn_31 : decode cX11_bestTurn 31 = .ok (.isub, 1) := zo_100 (by decide +kernel)
theorem dX11_bestTurn_32 : decode cX11_bestTurn 32 = .ok (.iconst 0, 1) := zo_3 (by decide +kernel)
theorem dX11_bestTurn_33 : decode cX11_bestTurn 33 = .ok (.invokestatic 278, 3) := zo_184 (by decide +kernel)
theorem dX11_bestTurn_36 : decode cX11_bestTurn 36 = .ok (.iload 4, 2) := zo_21 (by decide +kernel)
theorem dX11_bestTurn_38 : decode cX11_bestTurn 38 = .ok (.if_icmp .ne 6, 3) := zo_160 (by decide +kernel)
theorem dX11_bestTurn_41 : decode cX11_bestTurn 41 = .ok (.iload 5, 2) := zo_21 (by decide +kernel)
theorem dX11_bestTurn_43 : decode cX11_bestTurn 43 = .ok (.ireturn, 1) := zo_172 (by decide +kernel)
theorem dX11_bestTurn_44 : decode cX11_bestTurn 44 = .ok (.iinc 5 1, 3) := zo_132 (by decide +kernel)
theorem dX11_bestTurn_47 : decode cX11_bestTurn 47 = .ok (.goto (-44), 3) := zo_167 (by decide +kernel)
theorem dX11_bestTurn_50 : decode cX11_bestTurn 50 = .ok (.bipush 7, 2) := zo_16 (by decide +kernel)
theorem dX11_bestTurn_52 : decode cX11_bestTurn 52 = .ok (.ireturn, 1) := zo_172 (by decide +kernel)

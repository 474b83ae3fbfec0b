set_option maxHeartbeats 4000000 in
set_option maxRecDepth 100000 in
/-- c_m_laysFar -/
theorem c_m_laysFar (l : Launch) (T : zTy) (mo : Nat) (m_all : Nat) (m_has : Nat) (i_size : Int32) (i_next : Int32) (i_where : Int32) (i_token : Int32) (i_number : Int32) (i_word : Int32) (i_wrong : Int32) (i_farCrossing : Int32) (m_read : Nat) (i_z0 : Int32) (i_crossings : Int32) (i_inns : Int32) (m_posts : Nat) (m_shut : Nat) (m_here : Nat) (i_steps : Int32) (i_done : Int32) (i_at : Int32) (i_gone : Int32) (m_was : Nat) (m_came : Nat) (m_seenAt : Nat) (m_rowWorth : Nat) (m_farBy : Nat) (m_used : Nat) (i_everywhere : Int32) (i_again0 : Int32) (i_d0 : Int32) (i_never : Int32) (i_firstCame : Int32) (i_longRun : Int32) (i_moved : Int32) (i_crowd : Int32) (i_l0 : Int32) (i_fitMany : Int32) (i_fitLeast : Int32) (i_fitMost : Int32) (m_fitPost : Nat) (m_fitEnd : Nat) (m_keptPosts : Nat) (i_x0 : Int32) (f_all : Nat → Int32) (f_farBy : Nat → Int32) (hL : zML f_all i_z0 i_crossings) : zMv l T yX12_laysFar cX12_laysFar 7 4 0 0 [.ref mo] [[zO11 mo m_all m_has i_size i_next i_where i_token i_number i_word i_wrong i_farCrossing m_read i_z0 i_crossings i_inns m_posts m_shut m_here i_steps i_done i_at i_gone m_was m_came m_seenAt m_rowWorth m_farBy m_used i_everywhere i_again0 i_d0 i_never i_firstCame i_longRun i_moved i_crowd i_l0 i_fitMany i_fitLeast i_fitMost m_fitPost m_fitEnd m_keptPosts i_x0], [zAr T 0 m_all 3952 f_all], [zAr T 0 m_farBy 49 f_farBy]] (fun bs => ∃ (g_farBy : Nat → Int32), bs = [[zO11 mo m_all m_has i_size i_next i_where i_token i_number i_word i_wrong i_farCrossing m_read i_z0 i_crossings i_inns m_posts m_shut m_here i_steps i_done i_at i_gone m_was m_came m_seenAt m_rowWorth m_farBy m_used i_everywhere i_again0 i_d0 i_never i_firstCame i_longRun i_moved i_crowd i_l0 i_fitMany i_fitLeast i_fitMost m_fitPost m_fitEnd m_keptPosts i_x0], [zAr T 0 m_all 3952 f_all], [zAr T 0 m_farBy 49 g_farBy]]) := by
  refine zMv_of (own := RX12) (by decide) rfl (Nat.le_of_ble_eq_true rfl) ?_
  intro p e s m args below meth c A ls C hr hlocks hnm hAe G hl
  refine zHide (fun Qz_ hQz_ => ?_)
  have hx := C.1
  have hb := C.2.1
  have hl : lv_has ls 7 [(0, .ref mo)] := hl
  have hz := hL.1
  have hcr := hL.cr
  refine lv_iconst (v := 0) hx hb dX12_laysFar_0 (by decide) ?_
  refine lv_istore_n (lv' := [(1, .int 0), (0, .ref mo)]) hx hb dX12_laysFar_1 rfl hl (by decide) (zLvf_h rfl) (fun ls hl => ?_)
  refine z_lp2 (T := T) 2 (fun (ka : Nat) (xf : Nat → Int32) => [[zO11 mo m_all m_has i_size i_next i_where i_token i_number i_word i_wrong i_farCrossing m_read i_z0 i_crossings i_inns m_posts m_shut m_here i_steps i_done i_at i_gone m_was m_came m_seenAt m_rowWorth m_farBy m_used i_everywhere i_again0 i_d0 i_never i_firstCame i_longRun i_moved i_crowd i_l0 i_fitMany i_fitLeast i_fitMost m_fitPost m_fitEnd m_keptPosts i_x0], [zAr T 0 m_all 3952 f_all], [zAr T 0 m_farBy 49 xf]]) (fun (ka : Nat) (xf : Nat → Int32) => [(1, .int (nI ka)), (0, .ref mo)]) (fun (ka : Nat) (xf : Nat → Int32) => ka ≤ 7) (fun (ka : Nat) (xf : Nat → Int32) => 7 - ka) ?_ 0 f_farBy (show 0 ≤ 7 from by omega) G (lv_sub hl [0, 1] rfl)
  intro ka xf hka9 ih_2 H locs ls G hl
  replace hka9 : ka ≤ 7 := hka9
  replace G : zS T A s.heap s [[zO11 mo m_all m_has i_size i_next i_where i_token i_number i_word i_wrong i_farCrossing m_read i_z0 i_crossings i_inns m_posts m_shut m_here i_steps i_done i_at i_gone m_was m_came m_seenAt m_rowWorth m_farBy m_used i_everywhere i_again0 i_d0 i_never i_firstCame i_longRun i_moved i_crowd i_l0 i_fitMany i_fitLeast i_fitMost m_fitPost m_fitEnd m_keptPosts i_x0], [zAr T 0 m_all 3952 f_all], [zAr T 0 m_farBy 49 xf]] _ _ := G
  replace hl : lv_has ls 7 [(1, .int (nI ka)), (0, .ref mo)] := hl
  refine lv_iload_n hx hb dX12_laysFar_2 rfl (lv_at hl 0 rfl) ?_
  refine lv_bipush (v := 7) hx hb dX12_laysFar_3 (by decide) ?_
  refine lv_icmp_ge (tgt := 194) hx hb dX12_laysFar_5 (by decide) (fun c_1 => ?_) (fun c_1 => ?_)
  · have c_1n : 7 ≤ ka := (nI_leI (a := 7) (b := ka) (by omega) (by omega)).mp c_1
    exact z_back hQz_ (z_vret C hr hlocks G (Nat.le_of_ble_eq_true rfl) (Nat.le_of_ble_eq_true rfl) dX12_laysFar_194 ⟨xf, rfl⟩)
  · have c_1n : ¬ 7 ≤ ka := fun q => c_1 ((nI_leI (a := 7) (b := ka) (by omega) (by omega)).mpr q)
    refine lv_iconst (v := 0) hx hb dX12_laysFar_8 (by decide) ?_
    refine lv_istore_n (lv' := [(2, .int 0), (1, .int (nI ka)), (0, .ref mo)]) hx hb dX12_laysFar_9 rfl hl (by decide) (zLvf_h rfl) (fun ls hl => ?_)
    refine z_lp2 (T := T) 10 (fun (kb : Nat) (yf : Nat → Int32) => [[zO11 mo m_all m_has i_size i_next i_where i_token i_number i_word i_wrong i_farCrossing m_read i_z0 i_crossings i_inns m_posts m_shut m_here i_steps i_done i_at i_gone m_was m_came m_seenAt m_rowWorth m_farBy m_used i_everywhere i_again0 i_d0 i_never i_firstCame i_longRun i_moved i_crowd i_l0 i_fitMany i_fitLeast i_fitMost m_fitPost m_fitEnd m_keptPosts i_x0], [zAr T 0 m_all 3952 f_all], [zAr T 0 m_farBy 49 yf]]) (fun (kb : Nat) (yf : Nat → Int32) => [(2, .int (nI kb)), (1, .int (nI ka)), (0, .ref mo)]) (fun (kb : Nat) (yf : Nat → Int32) => kb ≤ 7) (fun (kb : Nat) (yf : Nat → Int32) => 7 - kb) ?_ 0 xf (show 0 ≤ 7 from by omega) G (lv_sub hl [0, 1, 2] rfl)
    intro kb yf hkb9 ih_10 H locs ls G hl
    replace hkb9 : kb ≤ 7 := hkb9
    replace G : zS T A s.heap s [[zO11 mo m_all m_has i_size i_next i_where i_token i_number i_word i_wrong i_farCrossing m_read i_z0 i_crossings i_inns m_posts m_shut m_here i_steps i_done i_at i_gone m_was m_came m_seenAt m_rowWorth m_farBy m_used i_everywhere i_again0 i_d0 i_never i_firstCame i_longRun i_moved i_crowd i_l0 i_fitMany i_fitLeast i_fitMost m_fitPost m_fitEnd m_keptPosts i_x0], [zAr T 0 m_all 3952 f_all], [zAr T 0 m_farBy 49 yf]] _ _ := G
    replace hl : lv_has ls 7 [(2, .int (nI kb)), (1, .int (nI ka)), (0, .ref mo)] := hl
    refine lv_iload_n hx hb dX12_laysFar_10 rfl (lv_at hl 0 rfl) ?_
    refine lv_bipush (v := 7) hx hb dX12_laysFar_11 (by decide) ?_
    refine lv_icmp_ge (tgt := 43) hx hb dX12_laysFar_13 (by decide) (fun c_2 => ?_) (fun c_2 => ?_)
    · have c_2n : 7 ≤ kb := (nI_leI (a := 7) (b := kb) (by omega) (by omega)).mp c_2
      refine lv_iconst (v := 1) hx hb dX12_laysFar_43 (by decide) ?_
      refine lv_iload_n hx hb dX12_laysFar_44 rfl (lv_at hl 1 rfl) ?_
      refine lv_ishl hx hb dX12_laysFar_45 ?_
      refine lv_istore_n (lv' := [(2, .int (1 <<< ((nI ka) &&& 31))), (1, .int (nI ka)), (0, .ref mo)]) hx hb dX12_laysFar_46 rfl hl (by decide) (zLvf_h rfl) (fun ls hl => ?_)
      refine lv_iconst (v := 1) hx hb dX12_laysFar_47 (by decide) ?_
      refine lv_istore_n (lv' := [(3, .int 1), (2, .int (1 <<< ((nI ka) &&& 31))), (1, .int (nI ka)), (0, .ref mo)]) hx hb dX12_laysFar_48 rfl hl (by decide) (zLvf_h rfl) (fun ls hl => ?_)
      refine z_lp3 (T := T) 49 (fun (kn : Nat) (met : Int32) (zf : Nat → Int32) => [[zO11 mo m_all m_has i_size i_next i_where i_token i_number i_word i_wrong i_farCrossing m_read i_z0 i_crossings i_inns m_posts m_shut m_here i_steps i_done i_at i_gone m_was m_came m_seenAt m_rowWorth m_farBy m_used i_everywhere i_again0 i_d0 i_never i_firstCame i_longRun i_moved i_crowd i_l0 i_fitMany i_fitLeast i_fitMost m_fitPost m_fitEnd m_keptPosts i_x0], [zAr T 0 m_all 3952 f_all], [zAr T 0 m_farBy 49 zf]]) (fun (kn : Nat) (met : Int32) (zf : Nat → Int32) => [(3, .int (nI kn)), (2, .int met), (1, .int (nI ka)), (0, .ref mo)]) (fun (kn : Nat) (met : Int32) (zf : Nat → Int32) => kn ≤ 7 ∧ 1 ≤ kn) (fun (kn : Nat) (met : Int32) (zf : Nat → Int32) => 7 - kn) ?_ 1 (1 <<< ((nI ka) &&& 31)) yf (show 1 ≤ 7 ∧ 1 ≤ 1 from ⟨by omega, by omega⟩) G (lv_sub hl [0, 1, 2, 3] rfl)
      intro kn met zf hI9 ih_49 H locs ls G hl
      replace hI9 : kn ≤ 7 ∧ 1 ≤ kn := hI9
      refine zAn2 hI9 ?_
      intro hkn9 hkn1
      clear hI9
      replace G : zS T A s.heap s [[zO11 mo m_all m_has i_size i_next i_where i_token i_number i_word i_wrong i_farCrossing m_read i_z0 i_crossings i_inns m_posts m_shut m_here i_steps i_done i_at i_gone m_was m_came m_seenAt m_rowWorth m_farBy m_used i_everywhere i_again0 i_d0 i_never i_firstCame i_longRun i_moved i_crowd i_l0 i_fitMany i_fitLeast i_fitMost m_fitPost m_fitEnd m_keptPosts i_x0], [zAr T 0 m_all 3952 f_all], [zAr T 0 m_farBy 49 zf]] _ _ := G
      replace hl : lv_has ls 7 [(3, .int (nI kn)), (2, .int met), (1, .int (nI ka)), (0, .ref mo)] := hl
      refine lv_iload_n hx hb dX12_laysFar_49 rfl (lv_at hl 0 rfl) ?_
      refine lv_bipush (v := 7) hx hb dX12_laysFar_50 (by decide) ?_
      refine lv_icmp_ge (tgt := 188) hx hb dX12_laysFar_52 (by decide) (fun c_3 => ?_) (fun c_3 => ?_)
      · have c_3n : 7 ≤ kn := (nI_leI (a := 7) (b := kn) (by omega) (by omega)).mp c_3
        refine lv_iinc (v := nI (ka + 1)) (lv' := [(1, .int (nI (ka + 1))), (3, .int (nI kn)), (2, .int met), (0, .ref mo)]) hx hb dX12_laysFar_188 hl (k := 2) rfl (z_inc ka 1) (by decide) (zLvf_h rfl) (fun ls hl => ?_)
        refine lv_goto (tgt := 2) hx hb dX12_laysFar_191 (by decide) ?_
        exact ih_2 (ka + 1) zf (show (ka + 1) ≤ 7 from by omega) (show 7 - (ka + 1) < 7 - ka from by omega) _ _ ls G (lv_sub hl [0, 3] rfl)
      · have c_3n : ¬ 7 ≤ kn := fun q => c_3 ((nI_leI (a := 7) (b := kn) (by omega) (by omega)).mpr q)
        refine lv_iload_n hx hb dX12_laysFar_55 rfl (lv_at hl 2 rfl) ?_
        refine lv_aload_n hx hb dX12_laysFar_56 rfl (lv_at hl 3 rfl) ?_
        refine z_get C G clX12 0 rfl 12 (by decide) m_fl_RX12_169 rfl dX12_laysFar_57 ?_
        refine lv_icmp_ge (tgt := 188) hx hb dX12_laysFar_60 (by decide) (fun c_4 => ?_) (fun c_4 => ?_)
        · have c_4n : i_crossings.toInt ≤ (ka : Int) := by have q := (fa_le _ _).mp c_4; rw [nI_toInt (n := ka) (by omega)] at q; exact q
          refine lv_iinc (v := nI (ka + 1)) (lv' := [(1, .int (nI (ka + 1))), (3, .int (nI kn)), (2, .int met), (0, .ref mo)]) hx hb dX12_laysFar_188 hl (k := 2) rfl (z_inc ka 1) (by decide) (zLvf_h rfl) (fun ls hl => ?_)
          refine lv_goto (tgt := 2) hx hb dX12_laysFar_191 (by decide) ?_
          exact ih_2 (ka + 1) zf (show (ka + 1) ≤ 7 from by omega) (show 7 - (ka + 1) < 7 - ka from by omega) _ _ ls G (lv_sub hl [0, 3] rfl)
        · have c_4n : ¬ i_crossings.toInt ≤ (ka : Int) := fun q => c_4 ((fa_le _ _).mpr (by rw [nI_toInt (n := ka) (by omega)]; exact q))
          refine lv_iload_n hx hb dX12_laysFar_63 rfl (lv_at hl 1 rfl) ?_
          refine lv_istore (lv' := [(4, .int met), (3, .int (nI kn)), (2, .int met), (1, .int (nI ka)), (0, .ref mo)]) hx hb dX12_laysFar_64 hl (by decide) (zLvf_h rfl) (fun ls hl => ?_)
          refine lv_iconst (v := 0) hx hb dX12_laysFar_66 (by decide) ?_
          refine lv_istore (lv' := [(5, .int 0), (4, .int met), (3, .int (nI kn)), (2, .int met), (1, .int (nI ka)), (0, .ref mo)]) hx hb dX12_laysFar_67 hl (by decide) (zLvf_h rfl) (fun ls hl => ?_)
          refine z_lp2 (T := T) 69 (fun (kc : Nat) (mo1 : Int32) => [[zO11 mo m_all m_has i_size i_next i_where i_token i_number i_word i_wrong i_farCrossing m_read i_z0 i_crossings i_inns m_posts m_shut m_here i_steps i_done i_at i_gone m_was m_came m_seenAt m_rowWorth m_farBy m_used i_everywhere i_again0 i_d0 i_never i_firstCame i_longRun i_moved i_crowd i_l0 i_fitMany i_fitLeast i_fitMost m_fitPost m_fitEnd m_keptPosts i_x0], [zAr T 0 m_all 3952 f_all], [zAr T 0 m_farBy 49 zf]]) (fun (kc : Nat) (mo1 : Int32) => [(5, .int (nI kc)), (4, .int mo1), (3, .int (nI kn)), (2, .int met), (1, .int (nI ka)), (0, .ref mo)]) (fun (kc : Nat) (mo1 : Int32) => kc ≤ 7) (fun (kc : Nat) (mo1 : Int32) => 7 - kc) ?_ 0 met (show 0 ≤ 7 from by omega) G (lv_sub hl [0, 1, 2, 3, 4, 5] rfl)
          intro kc mo1 hkc9 ih_69 H locs ls G hl
          replace hkc9 : kc ≤ 7 := hkc9
          replace G : zS T A s.heap s [[zO11 mo m_all m_has i_size i_next i_where i_token i_number i_word i_wrong i_farCrossing m_read i_z0 i_crossings i_inns m_posts m_shut m_here i_steps i_done i_at i_gone m_was m_came m_seenAt m_rowWorth m_farBy m_used i_everywhere i_again0 i_d0 i_never i_firstCame i_longRun i_moved i_crowd i_l0 i_fitMany i_fitLeast i_fitMost m_fitPost m_fitEnd m_keptPosts i_x0], [zAr T 0 m_all 3952 f_all], [zAr T 0 m_farBy 49 zf]] _ _ := G
          replace hl : lv_has ls 7 [(5, .int (nI kc)), (4, .int mo1), (3, .int (nI kn)), (2, .int met), (1, .int (nI ka)), (0, .ref mo)] := hl
          refine lv_iload hx hb dX12_laysFar_69 (lv_at hl 0 rfl) ?_
          refine lv_aload_n hx hb dX12_laysFar_71 rfl (lv_at hl 5 rfl) ?_
          refine z_get C G clX12 0 rfl 12 (by decide) m_fl_RX12_169 rfl dX12_laysFar_72 ?_
          refine lv_icmp_ge (tgt := 133) hx hb dX12_laysFar_75 (by decide) (fun c_5 => ?_) (fun c_5 => ?_)
          · have c_5n : i_crossings.toInt ≤ (kc : Int) := by have q := (fa_le _ _).mp c_5; rw [nI_toInt (n := kc) (by omega)] at q; exact q
            refine lv_iconst (v := 0) hx hb dX12_laysFar_133 (by decide) ?_
            refine lv_istore (lv' := [(5, .int 0), (4, .int mo1), (3, .int (nI kn)), (2, .int met), (1, .int (nI ka)), (0, .ref mo)]) hx hb dX12_laysFar_134 hl (by decide) (zLvf_h rfl) (fun ls hl => ?_)
            refine z_lp2 (T := T) 136 (fun (kd : Nat) (wf : Nat → Int32) => [[zO11 mo m_all m_has i_size i_next i_where i_token i_number i_word i_wrong i_farCrossing m_read i_z0 i_crossings i_inns m_posts m_shut m_here i_steps i_done i_at i_gone m_was m_came m_seenAt m_rowWorth m_farBy m_used i_everywhere i_again0 i_d0 i_never i_firstCame i_longRun i_moved i_crowd i_l0 i_fitMany i_fitLeast i_fitMost m_fitPost m_fitEnd m_keptPosts i_x0], [zAr T 0 m_all 3952 f_all], [zAr T 0 m_farBy 49 wf]]) (fun (kd : Nat) (wf : Nat → Int32) => [(5, .int (nI kd)), (4, .int mo1), (3, .int (nI kn)), (2, .int met), (1, .int (nI ka)), (0, .ref mo)]) (fun (kd : Nat) (wf : Nat → Int32) => kd ≤ 7) (fun (kd : Nat) (wf : Nat → Int32) => 7 - kd) ?_ 0 zf (show 0 ≤ 7 from by omega) G (lv_sub hl [0, 1, 2, 3, 4, 5] rfl)
            intro kd wf hkd9 ih_136 H locs ls G hl
            replace hkd9 : kd ≤ 7 := hkd9
            replace G : zS T A s.heap s [[zO11 mo m_all m_has i_size i_next i_where i_token i_number i_word i_wrong i_farCrossing m_read i_z0 i_crossings i_inns m_posts m_shut m_here i_steps i_done i_at i_gone m_was m_came m_seenAt m_rowWorth m_farBy m_used i_everywhere i_again0 i_d0 i_never i_firstCame i_longRun i_moved i_crowd i_l0 i_fitMany i_fitLeast i_fitMost m_fitPost m_fitEnd m_keptPosts i_x0], [zAr T 0 m_all 3952 f_all], [zAr T 0 m_farBy 49 wf]] _ _ := G
            replace hl : lv_has ls 7 [(5, .int (nI kd)), (4, .int mo1), (3, .int (nI kn)), (2, .int met), (1, .int (nI ka)), (0, .ref mo)] := hl
            refine lv_iload hx hb dX12_laysFar_136 (lv_at hl 0 rfl) ?_
            refine lv_aload_n hx hb dX12_laysFar_138 rfl (lv_at hl 5 rfl) ?_
            refine z_get C G clX12 0 rfl 12 (by decide) m_fl_RX12_169 rfl dX12_laysFar_139 ?_
            refine lv_icmp_ge (tgt := 179) hx hb dX12_laysFar_142 (by decide) (fun c_6 => ?_) (fun c_6 => ?_)
            · have c_6n : i_crossings.toInt ≤ (kd : Int) := by have q := (fa_le _ _).mp c_6; rw [nI_toInt (n := kd) (by omega)] at q; exact q
              refine lv_iload hx hb dX12_laysFar_179 (lv_at hl 1 rfl) ?_
              refine lv_istore_n (lv' := [(2, .int mo1), (5, .int (nI kd)), (4, .int mo1), (3, .int (nI kn)), (1, .int (nI ka)), (0, .ref mo)]) hx hb dX12_laysFar_181 rfl hl (by decide) (zLvf_h rfl) (fun ls hl => ?_)
              refine lv_iinc (v := nI (kn + 1)) (lv' := [(3, .int (nI (kn + 1))), (2, .int mo1), (5, .int (nI kd)), (4, .int mo1), (1, .int (nI ka)), (0, .ref mo)]) hx hb dX12_laysFar_182 hl (k := 3) rfl (z_inc kn 1) (by decide) (zLvf_h rfl) (fun ls hl => ?_)
              refine lv_goto (tgt := 49) hx hb dX12_laysFar_185 (by decide) ?_
              exact ih_49 (kn + 1) mo1 wf (show (kn + 1) ≤ 7 ∧ 1 ≤ (kn + 1) from ⟨by omega, by omega⟩) (show 7 - (kn + 1) < 7 - kn from by omega) _ _ ls G (lv_sub hl [0, 1, 4, 5] rfl)
            · have c_6n : ¬ i_crossings.toInt ≤ (kd : Int) := fun q => c_6 ((fa_le _ _).mpr (by rw [nI_toInt (n := kd) (by omega)]; exact q))
              refine lv_iload hx hb dX12_laysFar_145 (lv_at hl 1 rfl) ?_
              refine lv_iload_n hx hb dX12_laysFar_147 rfl (lv_at hl 3 rfl) ?_
              refine lv_iconst (v := (-1)) hx hb dX12_laysFar_148 (by decide) ?_
              refine lv_ixor hx hb dX12_laysFar_149 ?_
              refine lv_iand hx hb dX12_laysFar_150 ?_
              refine lv_iload hx hb dX12_laysFar_151 (lv_at hl 0 rfl) ?_
              refine lv_ishr hx hb dX12_laysFar_153 ?_
              refine lv_iconst (v := 1) hx hb dX12_laysFar_154 (by decide) ?_
              refine lv_iand hx hb dX12_laysFar_155 ?_
              refine lv_iconst (v := 1) hx hb dX12_laysFar_156 (by decide) ?_
              refine lv_icmp_ne (tgt := 173) hx hb dX12_laysFar_157 (by decide) (fun c_7 => ?_) (fun c_7 => ?_)
              · have c_7n : ¬ (((mo1 &&& (met ^^^ (-1))) >>> ((nI kd) &&& 31)) &&& 1).toInt = (1 : Int) := fun q => c_7 ((fa_eq _ _).mpr q)
                refine lv_iinc (v := nI (kd + 1)) (lv' := [(5, .int (nI (kd + 1))), (4, .int mo1), (3, .int (nI kn)), (2, .int met), (1, .int (nI ka)), (0, .ref mo)]) hx hb dX12_laysFar_173 hl (k := 0) rfl (z_inc kd 1) (by decide) (zLvf_h rfl) (fun ls hl => ?_)
                refine lv_goto (tgt := 136) hx hb dX12_laysFar_176 (by decide) ?_
                exact ih_136 (kd + 1) wf (show (kd + 1) ≤ 7 from by omega) (show 7 - (kd + 1) < 7 - kd from by omega) _ _ ls G (lv_sub hl [0, 1, 2, 3, 4, 5] rfl)
              · have c_7n : (((mo1 &&& (met ^^^ (-1))) >>> ((nI kd) &&& 31)) &&& 1).toInt = (1 : Int) := (fa_eq _ _).mp c_7
                refine lv_aload_n hx hb dX12_laysFar_160 rfl (lv_at hl 5 rfl) ?_
                refine z_get C G clX12 0 rfl 25 (by decide) m_fl_RX12_41 rfl dX12_laysFar_161 ?_
                refine lv_bipush (v := 7) hx hb dX12_laysFar_164 (by decide) ?_
                refine lv_iload_n hx hb dX12_laysFar_166 rfl (lv_at hl 4 rfl) ?_
                refine lv_imul hx hb dX12_laysFar_167 ?_
                refine lv_topi (fun y_8 ey_8 => ?_)
                obtain rfl : y_8 = nI (7 * ka) := ey_8.trans (z_imuln 7 ka rfl rfl)
                refine lv_iload hx hb dX12_laysFar_168 (lv_at hl 0 rfl) ?_
                refine lv_iadd hx hb dX12_laysFar_170 ?_
                refine lv_topi (fun y_9 ey_9 => ?_)
                obtain rfl : y_9 = nI ((7 * ka) + kd) := ey_9.trans (z_iaddn (7 * ka) kd rfl rfl)
                refine lv_iload_n hx hb dX12_laysFar_171 rfl (lv_at hl 2 rfl) ?_
                refine z_ist C G 2 rfl (vp_in_nI (by omega) (by decide)) dX12_laysFar_172 (fun H locs G => ?_)
                rw [nI_clamp (by omega)] at G
                have G : zS T A s.heap s [[zO11 mo m_all m_has i_size i_next i_where i_token i_number i_word i_wrong i_farCrossing m_read i_z0 i_crossings i_inns m_posts m_shut m_here i_steps i_done i_at i_gone m_was m_came m_seenAt m_rowWorth m_farBy m_used i_everywhere i_again0 i_d0 i_never i_firstCame i_longRun i_moved i_crowd i_l0 i_fitMany i_fitLeast i_fitMost m_fitPost m_fitEnd m_keptPosts i_x0], [zAr T 0 m_all 3952 f_all], [zAr T 0 m_farBy 49 (upd wf ((7 * ka) + kd) (nI kn))]] _ _ := G
                refine lv_iinc (v := nI (kd + 1)) (lv' := [(5, .int (nI (kd + 1))), (4, .int mo1), (3, .int (nI kn)), (2, .int met), (1, .int (nI ka)), (0, .ref mo)]) hx hb dX12_laysFar_173 hl (k := 0) rfl (z_inc kd 1) (by decide) (zLvf_h rfl) (fun ls hl => ?_)
                refine lv_goto (tgt := 136) hx hb dX12_laysFar_176 (by decide) ?_
                exact ih_136 (kd + 1) (upd wf ((7 * ka) + kd) (nI kn)) (show (kd + 1) ≤ 7 from by omega) (show 7 - (kd + 1) < 7 - kd from by omega) _ _ ls G (lv_sub hl [0, 1, 2, 3, 4, 5] rfl)
          · have c_5n : ¬ i_crossings.toInt ≤ (kc : Int) := fun q => c_5 ((fa_le _ _).mpr (by rw [nI_toInt (n := kc) (by omega)]; exact q))
            refine lv_iconst (v := 0) hx hb dX12_laysFar_78 (by decide) ?_
            refine lv_istore (lv' := [(6, .int 0), (5, .int (nI kc)), (4, .int mo1), (3, .int (nI kn)), (2, .int met), (1, .int (nI ka)), (0, .ref mo)]) hx hb dX12_laysFar_79 hl (by decide) (zLvf_h rfl) (fun ls hl => ?_)
            refine z_lp2 (T := T) 81 (fun (kk : Nat) (mo2 : Int32) => [[zO11 mo m_all m_has i_size i_next i_where i_token i_number i_word i_wrong i_farCrossing m_read i_z0 i_crossings i_inns m_posts m_shut m_here i_steps i_done i_at i_gone m_was m_came m_seenAt m_rowWorth m_farBy m_used i_everywhere i_again0 i_d0 i_never i_firstCame i_longRun i_moved i_crowd i_l0 i_fitMany i_fitLeast i_fitMost m_fitPost m_fitEnd m_keptPosts i_x0], [zAr T 0 m_all 3952 f_all], [zAr T 0 m_farBy 49 zf]]) (fun (kk : Nat) (mo2 : Int32) => [(6, .int (nI kk)), (5, .int (nI kc)), (4, .int mo2), (3, .int (nI kn)), (2, .int met), (1, .int (nI ka)), (0, .ref mo)]) (fun (kk : Nat) (mo2 : Int32) => kk ≤ 4) (fun (kk : Nat) (mo2 : Int32) => 4 - kk) ?_ 0 mo1 (show 0 ≤ 4 from by omega) G (lv_sub hl [0, 1, 2, 3, 4, 5, 6] rfl)
            intro kk mo2 hkk9 ih_81 H locs ls G hl
            replace hkk9 : kk ≤ 4 := hkk9
            replace G : zS T A s.heap s [[zO11 mo m_all m_has i_size i_next i_where i_token i_number i_word i_wrong i_farCrossing m_read i_z0 i_crossings i_inns m_posts m_shut m_here i_steps i_done i_at i_gone m_was m_came m_seenAt m_rowWorth m_farBy m_used i_everywhere i_again0 i_d0 i_never i_firstCame i_longRun i_moved i_crowd i_l0 i_fitMany i_fitLeast i_fitMost m_fitPost m_fitEnd m_keptPosts i_x0], [zAr T 0 m_all 3952 f_all], [zAr T 0 m_farBy 49 zf]] _ _ := G
            replace hl : lv_has ls 7 [(6, .int (nI kk)), (5, .int (nI kc)), (4, .int mo2), (3, .int (nI kn)), (2, .int met), (1, .int (nI ka)), (0, .ref mo)] := hl
            refine lv_iload hx hb dX12_laysFar_81 (lv_at hl 0 rfl) ?_
            refine lv_aload_n hx hb dX12_laysFar_83 rfl (lv_at hl 6 rfl) ?_
            refine lv_iload hx hb dX12_laysFar_84 (lv_at hl 1 rfl) ?_
            have ti_10 : (nI kc).toInt = ((kc : Nat) : Int) := nI_toInt (by omega)
            refine z_Vi (bc := [[zO11 mo m_all m_has i_size i_next i_where i_token i_number i_word i_wrong i_farCrossing m_read i_z0 i_crossings i_inns m_posts m_shut m_here i_steps i_done i_at i_gone m_was m_came m_seenAt m_rowWorth m_farBy m_used i_everywhere i_again0 i_d0 i_never i_firstCame i_longRun i_moved i_crowd i_l0 i_fitMany i_fitLeast i_fitMost m_fitPost m_fitEnd m_keptPosts i_x0], [zAr T 0 m_all 3952 f_all]]) (br := [[zAr T 0 m_farBy 49 zf]]) (As := [.int (nI kc)]) (rest := [.int (nI kk)]) C G (c_m_roads5 l T mo m_all m_has i_size i_next i_where i_token i_number i_word i_wrong i_farCrossing m_read i_z0 i_crossings i_inns m_posts m_shut m_here i_steps i_done i_at i_gone m_was m_came m_seenAt m_rowWorth m_farBy m_used i_everywhere i_again0 i_d0 i_never i_firstCame i_longRun i_moved i_crowd i_l0 i_fitMany i_fitLeast i_fitMost m_fitPost m_fitEnd m_keptPosts i_x0 f_all (nI kc) (by first | with_reducible assumption | with_reducible rfl | omega | assumption | rfl | decide) (by first | with_reducible assumption | with_reducible rfl | omega | assumption | rfl | decide) (by first | with_reducible assumption | with_reducible rfl | omega | assumption | rfl | decide)) (kV_RX12_255 C.2.2.2.2 (Nat.le_of_ble_eq_true rfl) (Nat.le_of_ble_eq_true rfl)) [0, 1] [0, 0] rfl rfl (ci := 11) (qc := (RX12, TX12, 43)) rfl rfl (List.mem_flatten.mpr ⟨_, List.mem_of_getElem? (i := 0) rfl, List.mem_cons_self⟩) rfl rfl hl.1 dX12_laysFar_86 (Nat.le_of_ble_eq_true rfl) (Nat.le_of_ble_eq_true rfl) (fun r_13 b1 H locs hw G => ?_)
            refine zAn3 hw ?_
            intro hbs9 h_11 h_12
            clear hw
            subst hbs9
            have G : zS T A s.heap s [[zAr T 0 m_farBy 49 zf], [zO11 mo m_all m_has i_size i_next i_where i_token i_number i_word i_wrong i_farCrossing m_read i_z0 i_crossings i_inns m_posts m_shut m_here i_steps i_done i_at i_gone m_was m_came m_seenAt m_rowWorth m_farBy m_used i_everywhere i_again0 i_d0 i_never i_firstCame i_longRun i_moved i_crowd i_l0 i_fitMany i_fitLeast i_fitMost m_fitPost m_fitEnd m_keptPosts i_x0], [zAr T 0 m_all 3952 f_all]] _ _ := G
            refine lv_icmp_ge (tgt := 127) hx hb dX12_laysFar_89 (by decide) (fun c_14 => ?_) (fun c_14 => ?_)
            · have c_14n : r_13.toInt ≤ (kk : Int) := by have q := (fa_le _ _).mp c_14; rw [nI_toInt (n := kk) (by omega)] at q; exact q
              refine lv_iinc (v := nI (kc + 1)) (lv' := [(5, .int (nI (kc + 1))), (6, .int (nI kk)), (4, .int mo2), (3, .int (nI kn)), (2, .int met), (1, .int (nI ka)), (0, .ref mo)]) hx hb dX12_laysFar_127 hl (k := 1) rfl (z_inc kc 1) (by decide) (zLvf_h rfl) (fun ls hl => ?_)
              refine lv_goto (tgt := 69) hx hb dX12_laysFar_130 (by decide) ?_
              have G := G.sub (bs' := [[zO11 mo m_all m_has i_size i_next i_where i_token i_number i_word i_wrong i_farCrossing m_read i_z0 i_crossings i_inns m_posts m_shut m_here i_steps i_done i_at i_gone m_was m_came m_seenAt m_rowWorth m_farBy m_used i_everywhere i_again0 i_d0 i_never i_firstCame i_longRun i_moved i_crowd i_l0 i_fitMany i_fitLeast i_fitMost m_fitPost m_fitEnd m_keptPosts i_x0], [zAr T 0 m_all 3952 f_all], [zAr T 0 m_farBy 49 zf]]) [1, 2, 0] rfl
              exact ih_69 (kc + 1) mo2 (show (kc + 1) ≤ 7 from by omega) (show 7 - (kc + 1) < 7 - kc from by omega) _ _ ls G (lv_sub hl [0, 2, 3, 4, 5, 6] rfl)
            · have c_14n : ¬ r_13.toInt ≤ (kk : Int) := fun q => c_14 ((fa_le _ _).mpr (by rw [nI_toInt (n := kk) (by omega)]; exact q))
              refine lv_iload hx hb dX12_laysFar_92 (lv_at hl 2 rfl) ?_
              refine lv_iload_n hx hb dX12_laysFar_94 rfl (lv_at hl 4 rfl) ?_
              refine lv_iload hx hb dX12_laysFar_95 (lv_at hl 1 rfl) ?_
              refine lv_ishr hx hb dX12_laysFar_97 ?_
              refine lv_iconst (v := 1) hx hb dX12_laysFar_98 (by decide) ?_
              refine lv_iand hx hb dX12_laysFar_99 ?_
              refine lv_iconst (v := 1) hx hb dX12_laysFar_100 (by decide) ?_
              refine lv_icmp_ne (tgt := 117) hx hb dX12_laysFar_101 (by decide) (fun c_15 => ?_) (fun c_15 => ?_)
              · have c_15n : ¬ ((met >>> ((nI kc) &&& 31)) &&& 1).toInt = (1 : Int) := fun q => c_15 ((fa_eq _ _).mpr q)
                refine lv_iconst (v := 0) hx hb dX12_laysFar_117 (by decide) ?_
                refine lv_ior hx hb dX12_laysFar_118 ?_
                refine lv_istore (lv' := [(4, .int (mo2 ||| 0)), (6, .int (nI kk)), (5, .int (nI kc)), (3, .int (nI kn)), (2, .int met), (1, .int (nI ka)), (0, .ref mo)]) hx hb dX12_laysFar_119 hl (by decide) (zLvf_h rfl) (fun ls hl => ?_)
                refine lv_iinc (v := nI (kk + 1)) (lv' := [(6, .int (nI (kk + 1))), (4, .int (mo2 ||| 0)), (5, .int (nI kc)), (3, .int (nI kn)), (2, .int met), (1, .int (nI ka)), (0, .ref mo)]) hx hb dX12_laysFar_121 hl (k := 1) rfl (z_inc kk 1) (by decide) (zLvf_h rfl) (fun ls hl => ?_)
                refine lv_goto (tgt := 81) hx hb dX12_laysFar_124 (by decide) ?_
                have G := G.sub (bs' := [[zO11 mo m_all m_has i_size i_next i_where i_token i_number i_word i_wrong i_farCrossing m_read i_z0 i_crossings i_inns m_posts m_shut m_here i_steps i_done i_at i_gone m_was m_came m_seenAt m_rowWorth m_farBy m_used i_everywhere i_again0 i_d0 i_never i_firstCame i_longRun i_moved i_crowd i_l0 i_fitMany i_fitLeast i_fitMost m_fitPost m_fitEnd m_keptPosts i_x0], [zAr T 0 m_all 3952 f_all], [zAr T 0 m_farBy 49 zf]]) [1, 2, 0] rfl
                exact ih_81 (kk + 1) (mo2 ||| 0) (show (kk + 1) ≤ 4 from by omega) (show 4 - (kk + 1) < 4 - kk from by omega) _ _ ls G (lv_sub hl [0, 2, 1, 3, 4, 5, 6] rfl)
              · have c_15n : ((met >>> ((nI kc) &&& 31)) &&& 1).toInt = (1 : Int) := (fa_eq _ _).mp c_15
                refine lv_iconst (v := 1) hx hb dX12_laysFar_104 (by decide) ?_
                refine lv_aload_n hx hb dX12_laysFar_105 rfl (lv_at hl 6 rfl) ?_
                refine lv_iload hx hb dX12_laysFar_106 (lv_at hl 1 rfl) ?_
                refine lv_iload hx hb dX12_laysFar_108 (lv_at hl 0 rfl) ?_
                have ti_16 : (nI kc).toInt = ((kc : Nat) : Int) := nI_toInt (by omega)
                have ti_17 : (nI kk).toInt = ((kk : Nat) : Int) := nI_toInt (by omega)
                refine z_Vi (bc := [[zO11 mo m_all m_has i_size i_next i_where i_token i_number i_word i_wrong i_farCrossing m_read i_z0 i_crossings i_inns m_posts m_shut m_here i_steps i_done i_at i_gone m_was m_came m_seenAt m_rowWorth m_farBy m_used i_everywhere i_again0 i_d0 i_never i_firstCame i_longRun i_moved i_crowd i_l0 i_fitMany i_fitLeast i_fitMost m_fitPost m_fitEnd m_keptPosts i_x0], [zAr T 0 m_all 3952 f_all]]) (br := [[zAr T 0 m_farBy 49 zf]]) (As := [.int (nI kc), .int (nI kk)]) (rest := [.int 1, .int mo2]) C G (c_m_leadsTo l T mo m_all m_has i_size i_next i_where i_token i_number i_word i_wrong i_farCrossing m_read i_z0 i_crossings i_inns m_posts m_shut m_here i_steps i_done i_at i_gone m_was m_came m_seenAt m_rowWorth m_farBy m_used i_everywhere i_again0 i_d0 i_never i_firstCame i_longRun i_moved i_crowd i_l0 i_fitMany i_fitLeast i_fitMost m_fitPost m_fitEnd m_keptPosts i_x0 f_all (nI kc) (nI kk) (by first | with_reducible assumption | with_reducible rfl | omega | assumption | rfl | decide) (by first | with_reducible assumption | with_reducible rfl | omega | assumption | rfl | decide) (by first | with_reducible assumption | with_reducible rfl | omega | assumption | rfl | decide) (by first | with_reducible assumption | with_reducible rfl | omega | assumption | rfl | decide) (by first | with_reducible assumption | with_reducible rfl | omega | assumption | rfl | decide)) (kV_RX12_190 C.2.2.2.2 (Nat.le_of_ble_eq_true rfl) (Nat.le_of_ble_eq_true rfl)) [1, 2] [1, 0] rfl rfl (ci := 11) (qc := (RX12, TX12, 43)) rfl rfl (List.mem_flatten.mpr ⟨_, List.mem_of_getElem? (i := 0) rfl, List.mem_cons_self⟩) rfl rfl hl.1 dX12_laysFar_110 (Nat.le_of_ble_eq_true rfl) (Nat.le_of_ble_eq_true rfl) (fun r_21 b1 H locs hw G => ?_)
                refine zAn4 hw ?_
                intro hbs9 h_18 h_19 h_20
                clear hw
                subst hbs9
                have G : zS T A s.heap s [[zAr T 0 m_farBy 49 zf], [zO11 mo m_all m_has i_size i_next i_where i_token i_number i_word i_wrong i_farCrossing m_read i_z0 i_crossings i_inns m_posts m_shut m_here i_steps i_done i_at i_gone m_was m_came m_seenAt m_rowWorth m_farBy m_used i_everywhere i_again0 i_d0 i_never i_firstCame i_longRun i_moved i_crowd i_l0 i_fitMany i_fitLeast i_fitMost m_fitPost m_fitEnd m_keptPosts i_x0], [zAr T 0 m_all 3952 f_all]] _ _ := G
                subst h_18
                refine lv_ishl hx hb dX12_laysFar_113 ?_
                refine lv_goto (tgt := 118) hx hb dX12_laysFar_114 (by decide) ?_
                refine lv_ior hx hb dX12_laysFar_118 ?_
                refine lv_istore (lv' := [(4, .int (mo2 ||| (1 <<< ((zLe f_all i_z0 (nI kc) (nI kk)) &&& 31)))), (6, .int (nI kk)), (5, .int (nI kc)), (3, .int (nI kn)), (2, .int met), (1, .int (nI ka)), (0, .ref mo)]) hx hb dX12_laysFar_119 hl (by decide) (zLvf_h rfl) (fun ls hl => ?_)
                refine lv_iinc (v := nI (kk + 1)) (lv' := [(6, .int (nI (kk + 1))), (4, .int (mo2 ||| (1 <<< ((zLe f_all i_z0 (nI kc) (nI kk)) &&& 31)))), (5, .int (nI kc)), (3, .int (nI kn)), (2, .int met), (1, .int (nI ka)), (0, .ref mo)]) hx hb dX12_laysFar_121 hl (k := 1) rfl (z_inc kk 1) (by decide) (zLvf_h rfl) (fun ls hl => ?_)
                refine lv_goto (tgt := 81) hx hb dX12_laysFar_124 (by decide) ?_
                have G := G.sub (bs' := [[zO11 mo m_all m_has i_size i_next i_where i_token i_number i_word i_wrong i_farCrossing m_read i_z0 i_crossings i_inns m_posts m_shut m_here i_steps i_done i_at i_gone m_was m_came m_seenAt m_rowWorth m_farBy m_used i_everywhere i_again0 i_d0 i_never i_firstCame i_longRun i_moved i_crowd i_l0 i_fitMany i_fitLeast i_fitMost m_fitPost m_fitEnd m_keptPosts i_x0], [zAr T 0 m_all 3952 f_all], [zAr T 0 m_farBy 49 zf]]) [1, 2, 0] rfl
                exact ih_81 (kk + 1) (mo2 ||| (1 <<< ((zLe f_all i_z0 (nI kc) (nI kk)) &&& 31))) (show (kk + 1) ≤ 4 from by omega) (show 4 - (kk + 1) < 4 - kk from by omega) _ _ ls G (lv_sub hl [0, 2, 1, 3, 4, 5, 6] rfl)
    · have c_2n : ¬ 7 ≤ kb := fun q => c_2 ((nI_leI (a := 7) (b := kb) (by omega) (by omega)).mpr q)
      refine lv_aload_n hx hb dX12_laysFar_16 rfl (lv_at hl 2 rfl) ?_
      refine z_get C G clX12 0 rfl 25 (by decide) m_fl_RX12_41 rfl dX12_laysFar_17 ?_
      refine lv_bipush (v := 7) hx hb dX12_laysFar_20 (by decide) ?_
      refine lv_iload_n hx hb dX12_laysFar_22 rfl (lv_at hl 1 rfl) ?_
      refine lv_imul hx hb dX12_laysFar_23 ?_
      refine lv_topi (fun y_22 ey_22 => ?_)
      obtain rfl : y_22 = nI (7 * ka) := ey_22.trans (z_imuln 7 ka rfl rfl)
      refine lv_iload_n hx hb dX12_laysFar_24 rfl (lv_at hl 0 rfl) ?_
      refine lv_iadd hx hb dX12_laysFar_25 ?_
      refine lv_topi (fun y_23 ey_23 => ?_)
      obtain rfl : y_23 = nI ((7 * ka) + kb) := ey_23.trans (z_iaddn (7 * ka) kb rfl rfl)
      refine lv_iload_n hx hb dX12_laysFar_26 rfl (lv_at hl 1 rfl) ?_
      refine lv_iload_n hx hb dX12_laysFar_27 rfl (lv_at hl 0 rfl) ?_
      refine lv_icmp_ne (tgt := 35) hx hb dX12_laysFar_28 (by decide) (fun c_24 => ?_) (fun c_24 => ?_)
      · have c_24n : ¬ ka = kb := fun q => c_24 ((nI_eq (a := ka) (b := kb) (by omega) (by omega)).mpr q)
        refine lv_iconst (v := (-1)) hx hb dX12_laysFar_35 (by decide) ?_
        refine z_ist C G 2 rfl (vp_in_nI (by omega) (by decide)) dX12_laysFar_36 (fun H locs G => ?_)
        rw [nI_clamp (by omega)] at G
        have G : zS T A s.heap s [[zO11 mo m_all m_has i_size i_next i_where i_token i_number i_word i_wrong i_farCrossing m_read i_z0 i_crossings i_inns m_posts m_shut m_here i_steps i_done i_at i_gone m_was m_came m_seenAt m_rowWorth m_farBy m_used i_everywhere i_again0 i_d0 i_never i_firstCame i_longRun i_moved i_crowd i_l0 i_fitMany i_fitLeast i_fitMost m_fitPost m_fitEnd m_keptPosts i_x0], [zAr T 0 m_all 3952 f_all], [zAr T 0 m_farBy 49 (upd yf ((7 * ka) + kb) (-1))]] _ _ := G
        refine lv_iinc (v := nI (kb + 1)) (lv' := [(2, .int (nI (kb + 1))), (1, .int (nI ka)), (0, .ref mo)]) hx hb dX12_laysFar_37 hl (k := 0) rfl (z_inc kb 1) (by decide) (zLvf_h rfl) (fun ls hl => ?_)
        refine lv_goto (tgt := 10) hx hb dX12_laysFar_40 (by decide) ?_
        exact ih_10 (kb + 1) (upd yf ((7 * ka) + kb) (-1)) (show (kb + 1) ≤ 7 from by omega) (show 7 - (kb + 1) < 7 - kb from by omega) _ _ ls G (lv_sub hl [0, 1, 2] rfl)
      · have c_24n : ka = kb := (nI_eq (a := ka) (b := kb) (by omega) (by omega)).mp c_24
        refine lv_iconst (v := 0) hx hb dX12_laysFar_31 (by decide) ?_
        refine lv_goto (tgt := 36) hx hb dX12_laysFar_32 (by decide) ?_
        refine z_ist C G 2 rfl (vp_in_nI (by omega) (by decide)) dX12_laysFar_36 (fun H locs G => ?_)
        rw [nI_clamp (by omega)] at G
        have G : zS T A s.heap s [[zO11 mo m_all m_has i_size i_next i_where i_token i_number i_word i_wrong i_farCrossing m_read i_z0 i_crossings i_inns m_posts m_shut m_here i_steps i_done i_at i_gone m_was m_came m_seenAt m_rowWorth m_farBy m_used i_everywhere i_again0 i_d0 i_never i_firstCame i_longRun i_moved i_crowd i_l0 i_fitMany i_fitLeast i_fitMost m_fitPost m_fitEnd m_keptPosts i_x0], [zAr T 0 m_all 3952 f_all], [zAr T 0 m_farBy 49 (upd yf ((7 * ka) + kb) 0)]] _ _ := G
        refine lv_iinc (v := nI (kb + 1)) (lv' := [(2, .int (nI (kb + 1))), (1, .int (nI ka)), (0, .ref mo)]) hx hb dX12_laysFar_37 hl (k := 0) rfl (z_inc kb 1) (by decide) (zLvf_h rfl) (fun ls hl => ?_)
        refine lv_goto (tgt := 10) hx hb dX12_laysFar_40 (by decide) ?_
        exact ih_10 (kb + 1) (upd yf ((7 * ka) + kb) 0) (show (kb + 1) ≤ 7 from by omega) (show 7 - (kb + 1) < 7 - kb from by omega) _ _ ls G (lv_sub hl [0, 1, 2] rfl)
set_option maxHeartbeats 4000000 in
set_option maxRecDepth 100000 in
/-- c_m_reachOf -/
theorem c_m_reachOf (l : Launch) (T : zTy) (mo : Nat) (m_all : Nat) (m_has : Nat) (i_size : Int32) (i_next : Int32) (i_where : Int32) (i_token : Int32) (i_number : Int32) (i_word : Int32) (i_wrong : Int32) (i_farCrossing : Int32) (m_read : Nat) (i_z0 : Int32) (i_crossings : Int32) (i_inns : Int32) (m_posts : Nat) (m_shut : Nat) (m_here : Nat) (i_steps : Int32) (i_done : Int32) (i_at : Int32) (i_gone : Int32) (m_was : Nat) (m_came : Nat) (m_seenAt : Nat) (m_rowWorth : Nat) (m_farBy : Nat) (m_used : Nat) (i_everywhere : Int32) (i_again0 : Int32) (i_d0 : Int32) (i_never : Int32) (i_firstCame : Int32) (i_longRun : Int32) (i_moved : Int32) (i_crowd : Int32) (i_l0 : Int32) (i_fitMany : Int32) (i_fitLeast : Int32) (i_fitMost : Int32) (m_fitPost : Nat) (m_fitEnd : Nat) (m_keptPosts : Nat) (i_x0 : Int32) (f_farBy : Nat → Int32) (a_ : Int32) (hcr : 0 ≤ i_crossings.toInt ∧ i_crossings.toInt ≤ 7) (ha0 : 0 ≤ a_.toInt) (ha6 : a_.toInt ≤ 6) : zMi l T yX12_reachOf cX12_reachOf 4 (some .int) 1 0 0 [.ref mo, .int a_] [[zO11 mo m_all m_has i_size i_next i_where i_token i_number i_word i_wrong i_farCrossing m_read i_z0 i_crossings i_inns m_posts m_shut m_here i_steps i_done i_at i_gone m_was m_came m_seenAt m_rowWorth m_farBy m_used i_everywhere i_again0 i_d0 i_never i_firstCame i_longRun i_moved i_crowd i_l0 i_fitMany i_fitLeast i_fitMost m_fitPost m_fitEnd m_keptPosts i_x0], [zAr T 0 m_farBy 49 f_farBy]] (fun (r : Int32) bs => bs = [[zO11 mo m_all m_has i_size i_next i_where i_token i_number i_word i_wrong i_farCrossing m_read i_z0 i_crossings i_inns m_posts m_shut m_here i_steps i_done i_at i_gone m_was m_came m_seenAt m_rowWorth m_farBy m_used i_everywhere i_again0 i_d0 i_never i_firstCame i_longRun i_moved i_crowd i_l0 i_fitMany i_fitLeast i_fitMost m_fitPost m_fitEnd m_keptPosts i_x0], [zAr T 0 m_farBy 49 f_farBy]]) := by
  refine zMi_of (own := RX12) (by decide) rfl (Nat.le_of_ble_eq_true rfl) ?_
  intro p e s m args below meth c A ls C hr hlocks hnm hAe G hl
  refine zHide (fun Qz_ hQz_ => ?_)
  have hx := C.1
  have hb := C.2.1
  have hl : lv_has ls 4 [(0, .ref mo), (1, .int a_)] := hl
  refine lv_iconst (v := 0) hx hb dX12_reachOf_0 (by decide) ?_
  refine lv_istore_n (lv' := [(2, .int 0), (0, .ref mo), (1, .int a_)]) hx hb dX12_reachOf_1 rfl hl (by decide) (zLvf_h rfl) (fun ls hl => ?_)
  refine lv_iconst (v := 0) hx hb dX12_reachOf_2 (by decide) ?_
  refine lv_istore_n (lv' := [(3, .int 0), (2, .int 0), (0, .ref mo), (1, .int a_)]) hx hb dX12_reachOf_3 rfl hl (by decide) (zLvf_h rfl) (fun ls hl => ?_)
  refine z_lp2 (T := T) 4 (fun (i : Nat) (u : Int32) => [[zO11 mo m_all m_has i_size i_next i_where i_token i_number i_word i_wrong i_farCrossing m_read i_z0 i_crossings i_inns m_posts m_shut m_here i_steps i_done i_at i_gone m_was m_came m_seenAt m_rowWorth m_farBy m_used i_everywhere i_again0 i_d0 i_never i_firstCame i_longRun i_moved i_crowd i_l0 i_fitMany i_fitLeast i_fitMost m_fitPost m_fitEnd m_keptPosts i_x0], [zAr T 0 m_farBy 49 f_farBy]]) (fun (i : Nat) (u : Int32) => [(3, .int (nI i)), (2, .int u), (0, .ref mo), (1, .int a_)]) (fun (i : Nat) (u : Int32) => i ≤ 7) (fun (i : Nat) (u : Int32) => 7 - i) ?_ 0 0 (show 0 ≤ 7 from by omega) G (lv_sub hl [0, 1, 2, 3] rfl)
  intro i u hi ih_4 H locs ls G hl
  replace hi : i ≤ 7 := hi
  replace G : zS T A s.heap s [[zO11 mo m_all m_has i_size i_next i_where i_token i_number i_word i_wrong i_farCrossing m_read i_z0 i_crossings i_inns m_posts m_shut m_here i_steps i_done i_at i_gone m_was m_came m_seenAt m_rowWorth m_farBy m_used i_everywhere i_again0 i_d0 i_never i_firstCame i_longRun i_moved i_crowd i_l0 i_fitMany i_fitLeast i_fitMost m_fitPost m_fitEnd m_keptPosts i_x0], [zAr T 0 m_farBy 49 f_farBy]] _ _ := G
  replace hl : lv_has ls 4 [(3, .int (nI i)), (2, .int u), (0, .ref mo), (1, .int a_)] := hl
  refine lv_iload_n hx hb dX12_reachOf_4 rfl (lv_at hl 0 rfl) ?_
  refine lv_aload_n hx hb dX12_reachOf_5 rfl (lv_at hl 2 rfl) ?_
  refine z_get C G clX12 0 rfl 12 (by decide) m_fl_RX12_169 rfl dX12_reachOf_6 ?_
  refine lv_icmp_ge (tgt := 43) hx hb dX12_reachOf_9 (by decide) (fun c_1 => ?_) (fun c_1 => ?_)
  · have c_1n : i_crossings.toInt ≤ (i : Int) := by have q := (fa_le _ _).mp c_1; rw [nI_toInt (n := i) (by omega)] at q; exact q
    refine lv_iload_n hx hb dX12_reachOf_43 rfl (lv_at hl 1 rfl) ?_
    exact z_back hQz_ (z_iret C hr hlocks G (Nat.le_of_ble_eq_true rfl) (Nat.le_of_ble_eq_true rfl) dX12_reachOf_44 rfl)
  · have c_1n : ¬ i_crossings.toInt ≤ (i : Int) := fun q => c_1 ((fa_le _ _).mpr (by rw [nI_toInt (n := i) (by omega)]; exact q))
    refine lv_iload_n hx hb dX12_reachOf_12 rfl (lv_at hl 1 rfl) ?_
    refine lv_aload_n hx hb dX12_reachOf_13 rfl (lv_at hl 2 rfl) ?_
    refine z_get C G clX12 0 rfl 25 (by decide) m_fl_RX12_41 rfl dX12_reachOf_14 ?_
    refine lv_bipush (v := 7) hx hb dX12_reachOf_17 (by decide) ?_
    refine lv_iload_n hx hb dX12_reachOf_19 rfl (lv_at hl 3 rfl) ?_
    refine lv_imul hx hb dX12_reachOf_20 ?_
    refine lv_topi (fun y_2 ey_2 => ?_)
    have ey_2i : y_2.toInt = (7 : Int) * a_.toInt := by rw [ey_2]; exact z_imulI (x := (7 : Int32)) (y := a_) (by show -2147483648 ≤ (7 : Int) * a_.toInt; omega) (by show (7 : Int) * a_.toInt < 2147483648; omega)
    refine lv_iload_n hx hb dX12_reachOf_21 rfl (lv_at hl 0 rfl) ?_
    refine lv_iadd hx hb dX12_reachOf_22 ?_
    refine lv_topi (fun y_3 ey_3 => ?_)
    have ey_3i : y_3.toInt = y_2.toInt + (i : Int) := by rw [ey_3]; exact (z_iaddI (x := y_2) (y := (nI i)) (by rw [nI_toInt (n := i) (by omega)]; show -2147483648 ≤ y_2.toInt + (i : Int); omega) (by rw [nI_toInt (n := i) (by omega)]; show y_2.toInt + (i : Int) < 2147483648; omega)).trans (by rw [nI_toInt (n := i) (by omega)] <;> rfl)
    refine z_ild C G 1 rfl (vp_in_iff.mpr ⟨by omega, by omega⟩) dX12_reachOf_23 ?_
    refine lv_topi (fun v_4 ev_4 => ?_)
    subst ev_4
    refine lv_iconst (v := (-1)) hx hb dX12_reachOf_24 (by decide) ?_
    refine lv_icmp_ne (tgt := 32) hx hb dX12_reachOf_25 (by decide) (fun c_5 => ?_) (fun c_5 => ?_)
    · have c_5n : ¬ (f_farBy y_3.toNatClampNeg).toInt = (-1 : Int) := fun q => c_5 ((fa_eq _ _).mpr q)
      refine lv_iconst (v := 1) hx hb dX12_reachOf_32 (by decide) ?_
      refine lv_iload_n hx hb dX12_reachOf_33 rfl (lv_at hl 0 rfl) ?_
      refine lv_ishl hx hb dX12_reachOf_34 ?_
      refine lv_ior hx hb dX12_reachOf_35 ?_
      refine lv_istore_n (lv' := [(2, .int (u ||| (1 <<< ((nI i) &&& 31)))), (3, .int (nI i)), (0, .ref mo), (1, .int a_)]) hx hb dX12_reachOf_36 rfl hl (by decide) (zLvf_h rfl) (fun ls hl => ?_)
      refine lv_iinc (v := nI (i + 1)) (lv' := [(3, .int (nI (i + 1))), (2, .int (u ||| (1 <<< ((nI i) &&& 31)))), (0, .ref mo), (1, .int a_)]) hx hb dX12_reachOf_37 hl (k := 1) rfl (z_inc i 1) (by decide) (zLvf_h rfl) (fun ls hl => ?_)
      refine lv_goto (tgt := 4) hx hb dX12_reachOf_40 (by decide) ?_
      exact ih_4 (i + 1) (u ||| (1 <<< ((nI i) &&& 31))) (show (i + 1) ≤ 7 from by omega) (show 7 - (i + 1) < 7 - i from by omega) _ _ ls G (lv_sub hl [0, 1, 2, 3] rfl)
    · have c_5n : (f_farBy y_3.toNatClampNeg).toInt = (-1 : Int) := (fa_eq _ _).mp c_5
      refine lv_iconst (v := 0) hx hb dX12_reachOf_28 (by decide) ?_
      refine lv_goto (tgt := 35) hx hb dX12_reachOf_29 (by decide) ?_
      refine lv_ior hx hb dX12_reachOf_35 ?_
      refine lv_istore_n (lv' := [(2, .int (u ||| 0)), (3, .int (nI i)), (0, .ref mo), (1, .int a_)]) hx hb dX12_reachOf_36 rfl hl (by decide) (zLvf_h rfl) (fun ls hl => ?_)
      refine lv_iinc (v := nI (i + 1)) (lv' := [(3, .int (nI (i + 1))), (2, .int (u ||| 0)), (0, .ref mo), (1, .int a_)]) hx hb dX12_reachOf_37 hl (k := 1) rfl (z_inc i 1) (by decide) (zLvf_h rfl) (fun ls hl => ?_)
      refine lv_goto (tgt := 4) hx hb dX12_reachOf_40 (by decide) ?_
      exact ih_4 (i + 1) (u ||| 0) (show (i + 1) ≤ 7 from by omega) (show 7 - (i + 1) < 7 - i from by omega) _ _ ls G (lv_sub hl [0, 1, 2, 3] rfl)
set_option maxHeartbeats 4000000 in
set_option maxRecDepth 100000 in
/-- c_m_far -/
theorem c_m_far (l : Launch) (T : zTy) (mo : Nat) (m_all : Nat) (m_has : Nat) (i_size : Int32) (i_next : Int32) (i_where : Int32) (i_token : Int32) (i_number : Int32) (i_word : Int32) (i_wrong : Int32) (i_farCrossing : Int32) (m_read : Nat) (i_z0 : Int32) (i_crossings : Int32) (i_inns : Int32) (m_posts : Nat) (m_shut : Nat) (m_here : Nat) (i_steps : Int32) (i_done : Int32) (i_at : Int32) (i_gone : Int32) (m_was : Nat) (m_came : Nat) (m_seenAt : Nat) (m_rowWorth : Nat) (m_farBy : Nat) (m_used : Nat) (i_everywhere : Int32) (i_again0 : Int32) (i_d0 : Int32) (i_never : Int32) (i_firstCame : Int32) (i_longRun : Int32) (i_moved : Int32) (i_crowd : Int32) (i_l0 : Int32) (i_fitMany : Int32) (i_fitLeast : Int32) (i_fitMost : Int32) (m_fitPost : Nat) (m_fitEnd : Nat) (m_keptPosts : Nat) (i_x0 : Int32) (f_all : Nat → Int32) (f_posts : Nat → Int32) (f_shut : Nat → Int32) (f_here : Nat → Int32) (f_farBy : Nat → Int32) (l_ : Int32) (a_ : Int32) (b_ : Int32) (hB : zBI f_all) : zMi l T yX12_far cX12_far 4 (some .int) 5 0 0 [.ref mo, .int l_, .int a_, .int b_] [[zO11 mo m_all m_has i_size i_next i_where i_token i_number i_word i_wrong i_farCrossing m_read i_z0 i_crossings i_inns m_posts m_shut m_here i_steps i_done i_at i_gone m_was m_came m_seenAt m_rowWorth m_farBy m_used i_everywhere i_again0 i_d0 i_never i_firstCame i_longRun i_moved i_crowd i_l0 i_fitMany i_fitLeast i_fitMost m_fitPost m_fitEnd m_keptPosts i_x0], [zAr T 0 m_all 3952 f_all], [zAr T 0 m_posts 7 f_posts], [zAr T 0 m_shut 7 f_shut], [zAr T 0 m_here 7 f_here], [zAr T 0 m_farBy 49 f_farBy]] (fun (r : Int32) bs => ∃ (j_z0 : Int32) (j_crossings : Int32) (j_inns : Int32) (j_steps : Int32) (j_done : Int32) (g_posts : Nat → Int32) (g_shut : Nat → Int32) (g_here : Nat → Int32) (g_farBy : Nat → Int32), bs = [[zO11 mo m_all m_has i_size i_next i_where i_token i_number i_word i_wrong i_farCrossing m_read j_z0 j_crossings j_inns m_posts m_shut m_here j_steps j_done i_at i_gone m_was m_came m_seenAt m_rowWorth m_farBy m_used i_everywhere i_again0 i_d0 i_never i_firstCame i_longRun i_moved i_crowd i_l0 i_fitMany i_fitLeast i_fitMost m_fitPost m_fitEnd m_keptPosts i_x0], [zAr T 0 m_all 3952 f_all], [zAr T 0 m_posts 7 g_posts], [zAr T 0 m_shut 7 g_shut], [zAr T 0 m_here 7 g_here], [zAr T 0 m_farBy 49 g_farBy]]) := by
  refine zMi_of (own := RX12) (by decide) rfl (Nat.le_of_ble_eq_true rfl) ?_
  intro p e s m args below meth c A ls C hr hlocks hnm hAe G hl
  refine zHide (fun Qz_ hQz_ => ?_)
  have hx := C.1
  have hb := C.2.1
  have hl : lv_has ls 4 [(0, .ref mo), (1, .int l_), (2, .int a_), (3, .int b_)] := hl
  refine lv_aload_n hx hb dX12_far_0 rfl (lv_at hl 0 rfl) ?_
  refine lv_iload_n hx hb dX12_far_1 rfl (lv_at hl 1 rfl) ?_
  refine z_Vi (bc := [[zO11 mo m_all m_has i_size i_next i_where i_token i_number i_word i_wrong i_farCrossing m_read i_z0 i_crossings i_inns m_posts m_shut m_here i_steps i_done i_at i_gone m_was m_came m_seenAt m_rowWorth m_farBy m_used i_everywhere i_again0 i_d0 i_never i_firstCame i_longRun i_moved i_crowd i_l0 i_fitMany i_fitLeast i_fitMost m_fitPost m_fitEnd m_keptPosts i_x0], [zAr T 0 m_all 3952 f_all], [zAr T 0 m_posts 7 f_posts], [zAr T 0 m_shut 7 f_shut], [zAr T 0 m_here 7 f_here]]) (br := [[zAr T 0 m_farBy 49 f_farBy]]) (As := [.int l_]) (rest := []) C G (c_m_isLand l T mo m_all m_has i_size i_next i_where i_token i_number i_word i_wrong i_farCrossing m_read i_z0 i_crossings i_inns m_posts m_shut m_here i_steps i_done i_at i_gone m_was m_came m_seenAt m_rowWorth m_farBy m_used i_everywhere i_again0 i_d0 i_never i_firstCame i_longRun i_moved i_crowd i_l0 i_fitMany i_fitLeast i_fitMost m_fitPost m_fitEnd m_keptPosts i_x0 f_all f_posts f_shut f_here l_ (by first | with_reducible assumption | with_reducible rfl | omega | assumption | rfl | decide)) (kV_RX12_184 C.2.2.2.2 (Nat.le_of_ble_eq_true rfl) (Nat.le_of_ble_eq_true rfl)) [0, 1, 2, 3, 4] [0, 0, 0, 0, 0] rfl rfl (ci := 11) (qc := (RX12, TX12, 43)) rfl rfl (List.mem_flatten.mpr ⟨_, List.mem_of_getElem? (i := 0) rfl, List.mem_cons_self⟩) rfl rfl hl.1 dX12_far_2 (Nat.le_of_ble_eq_true rfl) (Nat.le_of_ble_eq_true rfl) (fun r_10 b1 H locs hw G => ?_)
  refine zEx8 hw ?_
  intro j_z0_1 j_crossings_2 j_inns_3 j_steps_4 j_done_5 g_posts_6 g_shut_7 g_here_8
  refine zCu2 ?_
  intro hbs9 hc_9
  clear hw
  subst hbs9
  have G : zS T A s.heap s [[zAr T 0 m_farBy 49 f_farBy], [zO11 mo m_all m_has i_size i_next i_where i_token i_number i_word i_wrong i_farCrossing m_read j_z0_1 j_crossings_2 j_inns_3 m_posts m_shut m_here j_steps_4 j_done_5 i_at i_gone m_was m_came m_seenAt m_rowWorth m_farBy m_used i_everywhere i_again0 i_d0 i_never i_firstCame i_longRun i_moved i_crowd i_l0 i_fitMany i_fitLeast i_fitMost m_fitPost m_fitEnd m_keptPosts i_x0], [zAr T 0 m_all 3952 f_all], [zAr T 0 m_posts 7 g_posts_6], [zAr T 0 m_shut 7 g_shut_7], [zAr T 0 m_here 7 g_here_8]] _ _ := G
  rcases hc_9 with ⟨rfl, h_11, h_12, h_13, h_14, h_15, h_16, h_17, h_18, h_19, h_20, h_21, h_22⟩ | ⟨rfl, h_23⟩
  · have h_11 : 0 ≤ l_.toInt := h_11
    have h_12 : l_.toInt ≤ 1 := h_12
    have h_13 : l_.toInt < (f_all 0).toInt := h_13
    have h_14 : j_z0_1.toInt = 610 + 51 * l_.toInt := h_14
    have h_15 : zML f_all j_z0_1 j_crossings_2 := h_15
    have h_16 : zMP g_posts_6 := h_16
    have h_17 : j_inns_3 = f_all (j_z0_1.toInt.toNat + 1) := h_17
    have h_18 : j_steps_4 = 0 := h_18
    have h_19 : j_done_5 = 0 := h_19
    have h_20 : (∀ j, j < 7 → g_posts_6 j = zPt f_all j_z0_1 (nI j)) := h_20
    have h_21 : (∀ j, j < 7 → g_shut_7 j = 0) := h_21
    have h_22 : (∀ j, j < 7 → g_here_8 j = zWk f_all j_z0_1 j) := h_22
    have hLx := h_15
    have hcr := hLx.cr
    have hzx := hLx.1
    have hPx := h_16
    refine lv_if_eq (tgt := 24) hx hb dX12_far_5 (by decide) (fun q => absurd q (by decide)) (fun _ => ?_)
    refine lv_aload_n hx hb dX12_far_8 rfl (lv_at hl 0 rfl) ?_
    refine lv_iload_n hx hb dX12_far_9 rfl (lv_at hl 2 rfl) ?_
    refine z_Vi (bc := [[zO11 mo m_all m_has i_size i_next i_where i_token i_number i_word i_wrong i_farCrossing m_read j_z0_1 j_crossings_2 j_inns_3 m_posts m_shut m_here j_steps_4 j_done_5 i_at i_gone m_was m_came m_seenAt m_rowWorth m_farBy m_used i_everywhere i_again0 i_d0 i_never i_firstCame i_longRun i_moved i_crowd i_l0 i_fitMany i_fitLeast i_fitMost m_fitPost m_fitEnd m_keptPosts i_x0]]) (br := [[zAr T 0 m_farBy 49 f_farBy], [zAr T 0 m_all 3952 f_all], [zAr T 0 m_posts 7 g_posts_6], [zAr T 0 m_shut 7 g_shut_7], [zAr T 0 m_here 7 g_here_8]]) (As := [.int a_]) (rest := []) C G (c_m_isCrossing l T mo m_all m_has i_size i_next i_where i_token i_number i_word i_wrong i_farCrossing m_read j_z0_1 j_crossings_2 j_inns_3 m_posts m_shut m_here j_steps_4 j_done_5 i_at i_gone m_was m_came m_seenAt m_rowWorth m_farBy m_used i_everywhere i_again0 i_d0 i_never i_firstCame i_longRun i_moved i_crowd i_l0 i_fitMany i_fitLeast i_fitMost m_fitPost m_fitEnd m_keptPosts i_x0 a_ (by first | with_reducible assumption | with_reducible rfl | omega | assumption | rfl | decide)) (kV_RX12_187 C.2.2.2.2 (Nat.le_of_ble_eq_true rfl) (Nat.le_of_ble_eq_true rfl)) [1] [1] rfl rfl (ci := 11) (qc := (RX12, TX12, 43)) rfl rfl (List.mem_flatten.mpr ⟨_, List.mem_of_getElem? (i := 0) rfl, List.mem_cons_self⟩) rfl rfl hl.1 dX12_far_10 (Nat.le_of_ble_eq_true rfl) (Nat.le_of_ble_eq_true rfl) (fun r_25 b1 H locs hw G => ?_)
    refine zAn2 hw ?_
    intro hbs9 hc_24
    clear hw
    subst hbs9
    have G : zS T A s.heap s [[zAr T 0 m_farBy 49 f_farBy], [zAr T 0 m_all 3952 f_all], [zAr T 0 m_posts 7 g_posts_6], [zAr T 0 m_shut 7 g_shut_7], [zAr T 0 m_here 7 g_here_8], [zO11 mo m_all m_has i_size i_next i_where i_token i_number i_word i_wrong i_farCrossing m_read j_z0_1 j_crossings_2 j_inns_3 m_posts m_shut m_here j_steps_4 j_done_5 i_at i_gone m_was m_came m_seenAt m_rowWorth m_farBy m_used i_everywhere i_again0 i_d0 i_never i_firstCame i_longRun i_moved i_crowd i_l0 i_fitMany i_fitLeast i_fitMost m_fitPost m_fitEnd m_keptPosts i_x0]] _ _ := G
    rcases hc_24 with ⟨rfl, h_26, h_27⟩ | ⟨rfl, h_28⟩
    · have h_26 : 0 ≤ a_.toInt := h_26
      have h_27 : a_.toInt < j_crossings_2.toInt := h_27
      refine lv_if_eq (tgt := 24) hx hb dX12_far_13 (by decide) (fun q => absurd q (by decide)) (fun _ => ?_)
      refine lv_aload_n hx hb dX12_far_16 rfl (lv_at hl 0 rfl) ?_
      refine lv_iload_n hx hb dX12_far_17 rfl (lv_at hl 3 rfl) ?_
      refine z_Vi (bc := [[zO11 mo m_all m_has i_size i_next i_where i_token i_number i_word i_wrong i_farCrossing m_read j_z0_1 j_crossings_2 j_inns_3 m_posts m_shut m_here j_steps_4 j_done_5 i_at i_gone m_was m_came m_seenAt m_rowWorth m_farBy m_used i_everywhere i_again0 i_d0 i_never i_firstCame i_longRun i_moved i_crowd i_l0 i_fitMany i_fitLeast i_fitMost m_fitPost m_fitEnd m_keptPosts i_x0]]) (br := [[zAr T 0 m_farBy 49 f_farBy], [zAr T 0 m_all 3952 f_all], [zAr T 0 m_posts 7 g_posts_6], [zAr T 0 m_shut 7 g_shut_7], [zAr T 0 m_here 7 g_here_8]]) (As := [.int b_]) (rest := []) C G (c_m_isCrossing l T mo m_all m_has i_size i_next i_where i_token i_number i_word i_wrong i_farCrossing m_read j_z0_1 j_crossings_2 j_inns_3 m_posts m_shut m_here j_steps_4 j_done_5 i_at i_gone m_was m_came m_seenAt m_rowWorth m_farBy m_used i_everywhere i_again0 i_d0 i_never i_firstCame i_longRun i_moved i_crowd i_l0 i_fitMany i_fitLeast i_fitMost m_fitPost m_fitEnd m_keptPosts i_x0 b_ (by first | with_reducible assumption | with_reducible rfl | omega | assumption | rfl | decide)) (kV_RX12_187 C.2.2.2.2 (Nat.le_of_ble_eq_true rfl) (Nat.le_of_ble_eq_true rfl)) [5] [5] rfl rfl (ci := 11) (qc := (RX12, TX12, 43)) rfl rfl (List.mem_flatten.mpr ⟨_, List.mem_of_getElem? (i := 0) rfl, List.mem_cons_self⟩) rfl rfl hl.1 dX12_far_18 (Nat.le_of_ble_eq_true rfl) (Nat.le_of_ble_eq_true rfl) (fun r_30 b1 H locs hw G => ?_)
      refine zAn2 hw ?_
      intro hbs9 hc_29
      clear hw
      subst hbs9
      have G : zS T A s.heap s [[zAr T 0 m_farBy 49 f_farBy], [zAr T 0 m_all 3952 f_all], [zAr T 0 m_posts 7 g_posts_6], [zAr T 0 m_shut 7 g_shut_7], [zAr T 0 m_here 7 g_here_8], [zO11 mo m_all m_has i_size i_next i_where i_token i_number i_word i_wrong i_farCrossing m_read j_z0_1 j_crossings_2 j_inns_3 m_posts m_shut m_here j_steps_4 j_done_5 i_at i_gone m_was m_came m_seenAt m_rowWorth m_farBy m_used i_everywhere i_again0 i_d0 i_never i_firstCame i_longRun i_moved i_crowd i_l0 i_fitMany i_fitLeast i_fitMost m_fitPost m_fitEnd m_keptPosts i_x0]] _ _ := G
      rcases hc_29 with ⟨rfl, h_31, h_32⟩ | ⟨rfl, h_33⟩
      · have h_31 : 0 ≤ b_.toInt := h_31
        have h_32 : b_.toInt < j_crossings_2.toInt := h_32
        refine lv_if_ne (tgt := 26) hx hb dX12_far_21 (by decide) (fun _ => ?_) (fun q => absurd q (by decide))
        refine lv_aload_n hx hb dX12_far_26 rfl (lv_at hl 0 rfl) ?_
        refine z_Vv (bc := [[zO11 mo m_all m_has i_size i_next i_where i_token i_number i_word i_wrong i_farCrossing m_read j_z0_1 j_crossings_2 j_inns_3 m_posts m_shut m_here j_steps_4 j_done_5 i_at i_gone m_was m_came m_seenAt m_rowWorth m_farBy m_used i_everywhere i_again0 i_d0 i_never i_firstCame i_longRun i_moved i_crowd i_l0 i_fitMany i_fitLeast i_fitMost m_fitPost m_fitEnd m_keptPosts i_x0], [zAr T 0 m_all 3952 f_all], [zAr T 0 m_farBy 49 f_farBy]]) (br := [[zAr T 0 m_posts 7 g_posts_6], [zAr T 0 m_shut 7 g_shut_7], [zAr T 0 m_here 7 g_here_8]]) (As := []) (rest := []) C G (c_m_laysFar l T mo m_all m_has i_size i_next i_where i_token i_number i_word i_wrong i_farCrossing m_read j_z0_1 j_crossings_2 j_inns_3 m_posts m_shut m_here j_steps_4 j_done_5 i_at i_gone m_was m_came m_seenAt m_rowWorth m_farBy m_used i_everywhere i_again0 i_d0 i_never i_firstCame i_longRun i_moved i_crowd i_l0 i_fitMany i_fitLeast i_fitMost m_fitPost m_fitEnd m_keptPosts i_x0 f_all f_farBy (by first | with_reducible assumption | with_reducible rfl | omega | assumption | rfl | decide)) (kV_RX12_258 C.2.2.2.2 (Nat.le_of_ble_eq_true rfl) (Nat.le_of_ble_eq_true rfl)) [5, 1, 0] [0, 0, 3] rfl rfl (ci := 11) (qc := (RX12, TX12, 43)) rfl rfl (List.mem_flatten.mpr ⟨_, List.mem_of_getElem? (i := 0) rfl, List.mem_cons_self⟩) rfl rfl hl.1 dX12_far_27 (Nat.le_of_ble_eq_true rfl) (Nat.le_of_ble_eq_true rfl) (fun b1 H locs hw G => ?_)
        refine zEx1 hw ?_
        intro g_farBy_34 hbs9
        clear hw
        subst hbs9
        have G : zS T A s.heap s [[zAr T 0 m_posts 7 g_posts_6], [zAr T 0 m_shut 7 g_shut_7], [zAr T 0 m_here 7 g_here_8], [zO11 mo m_all m_has i_size i_next i_where i_token i_number i_word i_wrong i_farCrossing m_read j_z0_1 j_crossings_2 j_inns_3 m_posts m_shut m_here j_steps_4 j_done_5 i_at i_gone m_was m_came m_seenAt m_rowWorth m_farBy m_used i_everywhere i_again0 i_d0 i_never i_firstCame i_longRun i_moved i_crowd i_l0 i_fitMany i_fitLeast i_fitMost m_fitPost m_fitEnd m_keptPosts i_x0], [zAr T 0 m_all 3952 f_all], [zAr T 0 m_farBy 49 g_farBy_34]] _ _ := G
        refine lv_aload_n hx hb dX12_far_30 rfl (lv_at hl 0 rfl) ?_
        refine z_get C G clX12 3 rfl 25 (by decide) m_fl_RX12_41 rfl dX12_far_31 ?_
        refine lv_bipush (v := 7) hx hb dX12_far_34 (by decide) ?_
        refine lv_iload_n hx hb dX12_far_36 rfl (lv_at hl 2 rfl) ?_
        refine lv_imul hx hb dX12_far_37 ?_
        refine lv_topi (fun y_36 ey_36 => ?_)
        have ey_36i : y_36.toInt = (7 : Int) * a_.toInt := by rw [ey_36]; exact z_imulI (x := (7 : Int32)) (y := a_) (by show -2147483648 ≤ (7 : Int) * a_.toInt; omega) (by show (7 : Int) * a_.toInt < 2147483648; omega)
        refine lv_iload_n hx hb dX12_far_38 rfl (lv_at hl 3 rfl) ?_
        refine lv_iadd hx hb dX12_far_39 ?_
        refine lv_topi (fun y_37 ey_37 => ?_)
        have ey_37i : y_37.toInt = y_36.toInt + b_.toInt := by rw [ey_37]; exact z_iaddI (x := y_36) (y := b_) (by show -2147483648 ≤ y_36.toInt + b_.toInt; omega) (by show y_36.toInt + b_.toInt < 2147483648; omega)
        refine z_ild C G 5 rfl (vp_in_iff.mpr ⟨by omega, by omega⟩) dX12_far_40 ?_
        refine lv_topi (fun v_38 ev_38 => ?_)
        subst ev_38
        have G := G.sub (bs' := [[zO11 mo m_all m_has i_size i_next i_where i_token i_number i_word i_wrong i_farCrossing m_read j_z0_1 j_crossings_2 j_inns_3 m_posts m_shut m_here j_steps_4 j_done_5 i_at i_gone m_was m_came m_seenAt m_rowWorth m_farBy m_used i_everywhere i_again0 i_d0 i_never i_firstCame i_longRun i_moved i_crowd i_l0 i_fitMany i_fitLeast i_fitMost m_fitPost m_fitEnd m_keptPosts i_x0], [zAr T 0 m_all 3952 f_all], [zAr T 0 m_posts 7 g_posts_6], [zAr T 0 m_shut 7 g_shut_7], [zAr T 0 m_here 7 g_here_8], [zAr T 0 m_farBy 49 g_farBy_34]]) [3, 4, 0, 1, 2, 5] rfl
        exact z_back hQz_ (z_iret C hr hlocks G (Nat.le_of_ble_eq_true rfl) (Nat.le_of_ble_eq_true rfl) dX12_far_41 ⟨j_z0_1, j_crossings_2, j_inns_3, j_steps_4, j_done_5, g_posts_6, g_shut_7, g_here_8, g_farBy_34, rfl⟩)
      · have h_33 : (b_.toInt < 0 ∨ j_crossings_2.toInt ≤ b_.toInt) := h_33
        refine lv_if_ne (tgt := 26) hx hb dX12_far_21 (by decide) (fun q => absurd (by decide) q) (fun _ => ?_)
        refine lv_iconst (v := (-1)) hx hb dX12_far_24 (by decide) ?_
        have G := G.sub (bs' := [[zO11 mo m_all m_has i_size i_next i_where i_token i_number i_word i_wrong i_farCrossing m_read j_z0_1 j_crossings_2 j_inns_3 m_posts m_shut m_here j_steps_4 j_done_5 i_at i_gone m_was m_came m_seenAt m_rowWorth m_farBy m_used i_everywhere i_again0 i_d0 i_never i_firstCame i_longRun i_moved i_crowd i_l0 i_fitMany i_fitLeast i_fitMost m_fitPost m_fitEnd m_keptPosts i_x0], [zAr T 0 m_all 3952 f_all], [zAr T 0 m_posts 7 g_posts_6], [zAr T 0 m_shut 7 g_shut_7], [zAr T 0 m_here 7 g_here_8], [zAr T 0 m_farBy 49 f_farBy]]) [5, 1, 2, 3, 4, 0] rfl
        exact z_back hQz_ (z_iret C hr hlocks G (Nat.le_of_ble_eq_true rfl) (Nat.le_of_ble_eq_true rfl) dX12_far_25 ⟨j_z0_1, j_crossings_2, j_inns_3, j_steps_4, j_done_5, g_posts_6, g_shut_7, g_here_8, f_farBy, rfl⟩)
    · have h_28 : (a_.toInt < 0 ∨ j_crossings_2.toInt ≤ a_.toInt) := h_28
      refine lv_if_eq (tgt := 24) hx hb dX12_far_13 (by decide) (fun _ => ?_) (fun q => absurd (by decide) q)
      refine lv_iconst (v := (-1)) hx hb dX12_far_24 (by decide) ?_
      have G := G.sub (bs' := [[zO11 mo m_all m_has i_size i_next i_where i_token i_number i_word i_wrong i_farCrossing m_read j_z0_1 j_crossings_2 j_inns_3 m_posts m_shut m_here j_steps_4 j_done_5 i_at i_gone m_was m_came m_seenAt m_rowWorth m_farBy m_used i_everywhere i_again0 i_d0 i_never i_firstCame i_longRun i_moved i_crowd i_l0 i_fitMany i_fitLeast i_fitMost m_fitPost m_fitEnd m_keptPosts i_x0], [zAr T 0 m_all 3952 f_all], [zAr T 0 m_posts 7 g_posts_6], [zAr T 0 m_shut 7 g_shut_7], [zAr T 0 m_here 7 g_here_8], [zAr T 0 m_farBy 49 f_farBy]]) [5, 1, 2, 3, 4, 0] rfl
      exact z_back hQz_ (z_iret C hr hlocks G (Nat.le_of_ble_eq_true rfl) (Nat.le_of_ble_eq_true rfl) dX12_far_25 ⟨j_z0_1, j_crossings_2, j_inns_3, j_steps_4, j_done_5, g_posts_6, g_shut_7, g_here_8, f_farBy, rfl⟩)
  · have h_23 : (l_.toInt < 0 ∨ (f_all 0).toInt ≤ l_.toInt) := h_23
    refine lv_if_eq (tgt := 24) hx hb dX12_far_5 (by decide) (fun _ => ?_) (fun q => absurd (by decide) q)
    refine lv_iconst (v := (-1)) hx hb dX12_far_24 (by decide) ?_
    have G := G.sub (bs' := [[zO11 mo m_all m_has i_size i_next i_where i_token i_number i_word i_wrong i_farCrossing m_read j_z0_1 j_crossings_2 j_inns_3 m_posts m_shut m_here j_steps_4 j_done_5 i_at i_gone m_was m_came m_seenAt m_rowWorth m_farBy m_used i_everywhere i_again0 i_d0 i_never i_firstCame i_longRun i_moved i_crowd i_l0 i_fitMany i_fitLeast i_fitMost m_fitPost m_fitEnd m_keptPosts i_x0], [zAr T 0 m_all 3952 f_all], [zAr T 0 m_posts 7 g_posts_6], [zAr T 0 m_shut 7 g_shut_7], [zAr T 0 m_here 7 g_here_8], [zAr T 0 m_farBy 49 f_farBy]]) [1, 2, 3, 4, 5, 0] rfl
    exact z_back hQz_ (z_iret C hr hlocks G (Nat.le_of_ble_eq_true rfl) (Nat.le_of_ble_eq_true rfl) dX12_far_25 ⟨j_z0_1, j_crossings_2, j_inns_3, j_steps_4, j_done_5, g_posts_6, g_shut_7, g_here_8, f_farBy, rfl⟩)
set_option maxHeartbeats 4000000 in
set_option maxRecDepth 100000 in
/-- c_m_reach -/
theorem c_m_reach (l : Launch) (T : zTy) (mo : Nat) (m_all : Nat) (m_has : Nat) (i_size : Int32) (i_next : Int32) (i_where : Int32) (i_token : Int32) (i_number : Int32) (i_word : Int32) (i_wrong : Int32) (i_farCrossing : Int32) (m_read : Nat) (i_z0 : Int32) (i_crossings : Int32) (i_inns : Int32) (m_posts : Nat) (m_shut : Nat) (m_here : Nat) (i_steps : Int32) (i_done : Int32) (i_at : Int32) (i_gone : Int32) (m_was : Nat) (m_came : Nat) (m_seenAt : Nat) (m_rowWorth : Nat) (m_farBy : Nat) (m_used : Nat) (i_everywhere : Int32) (i_again0 : Int32) (i_d0 : Int32) (i_never : Int32) (i_firstCame : Int32) (i_longRun : Int32) (i_moved : Int32) (i_crowd : Int32) (i_l0 : Int32) (i_fitMany : Int32) (i_fitLeast : Int32) (i_fitMost : Int32) (m_fitPost : Nat) (m_fitEnd : Nat) (m_keptPosts : Nat) (i_x0 : Int32) (f_all : Nat → Int32) (f_posts : Nat → Int32) (f_shut : Nat → Int32) (f_here : Nat → Int32) (f_farBy : Nat → Int32) (l_ : Int32) (a_ : Int32) (w_ : Int32) (hB : zBI f_all) : zMi l T yX12_reach cX12_reach 7 (some .int) 5 0 0 [.ref mo, .int l_, .int a_, .int w_] [[zO11 mo m_all m_has i_size i_next i_where i_token i_number i_word i_wrong i_farCrossing m_read i_z0 i_crossings i_inns m_posts m_shut m_here i_steps i_done i_at i_gone m_was m_came m_seenAt m_rowWorth m_farBy m_used i_everywhere i_again0 i_d0 i_never i_firstCame i_longRun i_moved i_crowd i_l0 i_fitMany i_fitLeast i_fitMost m_fitPost m_fitEnd m_keptPosts i_x0], [zAr T 0 m_all 3952 f_all], [zAr T 0 m_posts 7 f_posts], [zAr T 0 m_shut 7 f_shut], [zAr T 0 m_here 7 f_here], [zAr T 0 m_farBy 49 f_farBy]] (fun (r : Int32) bs => ∃ (j_z0 : Int32) (j_crossings : Int32) (j_inns : Int32) (j_steps : Int32) (j_done : Int32) (g_posts : Nat → Int32) (g_shut : Nat → Int32) (g_here : Nat → Int32) (g_farBy : Nat → Int32), bs = [[zO11 mo m_all m_has i_size i_next i_where i_token i_number i_word i_wrong i_farCrossing m_read j_z0 j_crossings j_inns m_posts m_shut m_here j_steps j_done i_at i_gone m_was m_came m_seenAt m_rowWorth m_farBy m_used i_everywhere i_again0 i_d0 i_never i_firstCame i_longRun i_moved i_crowd i_l0 i_fitMany i_fitLeast i_fitMost m_fitPost m_fitEnd m_keptPosts i_x0], [zAr T 0 m_all 3952 f_all], [zAr T 0 m_posts 7 g_posts], [zAr T 0 m_shut 7 g_shut], [zAr T 0 m_here 7 g_here], [zAr T 0 m_farBy 49 g_farBy]]) := by
  refine zMi_of (own := RX12) (by decide) rfl (Nat.le_of_ble_eq_true rfl) ?_
  intro p e s m args below meth c A ls C hr hlocks hnm hAe G hl
  refine zHide (fun Qz_ hQz_ => ?_)
  have hx := C.1
  have hb := C.2.1
  have hl : lv_has ls 7 [(0, .ref mo), (1, .int l_), (2, .int a_), (3, .int w_)] := hl
  refine lv_aload_n hx hb dX12_reach_0 rfl (lv_at hl 0 rfl) ?_
  refine lv_iload_n hx hb dX12_reach_1 rfl (lv_at hl 1 rfl) ?_
  refine z_Vi (bc := [[zO11 mo m_all m_has i_size i_next i_where i_token i_number i_word i_wrong i_farCrossing m_read i_z0 i_crossings i_inns m_posts m_shut m_here i_steps i_done i_at i_gone m_was m_came m_seenAt m_rowWorth m_farBy m_used i_everywhere i_again0 i_d0 i_never i_firstCame i_longRun i_moved i_crowd i_l0 i_fitMany i_fitLeast i_fitMost m_fitPost m_fitEnd m_keptPosts i_x0], [zAr T 0 m_all 3952 f_all], [zAr T 0 m_posts 7 f_posts], [zAr T 0 m_shut 7 f_shut], [zAr T 0 m_here 7 f_here]]) (br := [[zAr T 0 m_farBy 49 f_farBy]]) (As := [.int l_]) (rest := []) C G (c_m_isLand l T mo m_all m_has i_size i_next i_where i_token i_number i_word i_wrong i_farCrossing m_read i_z0 i_crossings i_inns m_posts m_shut m_here i_steps i_done i_at i_gone m_was m_came m_seenAt m_rowWorth m_farBy m_used i_everywhere i_again0 i_d0 i_never i_firstCame i_longRun i_moved i_crowd i_l0 i_fitMany i_fitLeast i_fitMost m_fitPost m_fitEnd m_keptPosts i_x0 f_all f_posts f_shut f_here l_ (by first | with_reducible assumption | with_reducible rfl | omega | assumption | rfl | decide)) (kV_RX12_184 C.2.2.2.2 (Nat.le_of_ble_eq_true rfl) (Nat.le_of_ble_eq_true rfl)) [0, 1, 2, 3, 4] [0, 0, 0, 0, 0] rfl rfl (ci := 11) (qc := (RX12, TX12, 43)) rfl rfl (List.mem_flatten.mpr ⟨_, List.mem_of_getElem? (i := 0) rfl, List.mem_cons_self⟩) rfl rfl hl.1 dX12_reach_2 (Nat.le_of_ble_eq_true rfl) (Nat.le_of_ble_eq_true rfl) (fun r_10 b1 H locs hw G => ?_)
  refine zEx8 hw ?_
  intro j_z0_1 j_crossings_2 j_inns_3 j_steps_4 j_done_5 g_posts_6 g_shut_7 g_here_8
  refine zCu2 ?_
  intro hbs9 hc_9
  clear hw
  subst hbs9
  have G : zS T A s.heap s [[zAr T 0 m_farBy 49 f_farBy], [zO11 mo m_all m_has i_size i_next i_where i_token i_number i_word i_wrong i_farCrossing m_read j_z0_1 j_crossings_2 j_inns_3 m_posts m_shut m_here j_steps_4 j_done_5 i_at i_gone m_was m_came m_seenAt m_rowWorth m_farBy m_used i_everywhere i_again0 i_d0 i_never i_firstCame i_longRun i_moved i_crowd i_l0 i_fitMany i_fitLeast i_fitMost m_fitPost m_fitEnd m_keptPosts i_x0], [zAr T 0 m_all 3952 f_all], [zAr T 0 m_posts 7 g_posts_6], [zAr T 0 m_shut 7 g_shut_7], [zAr T 0 m_here 7 g_here_8]] _ _ := G
  rcases hc_9 with ⟨rfl, h_11, h_12, h_13, h_14, h_15, h_16, h_17, h_18, h_19, h_20, h_21, h_22⟩ | ⟨rfl, h_23⟩
  · have h_11 : 0 ≤ l_.toInt := h_11
    have h_12 : l_.toInt ≤ 1 := h_12
    have h_13 : l_.toInt < (f_all 0).toInt := h_13
    have h_14 : j_z0_1.toInt = 610 + 51 * l_.toInt := h_14
    have h_15 : zML f_all j_z0_1 j_crossings_2 := h_15
    have h_16 : zMP g_posts_6 := h_16
    have h_17 : j_inns_3 = f_all (j_z0_1.toInt.toNat + 1) := h_17
    have h_18 : j_steps_4 = 0 := h_18
    have h_19 : j_done_5 = 0 := h_19
    have h_20 : (∀ j, j < 7 → g_posts_6 j = zPt f_all j_z0_1 (nI j)) := h_20
    have h_21 : (∀ j, j < 7 → g_shut_7 j = 0) := h_21
    have h_22 : (∀ j, j < 7 → g_here_8 j = zWk f_all j_z0_1 j) := h_22
    have hLx := h_15
    have hcr := hLx.cr
    have hzx := hLx.1
    have hPx := h_16
    refine lv_if_eq (tgt := 16) hx hb dX12_reach_5 (by decide) (fun q => absurd q (by decide)) (fun _ => ?_)
    refine lv_aload_n hx hb dX12_reach_8 rfl (lv_at hl 0 rfl) ?_
    refine lv_iload_n hx hb dX12_reach_9 rfl (lv_at hl 2 rfl) ?_
    refine z_Vi (bc := [[zO11 mo m_all m_has i_size i_next i_where i_token i_number i_word i_wrong i_farCrossing m_read j_z0_1 j_crossings_2 j_inns_3 m_posts m_shut m_here j_steps_4 j_done_5 i_at i_gone m_was m_came m_seenAt m_rowWorth m_farBy m_used i_everywhere i_again0 i_d0 i_never i_firstCame i_longRun i_moved i_crowd i_l0 i_fitMany i_fitLeast i_fitMost m_fitPost m_fitEnd m_keptPosts i_x0]]) (br := [[zAr T 0 m_farBy 49 f_farBy], [zAr T 0 m_all 3952 f_all], [zAr T 0 m_posts 7 g_posts_6], [zAr T 0 m_shut 7 g_shut_7], [zAr T 0 m_here 7 g_here_8]]) (As := [.int a_]) (rest := []) C G (c_m_isCrossing l T mo m_all m_has i_size i_next i_where i_token i_number i_word i_wrong i_farCrossing m_read j_z0_1 j_crossings_2 j_inns_3 m_posts m_shut m_here j_steps_4 j_done_5 i_at i_gone m_was m_came m_seenAt m_rowWorth m_farBy m_used i_everywhere i_again0 i_d0 i_never i_firstCame i_longRun i_moved i_crowd i_l0 i_fitMany i_fitLeast i_fitMost m_fitPost m_fitEnd m_keptPosts i_x0 a_ (by first | with_reducible assumption | with_reducible rfl | omega | assumption | rfl | decide)) (kV_RX12_187 C.2.2.2.2 (Nat.le_of_ble_eq_true rfl) (Nat.le_of_ble_eq_true rfl)) [1] [1] rfl rfl (ci := 11) (qc := (RX12, TX12, 43)) rfl rfl (List.mem_flatten.mpr ⟨_, List.mem_of_getElem? (i := 0) rfl, List.mem_cons_self⟩) rfl rfl hl.1 dX12_reach_10 (Nat.le_of_ble_eq_true rfl) (Nat.le_of_ble_eq_true rfl) (fun r_25 b1 H locs hw G => ?_)
    refine zAn2 hw ?_
    intro hbs9 hc_24
    clear hw
    subst hbs9
    have G : zS T A s.heap s [[zAr T 0 m_farBy 49 f_farBy], [zAr T 0 m_all 3952 f_all], [zAr T 0 m_posts 7 g_posts_6], [zAr T 0 m_shut 7 g_shut_7], [zAr T 0 m_here 7 g_here_8], [zO11 mo m_all m_has i_size i_next i_where i_token i_number i_word i_wrong i_farCrossing m_read j_z0_1 j_crossings_2 j_inns_3 m_posts m_shut m_here j_steps_4 j_done_5 i_at i_gone m_was m_came m_seenAt m_rowWorth m_farBy m_used i_everywhere i_again0 i_d0 i_never i_firstCame i_longRun i_moved i_crowd i_l0 i_fitMany i_fitLeast i_fitMost m_fitPost m_fitEnd m_keptPosts i_x0]] _ _ := G
    rcases hc_24 with ⟨rfl, h_26, h_27⟩ | ⟨rfl, h_28⟩
    · have h_26 : 0 ≤ a_.toInt := h_26
      have h_27 : a_.toInt < j_crossings_2.toInt := h_27
      refine lv_if_ne (tgt := 19) hx hb dX12_reach_13 (by decide) (fun _ => ?_) (fun q => absurd q (by decide))
      refine lv_aload_n hx hb dX12_reach_19 rfl (lv_at hl 0 rfl) ?_
      refine z_Vv (bc := [[zO11 mo m_all m_has i_size i_next i_where i_token i_number i_word i_wrong i_farCrossing m_read j_z0_1 j_crossings_2 j_inns_3 m_posts m_shut m_here j_steps_4 j_done_5 i_at i_gone m_was m_came m_seenAt m_rowWorth m_farBy m_used i_everywhere i_again0 i_d0 i_never i_firstCame i_longRun i_moved i_crowd i_l0 i_fitMany i_fitLeast i_fitMost m_fitPost m_fitEnd m_keptPosts i_x0], [zAr T 0 m_all 3952 f_all], [zAr T 0 m_farBy 49 f_farBy]]) (br := [[zAr T 0 m_posts 7 g_posts_6], [zAr T 0 m_shut 7 g_shut_7], [zAr T 0 m_here 7 g_here_8]]) (As := []) (rest := []) C G (c_m_laysFar l T mo m_all m_has i_size i_next i_where i_token i_number i_word i_wrong i_farCrossing m_read j_z0_1 j_crossings_2 j_inns_3 m_posts m_shut m_here j_steps_4 j_done_5 i_at i_gone m_was m_came m_seenAt m_rowWorth m_farBy m_used i_everywhere i_again0 i_d0 i_never i_firstCame i_longRun i_moved i_crowd i_l0 i_fitMany i_fitLeast i_fitMost m_fitPost m_fitEnd m_keptPosts i_x0 f_all f_farBy (by first | with_reducible assumption | with_reducible rfl | omega | assumption | rfl | decide)) (kV_RX12_258 C.2.2.2.2 (Nat.le_of_ble_eq_true rfl) (Nat.le_of_ble_eq_true rfl)) [5, 1, 0] [0, 0, 3] rfl rfl (ci := 11) (qc := (RX12, TX12, 43)) rfl rfl (List.mem_flatten.mpr ⟨_, List.mem_of_getElem? (i := 0) rfl, List.mem_cons_self⟩) rfl rfl hl.1 dX12_reach_20 (Nat.le_of_ble_eq_true rfl) (Nat.le_of_ble_eq_true rfl) (fun b1 H locs hw G => ?_)
      refine zEx1 hw ?_
      intro g_farBy_29 hbs9
      clear hw
      subst hbs9
      have G : zS T A s.heap s [[zAr T 0 m_posts 7 g_posts_6], [zAr T 0 m_shut 7 g_shut_7], [zAr T 0 m_here 7 g_here_8], [zO11 mo m_all m_has i_size i_next i_where i_token i_number i_word i_wrong i_farCrossing m_read j_z0_1 j_crossings_2 j_inns_3 m_posts m_shut m_here j_steps_4 j_done_5 i_at i_gone m_was m_came m_seenAt m_rowWorth m_farBy m_used i_everywhere i_again0 i_d0 i_never i_firstCame i_longRun i_moved i_crowd i_l0 i_fitMany i_fitLeast i_fitMost m_fitPost m_fitEnd m_keptPosts i_x0], [zAr T 0 m_all 3952 f_all], [zAr T 0 m_farBy 49 g_farBy_29]] _ _ := G
      refine lv_iload_n hx hb dX12_reach_23 rfl (lv_at hl 3 rfl) ?_
      refine lv_if_ne (tgt := 33) hx hb dX12_reach_24 (by decide) (fun c_31 => ?_) (fun c_31 => ?_)
      · have c_31n : ¬ w_.toInt = (0 : Int) := fun q => c_31 ((fa_eq _ _).mpr q)
        refine lv_iload_n hx hb dX12_reach_33 rfl (lv_at hl 3 rfl) ?_
        refine lv_iconst (v := 1) hx hb dX12_reach_34 (by decide) ?_
        refine lv_icmp_eq (tgt := 41) hx hb dX12_reach_35 (by decide) (fun c_32 => ?_) (fun c_32 => ?_)
        · have c_32n : w_.toInt = (1 : Int) := (fa_eq _ _).mp c_32
          refine lv_iconst (v := (-1)) hx hb dX12_reach_41 (by decide) ?_
          refine lv_istore (lv' := [(4, .int (-1)), (0, .ref mo), (1, .int l_), (2, .int a_), (3, .int w_)]) hx hb dX12_reach_42 hl (by decide) (zLvf_h rfl) (fun ls hl => ?_)
          refine lv_iconst (v := 0) hx hb dX12_reach_44 (by decide) ?_
          refine lv_istore (lv' := [(5, .int 0), (4, .int (-1)), (0, .ref mo), (1, .int l_), (2, .int a_), (3, .int w_)]) hx hb dX12_reach_45 hl (by decide) (zLvf_h rfl) (fun ls hl => ?_)
          refine z_lp2 (T := T) 47 (fun (i : Nat) (u : Int32) => [[zAr T 0 m_posts 7 g_posts_6], [zAr T 0 m_shut 7 g_shut_7], [zAr T 0 m_here 7 g_here_8], [zO11 mo m_all m_has i_size i_next i_where i_token i_number i_word i_wrong i_farCrossing m_read j_z0_1 j_crossings_2 j_inns_3 m_posts m_shut m_here j_steps_4 j_done_5 i_at i_gone m_was m_came m_seenAt m_rowWorth m_farBy m_used i_everywhere i_again0 i_d0 i_never i_firstCame i_longRun i_moved i_crowd i_l0 i_fitMany i_fitLeast i_fitMost m_fitPost m_fitEnd m_keptPosts i_x0], [zAr T 0 m_all 3952 f_all], [zAr T 0 m_farBy 49 g_farBy_29]]) (fun (i : Nat) (u : Int32) => [(5, .int (nI i)), (4, .int u), (0, .ref mo), (1, .int l_), (2, .int a_), (3, .int w_)]) (fun (i : Nat) (u : Int32) => i ≤ 7 ∧ (-1 ≤ u.toInt ∧ u.toInt ≤ 6)) (fun (i : Nat) (u : Int32) => 7 - i) ?_ 0 (-1) (show 0 ≤ 7 ∧ (-1 ≤ ((-1) : Int32).toInt ∧ ((-1) : Int32).toInt ≤ 6) from ⟨by omega, by decide⟩) G (lv_sub hl [0, 1, 2, 3, 4, 5] rfl)
          intro i u hI9 ih_47 H locs ls G hl
          replace hI9 : i ≤ 7 ∧ (-1 ≤ u.toInt ∧ u.toInt ≤ 6) := hI9
          refine zAn2 hI9 ?_
          intro hi hu
          clear hI9
          replace G : zS T A s.heap s [[zAr T 0 m_posts 7 g_posts_6], [zAr T 0 m_shut 7 g_shut_7], [zAr T 0 m_here 7 g_here_8], [zO11 mo m_all m_has i_size i_next i_where i_token i_number i_word i_wrong i_farCrossing m_read j_z0_1 j_crossings_2 j_inns_3 m_posts m_shut m_here j_steps_4 j_done_5 i_at i_gone m_was m_came m_seenAt m_rowWorth m_farBy m_used i_everywhere i_again0 i_d0 i_never i_firstCame i_longRun i_moved i_crowd i_l0 i_fitMany i_fitLeast i_fitMost m_fitPost m_fitEnd m_keptPosts i_x0], [zAr T 0 m_all 3952 f_all], [zAr T 0 m_farBy 49 g_farBy_29]] _ _ := G
          replace hl : lv_has ls 7 [(5, .int (nI i)), (4, .int u), (0, .ref mo), (1, .int l_), (2, .int a_), (3, .int w_)] := hl
          refine lv_iload hx hb dX12_reach_47 (lv_at hl 0 rfl) ?_
          refine lv_aload_n hx hb dX12_reach_49 rfl (lv_at hl 2 rfl) ?_
          refine z_get C G clX12 3 rfl 12 (by decide) m_fl_RX12_169 rfl dX12_reach_50 ?_
          refine lv_icmp_ge (tgt := 118) hx hb dX12_reach_53 (by decide) (fun c_33 => ?_) (fun c_33 => ?_)
          · have c_33n : j_crossings_2.toInt ≤ (i : Int) := by have q := (fa_le _ _).mp c_33; rw [nI_toInt (n := i) (by omega)] at q; exact q
            refine lv_iload hx hb dX12_reach_118 (lv_at hl 1 rfl) ?_
            have G := G.sub (bs' := [[zO11 mo m_all m_has i_size i_next i_where i_token i_number i_word i_wrong i_farCrossing m_read j_z0_1 j_crossings_2 j_inns_3 m_posts m_shut m_here j_steps_4 j_done_5 i_at i_gone m_was m_came m_seenAt m_rowWorth m_farBy m_used i_everywhere i_again0 i_d0 i_never i_firstCame i_longRun i_moved i_crowd i_l0 i_fitMany i_fitLeast i_fitMost m_fitPost m_fitEnd m_keptPosts i_x0], [zAr T 0 m_all 3952 f_all], [zAr T 0 m_posts 7 g_posts_6], [zAr T 0 m_shut 7 g_shut_7], [zAr T 0 m_here 7 g_here_8], [zAr T 0 m_farBy 49 g_farBy_29]]) [3, 4, 0, 1, 2, 5] rfl
            exact z_back hQz_ (z_iret C hr hlocks G (Nat.le_of_ble_eq_true rfl) (Nat.le_of_ble_eq_true rfl) dX12_reach_120 ⟨j_z0_1, j_crossings_2, j_inns_3, j_steps_4, j_done_5, g_posts_6, g_shut_7, g_here_8, g_farBy_29, rfl⟩)
          · have c_33n : ¬ j_crossings_2.toInt ≤ (i : Int) := fun q => c_33 ((fa_le _ _).mpr (by rw [nI_toInt (n := i) (by omega)]; exact q))
            refine lv_aload_n hx hb dX12_reach_56 rfl (lv_at hl 2 rfl) ?_
            refine z_get C G clX12 3 rfl 25 (by decide) m_fl_RX12_41 rfl dX12_reach_57 ?_
            refine lv_bipush (v := 7) hx hb dX12_reach_60 (by decide) ?_
            refine lv_iload_n hx hb dX12_reach_62 rfl (lv_at hl 4 rfl) ?_
            refine lv_imul hx hb dX12_reach_63 ?_
            refine lv_topi (fun y_34 ey_34 => ?_)
            have ey_34i : y_34.toInt = (7 : Int) * a_.toInt := by rw [ey_34]; exact z_imulI (x := (7 : Int32)) (y := a_) (by show -2147483648 ≤ (7 : Int) * a_.toInt; omega) (by show (7 : Int) * a_.toInt < 2147483648; omega)
            refine lv_iload hx hb dX12_reach_64 (lv_at hl 0 rfl) ?_
            refine lv_iadd hx hb dX12_reach_66 ?_
            refine lv_topi (fun y_35 ey_35 => ?_)
            have ey_35i : y_35.toInt = y_34.toInt + (i : Int) := by rw [ey_35]; exact (z_iaddI (x := y_34) (y := (nI i)) (by rw [nI_toInt (n := i) (by omega)]; show -2147483648 ≤ y_34.toInt + (i : Int); omega) (by rw [nI_toInt (n := i) (by omega)]; show y_34.toInt + (i : Int) < 2147483648; omega)).trans (by rw [nI_toInt (n := i) (by omega)] <;> rfl)
            refine z_ild C G 5 rfl (vp_in_iff.mpr ⟨by omega, by omega⟩) dX12_reach_67 ?_
            refine lv_topi (fun v_36 ev_36 => ?_)
            subst ev_36
            refine lv_istore (lv' := [(6, .int (g_farBy_29 y_35.toNatClampNeg)), (5, .int (nI i)), (4, .int u), (0, .ref mo), (1, .int l_), (2, .int a_), (3, .int w_)]) hx hb dX12_reach_68 hl (by decide) (zLvf_h rfl) (fun ls hl => ?_)
            refine lv_aload_n hx hb dX12_reach_70 rfl (lv_at hl 3 rfl) ?_
            refine lv_iload hx hb dX12_reach_71 (lv_at hl 1 rfl) ?_
            have ti_37 : (nI i).toInt = ((i : Nat) : Int) := nI_toInt (by omega)
            refine z_Vi (bc := [[zO11 mo m_all m_has i_size i_next i_where i_token i_number i_word i_wrong i_farCrossing m_read j_z0_1 j_crossings_2 j_inns_3 m_posts m_shut m_here j_steps_4 j_done_5 i_at i_gone m_was m_came m_seenAt m_rowWorth m_farBy m_used i_everywhere i_again0 i_d0 i_never i_firstCame i_longRun i_moved i_crowd i_l0 i_fitMany i_fitLeast i_fitMost m_fitPost m_fitEnd m_keptPosts i_x0]]) (br := [[zAr T 0 m_posts 7 g_posts_6], [zAr T 0 m_shut 7 g_shut_7], [zAr T 0 m_here 7 g_here_8], [zAr T 0 m_all 3952 f_all], [zAr T 0 m_farBy 49 g_farBy_29]]) (As := [.int (nI i)]) (rest := []) C G (c_m_isInn l T mo m_all m_has i_size i_next i_where i_token i_number i_word i_wrong i_farCrossing m_read j_z0_1 j_crossings_2 j_inns_3 m_posts m_shut m_here j_steps_4 j_done_5 i_at i_gone m_was m_came m_seenAt m_rowWorth m_farBy m_used i_everywhere i_again0 i_d0 i_never i_firstCame i_longRun i_moved i_crowd i_l0 i_fitMany i_fitLeast i_fitMost m_fitPost m_fitEnd m_keptPosts i_x0 (nI i)) (kV_RX12_178 C.2.2.2.2 (Nat.le_of_ble_eq_true rfl) (Nat.le_of_ble_eq_true rfl)) [3] [3] rfl rfl (ci := 11) (qc := (RX12, TX12, 43)) rfl rfl (List.mem_flatten.mpr ⟨_, List.mem_of_getElem? (i := 0) rfl, List.mem_cons_self⟩) rfl rfl hl.1 dX12_reach_73 (Nat.le_of_ble_eq_true rfl) (Nat.le_of_ble_eq_true rfl) (fun r_39 b1 H locs hw G => ?_)
            refine zAn2 hw ?_
            intro hbs9 hc_38
            clear hw
            subst hbs9
            have G : zS T A s.heap s [[zAr T 0 m_posts 7 g_posts_6], [zAr T 0 m_shut 7 g_shut_7], [zAr T 0 m_here 7 g_here_8], [zAr T 0 m_all 3952 f_all], [zAr T 0 m_farBy 49 g_farBy_29], [zO11 mo m_all m_has i_size i_next i_where i_token i_number i_word i_wrong i_farCrossing m_read j_z0_1 j_crossings_2 j_inns_3 m_posts m_shut m_here j_steps_4 j_done_5 i_at i_gone m_was m_came m_seenAt m_rowWorth m_farBy m_used i_everywhere i_again0 i_d0 i_never i_firstCame i_longRun i_moved i_crowd i_l0 i_fitMany i_fitLeast i_fitMost m_fitPost m_fitEnd m_keptPosts i_x0]] _ _ := G
            rcases hc_38 with ⟨rfl, h_40⟩ | ⟨rfl, h_41⟩
            · have h_40 : zInn j_inns_3 (nI i) := h_40
              refine lv_if_eq (tgt := 112) hx hb dX12_reach_76 (by decide) (fun q => absurd q (by decide)) (fun _ => ?_)
              refine lv_iload hx hb dX12_reach_79 (lv_at hl 0 rfl) ?_
              refine lv_iconst (v := (-1)) hx hb dX12_reach_81 (by decide) ?_
              refine lv_icmp_eq (tgt := 112) hx hb dX12_reach_82 (by decide) (fun c_42 => ?_) (fun c_42 => ?_)
              · have c_42n : (g_farBy_29 y_35.toNatClampNeg).toInt = (-1 : Int) := (fa_eq _ _).mp c_42
                refine lv_iinc (v := nI (i + 1)) (lv' := [(5, .int (nI (i + 1))), (6, .int (g_farBy_29 y_35.toNatClampNeg)), (4, .int u), (0, .ref mo), (1, .int l_), (2, .int a_), (3, .int w_)]) hx hb dX12_reach_112 hl (k := 1) rfl (z_inc i 1) (by decide) (zLvf_h rfl) (fun ls hl => ?_)
                refine lv_goto (tgt := 47) hx hb dX12_reach_115 (by decide) ?_
                have G := G.sub (bs' := [[zAr T 0 m_posts 7 g_posts_6], [zAr T 0 m_shut 7 g_shut_7], [zAr T 0 m_here 7 g_here_8], [zO11 mo m_all m_has i_size i_next i_where i_token i_number i_word i_wrong i_farCrossing m_read j_z0_1 j_crossings_2 j_inns_3 m_posts m_shut m_here j_steps_4 j_done_5 i_at i_gone m_was m_came m_seenAt m_rowWorth m_farBy m_used i_everywhere i_again0 i_d0 i_never i_firstCame i_longRun i_moved i_crowd i_l0 i_fitMany i_fitLeast i_fitMost m_fitPost m_fitEnd m_keptPosts i_x0], [zAr T 0 m_all 3952 f_all], [zAr T 0 m_farBy 49 g_farBy_29]]) [0, 1, 2, 5, 3, 4] rfl
                exact ih_47 (i + 1) u (show (i + 1) ≤ 7 ∧ (-1 ≤ u.toInt ∧ u.toInt ≤ 6) from ⟨by omega, by have t9 := nI_toInt (n := i) (by omega); omega⟩) (show 7 - (i + 1) < 7 - i from by omega) _ _ ls G (lv_sub hl [0, 2, 3, 4, 5, 6] rfl)
              · have c_42n : ¬ (g_farBy_29 y_35.toNatClampNeg).toInt = (-1 : Int) := fun q => c_42 ((fa_eq _ _).mpr q)
                refine lv_iload hx hb dX12_reach_85 (lv_at hl 2 rfl) ?_
                refine lv_iconst (v := (-1)) hx hb dX12_reach_87 (by decide) ?_
                refine lv_icmp_eq (tgt := 108) hx hb dX12_reach_88 (by decide) (fun c_43 => ?_) (fun c_43 => ?_)
                · have c_43n : u.toInt = (-1 : Int) := (fa_eq _ _).mp c_43
                  refine lv_iload hx hb dX12_reach_108 (lv_at hl 1 rfl) ?_
                  refine lv_istore (lv' := [(4, .int (nI i)), (6, .int (g_farBy_29 y_35.toNatClampNeg)), (5, .int (nI i)), (0, .ref mo), (1, .int l_), (2, .int a_), (3, .int w_)]) hx hb dX12_reach_110 hl (by decide) (zLvf_h rfl) (fun ls hl => ?_)
                  refine lv_iinc (v := nI (i + 1)) (lv' := [(5, .int (nI (i + 1))), (4, .int (nI i)), (6, .int (g_farBy_29 y_35.toNatClampNeg)), (0, .ref mo), (1, .int l_), (2, .int a_), (3, .int w_)]) hx hb dX12_reach_112 hl (k := 2) rfl (z_inc i 1) (by decide) (zLvf_h rfl) (fun ls hl => ?_)
                  refine lv_goto (tgt := 47) hx hb dX12_reach_115 (by decide) ?_
                  have G := G.sub (bs' := [[zAr T 0 m_posts 7 g_posts_6], [zAr T 0 m_shut 7 g_shut_7], [zAr T 0 m_here 7 g_here_8], [zO11 mo m_all m_has i_size i_next i_where i_token i_number i_word i_wrong i_farCrossing m_read j_z0_1 j_crossings_2 j_inns_3 m_posts m_shut m_here j_steps_4 j_done_5 i_at i_gone m_was m_came m_seenAt m_rowWorth m_farBy m_used i_everywhere i_again0 i_d0 i_never i_firstCame i_longRun i_moved i_crowd i_l0 i_fitMany i_fitLeast i_fitMost m_fitPost m_fitEnd m_keptPosts i_x0], [zAr T 0 m_all 3952 f_all], [zAr T 0 m_farBy 49 g_farBy_29]]) [0, 1, 2, 5, 3, 4] rfl
                  exact ih_47 (i + 1) (nI i) (show (i + 1) ≤ 7 ∧ (-1 ≤ (nI i).toInt ∧ (nI i).toInt ≤ 6) from ⟨by omega, by have t9 := nI_toInt (n := i) (by omega); omega⟩) (show 7 - (i + 1) < 7 - i from by omega) _ _ ls G (lv_sub hl [0, 1, 3, 4, 5, 6] rfl)
                · have c_43n : ¬ u.toInt = (-1 : Int) := fun q => c_43 ((fa_eq _ _).mpr q)
                  refine lv_iload hx hb dX12_reach_91 (lv_at hl 0 rfl) ?_
                  refine lv_aload_n hx hb dX12_reach_93 rfl (lv_at hl 3 rfl) ?_
                  refine z_get C G clX12 5 rfl 25 (by decide) m_fl_RX12_41 rfl dX12_reach_94 ?_
                  refine lv_bipush (v := 7) hx hb dX12_reach_97 (by decide) ?_
                  refine lv_iload_n hx hb dX12_reach_99 rfl (lv_at hl 5 rfl) ?_
                  refine lv_imul hx hb dX12_reach_100 ?_
                  refine lv_topi (fun y_44 ey_44 => ?_)
                  have ey_44i : y_44.toInt = (7 : Int) * a_.toInt := by rw [ey_44]; exact z_imulI (x := (7 : Int32)) (y := a_) (by show -2147483648 ≤ (7 : Int) * a_.toInt; omega) (by show (7 : Int) * a_.toInt < 2147483648; omega)
                  refine lv_iload hx hb dX12_reach_101 (lv_at hl 2 rfl) ?_
                  refine lv_iadd hx hb dX12_reach_103 ?_
                  refine lv_topi (fun y_45 ey_45 => ?_)
                  have ey_45i : y_45.toInt = y_44.toInt + u.toInt := by rw [ey_45]; exact z_iaddI (x := y_44) (y := u) (by show -2147483648 ≤ y_44.toInt + u.toInt; omega) (by show y_44.toInt + u.toInt < 2147483648; omega)
                  refine z_ild C G 4 rfl (vp_in_iff.mpr ⟨by omega, by omega⟩) dX12_reach_104 ?_
                  refine lv_topi (fun v_46 ev_46 => ?_)
                  subst ev_46
                  refine lv_icmp_ge (tgt := 112) hx hb dX12_reach_105 (by decide) (fun c_47 => ?_) (fun c_47 => ?_)
                  · have c_47n : (g_farBy_29 y_45.toNatClampNeg).toInt ≤ (g_farBy_29 y_35.toNatClampNeg).toInt := (fa_le _ _).mp c_47
                    refine lv_iinc (v := nI (i + 1)) (lv' := [(5, .int (nI (i + 1))), (6, .int (g_farBy_29 y_35.toNatClampNeg)), (4, .int u), (0, .ref mo), (1, .int l_), (2, .int a_), (3, .int w_)]) hx hb dX12_reach_112 hl (k := 1) rfl (z_inc i 1) (by decide) (zLvf_h rfl) (fun ls hl => ?_)
                    refine lv_goto (tgt := 47) hx hb dX12_reach_115 (by decide) ?_
                    have G := G.sub (bs' := [[zAr T 0 m_posts 7 g_posts_6], [zAr T 0 m_shut 7 g_shut_7], [zAr T 0 m_here 7 g_here_8], [zO11 mo m_all m_has i_size i_next i_where i_token i_number i_word i_wrong i_farCrossing m_read j_z0_1 j_crossings_2 j_inns_3 m_posts m_shut m_here j_steps_4 j_done_5 i_at i_gone m_was m_came m_seenAt m_rowWorth m_farBy m_used i_everywhere i_again0 i_d0 i_never i_firstCame i_longRun i_moved i_crowd i_l0 i_fitMany i_fitLeast i_fitMost m_fitPost m_fitEnd m_keptPosts i_x0], [zAr T 0 m_all 3952 f_all], [zAr T 0 m_farBy 49 g_farBy_29]]) [0, 1, 2, 5, 3, 4] rfl
                    exact ih_47 (i + 1) u (show (i + 1) ≤ 7 ∧ (-1 ≤ u.toInt ∧ u.toInt ≤ 6) from ⟨by omega, by have t9 := nI_toInt (n := i) (by omega); omega⟩) (show 7 - (i + 1) < 7 - i from by omega) _ _ ls G (lv_sub hl [0, 2, 3, 4, 5, 6] rfl)
                  · have c_47n : ¬ (g_farBy_29 y_45.toNatClampNeg).toInt ≤ (g_farBy_29 y_35.toNatClampNeg).toInt := fun q => c_47 ((fa_le _ _).mpr q)
                    refine lv_iload hx hb dX12_reach_108 (lv_at hl 1 rfl) ?_
                    refine lv_istore (lv' := [(4, .int (nI i)), (6, .int (g_farBy_29 y_35.toNatClampNeg)), (5, .int (nI i)), (0, .ref mo), (1, .int l_), (2, .int a_), (3, .int w_)]) hx hb dX12_reach_110 hl (by decide) (zLvf_h rfl) (fun ls hl => ?_)
                    refine lv_iinc (v := nI (i + 1)) (lv' := [(5, .int (nI (i + 1))), (4, .int (nI i)), (6, .int (g_farBy_29 y_35.toNatClampNeg)), (0, .ref mo), (1, .int l_), (2, .int a_), (3, .int w_)]) hx hb dX12_reach_112 hl (k := 2) rfl (z_inc i 1) (by decide) (zLvf_h rfl) (fun ls hl => ?_)
                    refine lv_goto (tgt := 47) hx hb dX12_reach_115 (by decide) ?_
                    have G := G.sub (bs' := [[zAr T 0 m_posts 7 g_posts_6], [zAr T 0 m_shut 7 g_shut_7], [zAr T 0 m_here 7 g_here_8], [zO11 mo m_all m_has i_size i_next i_where i_token i_number i_word i_wrong i_farCrossing m_read j_z0_1 j_crossings_2 j_inns_3 m_posts m_shut m_here j_steps_4 j_done_5 i_at i_gone m_was m_came m_seenAt m_rowWorth m_farBy m_used i_everywhere i_again0 i_d0 i_never i_firstCame i_longRun i_moved i_crowd i_l0 i_fitMany i_fitLeast i_fitMost m_fitPost m_fitEnd m_keptPosts i_x0], [zAr T 0 m_all 3952 f_all], [zAr T 0 m_farBy 49 g_farBy_29]]) [0, 1, 2, 5, 3, 4] rfl
                    exact ih_47 (i + 1) (nI i) (show (i + 1) ≤ 7 ∧ (-1 ≤ (nI i).toInt ∧ (nI i).toInt ≤ 6) from ⟨by omega, by have t9 := nI_toInt (n := i) (by omega); omega⟩) (show 7 - (i + 1) < 7 - i from by omega) _ _ ls G (lv_sub hl [0, 1, 3, 4, 5, 6] rfl)
            · have h_41 : ¬ zInn j_inns_3 (nI i) := h_41
              refine lv_if_eq (tgt := 112) hx hb dX12_reach_76 (by decide) (fun _ => ?_) (fun q => absurd (by decide) q)
              refine lv_iinc (v := nI (i + 1)) (lv' := [(5, .int (nI (i + 1))), (6, .int (g_farBy_29 y_35.toNatClampNeg)), (4, .int u), (0, .ref mo), (1, .int l_), (2, .int a_), (3, .int w_)]) hx hb dX12_reach_112 hl (k := 1) rfl (z_inc i 1) (by decide) (zLvf_h rfl) (fun ls hl => ?_)
              refine lv_goto (tgt := 47) hx hb dX12_reach_115 (by decide) ?_
              have G := G.sub (bs' := [[zAr T 0 m_posts 7 g_posts_6], [zAr T 0 m_shut 7 g_shut_7], [zAr T 0 m_here 7 g_here_8], [zO11 mo m_all m_has i_size i_next i_where i_token i_number i_word i_wrong i_farCrossing m_read j_z0_1 j_crossings_2 j_inns_3 m_posts m_shut m_here j_steps_4 j_done_5 i_at i_gone m_was m_came m_seenAt m_rowWorth m_farBy m_used i_everywhere i_again0 i_d0 i_never i_firstCame i_longRun i_moved i_crowd i_l0 i_fitMany i_fitLeast i_fitMost m_fitPost m_fitEnd m_keptPosts i_x0], [zAr T 0 m_all 3952 f_all], [zAr T 0 m_farBy 49 g_farBy_29]]) [0, 1, 2, 5, 3, 4] rfl
              exact ih_47 (i + 1) u (show (i + 1) ≤ 7 ∧ (-1 ≤ u.toInt ∧ u.toInt ≤ 6) from ⟨by omega, by have t9 := nI_toInt (n := i) (by omega); omega⟩) (show 7 - (i + 1) < 7 - i from by omega) _ _ ls G (lv_sub hl [0, 2, 3, 4, 5, 6] rfl)
        · have c_32n : ¬ w_.toInt = (1 : Int) := fun q => c_32 ((fa_eq _ _).mpr q)
          refine lv_bipush (v := (-2)) hx hb dX12_reach_38 (by decide) ?_
          have G := G.sub (bs' := [[zO11 mo m_all m_has i_size i_next i_where i_token i_number i_word i_wrong i_farCrossing m_read j_z0_1 j_crossings_2 j_inns_3 m_posts m_shut m_here j_steps_4 j_done_5 i_at i_gone m_was m_came m_seenAt m_rowWorth m_farBy m_used i_everywhere i_again0 i_d0 i_never i_firstCame i_longRun i_moved i_crowd i_l0 i_fitMany i_fitLeast i_fitMost m_fitPost m_fitEnd m_keptPosts i_x0], [zAr T 0 m_all 3952 f_all], [zAr T 0 m_posts 7 g_posts_6], [zAr T 0 m_shut 7 g_shut_7], [zAr T 0 m_here 7 g_here_8], [zAr T 0 m_farBy 49 g_farBy_29]]) [3, 4, 0, 1, 2, 5] rfl
          exact z_back hQz_ (z_iret C hr hlocks G (Nat.le_of_ble_eq_true rfl) (Nat.le_of_ble_eq_true rfl) dX12_reach_40 ⟨j_z0_1, j_crossings_2, j_inns_3, j_steps_4, j_done_5, g_posts_6, g_shut_7, g_here_8, g_farBy_29, rfl⟩)
      · have c_31n : w_.toInt = (0 : Int) := (fa_eq _ _).mp c_31
        refine lv_aload_n hx hb dX12_reach_27 rfl (lv_at hl 0 rfl) ?_
        refine lv_iload_n hx hb dX12_reach_28 rfl (lv_at hl 2 rfl) ?_
        refine z_Vi (bc := [[zO11 mo m_all m_has i_size i_next i_where i_token i_number i_word i_wrong i_farCrossing m_read j_z0_1 j_crossings_2 j_inns_3 m_posts m_shut m_here j_steps_4 j_done_5 i_at i_gone m_was m_came m_seenAt m_rowWorth m_farBy m_used i_everywhere i_again0 i_d0 i_never i_firstCame i_longRun i_moved i_crowd i_l0 i_fitMany i_fitLeast i_fitMost m_fitPost m_fitEnd m_keptPosts i_x0], [zAr T 0 m_farBy 49 g_farBy_29]]) (br := [[zAr T 0 m_posts 7 g_posts_6], [zAr T 0 m_shut 7 g_shut_7], [zAr T 0 m_here 7 g_here_8], [zAr T 0 m_all 3952 f_all]]) (As := [.int a_]) (rest := []) C G (c_m_reachOf l T mo m_all m_has i_size i_next i_where i_token i_number i_word i_wrong i_farCrossing m_read j_z0_1 j_crossings_2 j_inns_3 m_posts m_shut m_here j_steps_4 j_done_5 i_at i_gone m_was m_came m_seenAt m_rowWorth m_farBy m_used i_everywhere i_again0 i_d0 i_never i_firstCame i_longRun i_moved i_crowd i_l0 i_fitMany i_fitLeast i_fitMost m_fitPost m_fitEnd m_keptPosts i_x0 g_farBy_29 a_ (by first | with_reducible assumption | with_reducible rfl | omega | assumption | rfl | decide) (by first | with_reducible assumption | with_reducible rfl | omega | assumption | rfl | decide) (by first | with_reducible assumption | with_reducible rfl | omega | assumption | rfl | decide)) (kV_RX12_261 C.2.2.2.2 (Nat.le_of_ble_eq_true rfl) (Nat.le_of_ble_eq_true rfl)) [3, 5] [3, 1] rfl rfl (ci := 11) (qc := (RX12, TX12, 43)) rfl rfl (List.mem_flatten.mpr ⟨_, List.mem_of_getElem? (i := 0) rfl, List.mem_cons_self⟩) rfl rfl hl.1 dX12_reach_29 (Nat.le_of_ble_eq_true rfl) (Nat.le_of_ble_eq_true rfl) (fun r_48 b1 H locs hw G => ?_)
        obtain rfl := hw
        have G : zS T A s.heap s [[zAr T 0 m_posts 7 g_posts_6], [zAr T 0 m_shut 7 g_shut_7], [zAr T 0 m_here 7 g_here_8], [zAr T 0 m_all 3952 f_all], [zO11 mo m_all m_has i_size i_next i_where i_token i_number i_word i_wrong i_farCrossing m_read j_z0_1 j_crossings_2 j_inns_3 m_posts m_shut m_here j_steps_4 j_done_5 i_at i_gone m_was m_came m_seenAt m_rowWorth m_farBy m_used i_everywhere i_again0 i_d0 i_never i_firstCame i_longRun i_moved i_crowd i_l0 i_fitMany i_fitLeast i_fitMost m_fitPost m_fitEnd m_keptPosts i_x0], [zAr T 0 m_farBy 49 g_farBy_29]] _ _ := G
        have G := G.sub (bs' := [[zO11 mo m_all m_has i_size i_next i_where i_token i_number i_word i_wrong i_farCrossing m_read j_z0_1 j_crossings_2 j_inns_3 m_posts m_shut m_here j_steps_4 j_done_5 i_at i_gone m_was m_came m_seenAt m_rowWorth m_farBy m_used i_everywhere i_again0 i_d0 i_never i_firstCame i_longRun i_moved i_crowd i_l0 i_fitMany i_fitLeast i_fitMost m_fitPost m_fitEnd m_keptPosts i_x0], [zAr T 0 m_all 3952 f_all], [zAr T 0 m_posts 7 g_posts_6], [zAr T 0 m_shut 7 g_shut_7], [zAr T 0 m_here 7 g_here_8], [zAr T 0 m_farBy 49 g_farBy_29]]) [4, 3, 0, 1, 2, 5] rfl
        exact z_back hQz_ (z_iret C hr hlocks G (Nat.le_of_ble_eq_true rfl) (Nat.le_of_ble_eq_true rfl) dX12_reach_32 ⟨j_z0_1, j_crossings_2, j_inns_3, j_steps_4, j_done_5, g_posts_6, g_shut_7, g_here_8, g_farBy_29, rfl⟩)
    · have h_28 : (a_.toInt < 0 ∨ j_crossings_2.toInt ≤ a_.toInt) := h_28
      refine lv_if_ne (tgt := 19) hx hb dX12_reach_13 (by decide) (fun q => absurd (by decide) q) (fun _ => ?_)
      refine lv_bipush (v := (-2)) hx hb dX12_reach_16 (by decide) ?_
      have G := G.sub (bs' := [[zO11 mo m_all m_has i_size i_next i_where i_token i_number i_word i_wrong i_farCrossing m_read j_z0_1 j_crossings_2 j_inns_3 m_posts m_shut m_here j_steps_4 j_done_5 i_at i_gone m_was m_came m_seenAt m_rowWorth m_farBy m_used i_everywhere i_again0 i_d0 i_never i_firstCame i_longRun i_moved i_crowd i_l0 i_fitMany i_fitLeast i_fitMost m_fitPost m_fitEnd m_keptPosts i_x0], [zAr T 0 m_all 3952 f_all], [zAr T 0 m_posts 7 g_posts_6], [zAr T 0 m_shut 7 g_shut_7], [zAr T 0 m_here 7 g_here_8], [zAr T 0 m_farBy 49 f_farBy]]) [5, 1, 2, 3, 4, 0] rfl
      exact z_back hQz_ (z_iret C hr hlocks G (Nat.le_of_ble_eq_true rfl) (Nat.le_of_ble_eq_true rfl) dX12_reach_18 ⟨j_z0_1, j_crossings_2, j_inns_3, j_steps_4, j_done_5, g_posts_6, g_shut_7, g_here_8, f_farBy, rfl⟩)
  · have h_23 : (l_.toInt < 0 ∨ (f_all 0).toInt ≤ l_.toInt) := h_23
    refine lv_if_eq (tgt := 16) hx hb dX12_reach_5 (by decide) (fun _ => ?_) (fun q => absurd (by decide) q)
    refine lv_bipush (v := (-2)) hx hb dX12_reach_16 (by decide) ?_
    have G := G.sub (bs' := [[zO11 mo m_all m_has i_size i_next i_where i_token i_number i_word i_wrong i_farCrossing m_read j_z0_1 j_crossings_2 j_inns_3 m_posts m_shut m_here j_steps_4 j_done_5 i_at i_gone m_was m_came m_seenAt m_rowWorth m_farBy m_used i_everywhere i_again0 i_d0 i_never i_firstCame i_longRun i_moved i_crowd i_l0 i_fitMany i_fitLeast i_fitMost m_fitPost m_fitEnd m_keptPosts i_x0], [zAr T 0 m_all 3952 f_all], [zAr T 0 m_posts 7 g_posts_6], [zAr T 0 m_shut 7 g_shut_7], [zAr T 0 m_here 7 g_here_8], [zAr T 0 m_farBy 49 f_farBy]]) [1, 2, 3, 4, 5, 0] rfl
    exact z_back hQz_ (z_iret C hr hlocks G (Nat.le_of_ble_eq_true rfl) (Nat.le_of_ble_eq_true rfl) dX12_reach_18 ⟨j_z0_1, j_crossings_2, j_inns_3, j_steps_4, j_done_5, g_posts_6, g_shut_7, g_here_8, f_farBy, rfl⟩)
set_option maxHeartbeats 4000000 in
set_option maxRecDepth 100000 in
/-- c_m_classOf -/
theorem c_m_classOf (l : Launch) (T : zTy) (mo : Nat) (m_all : Nat) (m_has : Nat) (i_size : Int32) (i_next : Int32) (i_where : Int32) (i_token : Int32) (i_number : Int32) (i_word : Int32) (i_wrong : Int32) (i_farCrossing : Int32) (m_read : Nat) (i_z0 : Int32) (i_crossings : Int32) (i_inns : Int32) (m_posts : Nat) (m_shut : Nat) (m_here : Nat) (i_steps : Int32) (i_done : Int32) (i_at : Int32) (i_gone : Int32) (m_was : Nat) (m_came : Nat) (m_seenAt : Nat) (m_rowWorth : Nat) (m_farBy : Nat) (m_used : Nat) (i_everywhere : Int32) (i_again0 : Int32) (i_d0 : Int32) (i_never : Int32) (i_firstCame : Int32) (i_longRun : Int32) (i_moved : Int32) (i_crowd : Int32) (i_l0 : Int32) (i_fitMany : Int32) (i_fitLeast : Int32) (i_fitMost : Int32) (m_fitPost : Nat) (m_fitEnd : Nat) (m_keptPosts : Nat) (i_x0 : Int32) (f_farBy : Nat → Int32) (a_ : Int32) (hcr : 0 ≤ i_crossings.toInt ∧ i_crossings.toInt ≤ 7) (ha0 : 0 ≤ a_.toInt) (ha6 : a_.toInt ≤ 6) : zMi l T yX12_classOf cX12_classOf 4 (some .int) 1 0 0 [.ref mo, .int a_] [[zO11 mo m_all m_has i_size i_next i_where i_token i_number i_word i_wrong i_farCrossing m_read i_z0 i_crossings i_inns m_posts m_shut m_here i_steps i_done i_at i_gone m_was m_came m_seenAt m_rowWorth m_farBy m_used i_everywhere i_again0 i_d0 i_never i_firstCame i_longRun i_moved i_crowd i_l0 i_fitMany i_fitLeast i_fitMost m_fitPost m_fitEnd m_keptPosts i_x0], [zAr T 0 m_farBy 49 f_farBy]] (fun (r : Int32) bs => bs = [[zO11 mo m_all m_has i_size i_next i_where i_token i_number i_word i_wrong i_farCrossing m_read i_z0 i_crossings i_inns m_posts m_shut m_here i_steps i_done i_at i_gone m_was m_came m_seenAt m_rowWorth m_farBy m_used i_everywhere i_again0 i_d0 i_never i_firstCame i_longRun i_moved i_crowd i_l0 i_fitMany i_fitLeast i_fitMost m_fitPost m_fitEnd m_keptPosts i_x0], [zAr T 0 m_farBy 49 f_farBy]]) := by
  refine zMi_of (own := RX12) (by decide) rfl (Nat.le_of_ble_eq_true rfl) ?_
  intro p e s m args below meth c A ls C hr hlocks hnm hAe G hl
  refine zHide (fun Qz_ hQz_ => ?_)
  have hx := C.1
  have hb := C.2.1
  have hl : lv_has ls 4 [(0, .ref mo), (1, .int a_)] := hl
  refine lv_iconst (v := 0) hx hb dX12_classOf_0 (by decide) ?_
  refine lv_istore_n (lv' := [(2, .int 0), (0, .ref mo), (1, .int a_)]) hx hb dX12_classOf_1 rfl hl (by decide) (zLvf_h rfl) (fun ls hl => ?_)
  refine lv_iconst (v := 0) hx hb dX12_classOf_2 (by decide) ?_
  refine lv_istore_n (lv' := [(3, .int 0), (2, .int 0), (0, .ref mo), (1, .int a_)]) hx hb dX12_classOf_3 rfl hl (by decide) (zLvf_h rfl) (fun ls hl => ?_)
  refine z_lp2 (T := T) 4 (fun (i : Nat) (u : Int32) => [[zO11 mo m_all m_has i_size i_next i_where i_token i_number i_word i_wrong i_farCrossing m_read i_z0 i_crossings i_inns m_posts m_shut m_here i_steps i_done i_at i_gone m_was m_came m_seenAt m_rowWorth m_farBy m_used i_everywhere i_again0 i_d0 i_never i_firstCame i_longRun i_moved i_crowd i_l0 i_fitMany i_fitLeast i_fitMost m_fitPost m_fitEnd m_keptPosts i_x0], [zAr T 0 m_farBy 49 f_farBy]]) (fun (i : Nat) (u : Int32) => [(3, .int (nI i)), (2, .int u), (0, .ref mo), (1, .int a_)]) (fun (i : Nat) (u : Int32) => i ≤ 7) (fun (i : Nat) (u : Int32) => 7 - i) ?_ 0 0 (show 0 ≤ 7 from by omega) G (lv_sub hl [0, 1, 2, 3] rfl)
  intro i u hi ih_4 H locs ls G hl
  replace hi : i ≤ 7 := hi
  replace G : zS T A s.heap s [[zO11 mo m_all m_has i_size i_next i_where i_token i_number i_word i_wrong i_farCrossing m_read i_z0 i_crossings i_inns m_posts m_shut m_here i_steps i_done i_at i_gone m_was m_came m_seenAt m_rowWorth m_farBy m_used i_everywhere i_again0 i_d0 i_never i_firstCame i_longRun i_moved i_crowd i_l0 i_fitMany i_fitLeast i_fitMost m_fitPost m_fitEnd m_keptPosts i_x0], [zAr T 0 m_farBy 49 f_farBy]] _ _ := G
  replace hl : lv_has ls 4 [(3, .int (nI i)), (2, .int u), (0, .ref mo), (1, .int a_)] := hl
  refine lv_iload_n hx hb dX12_classOf_4 rfl (lv_at hl 0 rfl) ?_
  refine lv_aload_n hx hb dX12_classOf_5 rfl (lv_at hl 2 rfl) ?_
  refine z_get C G clX12 0 rfl 12 (by decide) m_fl_RX12_169 rfl dX12_classOf_6 ?_
  refine lv_icmp_ge (tgt := 58) hx hb dX12_classOf_9 (by decide) (fun c_1 => ?_) (fun c_1 => ?_)
  · have c_1n : i_crossings.toInt ≤ (i : Int) := by have q := (fa_le _ _).mp c_1; rw [nI_toInt (n := i) (by omega)] at q; exact q
    refine lv_iload_n hx hb dX12_classOf_58 rfl (lv_at hl 1 rfl) ?_
    exact z_back hQz_ (z_iret C hr hlocks G (Nat.le_of_ble_eq_true rfl) (Nat.le_of_ble_eq_true rfl) dX12_classOf_59 rfl)
  · have c_1n : ¬ i_crossings.toInt ≤ (i : Int) := fun q => c_1 ((fa_le _ _).mpr (by rw [nI_toInt (n := i) (by omega)]; exact q))
    refine lv_iload_n hx hb dX12_classOf_12 rfl (lv_at hl 1 rfl) ?_
    refine lv_aload_n hx hb dX12_classOf_13 rfl (lv_at hl 2 rfl) ?_
    refine z_get C G clX12 0 rfl 25 (by decide) m_fl_RX12_41 rfl dX12_classOf_14 ?_
    refine lv_bipush (v := 7) hx hb dX12_classOf_17 (by decide) ?_
    refine lv_iload_n hx hb dX12_classOf_19 rfl (lv_at hl 3 rfl) ?_
    refine lv_imul hx hb dX12_classOf_20 ?_
    refine lv_topi (fun y_2 ey_2 => ?_)
    have ey_2i : y_2.toInt = (7 : Int) * a_.toInt := by rw [ey_2]; exact z_imulI (x := (7 : Int32)) (y := a_) (by show -2147483648 ≤ (7 : Int) * a_.toInt; omega) (by show (7 : Int) * a_.toInt < 2147483648; omega)
    refine lv_iload_n hx hb dX12_classOf_21 rfl (lv_at hl 0 rfl) ?_
    refine lv_iadd hx hb dX12_classOf_22 ?_
    refine lv_topi (fun y_3 ey_3 => ?_)
    have ey_3i : y_3.toInt = y_2.toInt + (i : Int) := by rw [ey_3]; exact (z_iaddI (x := y_2) (y := (nI i)) (by rw [nI_toInt (n := i) (by omega)]; show -2147483648 ≤ y_2.toInt + (i : Int); omega) (by rw [nI_toInt (n := i) (by omega)]; show y_2.toInt + (i : Int) < 2147483648; omega)).trans (by rw [nI_toInt (n := i) (by omega)] <;> rfl)
    refine z_ild C G 1 rfl (vp_in_iff.mpr ⟨by omega, by omega⟩) dX12_classOf_23 ?_
    refine lv_topi (fun v_4 ev_4 => ?_)
    subst ev_4
    refine lv_iconst (v := (-1)) hx hb dX12_classOf_24 (by decide) ?_
    refine lv_icmp_eq (tgt := 49) hx hb dX12_classOf_25 (by decide) (fun c_5 => ?_) (fun c_5 => ?_)
    · have c_5n : (f_farBy y_3.toNatClampNeg).toInt = (-1 : Int) := (fa_eq _ _).mp c_5
      refine lv_iconst (v := 0) hx hb dX12_classOf_49 (by decide) ?_
      refine lv_ior hx hb dX12_classOf_50 ?_
      refine lv_istore_n (lv' := [(2, .int (u ||| 0)), (3, .int (nI i)), (0, .ref mo), (1, .int a_)]) hx hb dX12_classOf_51 rfl hl (by decide) (zLvf_h rfl) (fun ls hl => ?_)
      refine lv_iinc (v := nI (i + 1)) (lv' := [(3, .int (nI (i + 1))), (2, .int (u ||| 0)), (0, .ref mo), (1, .int a_)]) hx hb dX12_classOf_52 hl (k := 1) rfl (z_inc i 1) (by decide) (zLvf_h rfl) (fun ls hl => ?_)
      refine lv_goto (tgt := 4) hx hb dX12_classOf_55 (by decide) ?_
      exact ih_4 (i + 1) (u ||| 0) (show (i + 1) ≤ 7 from by omega) (show 7 - (i + 1) < 7 - i from by omega) _ _ ls G (lv_sub hl [0, 1, 2, 3] rfl)
    · have c_5n : ¬ (f_farBy y_3.toNatClampNeg).toInt = (-1 : Int) := fun q => c_5 ((fa_eq _ _).mpr q)
      refine lv_aload_n hx hb dX12_classOf_28 rfl (lv_at hl 2 rfl) ?_
      refine z_get C G clX12 0 rfl 25 (by decide) m_fl_RX12_41 rfl dX12_classOf_29 ?_
      refine lv_bipush (v := 7) hx hb dX12_classOf_32 (by decide) ?_
      refine lv_iload_n hx hb dX12_classOf_34 rfl (lv_at hl 0 rfl) ?_
      refine lv_imul hx hb dX12_classOf_35 ?_
      refine lv_topi (fun y_6 ey_6 => ?_)
      obtain rfl : y_6 = nI (7 * i) := ey_6.trans (z_imuln 7 i rfl rfl)
      refine lv_iload_n hx hb dX12_classOf_36 rfl (lv_at hl 3 rfl) ?_
      refine lv_iadd hx hb dX12_classOf_37 ?_
      refine lv_topi (fun y_7 ey_7 => ?_)
      have ey_7i : y_7.toInt = ((7 * i) : Int) + a_.toInt := by rw [ey_7]; exact (z_iaddI (x := (nI (7 * i))) (y := a_) (by rw [nI_toInt (n := 7 * i) (by omega)]; show -2147483648 ≤ ((7 * i) : Int) + a_.toInt; omega) (by rw [nI_toInt (n := 7 * i) (by omega)]; show ((7 * i) : Int) + a_.toInt < 2147483648; omega)).trans (by rw [nI_toInt (n := 7 * i) (by omega)] <;> rfl)
      refine z_ild C G 1 rfl (vp_in_iff.mpr ⟨by omega, by omega⟩) dX12_classOf_38 ?_
      refine lv_topi (fun v_8 ev_8 => ?_)
      subst ev_8
      refine lv_iconst (v := (-1)) hx hb dX12_classOf_39 (by decide) ?_
      refine lv_icmp_eq (tgt := 49) hx hb dX12_classOf_40 (by decide) (fun c_9 => ?_) (fun c_9 => ?_)
      · have c_9n : (f_farBy y_7.toNatClampNeg).toInt = (-1 : Int) := (fa_eq _ _).mp c_9
        refine lv_iconst (v := 0) hx hb dX12_classOf_49 (by decide) ?_
        refine lv_ior hx hb dX12_classOf_50 ?_
        refine lv_istore_n (lv' := [(2, .int (u ||| 0)), (3, .int (nI i)), (0, .ref mo), (1, .int a_)]) hx hb dX12_classOf_51 rfl hl (by decide) (zLvf_h rfl) (fun ls hl => ?_)
        refine lv_iinc (v := nI (i + 1)) (lv' := [(3, .int (nI (i + 1))), (2, .int (u ||| 0)), (0, .ref mo), (1, .int a_)]) hx hb dX12_classOf_52 hl (k := 1) rfl (z_inc i 1) (by decide) (zLvf_h rfl) (fun ls hl => ?_)
        refine lv_goto (tgt := 4) hx hb dX12_classOf_55 (by decide) ?_
        exact ih_4 (i + 1) (u ||| 0) (show (i + 1) ≤ 7 from by omega) (show 7 - (i + 1) < 7 - i from by omega) _ _ ls G (lv_sub hl [0, 1, 2, 3] rfl)
      · have c_9n : ¬ (f_farBy y_7.toNatClampNeg).toInt = (-1 : Int) := fun q => c_9 ((fa_eq _ _).mpr q)
        refine lv_iconst (v := 1) hx hb dX12_classOf_43 (by decide) ?_
        refine lv_iload_n hx hb dX12_classOf_44 rfl (lv_at hl 0 rfl) ?_
        refine lv_ishl hx hb dX12_classOf_45 ?_
        refine lv_goto (tgt := 50) hx hb dX12_classOf_46 (by decide) ?_
        refine lv_ior hx hb dX12_classOf_50 ?_
        refine lv_istore_n (lv' := [(2, .int (u ||| (1 <<< ((nI i) &&& 31)))), (3, .int (nI i)), (0, .ref mo), (1, .int a_)]) hx hb dX12_classOf_51 rfl hl (by decide) (zLvf_h rfl) (fun ls hl => ?_)
        refine lv_iinc (v := nI (i + 1)) (lv' := [(3, .int (nI (i + 1))), (2, .int (u ||| (1 <<< ((nI i) &&& 31)))), (0, .ref mo), (1, .int a_)]) hx hb dX12_classOf_52 hl (k := 1) rfl (z_inc i 1) (by decide) (zLvf_h rfl) (fun ls hl => ?_)
        refine lv_goto (tgt := 4) hx hb dX12_classOf_55 (by decide) ?_
        exact ih_4 (i + 1) (u ||| (1 <<< ((nI i) &&& 31))) (show (i + 1) ≤ 7 from by omega) (show 7 - (i + 1) < 7 - i from by omega) _ _ ls G (lv_sub hl [0, 1, 2, 3] rfl)
set_option maxHeartbeats 4000000 in
set_option maxRecDepth 100000 in
/-- c_m_classesOf -/
theorem c_m_classesOf (l : Launch) (T : zTy) (mo : Nat) (m_all : Nat) (m_has : Nat) (i_size : Int32) (i_next : Int32) (i_where : Int32) (i_token : Int32) (i_number : Int32) (i_word : Int32) (i_wrong : Int32) (i_farCrossing : Int32) (m_read : Nat) (i_z0 : Int32) (i_crossings : Int32) (i_inns : Int32) (m_posts : Nat) (m_shut : Nat) (m_here : Nat) (i_steps : Int32) (i_done : Int32) (i_at : Int32) (i_gone : Int32) (m_was : Nat) (m_came : Nat) (m_seenAt : Nat) (m_rowWorth : Nat) (m_farBy : Nat) (m_used : Nat) (i_everywhere : Int32) (i_again0 : Int32) (i_d0 : Int32) (i_never : Int32) (i_firstCame : Int32) (i_longRun : Int32) (i_moved : Int32) (i_crowd : Int32) (i_l0 : Int32) (i_fitMany : Int32) (i_fitLeast : Int32) (i_fitMost : Int32) (m_fitPost : Nat) (m_fitEnd : Nat) (m_keptPosts : Nat) (i_x0 : Int32) (f_all : Nat → Int32) (f_farBy : Nat → Int32) (w_ : Int32) (hL : zML f_all i_z0 i_crossings) : zMi l T yX12_classesOf cX12_classesOf 5 (some .int) 5 0 0 [.ref mo, .int w_] [[zO11 mo m_all m_has i_size i_next i_where i_token i_number i_word i_wrong i_farCrossing m_read i_z0 i_crossings i_inns m_posts m_shut m_here i_steps i_done i_at i_gone m_was m_came m_seenAt m_rowWorth m_farBy m_used i_everywhere i_again0 i_d0 i_never i_firstCame i_longRun i_moved i_crowd i_l0 i_fitMany i_fitLeast i_fitMost m_fitPost m_fitEnd m_keptPosts i_x0], [zAr T 0 m_all 3952 f_all], [zAr T 0 m_farBy 49 f_farBy]] (fun (r : Int32) bs => ∃ (g_farBy : Nat → Int32), bs = [[zO11 mo m_all m_has i_size i_next i_where i_token i_number i_word i_wrong i_farCrossing m_read i_z0 i_crossings i_inns m_posts m_shut m_here i_steps i_done i_at i_gone m_was m_came m_seenAt m_rowWorth m_farBy m_used i_everywhere i_again0 i_d0 i_never i_firstCame i_longRun i_moved i_crowd i_l0 i_fitMany i_fitLeast i_fitMost m_fitPost m_fitEnd m_keptPosts i_x0], [zAr T 0 m_all 3952 f_all], [zAr T 0 m_farBy 49 g_farBy]]) := by
  refine zMi_of (own := RX12) (by decide) rfl (Nat.le_of_ble_eq_true rfl) ?_
  intro p e s m args below meth c A ls C hr hlocks hnm hAe G hl
  refine zHide (fun Qz_ hQz_ => ?_)
  have hx := C.1
  have hb := C.2.1
  have hl : lv_has ls 5 [(0, .ref mo), (1, .int w_)] := hl
  have hz := hL.1
  have hcr := hL.cr
  refine lv_aload_n hx hb dX12_classesOf_0 rfl (lv_at hl 0 rfl) ?_
  refine z_Vv (bc := [[zO11 mo m_all m_has i_size i_next i_where i_token i_number i_word i_wrong i_farCrossing m_read i_z0 i_crossings i_inns m_posts m_shut m_here i_steps i_done i_at i_gone m_was m_came m_seenAt m_rowWorth m_farBy m_used i_everywhere i_again0 i_d0 i_never i_firstCame i_longRun i_moved i_crowd i_l0 i_fitMany i_fitLeast i_fitMost m_fitPost m_fitEnd m_keptPosts i_x0], [zAr T 0 m_all 3952 f_all], [zAr T 0 m_farBy 49 f_farBy]]) (br := []) (As := []) (rest := []) C G (c_m_laysFar l T mo m_all m_has i_size i_next i_where i_token i_number i_word i_wrong i_farCrossing m_read i_z0 i_crossings i_inns m_posts m_shut m_here i_steps i_done i_at i_gone m_was m_came m_seenAt m_rowWorth m_farBy m_used i_everywhere i_again0 i_d0 i_never i_firstCame i_longRun i_moved i_crowd i_l0 i_fitMany i_fitLeast i_fitMost m_fitPost m_fitEnd m_keptPosts i_x0 f_all f_farBy (by first | with_reducible assumption | with_reducible rfl | omega | assumption | rfl | decide)) (kV_RX12_258 C.2.2.2.2 (Nat.le_of_ble_eq_true rfl) (Nat.le_of_ble_eq_true rfl)) [0, 1, 2] [0, 0, 0] rfl rfl (ci := 11) (qc := (RX12, TX12, 43)) rfl rfl (List.mem_flatten.mpr ⟨_, List.mem_of_getElem? (i := 0) rfl, List.mem_cons_self⟩) rfl rfl hl.1 dX12_classesOf_1 (Nat.le_of_ble_eq_true rfl) (Nat.le_of_ble_eq_true rfl) (fun b1 H locs hw G => ?_)
  refine zEx1 hw ?_
  intro g_farBy_1 hbs9
  clear hw
  subst hbs9
  have G : zS T A s.heap s [[zO11 mo m_all m_has i_size i_next i_where i_token i_number i_word i_wrong i_farCrossing m_read i_z0 i_crossings i_inns m_posts m_shut m_here i_steps i_done i_at i_gone m_was m_came m_seenAt m_rowWorth m_farBy m_used i_everywhere i_again0 i_d0 i_never i_firstCame i_longRun i_moved i_crowd i_l0 i_fitMany i_fitLeast i_fitMost m_fitPost m_fitEnd m_keptPosts i_x0], [zAr T 0 m_all 3952 f_all], [zAr T 0 m_farBy 49 g_farBy_1]] _ _ := G
  refine lv_iconst (v := 0) hx hb dX12_classesOf_4 (by decide) ?_
  refine lv_istore_n (lv' := [(2, .int 0), (0, .ref mo), (1, .int w_)]) hx hb dX12_classesOf_5 rfl hl (by decide) (zLvf_h rfl) (fun ls hl => ?_)
  refine lv_iconst (v := 0) hx hb dX12_classesOf_6 (by decide) ?_
  refine lv_istore_n (lv' := [(3, .int 0), (2, .int 0), (0, .ref mo), (1, .int w_)]) hx hb dX12_classesOf_7 rfl hl (by decide) (zLvf_h rfl) (fun ls hl => ?_)
  refine lv_iconst (v := 0) hx hb dX12_classesOf_8 (by decide) ?_
  refine lv_istore (lv' := [(4, .int 0), (3, .int 0), (2, .int 0), (0, .ref mo), (1, .int w_)]) hx hb dX12_classesOf_9 hl (by decide) (zLvf_h rfl) (fun ls hl => ?_)
  refine z_lp3 (T := T) 11 (fun (i : Nat) (u : Int32) (v : Int32) => [[zO11 mo m_all m_has i_size i_next i_where i_token i_number i_word i_wrong i_farCrossing m_read i_z0 i_crossings i_inns m_posts m_shut m_here i_steps i_done i_at i_gone m_was m_came m_seenAt m_rowWorth m_farBy m_used i_everywhere i_again0 i_d0 i_never i_firstCame i_longRun i_moved i_crowd i_l0 i_fitMany i_fitLeast i_fitMost m_fitPost m_fitEnd m_keptPosts i_x0], [zAr T 0 m_all 3952 f_all], [zAr T 0 m_farBy 49 g_farBy_1]]) (fun (i : Nat) (u : Int32) (v : Int32) => [(4, .int (nI i)), (3, .int v), (2, .int u), (0, .ref mo), (1, .int w_)]) (fun (i : Nat) (u : Int32) (v : Int32) => i ≤ 7) (fun (i : Nat) (u : Int32) (v : Int32) => 7 - i) ?_ 0 0 0 (show 0 ≤ 7 from by omega) G (lv_sub hl [0, 1, 2, 3, 4] rfl)
  intro i u v hi ih_11 H locs ls G hl
  replace hi : i ≤ 7 := hi
  replace G : zS T A s.heap s [[zO11 mo m_all m_has i_size i_next i_where i_token i_number i_word i_wrong i_farCrossing m_read i_z0 i_crossings i_inns m_posts m_shut m_here i_steps i_done i_at i_gone m_was m_came m_seenAt m_rowWorth m_farBy m_used i_everywhere i_again0 i_d0 i_never i_firstCame i_longRun i_moved i_crowd i_l0 i_fitMany i_fitLeast i_fitMost m_fitPost m_fitEnd m_keptPosts i_x0], [zAr T 0 m_all 3952 f_all], [zAr T 0 m_farBy 49 g_farBy_1]] _ _ := G
  replace hl : lv_has ls 5 [(4, .int (nI i)), (3, .int v), (2, .int u), (0, .ref mo), (1, .int w_)] := hl
  refine lv_iload hx hb dX12_classesOf_11 (lv_at hl 0 rfl) ?_
  refine lv_aload_n hx hb dX12_classesOf_13 rfl (lv_at hl 3 rfl) ?_
  refine z_get C G clX12 0 rfl 12 (by decide) m_fl_RX12_169 rfl dX12_classesOf_14 ?_
  refine lv_icmp_ge (tgt := 77) hx hb dX12_classesOf_17 (by decide) (fun c_3 => ?_) (fun c_3 => ?_)
  · have c_3n : i_crossings.toInt ≤ (i : Int) := by have q := (fa_le _ _).mp c_3; rw [nI_toInt (n := i) (by omega)] at q; exact q
    refine lv_iload_n hx hb dX12_classesOf_77 rfl (lv_at hl 4 rfl) ?_
    refine lv_if_eq (tgt := 85) hx hb dX12_classesOf_78 (by decide) (fun c_4 => ?_) (fun c_4 => ?_)
    · have c_4n : w_.toInt = (0 : Int) := (fa_eq _ _).mp c_4
      refine lv_iload_n hx hb dX12_classesOf_85 rfl (lv_at hl 2 rfl) ?_
      exact z_back hQz_ (z_iret C hr hlocks G (Nat.le_of_ble_eq_true rfl) (Nat.le_of_ble_eq_true rfl) dX12_classesOf_86 ⟨g_farBy_1, rfl⟩)
    · have c_4n : ¬ w_.toInt = (0 : Int) := fun q => c_4 ((fa_eq _ _).mpr q)
      refine lv_iload_n hx hb dX12_classesOf_81 rfl (lv_at hl 1 rfl) ?_
      refine lv_goto (tgt := 86) hx hb dX12_classesOf_82 (by decide) ?_
      exact z_back hQz_ (z_iret C hr hlocks G (Nat.le_of_ble_eq_true rfl) (Nat.le_of_ble_eq_true rfl) dX12_classesOf_86 ⟨g_farBy_1, rfl⟩)
  · have c_3n : ¬ i_crossings.toInt ≤ (i : Int) := fun q => c_3 ((fa_le _ _).mpr (by rw [nI_toInt (n := i) (by omega)]; exact q))
    refine lv_iload_n hx hb dX12_classesOf_20 rfl (lv_at hl 2 rfl) ?_
    refine lv_aload_n hx hb dX12_classesOf_21 rfl (lv_at hl 3 rfl) ?_
    refine lv_iload hx hb dX12_classesOf_22 (lv_at hl 0 rfl) ?_
    have ti_5 : (nI i).toInt = ((i : Nat) : Int) := nI_toInt (by omega)
    refine z_Vi (bc := [[zO11 mo m_all m_has i_size i_next i_where i_token i_number i_word i_wrong i_farCrossing m_read i_z0 i_crossings i_inns m_posts m_shut m_here i_steps i_done i_at i_gone m_was m_came m_seenAt m_rowWorth m_farBy m_used i_everywhere i_again0 i_d0 i_never i_firstCame i_longRun i_moved i_crowd i_l0 i_fitMany i_fitLeast i_fitMost m_fitPost m_fitEnd m_keptPosts i_x0], [zAr T 0 m_farBy 49 g_farBy_1]]) (br := [[zAr T 0 m_all 3952 f_all]]) (As := [.int (nI i)]) (rest := [.int u]) C G (c_m_classOf l T mo m_all m_has i_size i_next i_where i_token i_number i_word i_wrong i_farCrossing m_read i_z0 i_crossings i_inns m_posts m_shut m_here i_steps i_done i_at i_gone m_was m_came m_seenAt m_rowWorth m_farBy m_used i_everywhere i_again0 i_d0 i_never i_firstCame i_longRun i_moved i_crowd i_l0 i_fitMany i_fitLeast i_fitMost m_fitPost m_fitEnd m_keptPosts i_x0 g_farBy_1 (nI i) (by first | with_reducible assumption | with_reducible rfl | omega | assumption | rfl | decide) (by first | with_reducible assumption | with_reducible rfl | omega | assumption | rfl | decide) (by first | with_reducible assumption | with_reducible rfl | omega | assumption | rfl | decide)) (kV_RX12_264 C.2.2.2.2 (Nat.le_of_ble_eq_true rfl) (Nat.le_of_ble_eq_true rfl)) [0, 2] [0, 1] rfl rfl (ci := 11) (qc := (RX12, TX12, 43)) rfl rfl (List.mem_flatten.mpr ⟨_, List.mem_of_getElem? (i := 0) rfl, List.mem_cons_self⟩) rfl rfl hl.1 dX12_classesOf_24 (Nat.le_of_ble_eq_true rfl) (Nat.le_of_ble_eq_true rfl) (fun r_6 b1 H locs hw G => ?_)
    obtain rfl := hw
    have G : zS T A s.heap s [[zAr T 0 m_all 3952 f_all], [zO11 mo m_all m_has i_size i_next i_where i_token i_number i_word i_wrong i_farCrossing m_read i_z0 i_crossings i_inns m_posts m_shut m_here i_steps i_done i_at i_gone m_was m_came m_seenAt m_rowWorth m_farBy m_used i_everywhere i_again0 i_d0 i_never i_firstCame i_longRun i_moved i_crowd i_l0 i_fitMany i_fitLeast i_fitMost m_fitPost m_fitEnd m_keptPosts i_x0], [zAr T 0 m_farBy 49 g_farBy_1]] _ _ := G
    refine lv_iconst (v := 1) hx hb dX12_classesOf_27 (by decide) ?_
    refine lv_iload hx hb dX12_classesOf_28 (lv_at hl 0 rfl) ?_
    refine lv_ishl hx hb dX12_classesOf_30 ?_
    refine lv_iconst (v := 1) hx hb dX12_classesOf_31 (by decide) ?_
    refine lv_isub hx hb dX12_classesOf_32 ?_
    refine lv_iand hx hb dX12_classesOf_33 ?_
    refine lv_if_ne (tgt := 41) hx hb dX12_classesOf_34 (by decide) (fun c_7 => ?_) (fun c_7 => ?_)
    · have c_7n : ¬ (r_6 &&& ((1 <<< ((nI i) &&& 31)) - 1)).toInt = (0 : Int) := fun q => c_7 ((fa_eq _ _).mpr q)
      refine lv_iconst (v := 0) hx hb dX12_classesOf_41 (by decide) ?_
      refine lv_iadd hx hb dX12_classesOf_42 ?_
      refine lv_istore_n (lv' := [(2, .int (u + 0)), (4, .int (nI i)), (3, .int v), (0, .ref mo), (1, .int w_)]) hx hb dX12_classesOf_43 rfl hl (by decide) (zLvf_h rfl) (fun ls hl => ?_)
      refine lv_aload_n hx hb dX12_classesOf_44 rfl (lv_at hl 3 rfl) ?_
      refine lv_iload hx hb dX12_classesOf_45 (lv_at hl 1 rfl) ?_
      have ti_8 : (nI i).toInt = ((i : Nat) : Int) := nI_toInt (by omega)
      refine z_Vi (bc := [[zO11 mo m_all m_has i_size i_next i_where i_token i_number i_word i_wrong i_farCrossing m_read i_z0 i_crossings i_inns m_posts m_shut m_here i_steps i_done i_at i_gone m_was m_came m_seenAt m_rowWorth m_farBy m_used i_everywhere i_again0 i_d0 i_never i_firstCame i_longRun i_moved i_crowd i_l0 i_fitMany i_fitLeast i_fitMost m_fitPost m_fitEnd m_keptPosts i_x0], [zAr T 0 m_farBy 49 g_farBy_1]]) (br := [[zAr T 0 m_all 3952 f_all]]) (As := [.int (nI i)]) (rest := []) C G (c_m_classOf l T mo m_all m_has i_size i_next i_where i_token i_number i_word i_wrong i_farCrossing m_read i_z0 i_crossings i_inns m_posts m_shut m_here i_steps i_done i_at i_gone m_was m_came m_seenAt m_rowWorth m_farBy m_used i_everywhere i_again0 i_d0 i_never i_firstCame i_longRun i_moved i_crowd i_l0 i_fitMany i_fitLeast i_fitMost m_fitPost m_fitEnd m_keptPosts i_x0 g_farBy_1 (nI i) (by first | with_reducible assumption | with_reducible rfl | omega | assumption | rfl | decide) (by first | with_reducible assumption | with_reducible rfl | omega | assumption | rfl | decide) (by first | with_reducible assumption | with_reducible rfl | omega | assumption | rfl | decide)) (kV_RX12_264 C.2.2.2.2 (Nat.le_of_ble_eq_true rfl) (Nat.le_of_ble_eq_true rfl)) [1, 2] [1, 0] rfl rfl (ci := 11) (qc := (RX12, TX12, 43)) rfl rfl (List.mem_flatten.mpr ⟨_, List.mem_of_getElem? (i := 0) rfl, List.mem_cons_self⟩) rfl rfl hl.1 dX12_classesOf_47 (Nat.le_of_ble_eq_true rfl) (Nat.le_of_ble_eq_true rfl) (fun r_9 b1 H locs hw G => ?_)
      obtain rfl := hw
      have G : zS T A s.heap s [[zAr T 0 m_all 3952 f_all], [zO11 mo m_all m_has i_size i_next i_where i_token i_number i_word i_wrong i_farCrossing m_read i_z0 i_crossings i_inns m_posts m_shut m_here i_steps i_done i_at i_gone m_was m_came m_seenAt m_rowWorth m_farBy m_used i_everywhere i_again0 i_d0 i_never i_firstCame i_longRun i_moved i_crowd i_l0 i_fitMany i_fitLeast i_fitMost m_fitPost m_fitEnd m_keptPosts i_x0], [zAr T 0 m_farBy 49 g_farBy_1]] _ _ := G
      refine z_Si (bc := []) (br := [[zAr T 0 m_all 3952 f_all], [zO11 mo m_all m_has i_size i_next i_where i_token i_number i_word i_wrong i_farCrossing m_read i_z0 i_crossings i_inns m_posts m_shut m_here i_steps i_done i_at i_gone m_was m_came m_seenAt m_rowWorth m_farBy m_used i_everywhere i_again0 i_d0 i_never i_firstCame i_longRun i_moved i_crowd i_l0 i_fitMany i_fitLeast i_fitMost m_fitPost m_fitEnd m_keptPosts i_x0], [zAr T 0 m_farBy 49 g_farBy_1]]) (As := [.int r_9]) (rest := []) C G (c_m_bitsOf l T r_9) (kS_RX12_235 C.2.2.2.2 (Nat.le_of_ble_eq_true rfl) (Nat.le_of_ble_eq_true rfl)) [] [] rfl rfl rfl rfl hl.1 dX12_classesOf_50 (Nat.le_of_ble_eq_true rfl) (Nat.le_of_ble_eq_true rfl) (fun r_10 b1 H locs hw G => ?_)
      obtain rfl := hw
      have G : zS T A s.heap s [[zAr T 0 m_all 3952 f_all], [zO11 mo m_all m_has i_size i_next i_where i_token i_number i_word i_wrong i_farCrossing m_read i_z0 i_crossings i_inns m_posts m_shut m_here i_steps i_done i_at i_gone m_was m_came m_seenAt m_rowWorth m_farBy m_used i_everywhere i_again0 i_d0 i_never i_firstCame i_longRun i_moved i_crowd i_l0 i_fitMany i_fitLeast i_fitMost m_fitPost m_fitEnd m_keptPosts i_x0], [zAr T 0 m_farBy 49 g_farBy_1]] _ _ := G
      refine lv_iload_n hx hb dX12_classesOf_53 rfl (lv_at hl 2 rfl) ?_
      refine lv_icmp_le (tgt := 69) hx hb dX12_classesOf_54 (by decide) (fun c_11 => ?_) (fun c_11 => ?_)
      · have c_11n : r_10.toInt ≤ v.toInt := (fa_le _ _).mp c_11
        refine lv_iload_n hx hb dX12_classesOf_69 rfl (lv_at hl 2 rfl) ?_
        refine lv_istore_n (lv' := [(3, .int v), (2, .int (u + 0)), (4, .int (nI i)), (0, .ref mo), (1, .int w_)]) hx hb dX12_classesOf_70 rfl hl (by decide) (zLvf_h rfl) (fun ls hl => ?_)
        refine lv_iinc (v := nI (i + 1)) (lv' := [(4, .int (nI (i + 1))), (3, .int v), (2, .int (u + 0)), (0, .ref mo), (1, .int w_)]) hx hb dX12_classesOf_71 hl (k := 2) rfl (z_inc i 1) (by decide) (zLvf_h rfl) (fun ls hl => ?_)
        refine lv_goto (tgt := 11) hx hb dX12_classesOf_74 (by decide) ?_
        have G := G.sub (bs' := [[zO11 mo m_all m_has i_size i_next i_where i_token i_number i_word i_wrong i_farCrossing m_read i_z0 i_crossings i_inns m_posts m_shut m_here i_steps i_done i_at i_gone m_was m_came m_seenAt m_rowWorth m_farBy m_used i_everywhere i_again0 i_d0 i_never i_firstCame i_longRun i_moved i_crowd i_l0 i_fitMany i_fitLeast i_fitMost m_fitPost m_fitEnd m_keptPosts i_x0], [zAr T 0 m_all 3952 f_all], [zAr T 0 m_farBy 49 g_farBy_1]]) [1, 0, 2] rfl
        exact ih_11 (i + 1) (u + 0) v (show (i + 1) ≤ 7 from by omega) (show 7 - (i + 1) < 7 - i from by omega) _ _ ls G (lv_sub hl [0, 1, 2, 3, 4] rfl)
      · have c_11n : ¬ r_10.toInt ≤ v.toInt := fun q => c_11 ((fa_le _ _).mpr q)
        refine lv_aload_n hx hb dX12_classesOf_57 rfl (lv_at hl 3 rfl) ?_
        refine lv_iload hx hb dX12_classesOf_58 (lv_at hl 1 rfl) ?_
        have ti_12 : (nI i).toInt = ((i : Nat) : Int) := nI_toInt (by omega)
        refine z_Vi (bc := [[zO11 mo m_all m_has i_size i_next i_where i_token i_number i_word i_wrong i_farCrossing m_read i_z0 i_crossings i_inns m_posts m_shut m_here i_steps i_done i_at i_gone m_was m_came m_seenAt m_rowWorth m_farBy m_used i_everywhere i_again0 i_d0 i_never i_firstCame i_longRun i_moved i_crowd i_l0 i_fitMany i_fitLeast i_fitMost m_fitPost m_fitEnd m_keptPosts i_x0], [zAr T 0 m_farBy 49 g_farBy_1]]) (br := [[zAr T 0 m_all 3952 f_all]]) (As := [.int (nI i)]) (rest := []) C G (c_m_classOf l T mo m_all m_has i_size i_next i_where i_token i_number i_word i_wrong i_farCrossing m_read i_z0 i_crossings i_inns m_posts m_shut m_here i_steps i_done i_at i_gone m_was m_came m_seenAt m_rowWorth m_farBy m_used i_everywhere i_again0 i_d0 i_never i_firstCame i_longRun i_moved i_crowd i_l0 i_fitMany i_fitLeast i_fitMost m_fitPost m_fitEnd m_keptPosts i_x0 g_farBy_1 (nI i) (by first | with_reducible assumption | with_reducible rfl | omega | assumption | rfl | decide) (by first | with_reducible assumption | with_reducible rfl | omega | assumption | rfl | decide) (by first | with_reducible assumption | with_reducible rfl | omega | assumption | rfl | decide)) (kV_RX12_264 C.2.2.2.2 (Nat.le_of_ble_eq_true rfl) (Nat.le_of_ble_eq_true rfl)) [1, 2] [1, 0] rfl rfl (ci := 11) (qc := (RX12, TX12, 43)) rfl rfl (List.mem_flatten.mpr ⟨_, List.mem_of_getElem? (i := 0) rfl, List.mem_cons_self⟩) rfl rfl hl.1 dX12_classesOf_60 (Nat.le_of_ble_eq_true rfl) (Nat.le_of_ble_eq_true rfl) (fun r_13 b1 H locs hw G => ?_)
        obtain rfl := hw
        have G : zS T A s.heap s [[zAr T 0 m_all 3952 f_all], [zO11 mo m_all m_has i_size i_next i_where i_token i_number i_word i_wrong i_farCrossing m_read i_z0 i_crossings i_inns m_posts m_shut m_here i_steps i_done i_at i_gone m_was m_came m_seenAt m_rowWorth m_farBy m_used i_everywhere i_again0 i_d0 i_never i_firstCame i_longRun i_moved i_crowd i_l0 i_fitMany i_fitLeast i_fitMost m_fitPost m_fitEnd m_keptPosts i_x0], [zAr T 0 m_farBy 49 g_farBy_1]] _ _ := G
        refine z_Si (bc := []) (br := [[zAr T 0 m_all 3952 f_all], [zO11 mo m_all m_has i_size i_next i_where i_token i_number i_word i_wrong i_farCrossing m_read i_z0 i_crossings i_inns m_posts m_shut m_here i_steps i_done i_at i_gone m_was m_came m_seenAt m_rowWorth m_farBy m_used i_everywhere i_again0 i_d0 i_never i_firstCame i_longRun i_moved i_crowd i_l0 i_fitMany i_fitLeast i_fitMost m_fitPost m_fitEnd m_keptPosts i_x0], [zAr T 0 m_farBy 49 g_farBy_1]]) (As := [.int r_13]) (rest := []) C G (c_m_bitsOf l T r_13) (kS_RX12_235 C.2.2.2.2 (Nat.le_of_ble_eq_true rfl) (Nat.le_of_ble_eq_true rfl)) [] [] rfl rfl rfl rfl hl.1 dX12_classesOf_63 (Nat.le_of_ble_eq_true rfl) (Nat.le_of_ble_eq_true rfl) (fun r_14 b1 H locs hw G => ?_)
        obtain rfl := hw
        have G : zS T A s.heap s [[zAr T 0 m_all 3952 f_all], [zO11 mo m_all m_has i_size i_next i_where i_token i_number i_word i_wrong i_farCrossing m_read i_z0 i_crossings i_inns m_posts m_shut m_here i_steps i_done i_at i_gone m_was m_came m_seenAt m_rowWorth m_farBy m_used i_everywhere i_again0 i_d0 i_never i_firstCame i_longRun i_moved i_crowd i_l0 i_fitMany i_fitLeast i_fitMost m_fitPost m_fitEnd m_keptPosts i_x0], [zAr T 0 m_farBy 49 g_farBy_1]] _ _ := G
        refine lv_goto (tgt := 70) hx hb dX12_classesOf_66 (by decide) ?_
        refine lv_istore_n (lv' := [(3, .int r_14), (2, .int (u + 0)), (4, .int (nI i)), (0, .ref mo), (1, .int w_)]) hx hb dX12_classesOf_70 rfl hl (by decide) (zLvf_h rfl) (fun ls hl => ?_)
        refine lv_iinc (v := nI (i + 1)) (lv' := [(4, .int (nI (i + 1))), (3, .int r_14), (2, .int (u + 0)), (0, .ref mo), (1, .int w_)]) hx hb dX12_classesOf_71 hl (k := 2) rfl (z_inc i 1) (by decide) (zLvf_h rfl) (fun ls hl => ?_)
        refine lv_goto (tgt := 11) hx hb dX12_classesOf_74 (by decide) ?_
        have G := G.sub (bs' := [[zO11 mo m_all m_has i_size i_next i_where i_token i_number i_word i_wrong i_farCrossing m_read i_z0 i_crossings i_inns m_posts m_shut m_here i_steps i_done i_at i_gone m_was m_came m_seenAt m_rowWorth m_farBy m_used i_everywhere i_again0 i_d0 i_never i_firstCame i_longRun i_moved i_crowd i_l0 i_fitMany i_fitLeast i_fitMost m_fitPost m_fitEnd m_keptPosts i_x0], [zAr T 0 m_all 3952 f_all], [zAr T 0 m_farBy 49 g_farBy_1]]) [1, 0, 2] rfl
        exact ih_11 (i + 1) (u + 0) r_14 (show (i + 1) ≤ 7 from by omega) (show 7 - (i + 1) < 7 - i from by omega) _ _ ls G (lv_sub hl [0, 1, 2, 3, 4] rfl)
    · have c_7n : (r_6 &&& ((1 <<< ((nI i) &&& 31)) - 1)).toInt = (0 : Int) := (fa_eq _ _).mp c_7
      refine lv_iconst (v := 1) hx hb dX12_classesOf_37 (by decide) ?_
      refine lv_goto (tgt := 42) hx hb dX12_classesOf_38 (by decide) ?_
      refine lv_iadd hx hb dX12_classesOf_42 ?_
      refine lv_istore_n (lv' := [(2, .int (u + 1)), (4, .int (nI i)), (3, .int v), (0, .ref mo), (1, .int w_)]) hx hb dX12_classesOf_43 rfl hl (by decide) (zLvf_h rfl) (fun ls hl => ?_)
      refine lv_aload_n hx hb dX12_classesOf_44 rfl (lv_at hl 3 rfl) ?_
      refine lv_iload hx hb dX12_classesOf_45 (lv_at hl 1 rfl) ?_
      have ti_15 : (nI i).toInt = ((i : Nat) : Int) := nI_toInt (by omega)
      refine z_Vi (bc := [[zO11 mo m_all m_has i_size i_next i_where i_token i_number i_word i_wrong i_farCrossing m_read i_z0 i_crossings i_inns m_posts m_shut m_here i_steps i_done i_at i_gone m_was m_came m_seenAt m_rowWorth m_farBy m_used i_everywhere i_again0 i_d0 i_never i_firstCame i_longRun i_moved i_crowd i_l0 i_fitMany i_fitLeast i_fitMost m_fitPost m_fitEnd m_keptPosts i_x0], [zAr T 0 m_farBy 49 g_farBy_1]]) (br := [[zAr T 0 m_all 3952 f_all]]) (As := [.int (nI i)]) (rest := []) C G (c_m_classOf l T mo m_all m_has i_size i_next i_where i_token i_number i_word i_wrong i_farCrossing m_read i_z0 i_crossings i_inns m_posts m_shut m_here i_steps i_done i_at i_gone m_was m_came m_seenAt m_rowWorth m_farBy m_used i_everywhere i_again0 i_d0 i_never i_firstCame i_longRun i_moved i_crowd i_l0 i_fitMany i_fitLeast i_fitMost m_fitPost m_fitEnd m_keptPosts i_x0 g_farBy_1 (nI i) (by first | with_reducible assumption | with_reducible rfl | omega | assumption | rfl | decide) (by first | with_reducible assumption | with_reducible rfl | omega | assumption | rfl | decide) (by first | with_reducible assumption | with_reducible rfl | omega | assumption | rfl | decide)) (kV_RX12_264 C.2.2.2.2 (Nat.le_of_ble_eq_true rfl) (Nat.le_of_ble_eq_true rfl)) [1, 2] [1, 0] rfl rfl (ci := 11) (qc := (RX12, TX12, 43)) rfl rfl (List.mem_flatten.mpr ⟨_, List.mem_of_getElem? (i := 0) rfl, List.mem_cons_self⟩) rfl rfl hl.1 dX12_classesOf_47 (Nat.le_of_ble_eq_true rfl) (Nat.le_of_ble_eq_true rfl) (fun r_16 b1 H locs hw G => ?_)
      obtain rfl := hw
      have G : zS T A s.heap s [[zAr T 0 m_all 3952 f_all], [zO11 mo m_all m_has i_size i_next i_where i_token i_number i_word i_wrong i_farCrossing m_read i_z0 i_crossings i_inns m_posts m_shut m_here i_steps i_done i_at i_gone m_was m_came m_seenAt m_rowWorth m_farBy m_used i_everywhere i_again0 i_d0 i_never i_firstCame i_longRun i_moved i_crowd i_l0 i_fitMany i_fitLeast i_fitMost m_fitPost m_fitEnd m_keptPosts i_x0], [zAr T 0 m_farBy 49 g_farBy_1]] _ _ := G
      refine z_Si (bc := []) (br := [[zAr T 0 m_all 3952 f_all], [zO11 mo m_all m_has i_size i_next i_where i_token i_number i_word i_wrong i_farCrossing m_read i_z0 i_crossings i_inns m_posts m_shut m_here i_steps i_done i_at i_gone m_was m_came m_seenAt m_rowWorth m_farBy m_used i_everywhere i_again0 i_d0 i_never i_firstCame i_longRun i_moved i_crowd i_l0 i_fitMany i_fitLeast i_fitMost m_fitPost m_fitEnd m_keptPosts i_x0], [zAr T 0 m_farBy 49 g_farBy_1]]) (As := [.int r_16]) (rest := []) C G (c_m_bitsOf l T r_16) (kS_RX12_235 C.2.2.2.2 (Nat.le_of_ble_eq_true rfl) (Nat.le_of_ble_eq_true rfl)) [] [] rfl rfl rfl rfl hl.1 dX12_classesOf_50 (Nat.le_of_ble_eq_true rfl) (Nat.le_of_ble_eq_true rfl) (fun r_17 b1 H locs hw G => ?_)
      obtain rfl := hw
      have G : zS T A s.heap s [[zAr T 0 m_all 3952 f_all], [zO11 mo m_all m_has i_size i_next i_where i_token i_number i_word i_wrong i_farCrossing m_read i_z0 i_crossings i_inns m_posts m_shut m_here i_steps i_done i_at i_gone m_was m_came m_seenAt m_rowWorth m_farBy m_used i_everywhere i_again0 i_d0 i_never i_firstCame i_longRun i_moved i_crowd i_l0 i_fitMany i_fitLeast i_fitMost m_fitPost m_fitEnd m_keptPosts i_x0], [zAr T 0 m_farBy 49 g_farBy_1]] _ _ := G
      refine lv_iload_n hx hb dX12_classesOf_53 rfl (lv_at hl 2 rfl) ?_
      refine lv_icmp_le (tgt := 69) hx hb dX12_classesOf_54 (by decide) (fun c_18 => ?_) (fun c_18 => ?_)
      · have c_18n : r_17.toInt ≤ v.toInt := (fa_le _ _).mp c_18
        refine lv_iload_n hx hb dX12_classesOf_69 rfl (lv_at hl 2 rfl) ?_
        refine lv_istore_n (lv' := [(3, .int v), (2, .int (u + 1)), (4, .int (nI i)), (0, .ref mo), (1, .int w_)]) hx hb dX12_classesOf_70 rfl hl (by decide) (zLvf_h rfl) (fun ls hl => ?_)
        refine lv_iinc (v := nI (i + 1)) (lv' := [(4, .int (nI (i + 1))), (3, .int v), (2, .int (u + 1)), (0, .ref mo), (1, .int w_)]) hx hb dX12_classesOf_71 hl (k := 2) rfl (z_inc i 1) (by decide) (zLvf_h rfl) (fun ls hl => ?_)
        refine lv_goto (tgt := 11) hx hb dX12_classesOf_74 (by decide) ?_
        have G := G.sub (bs' := [[zO11 mo m_all m_has i_size i_next i_where i_token i_number i_word i_wrong i_farCrossing m_read i_z0 i_crossings i_inns m_posts m_shut m_here i_steps i_done i_at i_gone m_was m_came m_seenAt m_rowWorth m_farBy m_used i_everywhere i_again0 i_d0 i_never i_firstCame i_longRun i_moved i_crowd i_l0 i_fitMany i_fitLeast i_fitMost m_fitPost m_fitEnd m_keptPosts i_x0], [zAr T 0 m_all 3952 f_all], [zAr T 0 m_farBy 49 g_farBy_1]]) [1, 0, 2] rfl
        exact ih_11 (i + 1) (u + 1) v (show (i + 1) ≤ 7 from by omega) (show 7 - (i + 1) < 7 - i from by omega) _ _ ls G (lv_sub hl [0, 1, 2, 3, 4] rfl)
      · have c_18n : ¬ r_17.toInt ≤ v.toInt := fun q => c_18 ((fa_le _ _).mpr q)
        refine lv_aload_n hx hb dX12_classesOf_57 rfl (lv_at hl 3 rfl) ?_
        refine lv_iload hx hb dX12_classesOf_58 (lv_at hl 1 rfl) ?_
        have ti_19 : (nI i).toInt = ((i : Nat) : Int) := nI_toInt (by omega)
        refine z_Vi (bc := [[zO11 mo m_all m_has i_size i_next i_where i_token i_number i_word i_wrong i_farCrossing m_read i_z0 i_crossings i_inns m_posts m_shut m_here i_steps i_done i_at i_gone m_was m_came m_seenAt m_rowWorth m_farBy m_used i_everywhere i_again0 i_d0 i_never i_firstCame i_longRun i_moved i_crowd i_l0 i_fitMany i_fitLeast i_fitMost m_fitPost m_fitEnd m_keptPosts i_x0], [zAr T 0 m_farBy 49 g_farBy_1]]) (br := [[zAr T 0 m_all 3952 f_all]]) (As := [.int (nI i)]) (rest := []) C G (c_m_classOf l T mo m_all m_has i_size i_next i_where i_token i_number i_word i_wrong i_farCrossing m_read i_z0 i_crossings i_inns m_posts m_shut m_here i_steps i_done i_at i_gone m_was m_came m_seenAt m_rowWorth m_farBy m_used i_everywhere i_again0 i_d0 i_never i_firstCame i_longRun i_moved i_crowd i_l0 i_fitMany i_fitLeast i_fitMost m_fitPost m_fitEnd m_keptPosts i_x0 g_farBy_1 (nI i) (by first | with_reducible assumption | with_reducible rfl | omega | assumption | rfl | decide) (by first | with_reducible assumption | with_reducible rfl | omega | assumption | rfl | decide) (by first | with_reducible assumption | with_reducible rfl | omega | assumption | rfl | decide)) (kV_RX12_264 C.2.2.2.2 (Nat.le_of_ble_eq_true rfl) (Nat.le_of_ble_eq_true rfl)) [1, 2] [1, 0] rfl rfl (ci := 11) (qc := (RX12, TX12, 43)) rfl rfl (List.mem_flatten.mpr ⟨_, List.mem_of_getElem? (i := 0) rfl, List.mem_cons_self⟩) rfl rfl hl.1 dX12_classesOf_60 (Nat.le_of_ble_eq_true rfl) (Nat.le_of_ble_eq_true rfl) (fun r_20 b1 H locs hw G => ?_)
        obtain rfl := hw
        have G : zS T A s.heap s [[zAr T 0 m_all 3952 f_all], [zO11 mo m_all m_has i_size i_next i_where i_token i_number i_word i_wrong i_farCrossing m_read i_z0 i_crossings i_inns m_posts m_shut m_here i_steps i_done i_at i_gone m_was m_came m_seenAt m_rowWorth m_farBy m_used i_everywhere i_again0 i_d0 i_never i_firstCame i_longRun i_moved i_crowd i_l0 i_fitMany i_fitLeast i_fitMost m_fitPost m_fitEnd m_keptPosts i_x0], [zAr T 0 m_farBy 49 g_farBy_1]] _ _ := G
        refine z_Si (bc := []) (br := [[zAr T 0 m_all 3952 f_all], [zO11 mo m_all m_has i_size i_next i_where i_token i_number i_word i_wrong i_farCrossing m_read i_z0 i_crossings i_inns m_posts m_shut m_here i_steps i_done i_at i_gone m_was m_came m_seenAt m_rowWorth m_farBy m_used i_everywhere i_again0 i_d0 i_never i_firstCame i_longRun i_moved i_crowd i_l0 i_fitMany i_fitLeast i_fitMost m_fitPost m_fitEnd m_keptPosts i_x0], [zAr T 0 m_farBy 49 g_farBy_1]]) (As := [.int r_20]) (rest := []) C G (c_m_bitsOf l T r_20) (kS_RX12_235 C.2.2.2.2 (Nat.le_of_ble_eq_true rfl) (Nat.le_of_ble_eq_true rfl)) [] [] rfl rfl rfl rfl hl.1 dX12_classesOf_63 (Nat.le_of_ble_eq_true rfl) (Nat.le_of_ble_eq_true rfl) (fun r_21 b1 H locs hw G => ?_)
        obtain rfl := hw
        have G : zS T A s.heap s [[zAr T 0 m_all 3952 f_all], [zO11 mo m_all m_has i_size i_next i_where i_token i_number i_word i_wrong i_farCrossing m_read i_z0 i_crossings i_inns m_posts m_shut m_here i_steps i_done i_at i_gone m_was m_came m_seenAt m_rowWorth m_farBy m_used i_everywhere i_again0 i_d0 i_never i_firstCame i_longRun i_moved i_crowd i_l0 i_fitMany i_fitLeast i_fitMost m_fitPost m_fitEnd m_keptPosts i_x0], [zAr T 0 m_farBy 49 g_farBy_1]] _ _ := G
        refine lv_goto (tgt := 70) hx hb dX12_classesOf_66 (by decide) ?_
        refine lv_istore_n (lv' := [(3, .int r_21), (2, .int (u + 1)), (4, .int (nI i)), (0, .ref mo), (1, .int w_)]) hx hb dX12_classesOf_70 rfl hl (by decide) (zLvf_h rfl) (fun ls hl => ?_)
        refine lv_iinc (v := nI (i + 1)) (lv' := [(4, .int (nI (i + 1))), (3, .int r_21), (2, .int (u + 1)), (0, .ref mo), (1, .int w_)]) hx hb dX12_classesOf_71 hl (k := 2) rfl (z_inc i 1) (by decide) (zLvf_h rfl) (fun ls hl => ?_)
        refine lv_goto (tgt := 11) hx hb dX12_classesOf_74 (by decide) ?_
        have G := G.sub (bs' := [[zO11 mo m_all m_has i_size i_next i_where i_token i_number i_word i_wrong i_farCrossing m_read i_z0 i_crossings i_inns m_posts m_shut m_here i_steps i_done i_at i_gone m_was m_came m_seenAt m_rowWorth m_farBy m_used i_everywhere i_again0 i_d0 i_never i_firstCame i_longRun i_moved i_crowd i_l0 i_fitMany i_fitLeast i_fitMost m_fitPost m_fitEnd m_keptPosts i_x0], [zAr T 0 m_all 3952 f_all], [zAr T 0 m_farBy 49 g_farBy_1]]) [1, 0, 2] rfl
        exact ih_11 (i + 1) (u + 1) r_21 (show (i + 1) ≤ 7 from by omega) (show 7 - (i + 1) < 7 - i from by omega) _ _ ls G (lv_sub hl [0, 1, 2, 3, 4] rfl)
set_option maxHeartbeats 4000000 in
set_option maxRecDepth 100000 in
/-- c_m_leadHere -/
theorem c_m_leadHere (l : Launch) (T : zTy) (mo : Nat) (m_all : Nat) (m_has : Nat) (i_size : Int32) (i_next : Int32) (i_where : Int32) (i_token : Int32) (i_number : Int32) (i_word : Int32) (i_wrong : Int32) (i_farCrossing : Int32) (m_read : Nat) (i_z0 : Int32) (i_crossings : Int32) (i_inns : Int32) (m_posts : Nat) (m_shut : Nat) (m_here : Nat) (i_steps : Int32) (i_done : Int32) (i_at : Int32) (i_gone : Int32) (m_was : Nat) (m_came : Nat) (m_seenAt : Nat) (m_rowWorth : Nat) (m_farBy : Nat) (m_used : Nat) (i_everywhere : Int32) (i_again0 : Int32) (i_d0 : Int32) (i_never : Int32) (i_firstCame : Int32) (i_longRun : Int32) (i_moved : Int32) (i_crowd : Int32) (i_l0 : Int32) (i_fitMany : Int32) (i_fitLeast : Int32) (i_fitMost : Int32) (m_fitPost : Nat) (m_fitEnd : Nat) (m_keptPosts : Nat) (i_x0 : Int32) (f_all : Nat → Int32) (c_ : Int32) (w_ : Int32) (hL : zML f_all i_z0 i_crossings) : zMi l T yX12_leadHere cX12_leadHere 6 (some .int) 4 0 0 [.ref mo, .int c_, .int w_] [[zO11 mo m_all m_has i_size i_next i_where i_token i_number i_word i_wrong i_farCrossing m_read i_z0 i_crossings i_inns m_posts m_shut m_here i_steps i_done i_at i_gone m_was m_came m_seenAt m_rowWorth m_farBy m_used i_everywhere i_again0 i_d0 i_never i_firstCame i_longRun i_moved i_crowd i_l0 i_fitMany i_fitLeast i_fitMost m_fitPost m_fitEnd m_keptPosts i_x0], [zAr T 0 m_all 3952 f_all]] (fun (r : Int32) bs => bs = [[zO11 mo m_all m_has i_size i_next i_where i_token i_number i_word i_wrong i_farCrossing m_read i_z0 i_crossings i_inns m_posts m_shut m_here i_steps i_done i_at i_gone m_was m_came m_seenAt m_rowWorth m_farBy m_used i_everywhere i_again0 i_d0 i_never i_firstCame i_longRun i_moved i_crowd i_l0 i_fitMany i_fitLeast i_fitMost m_fitPost m_fitEnd m_keptPosts i_x0], [zAr T 0 m_all 3952 f_all]]) := by
  refine zMi_of (own := RX12) (by decide) rfl (Nat.le_of_ble_eq_true rfl) ?_
  intro p e s m args below meth c A ls C hr hlocks hnm hAe G hl
  refine zHide (fun Qz_ hQz_ => ?_)
  have hx := C.1
  have hb := C.2.1
  have hl : lv_has ls 6 [(0, .ref mo), (1, .int c_), (2, .int w_)] := hl
  have hz := hL.1
  have hcr := hL.cr
  refine lv_iconst (v := 0) hx hb dX12_leadHere_0 (by decide) ?_
  refine lv_istore_n (lv' := [(3, .int 0), (0, .ref mo), (1, .int c_), (2, .int w_)]) hx hb dX12_leadHere_1 rfl hl (by decide) (zLvf_h rfl) (fun ls hl => ?_)
  refine lv_iconst (v := 0) hx hb dX12_leadHere_2 (by decide) ?_
  refine lv_istore (lv' := [(4, .int 0), (3, .int 0), (0, .ref mo), (1, .int c_), (2, .int w_)]) hx hb dX12_leadHere_3 hl (by decide) (zLvf_h rfl) (fun ls hl => ?_)
  refine z_lp2 (T := T) 5 (fun (i : Nat) (u : Int32) => [[zO11 mo m_all m_has i_size i_next i_where i_token i_number i_word i_wrong i_farCrossing m_read i_z0 i_crossings i_inns m_posts m_shut m_here i_steps i_done i_at i_gone m_was m_came m_seenAt m_rowWorth m_farBy m_used i_everywhere i_again0 i_d0 i_never i_firstCame i_longRun i_moved i_crowd i_l0 i_fitMany i_fitLeast i_fitMost m_fitPost m_fitEnd m_keptPosts i_x0], [zAr T 0 m_all 3952 f_all]]) (fun (i : Nat) (u : Int32) => [(4, .int (nI i)), (3, .int u), (0, .ref mo), (1, .int c_), (2, .int w_)]) (fun (i : Nat) (u : Int32) => i ≤ 7) (fun (i : Nat) (u : Int32) => 7 - i) ?_ 0 0 (show 0 ≤ 7 from by omega) G (lv_sub hl [0, 1, 2, 3, 4] rfl)
  intro i u hi ih_5 H locs ls G hl
  replace hi : i ≤ 7 := hi
  replace G : zS T A s.heap s [[zO11 mo m_all m_has i_size i_next i_where i_token i_number i_word i_wrong i_farCrossing m_read i_z0 i_crossings i_inns m_posts m_shut m_here i_steps i_done i_at i_gone m_was m_came m_seenAt m_rowWorth m_farBy m_used i_everywhere i_again0 i_d0 i_never i_firstCame i_longRun i_moved i_crowd i_l0 i_fitMany i_fitLeast i_fitMost m_fitPost m_fitEnd m_keptPosts i_x0], [zAr T 0 m_all 3952 f_all]] _ _ := G
  replace hl : lv_has ls 6 [(4, .int (nI i)), (3, .int u), (0, .ref mo), (1, .int c_), (2, .int w_)] := hl
  refine lv_iload hx hb dX12_leadHere_5 (lv_at hl 0 rfl) ?_
  refine lv_aload_n hx hb dX12_leadHere_7 rfl (lv_at hl 2 rfl) ?_
  refine z_get C G clX12 0 rfl 12 (by decide) m_fl_RX12_169 rfl dX12_leadHere_8 ?_
  refine lv_icmp_ge (tgt := 70) hx hb dX12_leadHere_11 (by decide) (fun c_1 => ?_) (fun c_1 => ?_)
  · have c_1n : i_crossings.toInt ≤ (i : Int) := by have q := (fa_le _ _).mp c_1; rw [nI_toInt (n := i) (by omega)] at q; exact q
    refine lv_iload_n hx hb dX12_leadHere_70 rfl (lv_at hl 1 rfl) ?_
    exact z_back hQz_ (z_iret C hr hlocks G (Nat.le_of_ble_eq_true rfl) (Nat.le_of_ble_eq_true rfl) dX12_leadHere_71 rfl)
  · have c_1n : ¬ i_crossings.toInt ≤ (i : Int) := fun q => c_1 ((fa_le _ _).mpr (by rw [nI_toInt (n := i) (by omega)]; exact q))
    refine lv_iconst (v := 0) hx hb dX12_leadHere_14 (by decide) ?_
    refine lv_istore (lv' := [(5, .int 0), (4, .int (nI i)), (3, .int u), (0, .ref mo), (1, .int c_), (2, .int w_)]) hx hb dX12_leadHere_15 hl (by decide) (zLvf_h rfl) (fun ls hl => ?_)
    refine z_lp2 (T := T) 17 (fun (k : Nat) (v : Int32) => [[zO11 mo m_all m_has i_size i_next i_where i_token i_number i_word i_wrong i_farCrossing m_read i_z0 i_crossings i_inns m_posts m_shut m_here i_steps i_done i_at i_gone m_was m_came m_seenAt m_rowWorth m_farBy m_used i_everywhere i_again0 i_d0 i_never i_firstCame i_longRun i_moved i_crowd i_l0 i_fitMany i_fitLeast i_fitMost m_fitPost m_fitEnd m_keptPosts i_x0], [zAr T 0 m_all 3952 f_all]]) (fun (k : Nat) (v : Int32) => [(5, .int (nI k)), (4, .int (nI i)), (3, .int v), (0, .ref mo), (1, .int c_), (2, .int w_)]) (fun (k : Nat) (v : Int32) => k ≤ 4) (fun (k : Nat) (v : Int32) => 4 - k) ?_ 0 u (show 0 ≤ 4 from by omega) G (lv_sub hl [0, 1, 2, 3, 4, 5] rfl)
    intro k v hk ih_17 H locs ls G hl
    replace hk : k ≤ 4 := hk
    replace G : zS T A s.heap s [[zO11 mo m_all m_has i_size i_next i_where i_token i_number i_word i_wrong i_farCrossing m_read i_z0 i_crossings i_inns m_posts m_shut m_here i_steps i_done i_at i_gone m_was m_came m_seenAt m_rowWorth m_farBy m_used i_everywhere i_again0 i_d0 i_never i_firstCame i_longRun i_moved i_crowd i_l0 i_fitMany i_fitLeast i_fitMost m_fitPost m_fitEnd m_keptPosts i_x0], [zAr T 0 m_all 3952 f_all]] _ _ := G
    replace hl : lv_has ls 6 [(5, .int (nI k)), (4, .int (nI i)), (3, .int v), (0, .ref mo), (1, .int c_), (2, .int w_)] := hl
    refine lv_iload hx hb dX12_leadHere_17 (lv_at hl 0 rfl) ?_
    refine lv_aload_n hx hb dX12_leadHere_19 rfl (lv_at hl 3 rfl) ?_
    refine lv_iload hx hb dX12_leadHere_20 (lv_at hl 1 rfl) ?_
    have ti_2 : (nI i).toInt = ((i : Nat) : Int) := nI_toInt (by omega)
    refine z_Vi (bc := [[zO11 mo m_all m_has i_size i_next i_where i_token i_number i_word i_wrong i_farCrossing m_read i_z0 i_crossings i_inns m_posts m_shut m_here i_steps i_done i_at i_gone m_was m_came m_seenAt m_rowWorth m_farBy m_used i_everywhere i_again0 i_d0 i_never i_firstCame i_longRun i_moved i_crowd i_l0 i_fitMany i_fitLeast i_fitMost m_fitPost m_fitEnd m_keptPosts i_x0], [zAr T 0 m_all 3952 f_all]]) (br := []) (As := [.int (nI i)]) (rest := [.int (nI k)]) C G (c_m_roads5 l T mo m_all m_has i_size i_next i_where i_token i_number i_word i_wrong i_farCrossing m_read i_z0 i_crossings i_inns m_posts m_shut m_here i_steps i_done i_at i_gone m_was m_came m_seenAt m_rowWorth m_farBy m_used i_everywhere i_again0 i_d0 i_never i_firstCame i_longRun i_moved i_crowd i_l0 i_fitMany i_fitLeast i_fitMost m_fitPost m_fitEnd m_keptPosts i_x0 f_all (nI i) (by first | with_reducible assumption | with_reducible rfl | omega | assumption | rfl | decide) (by first | with_reducible assumption | with_reducible rfl | omega | assumption | rfl | decide) (by first | with_reducible assumption | with_reducible rfl | omega | assumption | rfl | decide)) (kV_RX12_255 C.2.2.2.2 (Nat.le_of_ble_eq_true rfl) (Nat.le_of_ble_eq_true rfl)) [0, 1] [0, 0] rfl rfl (ci := 11) (qc := (RX12, TX12, 43)) rfl rfl (List.mem_flatten.mpr ⟨_, List.mem_of_getElem? (i := 0) rfl, List.mem_cons_self⟩) rfl rfl hl.1 dX12_leadHere_22 (Nat.le_of_ble_eq_true rfl) (Nat.le_of_ble_eq_true rfl) (fun r_5 b1 H locs hw G => ?_)
    refine zAn3 hw ?_
    intro hbs9 h_3 h_4
    clear hw
    subst hbs9
    have G : zS T A s.heap s [[zO11 mo m_all m_has i_size i_next i_where i_token i_number i_word i_wrong i_farCrossing m_read i_z0 i_crossings i_inns m_posts m_shut m_here i_steps i_done i_at i_gone m_was m_came m_seenAt m_rowWorth m_farBy m_used i_everywhere i_again0 i_d0 i_never i_firstCame i_longRun i_moved i_crowd i_l0 i_fitMany i_fitLeast i_fitMost m_fitPost m_fitEnd m_keptPosts i_x0], [zAr T 0 m_all 3952 f_all]] _ _ := G
    refine lv_icmp_ge (tgt := 64) hx hb dX12_leadHere_25 (by decide) (fun c_6 => ?_) (fun c_6 => ?_)
    · have c_6n : r_5.toInt ≤ (k : Int) := by have q := (fa_le _ _).mp c_6; rw [nI_toInt (n := k) (by omega)] at q; exact q
      refine lv_iinc (v := nI (i + 1)) (lv' := [(4, .int (nI (i + 1))), (5, .int (nI k)), (3, .int v), (0, .ref mo), (1, .int c_), (2, .int w_)]) hx hb dX12_leadHere_64 hl (k := 1) rfl (z_inc i 1) (by decide) (zLvf_h rfl) (fun ls hl => ?_)
      refine lv_goto (tgt := 5) hx hb dX12_leadHere_67 (by decide) ?_
      exact ih_5 (i + 1) v (show (i + 1) ≤ 7 from by omega) (show 7 - (i + 1) < 7 - i from by omega) _ _ ls G (lv_sub hl [0, 2, 3, 4, 5] rfl)
    · have c_6n : ¬ r_5.toInt ≤ (k : Int) := fun q => c_6 ((fa_le _ _).mpr (by rw [nI_toInt (n := k) (by omega)]; exact q))
      refine lv_iload_n hx hb dX12_leadHere_28 rfl (lv_at hl 2 rfl) ?_
      refine lv_aload_n hx hb dX12_leadHere_29 rfl (lv_at hl 3 rfl) ?_
      refine lv_iload hx hb dX12_leadHere_30 (lv_at hl 1 rfl) ?_
      refine lv_iload hx hb dX12_leadHere_32 (lv_at hl 0 rfl) ?_
      have ti_7 : (nI i).toInt = ((i : Nat) : Int) := nI_toInt (by omega)
      have ti_8 : (nI k).toInt = ((k : Nat) : Int) := nI_toInt (by omega)
      refine z_Vi (bc := [[zO11 mo m_all m_has i_size i_next i_where i_token i_number i_word i_wrong i_farCrossing m_read i_z0 i_crossings i_inns m_posts m_shut m_here i_steps i_done i_at i_gone m_was m_came m_seenAt m_rowWorth m_farBy m_used i_everywhere i_again0 i_d0 i_never i_firstCame i_longRun i_moved i_crowd i_l0 i_fitMany i_fitLeast i_fitMost m_fitPost m_fitEnd m_keptPosts i_x0], [zAr T 0 m_all 3952 f_all]]) (br := []) (As := [.int (nI i), .int (nI k)]) (rest := [.int v]) C G (c_m_leadsTo l T mo m_all m_has i_size i_next i_where i_token i_number i_word i_wrong i_farCrossing m_read i_z0 i_crossings i_inns m_posts m_shut m_here i_steps i_done i_at i_gone m_was m_came m_seenAt m_rowWorth m_farBy m_used i_everywhere i_again0 i_d0 i_never i_firstCame i_longRun i_moved i_crowd i_l0 i_fitMany i_fitLeast i_fitMost m_fitPost m_fitEnd m_keptPosts i_x0 f_all (nI i) (nI k) (by first | with_reducible assumption | with_reducible rfl | omega | assumption | rfl | decide) (by first | with_reducible assumption | with_reducible rfl | omega | assumption | rfl | decide) (by first | with_reducible assumption | with_reducible rfl | omega | assumption | rfl | decide) (by first | with_reducible assumption | with_reducible rfl | omega | assumption | rfl | decide) (by first | with_reducible assumption | with_reducible rfl | omega | assumption | rfl | decide)) (kV_RX12_190 C.2.2.2.2 (Nat.le_of_ble_eq_true rfl) (Nat.le_of_ble_eq_true rfl)) [0, 1] [0, 0] rfl rfl (ci := 11) (qc := (RX12, TX12, 43)) rfl rfl (List.mem_flatten.mpr ⟨_, List.mem_of_getElem? (i := 0) rfl, List.mem_cons_self⟩) rfl rfl hl.1 dX12_leadHere_34 (Nat.le_of_ble_eq_true rfl) (Nat.le_of_ble_eq_true rfl) (fun r_12 b1 H locs hw G => ?_)
      refine zAn4 hw ?_
      intro hbs9 h_9 h_10 h_11
      clear hw
      subst hbs9
      have G : zS T A s.heap s [[zO11 mo m_all m_has i_size i_next i_where i_token i_number i_word i_wrong i_farCrossing m_read i_z0 i_crossings i_inns m_posts m_shut m_here i_steps i_done i_at i_gone m_was m_came m_seenAt m_rowWorth m_farBy m_used i_everywhere i_again0 i_d0 i_never i_firstCame i_longRun i_moved i_crowd i_l0 i_fitMany i_fitLeast i_fitMost m_fitPost m_fitEnd m_keptPosts i_x0], [zAr T 0 m_all 3952 f_all]] _ _ := G
      subst h_9
      refine lv_iload_n hx hb dX12_leadHere_37 rfl (lv_at hl 4 rfl) ?_
      refine lv_icmp_ne (tgt := 55) hx hb dX12_leadHere_38 (by decide) (fun c_13 => ?_) (fun c_13 => ?_)
      · have c_13n : ¬ (zLe f_all i_z0 (nI i) (nI k)).toInt = c_.toInt := fun q => c_13 ((fa_eq _ _).mpr q)
        refine lv_iconst (v := 0) hx hb dX12_leadHere_55 (by decide) ?_
        refine lv_iadd hx hb dX12_leadHere_56 ?_
        refine lv_istore_n (lv' := [(3, .int (v + 0)), (5, .int (nI k)), (4, .int (nI i)), (0, .ref mo), (1, .int c_), (2, .int w_)]) hx hb dX12_leadHere_57 rfl hl (by decide) (zLvf_h rfl) (fun ls hl => ?_)
        refine lv_iinc (v := nI (k + 1)) (lv' := [(5, .int (nI (k + 1))), (3, .int (v + 0)), (4, .int (nI i)), (0, .ref mo), (1, .int c_), (2, .int w_)]) hx hb dX12_leadHere_58 hl (k := 1) rfl (z_inc k 1) (by decide) (zLvf_h rfl) (fun ls hl => ?_)
        refine lv_goto (tgt := 17) hx hb dX12_leadHere_61 (by decide) ?_
        exact ih_17 (k + 1) (v + 0) (show (k + 1) ≤ 4 from by omega) (show 4 - (k + 1) < 4 - k from by omega) _ _ ls G (lv_sub hl [0, 2, 1, 3, 4, 5] rfl)
      · have c_13n : (zLe f_all i_z0 (nI i) (nI k)).toInt = c_.toInt := (fa_eq _ _).mp c_13
        refine lv_iload_n hx hb dX12_leadHere_41 rfl (lv_at hl 5 rfl) ?_
        refine lv_if_ne (tgt := 51) hx hb dX12_leadHere_42 (by decide) (fun c_14 => ?_) (fun c_14 => ?_)
        · have c_14n : ¬ w_.toInt = (0 : Int) := fun q => c_14 ((fa_eq _ _).mpr q)
          refine lv_iconst (v := 1) hx hb dX12_leadHere_51 (by decide) ?_
          refine lv_goto (tgt := 56) hx hb dX12_leadHere_52 (by decide) ?_
          refine lv_iadd hx hb dX12_leadHere_56 ?_
          refine lv_istore_n (lv' := [(3, .int (v + 1)), (5, .int (nI k)), (4, .int (nI i)), (0, .ref mo), (1, .int c_), (2, .int w_)]) hx hb dX12_leadHere_57 rfl hl (by decide) (zLvf_h rfl) (fun ls hl => ?_)
          refine lv_iinc (v := nI (k + 1)) (lv' := [(5, .int (nI (k + 1))), (3, .int (v + 1)), (4, .int (nI i)), (0, .ref mo), (1, .int c_), (2, .int w_)]) hx hb dX12_leadHere_58 hl (k := 1) rfl (z_inc k 1) (by decide) (zLvf_h rfl) (fun ls hl => ?_)
          refine lv_goto (tgt := 17) hx hb dX12_leadHere_61 (by decide) ?_
          exact ih_17 (k + 1) (v + 1) (show (k + 1) ≤ 4 from by omega) (show 4 - (k + 1) < 4 - k from by omega) _ _ ls G (lv_sub hl [0, 2, 1, 3, 4, 5] rfl)
        · have c_14n : w_.toInt = (0 : Int) := (fa_eq _ _).mp c_14
          refine lv_iload hx hb dX12_leadHere_45 (lv_at hl 1 rfl) ?_
          refine lv_iload_n hx hb dX12_leadHere_47 rfl (lv_at hl 4 rfl) ?_
          refine lv_icmp_eq (tgt := 55) hx hb dX12_leadHere_48 (by decide) (fun c_15 => ?_) (fun c_15 => ?_)
          · have c_15n : (i : Int) = c_.toInt := by have q := (fa_eq _ _).mp c_15; rw [nI_toInt (n := i) (by omega)] at q; exact q
            refine lv_iconst (v := 0) hx hb dX12_leadHere_55 (by decide) ?_
            refine lv_iadd hx hb dX12_leadHere_56 ?_
            refine lv_istore_n (lv' := [(3, .int (v + 0)), (5, .int (nI k)), (4, .int (nI i)), (0, .ref mo), (1, .int c_), (2, .int w_)]) hx hb dX12_leadHere_57 rfl hl (by decide) (zLvf_h rfl) (fun ls hl => ?_)
            refine lv_iinc (v := nI (k + 1)) (lv' := [(5, .int (nI (k + 1))), (3, .int (v + 0)), (4, .int (nI i)), (0, .ref mo), (1, .int c_), (2, .int w_)]) hx hb dX12_leadHere_58 hl (k := 1) rfl (z_inc k 1) (by decide) (zLvf_h rfl) (fun ls hl => ?_)
            refine lv_goto (tgt := 17) hx hb dX12_leadHere_61 (by decide) ?_
            exact ih_17 (k + 1) (v + 0) (show (k + 1) ≤ 4 from by omega) (show 4 - (k + 1) < 4 - k from by omega) _ _ ls G (lv_sub hl [0, 2, 1, 3, 4, 5] rfl)
          · have c_15n : ¬ (i : Int) = c_.toInt := fun q => c_15 ((fa_eq _ _).mpr (by rw [nI_toInt (n := i) (by omega)]; exact q))
            refine lv_iconst (v := 1) hx hb dX12_leadHere_51 (by decide) ?_
            refine lv_goto (tgt := 56) hx hb dX12_leadHere_52 (by decide) ?_
            refine lv_iadd hx hb dX12_leadHere_56 ?_
            refine lv_istore_n (lv' := [(3, .int (v + 1)), (5, .int (nI k)), (4, .int (nI i)), (0, .ref mo), (1, .int c_), (2, .int w_)]) hx hb dX12_leadHere_57 rfl hl (by decide) (zLvf_h rfl) (fun ls hl => ?_)
            refine lv_iinc (v := nI (k + 1)) (lv' := [(5, .int (nI (k + 1))), (3, .int (v + 1)), (4, .int (nI i)), (0, .ref mo), (1, .int c_), (2, .int w_)]) hx hb dX12_leadHere_58 hl (k := 1) rfl (z_inc k 1) (by decide) (zLvf_h rfl) (fun ls hl => ?_)
            refine lv_goto (tgt := 17) hx hb dX12_leadHere_61 (by decide) ?_
            exact ih_17 (k + 1) (v + 1) (show (k + 1) ≤ 4 from by omega) (show 4 - (k + 1) < 4 - k from by omega) _ _ ls G (lv_sub hl [0, 2, 1, 3, 4, 5] rfl)
set_option maxHeartbeats 4000000 in
set_option maxRecDepth 100000 in
/-- c_m_crossingsOf -/
theorem c_m_crossingsOf (l : Launch) (T : zTy) (mo : Nat) (m_all : Nat) (m_has : Nat) (i_size : Int32) (i_next : Int32) (i_where : Int32) (i_token : Int32) (i_number : Int32) (i_word : Int32) (i_wrong : Int32) (i_farCrossing : Int32) (m_read : Nat) (i_z0 : Int32) (i_crossings : Int32) (i_inns : Int32) (m_posts : Nat) (m_shut : Nat) (m_here : Nat) (i_steps : Int32) (i_done : Int32) (i_at : Int32) (i_gone : Int32) (m_was : Nat) (m_came : Nat) (m_seenAt : Nat) (m_rowWorth : Nat) (m_farBy : Nat) (m_used : Nat) (i_everywhere : Int32) (i_again0 : Int32) (i_d0 : Int32) (i_never : Int32) (i_firstCame : Int32) (i_longRun : Int32) (i_moved : Int32) (i_crowd : Int32) (i_l0 : Int32) (i_fitMany : Int32) (i_fitLeast : Int32) (i_fitMost : Int32) (m_fitPost : Nat) (m_fitEnd : Nat) (m_keptPosts : Nat) (i_x0 : Int32) (f_all : Nat → Int32) (w_ : Int32) (hL : zML f_all i_z0 i_crossings) : zMi l T yX12_crossingsOf cX12_crossingsOf 5 (some .int) 5 0 0 [.ref mo, .int w_] [[zO11 mo m_all m_has i_size i_next i_where i_token i_number i_word i_wrong i_farCrossing m_read i_z0 i_crossings i_inns m_posts m_shut m_here i_steps i_done i_at i_gone m_was m_came m_seenAt m_rowWorth m_farBy m_used i_everywhere i_again0 i_d0 i_never i_firstCame i_longRun i_moved i_crowd i_l0 i_fitMany i_fitLeast i_fitMost m_fitPost m_fitEnd m_keptPosts i_x0], [zAr T 0 m_all 3952 f_all]] (fun (r : Int32) bs => bs = [[zO11 mo m_all m_has i_size i_next i_where i_token i_number i_word i_wrong i_farCrossing m_read i_z0 i_crossings i_inns m_posts m_shut m_here i_steps i_done i_at i_gone m_was m_came m_seenAt m_rowWorth m_farBy m_used i_everywhere i_again0 i_d0 i_never i_firstCame i_longRun i_moved i_crowd i_l0 i_fitMany i_fitLeast i_fitMost m_fitPost m_fitEnd m_keptPosts i_x0], [zAr T 0 m_all 3952 f_all]]) := by
  refine zMi_of (own := RX12) (by decide) rfl (Nat.le_of_ble_eq_true rfl) ?_
  intro p e s m args below meth c A ls C hr hlocks hnm hAe G hl
  refine zHide (fun Qz_ hQz_ => ?_)
  have hx := C.1
  have hb := C.2.1
  have hl : lv_has ls 5 [(0, .ref mo), (1, .int w_)] := hl
  have hz := hL.1
  have hcr := hL.cr
  refine lv_iconst (v := 0) hx hb dX12_crossingsOf_0 (by decide) ?_
  refine lv_istore_n (lv' := [(2, .int 0), (0, .ref mo), (1, .int w_)]) hx hb dX12_crossingsOf_1 rfl hl (by decide) (zLvf_h rfl) (fun ls hl => ?_)
  refine lv_iconst (v := 0) hx hb dX12_crossingsOf_2 (by decide) ?_
  refine lv_istore_n (lv' := [(3, .int 0), (2, .int 0), (0, .ref mo), (1, .int w_)]) hx hb dX12_crossingsOf_3 rfl hl (by decide) (zLvf_h rfl) (fun ls hl => ?_)
  refine z_lp2 (T := T) 4 (fun (i : Nat) (u : Int32) => [[zO11 mo m_all m_has i_size i_next i_where i_token i_number i_word i_wrong i_farCrossing m_read i_z0 i_crossings i_inns m_posts m_shut m_here i_steps i_done i_at i_gone m_was m_came m_seenAt m_rowWorth m_farBy m_used i_everywhere i_again0 i_d0 i_never i_firstCame i_longRun i_moved i_crowd i_l0 i_fitMany i_fitLeast i_fitMost m_fitPost m_fitEnd m_keptPosts i_x0], [zAr T 0 m_all 3952 f_all]]) (fun (i : Nat) (u : Int32) => [(3, .int (nI i)), (2, .int u), (0, .ref mo), (1, .int w_)]) (fun (i : Nat) (u : Int32) => i ≤ 7) (fun (i : Nat) (u : Int32) => 7 - i) ?_ 0 0 (show 0 ≤ 7 from by omega) G (lv_sub hl [0, 1, 2, 3] rfl)
  intro i u hi ih_4 H locs ls G hl
  replace hi : i ≤ 7 := hi
  replace G : zS T A s.heap s [[zO11 mo m_all m_has i_size i_next i_where i_token i_number i_word i_wrong i_farCrossing m_read i_z0 i_crossings i_inns m_posts m_shut m_here i_steps i_done i_at i_gone m_was m_came m_seenAt m_rowWorth m_farBy m_used i_everywhere i_again0 i_d0 i_never i_firstCame i_longRun i_moved i_crowd i_l0 i_fitMany i_fitLeast i_fitMost m_fitPost m_fitEnd m_keptPosts i_x0], [zAr T 0 m_all 3952 f_all]] _ _ := G
  replace hl : lv_has ls 5 [(3, .int (nI i)), (2, .int u), (0, .ref mo), (1, .int w_)] := hl
  refine lv_iload_n hx hb dX12_crossingsOf_4 rfl (lv_at hl 0 rfl) ?_
  refine lv_aload_n hx hb dX12_crossingsOf_5 rfl (lv_at hl 2 rfl) ?_
  refine z_get C G clX12 0 rfl 12 (by decide) m_fl_RX12_169 rfl dX12_crossingsOf_6 ?_
  refine lv_icmp_ge (tgt := 105) hx hb dX12_crossingsOf_9 (by decide) (fun c_1 => ?_) (fun c_1 => ?_)
  · have c_1n : i_crossings.toInt ≤ (i : Int) := by have q := (fa_le _ _).mp c_1; rw [nI_toInt (n := i) (by omega)] at q; exact q
    refine lv_iload_n hx hb dX12_crossingsOf_105 rfl (lv_at hl 1 rfl) ?_
    exact z_back hQz_ (z_iret C hr hlocks G (Nat.le_of_ble_eq_true rfl) (Nat.le_of_ble_eq_true rfl) dX12_crossingsOf_106 rfl)
  · have c_1n : ¬ i_crossings.toInt ≤ (i : Int) := fun q => c_1 ((fa_le _ _).mpr (by rw [nI_toInt (n := i) (by omega)]; exact q))
    refine lv_iload_n hx hb dX12_crossingsOf_12 rfl (lv_at hl 3 rfl) ?_
    refine lv_iconst (v := 2) hx hb dX12_crossingsOf_13 (by decide) ?_
    refine lv_icmp_ne (tgt := 34) hx hb dX12_crossingsOf_14 (by decide) (fun c_2 => ?_) (fun c_2 => ?_)
    · have c_2n : ¬ w_.toInt = (2 : Int) := fun q => c_2 ((fa_eq _ _).mpr q)
      refine lv_iload_n hx hb dX12_crossingsOf_34 rfl (lv_at hl 3 rfl) ?_
      refine lv_iconst (v := 3) hx hb dX12_crossingsOf_35 (by decide) ?_
      refine lv_icmp_ne (tgt := 63) hx hb dX12_crossingsOf_36 (by decide) (fun c_3 => ?_) (fun c_3 => ?_)
      · have c_3n : ¬ w_.toInt = (3 : Int) := fun q => c_3 ((fa_eq _ _).mpr q)
        refine lv_aload_n hx hb dX12_crossingsOf_63 rfl (lv_at hl 2 rfl) ?_
        refine lv_iload_n hx hb dX12_crossingsOf_64 rfl (lv_at hl 0 rfl) ?_
        refine lv_iconst (v := 1) hx hb dX12_crossingsOf_65 (by decide) ?_
        have ti_4 : (nI i).toInt = ((i : Nat) : Int) := nI_toInt (by omega)
        refine z_Vi (bc := [[zO11 mo m_all m_has i_size i_next i_where i_token i_number i_word i_wrong i_farCrossing m_read i_z0 i_crossings i_inns m_posts m_shut m_here i_steps i_done i_at i_gone m_was m_came m_seenAt m_rowWorth m_farBy m_used i_everywhere i_again0 i_d0 i_never i_firstCame i_longRun i_moved i_crowd i_l0 i_fitMany i_fitLeast i_fitMost m_fitPost m_fitEnd m_keptPosts i_x0], [zAr T 0 m_all 3952 f_all]]) (br := []) (As := [.int (nI i), .int 1]) (rest := []) C G (c_m_leadHere l T mo m_all m_has i_size i_next i_where i_token i_number i_word i_wrong i_farCrossing m_read i_z0 i_crossings i_inns m_posts m_shut m_here i_steps i_done i_at i_gone m_was m_came m_seenAt m_rowWorth m_farBy m_used i_everywhere i_again0 i_d0 i_never i_firstCame i_longRun i_moved i_crowd i_l0 i_fitMany i_fitLeast i_fitMost m_fitPost m_fitEnd m_keptPosts i_x0 f_all (nI i) 1 (by first | with_reducible assumption | with_reducible rfl | omega | assumption | rfl | decide)) (kV_RX12_267 C.2.2.2.2 (Nat.le_of_ble_eq_true rfl) (Nat.le_of_ble_eq_true rfl)) [0, 1] [0, 0] rfl rfl (ci := 11) (qc := (RX12, TX12, 43)) rfl rfl (List.mem_flatten.mpr ⟨_, List.mem_of_getElem? (i := 0) rfl, List.mem_cons_self⟩) rfl rfl hl.1 dX12_crossingsOf_66 (Nat.le_of_ble_eq_true rfl) (Nat.le_of_ble_eq_true rfl) (fun r_5 b1 H locs hw G => ?_)
        obtain rfl := hw
        have G : zS T A s.heap s [[zO11 mo m_all m_has i_size i_next i_where i_token i_number i_word i_wrong i_farCrossing m_read i_z0 i_crossings i_inns m_posts m_shut m_here i_steps i_done i_at i_gone m_was m_came m_seenAt m_rowWorth m_farBy m_used i_everywhere i_again0 i_d0 i_never i_firstCame i_longRun i_moved i_crowd i_l0 i_fitMany i_fitLeast i_fitMost m_fitPost m_fitEnd m_keptPosts i_x0], [zAr T 0 m_all 3952 f_all]] _ _ := G
        refine lv_aload_n hx hb dX12_crossingsOf_69 rfl (lv_at hl 2 rfl) ?_
        refine lv_iload_n hx hb dX12_crossingsOf_70 rfl (lv_at hl 0 rfl) ?_
        have ti_6 : (nI i).toInt = ((i : Nat) : Int) := nI_toInt (by omega)
        refine z_Vi (bc := [[zO11 mo m_all m_has i_size i_next i_where i_token i_number i_word i_wrong i_farCrossing m_read i_z0 i_crossings i_inns m_posts m_shut m_here i_steps i_done i_at i_gone m_was m_came m_seenAt m_rowWorth m_farBy m_used i_everywhere i_again0 i_d0 i_never i_firstCame i_longRun i_moved i_crowd i_l0 i_fitMany i_fitLeast i_fitMost m_fitPost m_fitEnd m_keptPosts i_x0], [zAr T 0 m_all 3952 f_all]]) (br := []) (As := [.int (nI i)]) (rest := [.int r_5]) C G (c_m_roads5 l T mo m_all m_has i_size i_next i_where i_token i_number i_word i_wrong i_farCrossing m_read i_z0 i_crossings i_inns m_posts m_shut m_here i_steps i_done i_at i_gone m_was m_came m_seenAt m_rowWorth m_farBy m_used i_everywhere i_again0 i_d0 i_never i_firstCame i_longRun i_moved i_crowd i_l0 i_fitMany i_fitLeast i_fitMost m_fitPost m_fitEnd m_keptPosts i_x0 f_all (nI i) (by first | with_reducible assumption | with_reducible rfl | omega | assumption | rfl | decide) (by first | with_reducible assumption | with_reducible rfl | omega | assumption | rfl | decide) (by first | with_reducible assumption | with_reducible rfl | omega | assumption | rfl | decide)) (kV_RX12_255 C.2.2.2.2 (Nat.le_of_ble_eq_true rfl) (Nat.le_of_ble_eq_true rfl)) [0, 1] [0, 0] rfl rfl (ci := 11) (qc := (RX12, TX12, 43)) rfl rfl (List.mem_flatten.mpr ⟨_, List.mem_of_getElem? (i := 0) rfl, List.mem_cons_self⟩) rfl rfl hl.1 dX12_crossingsOf_71 (Nat.le_of_ble_eq_true rfl) (Nat.le_of_ble_eq_true rfl) (fun r_9 b1 H locs hw G => ?_)
        refine zAn3 hw ?_
        intro hbs9 h_7 h_8
        clear hw
        subst hbs9
        have G : zS T A s.heap s [[zO11 mo m_all m_has i_size i_next i_where i_token i_number i_word i_wrong i_farCrossing m_read i_z0 i_crossings i_inns m_posts m_shut m_here i_steps i_done i_at i_gone m_was m_came m_seenAt m_rowWorth m_farBy m_used i_everywhere i_again0 i_d0 i_never i_firstCame i_longRun i_moved i_crowd i_l0 i_fitMany i_fitLeast i_fitMost m_fitPost m_fitEnd m_keptPosts i_x0], [zAr T 0 m_all 3952 f_all]] _ _ := G
        refine lv_icmp_ne (tgt := 81) hx hb dX12_crossingsOf_74 (by decide) (fun c_10 => ?_) (fun c_10 => ?_)
        · have c_10n : ¬ r_5.toInt = r_9.toInt := fun q => c_10 ((fa_eq _ _).mpr q)
          refine lv_iconst (v := 0) hx hb dX12_crossingsOf_81 (by decide) ?_
          refine lv_istore (lv' := [(4, .int 0), (3, .int (nI i)), (2, .int u), (0, .ref mo), (1, .int w_)]) hx hb dX12_crossingsOf_82 hl (by decide) (zLvf_h rfl) (fun ls hl => ?_)
          refine lv_iload_n hx hb dX12_crossingsOf_84 rfl (lv_at hl 2 rfl) ?_
          refine lv_iload hx hb dX12_crossingsOf_85 (lv_at hl 0 rfl) ?_
          refine lv_if_eq (tgt := 96) hx hb dX12_crossingsOf_87 (by decide) (fun _ => ?_) (fun q => absurd (by decide) q)
          refine lv_iconst (v := 0) hx hb dX12_crossingsOf_96 (by decide) ?_
          refine lv_ior hx hb dX12_crossingsOf_97 ?_
          refine lv_istore_n (lv' := [(2, .int (u ||| 0)), (4, .int 0), (3, .int (nI i)), (0, .ref mo), (1, .int w_)]) hx hb dX12_crossingsOf_98 rfl hl (by decide) (zLvf_h rfl) (fun ls hl => ?_)
          refine lv_iinc (v := nI (i + 1)) (lv' := [(3, .int (nI (i + 1))), (2, .int (u ||| 0)), (4, .int 0), (0, .ref mo), (1, .int w_)]) hx hb dX12_crossingsOf_99 hl (k := 2) rfl (z_inc i 1) (by decide) (zLvf_h rfl) (fun ls hl => ?_)
          refine lv_goto (tgt := 4) hx hb dX12_crossingsOf_102 (by decide) ?_
          exact ih_4 (i + 1) (u ||| 0) (show (i + 1) ≤ 7 from by omega) (show 7 - (i + 1) < 7 - i from by omega) _ _ ls G (lv_sub hl [0, 1, 3, 4] rfl)
        · have c_10n : r_5.toInt = r_9.toInt := (fa_eq _ _).mp c_10
          refine lv_iconst (v := 1) hx hb dX12_crossingsOf_77 (by decide) ?_
          refine lv_goto (tgt := 82) hx hb dX12_crossingsOf_78 (by decide) ?_
          refine lv_istore (lv' := [(4, .int 1), (3, .int (nI i)), (2, .int u), (0, .ref mo), (1, .int w_)]) hx hb dX12_crossingsOf_82 hl (by decide) (zLvf_h rfl) (fun ls hl => ?_)
          refine lv_iload_n hx hb dX12_crossingsOf_84 rfl (lv_at hl 2 rfl) ?_
          refine lv_iload hx hb dX12_crossingsOf_85 (lv_at hl 0 rfl) ?_
          refine lv_if_eq (tgt := 96) hx hb dX12_crossingsOf_87 (by decide) (fun q => absurd q (by decide)) (fun _ => ?_)
          refine lv_iconst (v := 1) hx hb dX12_crossingsOf_90 (by decide) ?_
          refine lv_iload_n hx hb dX12_crossingsOf_91 rfl (lv_at hl 1 rfl) ?_
          refine lv_ishl hx hb dX12_crossingsOf_92 ?_
          refine lv_goto (tgt := 97) hx hb dX12_crossingsOf_93 (by decide) ?_
          refine lv_ior hx hb dX12_crossingsOf_97 ?_
          refine lv_istore_n (lv' := [(2, .int (u ||| (1 <<< ((nI i) &&& 31)))), (4, .int 1), (3, .int (nI i)), (0, .ref mo), (1, .int w_)]) hx hb dX12_crossingsOf_98 rfl hl (by decide) (zLvf_h rfl) (fun ls hl => ?_)
          refine lv_iinc (v := nI (i + 1)) (lv' := [(3, .int (nI (i + 1))), (2, .int (u ||| (1 <<< ((nI i) &&& 31)))), (4, .int 1), (0, .ref mo), (1, .int w_)]) hx hb dX12_crossingsOf_99 hl (k := 2) rfl (z_inc i 1) (by decide) (zLvf_h rfl) (fun ls hl => ?_)
          refine lv_goto (tgt := 4) hx hb dX12_crossingsOf_102 (by decide) ?_
          exact ih_4 (i + 1) (u ||| (1 <<< ((nI i) &&& 31))) (show (i + 1) ≤ 7 from by omega) (show 7 - (i + 1) < 7 - i from by omega) _ _ ls G (lv_sub hl [0, 1, 3, 4] rfl)
      · have c_3n : w_.toInt = (3 : Int) := (fa_eq _ _).mp c_3
        refine lv_aload_n hx hb dX12_crossingsOf_39 rfl (lv_at hl 2 rfl) ?_
        refine lv_iload_n hx hb dX12_crossingsOf_40 rfl (lv_at hl 0 rfl) ?_
        have ti_11 : (nI i).toInt = ((i : Nat) : Int) := nI_toInt (by omega)
        refine z_Vi (bc := [[zO11 mo m_all m_has i_size i_next i_where i_token i_number i_word i_wrong i_farCrossing m_read i_z0 i_crossings i_inns m_posts m_shut m_here i_steps i_done i_at i_gone m_was m_came m_seenAt m_rowWorth m_farBy m_used i_everywhere i_again0 i_d0 i_never i_firstCame i_longRun i_moved i_crowd i_l0 i_fitMany i_fitLeast i_fitMost m_fitPost m_fitEnd m_keptPosts i_x0]]) (br := [[zAr T 0 m_all 3952 f_all]]) (As := [.int (nI i)]) (rest := []) C G (c_m_isInn l T mo m_all m_has i_size i_next i_where i_token i_number i_word i_wrong i_farCrossing m_read i_z0 i_crossings i_inns m_posts m_shut m_here i_steps i_done i_at i_gone m_was m_came m_seenAt m_rowWorth m_farBy m_used i_everywhere i_again0 i_d0 i_never i_firstCame i_longRun i_moved i_crowd i_l0 i_fitMany i_fitLeast i_fitMost m_fitPost m_fitEnd m_keptPosts i_x0 (nI i)) (kV_RX12_178 C.2.2.2.2 (Nat.le_of_ble_eq_true rfl) (Nat.le_of_ble_eq_true rfl)) [0] [0] rfl rfl (ci := 11) (qc := (RX12, TX12, 43)) rfl rfl (List.mem_flatten.mpr ⟨_, List.mem_of_getElem? (i := 0) rfl, List.mem_cons_self⟩) rfl rfl hl.1 dX12_crossingsOf_41 (Nat.le_of_ble_eq_true rfl) (Nat.le_of_ble_eq_true rfl) (fun r_13 b1 H locs hw G => ?_)
        refine zAn2 hw ?_
        intro hbs9 hc_12
        clear hw
        subst hbs9
        have G : zS T A s.heap s [[zAr T 0 m_all 3952 f_all], [zO11 mo m_all m_has i_size i_next i_where i_token i_number i_word i_wrong i_farCrossing m_read i_z0 i_crossings i_inns m_posts m_shut m_here i_steps i_done i_at i_gone m_was m_came m_seenAt m_rowWorth m_farBy m_used i_everywhere i_again0 i_d0 i_never i_firstCame i_longRun i_moved i_crowd i_l0 i_fitMany i_fitLeast i_fitMost m_fitPost m_fitEnd m_keptPosts i_x0]] _ _ := G
        rcases hc_12 with ⟨rfl, h_14⟩ | ⟨rfl, h_15⟩
        · have h_14 : zInn i_inns (nI i) := h_14
          refine lv_if_ne (tgt := 59) hx hb dX12_crossingsOf_44 (by decide) (fun _ => ?_) (fun q => absurd q (by decide))
          refine lv_iconst (v := 0) hx hb dX12_crossingsOf_59 (by decide) ?_
          refine lv_goto (tgt := 82) hx hb dX12_crossingsOf_60 (by decide) ?_
          refine lv_istore (lv' := [(4, .int 0), (3, .int (nI i)), (2, .int u), (0, .ref mo), (1, .int w_)]) hx hb dX12_crossingsOf_82 hl (by decide) (zLvf_h rfl) (fun ls hl => ?_)
          refine lv_iload_n hx hb dX12_crossingsOf_84 rfl (lv_at hl 2 rfl) ?_
          refine lv_iload hx hb dX12_crossingsOf_85 (lv_at hl 0 rfl) ?_
          refine lv_if_eq (tgt := 96) hx hb dX12_crossingsOf_87 (by decide) (fun _ => ?_) (fun q => absurd (by decide) q)
          refine lv_iconst (v := 0) hx hb dX12_crossingsOf_96 (by decide) ?_
          refine lv_ior hx hb dX12_crossingsOf_97 ?_
          refine lv_istore_n (lv' := [(2, .int (u ||| 0)), (4, .int 0), (3, .int (nI i)), (0, .ref mo), (1, .int w_)]) hx hb dX12_crossingsOf_98 rfl hl (by decide) (zLvf_h rfl) (fun ls hl => ?_)
          refine lv_iinc (v := nI (i + 1)) (lv' := [(3, .int (nI (i + 1))), (2, .int (u ||| 0)), (4, .int 0), (0, .ref mo), (1, .int w_)]) hx hb dX12_crossingsOf_99 hl (k := 2) rfl (z_inc i 1) (by decide) (zLvf_h rfl) (fun ls hl => ?_)
          refine lv_goto (tgt := 4) hx hb dX12_crossingsOf_102 (by decide) ?_
          have G := G.sub (bs' := [[zO11 mo m_all m_has i_size i_next i_where i_token i_number i_word i_wrong i_farCrossing m_read i_z0 i_crossings i_inns m_posts m_shut m_here i_steps i_done i_at i_gone m_was m_came m_seenAt m_rowWorth m_farBy m_used i_everywhere i_again0 i_d0 i_never i_firstCame i_longRun i_moved i_crowd i_l0 i_fitMany i_fitLeast i_fitMost m_fitPost m_fitEnd m_keptPosts i_x0], [zAr T 0 m_all 3952 f_all]]) [1, 0] rfl
          exact ih_4 (i + 1) (u ||| 0) (show (i + 1) ≤ 7 from by omega) (show 7 - (i + 1) < 7 - i from by omega) _ _ ls G (lv_sub hl [0, 1, 3, 4] rfl)
        · have h_15 : ¬ zInn i_inns (nI i) := h_15
          refine lv_if_ne (tgt := 59) hx hb dX12_crossingsOf_44 (by decide) (fun q => absurd (by decide) q) (fun _ => ?_)
          refine lv_aload_n hx hb dX12_crossingsOf_47 rfl (lv_at hl 2 rfl) ?_
          refine lv_iload_n hx hb dX12_crossingsOf_48 rfl (lv_at hl 0 rfl) ?_
          have ti_16 : (nI i).toInt = ((i : Nat) : Int) := nI_toInt (by omega)
          refine z_Vi (bc := [[zO11 mo m_all m_has i_size i_next i_where i_token i_number i_word i_wrong i_farCrossing m_read i_z0 i_crossings i_inns m_posts m_shut m_here i_steps i_done i_at i_gone m_was m_came m_seenAt m_rowWorth m_farBy m_used i_everywhere i_again0 i_d0 i_never i_firstCame i_longRun i_moved i_crowd i_l0 i_fitMany i_fitLeast i_fitMost m_fitPost m_fitEnd m_keptPosts i_x0], [zAr T 0 m_all 3952 f_all]]) (br := []) (As := [.int (nI i)]) (rest := []) C G (c_m_roadsOf l T mo m_all m_has i_size i_next i_where i_token i_number i_word i_wrong i_farCrossing m_read i_z0 i_crossings i_inns m_posts m_shut m_here i_steps i_done i_at i_gone m_was m_came m_seenAt m_rowWorth m_farBy m_used i_everywhere i_again0 i_d0 i_never i_firstCame i_longRun i_moved i_crowd i_l0 i_fitMany i_fitLeast i_fitMost m_fitPost m_fitEnd m_keptPosts i_x0 f_all (nI i) (by first | with_reducible assumption | with_reducible rfl | omega | assumption | rfl | decide) (by first | with_reducible assumption | with_reducible rfl | omega | assumption | rfl | decide) (by first | with_reducible assumption | with_reducible rfl | omega | assumption | rfl | decide)) (kV_RX12_181 C.2.2.2.2 (Nat.le_of_ble_eq_true rfl) (Nat.le_of_ble_eq_true rfl)) [1, 0] [0, 0] rfl rfl (ci := 11) (qc := (RX12, TX12, 43)) rfl rfl (List.mem_flatten.mpr ⟨_, List.mem_of_getElem? (i := 0) rfl, List.mem_cons_self⟩) rfl rfl hl.1 dX12_crossingsOf_49 (Nat.le_of_ble_eq_true rfl) (Nat.le_of_ble_eq_true rfl) (fun r_20 b1 H locs hw G => ?_)
          refine zAn4 hw ?_
          intro hbs9 h_17 h_18 h_19
          clear hw
          subst hbs9
          have G : zS T A s.heap s [[zO11 mo m_all m_has i_size i_next i_where i_token i_number i_word i_wrong i_farCrossing m_read i_z0 i_crossings i_inns m_posts m_shut m_here i_steps i_done i_at i_gone m_was m_came m_seenAt m_rowWorth m_farBy m_used i_everywhere i_again0 i_d0 i_never i_firstCame i_longRun i_moved i_crowd i_l0 i_fitMany i_fitLeast i_fitMost m_fitPost m_fitEnd m_keptPosts i_x0], [zAr T 0 m_all 3952 f_all]] _ _ := G
          subst h_17
          refine lv_if_ne (tgt := 59) hx hb dX12_crossingsOf_52 (by decide) (fun c_21 => ?_) (fun c_21 => ?_)
          · have c_21n : ¬ (zRd f_all i_z0 (nI i)).toInt = (0 : Int) := fun q => c_21 ((fa_eq _ _).mpr q)
            refine lv_iconst (v := 0) hx hb dX12_crossingsOf_59 (by decide) ?_
            refine lv_goto (tgt := 82) hx hb dX12_crossingsOf_60 (by decide) ?_
            refine lv_istore (lv' := [(4, .int 0), (3, .int (nI i)), (2, .int u), (0, .ref mo), (1, .int w_)]) hx hb dX12_crossingsOf_82 hl (by decide) (zLvf_h rfl) (fun ls hl => ?_)
            refine lv_iload_n hx hb dX12_crossingsOf_84 rfl (lv_at hl 2 rfl) ?_
            refine lv_iload hx hb dX12_crossingsOf_85 (lv_at hl 0 rfl) ?_
            refine lv_if_eq (tgt := 96) hx hb dX12_crossingsOf_87 (by decide) (fun _ => ?_) (fun q => absurd (by decide) q)
            refine lv_iconst (v := 0) hx hb dX12_crossingsOf_96 (by decide) ?_
            refine lv_ior hx hb dX12_crossingsOf_97 ?_
            refine lv_istore_n (lv' := [(2, .int (u ||| 0)), (4, .int 0), (3, .int (nI i)), (0, .ref mo), (1, .int w_)]) hx hb dX12_crossingsOf_98 rfl hl (by decide) (zLvf_h rfl) (fun ls hl => ?_)
            refine lv_iinc (v := nI (i + 1)) (lv' := [(3, .int (nI (i + 1))), (2, .int (u ||| 0)), (4, .int 0), (0, .ref mo), (1, .int w_)]) hx hb dX12_crossingsOf_99 hl (k := 2) rfl (z_inc i 1) (by decide) (zLvf_h rfl) (fun ls hl => ?_)
            refine lv_goto (tgt := 4) hx hb dX12_crossingsOf_102 (by decide) ?_
            exact ih_4 (i + 1) (u ||| 0) (show (i + 1) ≤ 7 from by omega) (show 7 - (i + 1) < 7 - i from by omega) _ _ ls G (lv_sub hl [0, 1, 3, 4] rfl)
          · have c_21n : (zRd f_all i_z0 (nI i)).toInt = (0 : Int) := (fa_eq _ _).mp c_21
            refine lv_iconst (v := 1) hx hb dX12_crossingsOf_55 (by decide) ?_
            refine lv_goto (tgt := 82) hx hb dX12_crossingsOf_56 (by decide) ?_
            refine lv_istore (lv' := [(4, .int 1), (3, .int (nI i)), (2, .int u), (0, .ref mo), (1, .int w_)]) hx hb dX12_crossingsOf_82 hl (by decide) (zLvf_h rfl) (fun ls hl => ?_)
            refine lv_iload_n hx hb dX12_crossingsOf_84 rfl (lv_at hl 2 rfl) ?_
            refine lv_iload hx hb dX12_crossingsOf_85 (lv_at hl 0 rfl) ?_
            refine lv_if_eq (tgt := 96) hx hb dX12_crossingsOf_87 (by decide) (fun q => absurd q (by decide)) (fun _ => ?_)
            refine lv_iconst (v := 1) hx hb dX12_crossingsOf_90 (by decide) ?_
            refine lv_iload_n hx hb dX12_crossingsOf_91 rfl (lv_at hl 1 rfl) ?_
            refine lv_ishl hx hb dX12_crossingsOf_92 ?_
            refine lv_goto (tgt := 97) hx hb dX12_crossingsOf_93 (by decide) ?_
            refine lv_ior hx hb dX12_crossingsOf_97 ?_
            refine lv_istore_n (lv' := [(2, .int (u ||| (1 <<< ((nI i) &&& 31)))), (4, .int 1), (3, .int (nI i)), (0, .ref mo), (1, .int w_)]) hx hb dX12_crossingsOf_98 rfl hl (by decide) (zLvf_h rfl) (fun ls hl => ?_)
            refine lv_iinc (v := nI (i + 1)) (lv' := [(3, .int (nI (i + 1))), (2, .int (u ||| (1 <<< ((nI i) &&& 31)))), (4, .int 1), (0, .ref mo), (1, .int w_)]) hx hb dX12_crossingsOf_99 hl (k := 2) rfl (z_inc i 1) (by decide) (zLvf_h rfl) (fun ls hl => ?_)
            refine lv_goto (tgt := 4) hx hb dX12_crossingsOf_102 (by decide) ?_
            exact ih_4 (i + 1) (u ||| (1 <<< ((nI i) &&& 31))) (show (i + 1) ≤ 7 from by omega) (show 7 - (i + 1) < 7 - i from by omega) _ _ ls G (lv_sub hl [0, 1, 3, 4] rfl)
    · have c_2n : w_.toInt = (2 : Int) := (fa_eq _ _).mp c_2
      refine lv_aload_n hx hb dX12_crossingsOf_17 rfl (lv_at hl 2 rfl) ?_
      refine lv_iload_n hx hb dX12_crossingsOf_18 rfl (lv_at hl 0 rfl) ?_
      refine lv_iconst (v := 0) hx hb dX12_crossingsOf_19 (by decide) ?_
      have ti_22 : (nI i).toInt = ((i : Nat) : Int) := nI_toInt (by omega)
      refine z_Vi (bc := [[zO11 mo m_all m_has i_size i_next i_where i_token i_number i_word i_wrong i_farCrossing m_read i_z0 i_crossings i_inns m_posts m_shut m_here i_steps i_done i_at i_gone m_was m_came m_seenAt m_rowWorth m_farBy m_used i_everywhere i_again0 i_d0 i_never i_firstCame i_longRun i_moved i_crowd i_l0 i_fitMany i_fitLeast i_fitMost m_fitPost m_fitEnd m_keptPosts i_x0], [zAr T 0 m_all 3952 f_all]]) (br := []) (As := [.int (nI i), .int 0]) (rest := []) C G (c_m_leadHere l T mo m_all m_has i_size i_next i_where i_token i_number i_word i_wrong i_farCrossing m_read i_z0 i_crossings i_inns m_posts m_shut m_here i_steps i_done i_at i_gone m_was m_came m_seenAt m_rowWorth m_farBy m_used i_everywhere i_again0 i_d0 i_never i_firstCame i_longRun i_moved i_crowd i_l0 i_fitMany i_fitLeast i_fitMost m_fitPost m_fitEnd m_keptPosts i_x0 f_all (nI i) 0 (by first | with_reducible assumption | with_reducible rfl | omega | assumption | rfl | decide)) (kV_RX12_267 C.2.2.2.2 (Nat.le_of_ble_eq_true rfl) (Nat.le_of_ble_eq_true rfl)) [0, 1] [0, 0] rfl rfl (ci := 11) (qc := (RX12, TX12, 43)) rfl rfl (List.mem_flatten.mpr ⟨_, List.mem_of_getElem? (i := 0) rfl, List.mem_cons_self⟩) rfl rfl hl.1 dX12_crossingsOf_20 (Nat.le_of_ble_eq_true rfl) (Nat.le_of_ble_eq_true rfl) (fun r_23 b1 H locs hw G => ?_)
      obtain rfl := hw
      have G : zS T A s.heap s [[zO11 mo m_all m_has i_size i_next i_where i_token i_number i_word i_wrong i_farCrossing m_read i_z0 i_crossings i_inns m_posts m_shut m_here i_steps i_done i_at i_gone m_was m_came m_seenAt m_rowWorth m_farBy m_used i_everywhere i_again0 i_d0 i_never i_firstCame i_longRun i_moved i_crowd i_l0 i_fitMany i_fitLeast i_fitMost m_fitPost m_fitEnd m_keptPosts i_x0], [zAr T 0 m_all 3952 f_all]] _ _ := G
      refine lv_if_ne (tgt := 30) hx hb dX12_crossingsOf_23 (by decide) (fun c_24 => ?_) (fun c_24 => ?_)
      · have c_24n : ¬ r_23.toInt = (0 : Int) := fun q => c_24 ((fa_eq _ _).mpr q)
        refine lv_iconst (v := 0) hx hb dX12_crossingsOf_30 (by decide) ?_
        refine lv_goto (tgt := 82) hx hb dX12_crossingsOf_31 (by decide) ?_
        refine lv_istore (lv' := [(4, .int 0), (3, .int (nI i)), (2, .int u), (0, .ref mo), (1, .int w_)]) hx hb dX12_crossingsOf_82 hl (by decide) (zLvf_h rfl) (fun ls hl => ?_)
        refine lv_iload_n hx hb dX12_crossingsOf_84 rfl (lv_at hl 2 rfl) ?_
        refine lv_iload hx hb dX12_crossingsOf_85 (lv_at hl 0 rfl) ?_
        refine lv_if_eq (tgt := 96) hx hb dX12_crossingsOf_87 (by decide) (fun _ => ?_) (fun q => absurd (by decide) q)
        refine lv_iconst (v := 0) hx hb dX12_crossingsOf_96 (by decide) ?_
        refine lv_ior hx hb dX12_crossingsOf_97 ?_
        refine lv_istore_n (lv' := [(2, .int (u ||| 0)), (4, .int 0), (3, .int (nI i)), (0, .ref mo), (1, .int w_)]) hx hb dX12_crossingsOf_98 rfl hl (by decide) (zLvf_h rfl) (fun ls hl => ?_)
        refine lv_iinc (v := nI (i + 1)) (lv' := [(3, .int (nI (i + 1))), (2, .int (u ||| 0)), (4, .int 0), (0, .ref mo), (1, .int w_)]) hx hb dX12_crossingsOf_99 hl (k := 2) rfl (z_inc i 1) (by decide) (zLvf_h rfl) (fun ls hl => ?_)
        refine lv_goto (tgt := 4) hx hb dX12_crossingsOf_102 (by decide) ?_
        exact ih_4 (i + 1) (u ||| 0) (show (i + 1) ≤ 7 from by omega) (show 7 - (i + 1) < 7 - i from by omega) _ _ ls G (lv_sub hl [0, 1, 3, 4] rfl)
      · have c_24n : r_23.toInt = (0 : Int) := (fa_eq _ _).mp c_24
        refine lv_iconst (v := 1) hx hb dX12_crossingsOf_26 (by decide) ?_
        refine lv_goto (tgt := 82) hx hb dX12_crossingsOf_27 (by decide) ?_
        refine lv_istore (lv' := [(4, .int 1), (3, .int (nI i)), (2, .int u), (0, .ref mo), (1, .int w_)]) hx hb dX12_crossingsOf_82 hl (by decide) (zLvf_h rfl) (fun ls hl => ?_)
        refine lv_iload_n hx hb dX12_crossingsOf_84 rfl (lv_at hl 2 rfl) ?_
        refine lv_iload hx hb dX12_crossingsOf_85 (lv_at hl 0 rfl) ?_
        refine lv_if_eq (tgt := 96) hx hb dX12_crossingsOf_87 (by decide) (fun q => absurd q (by decide)) (fun _ => ?_)
        refine lv_iconst (v := 1) hx hb dX12_crossingsOf_90 (by decide) ?_
        refine lv_iload_n hx hb dX12_crossingsOf_91 rfl (lv_at hl 1 rfl) ?_
        refine lv_ishl hx hb dX12_crossingsOf_92 ?_
        refine lv_goto (tgt := 97) hx hb dX12_crossingsOf_93 (by decide) ?_
        refine lv_ior hx hb dX12_crossingsOf_97 ?_
        refine lv_istore_n (lv' := [(2, .int (u ||| (1 <<< ((nI i) &&& 31)))), (4, .int 1), (3, .int (nI i)), (0, .ref mo), (1, .int w_)]) hx hb dX12_crossingsOf_98 rfl hl (by decide) (zLvf_h rfl) (fun ls hl => ?_)
        refine lv_iinc (v := nI (i + 1)) (lv' := [(3, .int (nI (i + 1))), (2, .int (u ||| (1 <<< ((nI i) &&& 31)))), (4, .int 1), (0, .ref mo), (1, .int w_)]) hx hb dX12_crossingsOf_99 hl (k := 2) rfl (z_inc i 1) (by decide) (zLvf_h rfl) (fun ls hl => ?_)
        refine lv_goto (tgt := 4) hx hb dX12_crossingsOf_102 (by decide) ?_
        exact ih_4 (i + 1) (u ||| (1 <<< ((nI i) &&& 31))) (show (i + 1) ≤ 7 from by omega) (show 7 - (i + 1) < 7 - i from by omega) _ _ ls G (lv_sub hl [0, 1, 3, 4] rfl)
set_option maxHeartbeats 4000000 in
set_option maxRecDepth 100000 in
/-- c_m_loops -/
theorem c_m_loops (l : Launch) (T : zTy) (mo : Nat) (m_all : Nat) (m_has : Nat) (i_size : Int32) (i_next : Int32) (i_where : Int32) (i_token : Int32) (i_number : Int32) (i_word : Int32) (i_wrong : Int32) (i_farCrossing : Int32) (m_read : Nat) (i_z0 : Int32) (i_crossings : Int32) (i_inns : Int32) (m_posts : Nat) (m_shut : Nat) (m_here : Nat) (i_steps : Int32) (i_done : Int32) (i_at : Int32) (i_gone : Int32) (m_was : Nat) (m_came : Nat) (m_seenAt : Nat) (m_rowWorth : Nat) (m_farBy : Nat) (m_used : Nat) (i_everywhere : Int32) (i_again0 : Int32) (i_d0 : Int32) (i_never : Int32) (i_firstCame : Int32) (i_longRun : Int32) (i_moved : Int32) (i_crowd : Int32) (i_l0 : Int32) (i_fitMany : Int32) (i_fitLeast : Int32) (i_fitMost : Int32) (m_fitPost : Nat) (m_fitEnd : Nat) (m_keptPosts : Nat) (i_x0 : Int32) (f_all : Nat → Int32) (w_ : Int32) (hL : zML f_all i_z0 i_crossings) : zMi l T yX12_loops cX12_loops 6 (some .int) 4 0 0 [.ref mo, .int w_] [[zO11 mo m_all m_has i_size i_next i_where i_token i_number i_word i_wrong i_farCrossing m_read i_z0 i_crossings i_inns m_posts m_shut m_here i_steps i_done i_at i_gone m_was m_came m_seenAt m_rowWorth m_farBy m_used i_everywhere i_again0 i_d0 i_never i_firstCame i_longRun i_moved i_crowd i_l0 i_fitMany i_fitLeast i_fitMost m_fitPost m_fitEnd m_keptPosts i_x0], [zAr T 0 m_all 3952 f_all]] (fun (r : Int32) bs => bs = [[zO11 mo m_all m_has i_size i_next i_where i_token i_number i_word i_wrong i_farCrossing m_read i_z0 i_crossings i_inns m_posts m_shut m_here i_steps i_done i_at i_gone m_was m_came m_seenAt m_rowWorth m_farBy m_used i_everywhere i_again0 i_d0 i_never i_firstCame i_longRun i_moved i_crowd i_l0 i_fitMany i_fitLeast i_fitMost m_fitPost m_fitEnd m_keptPosts i_x0], [zAr T 0 m_all 3952 f_all]]) := by
  refine zMi_of (own := RX12) (by decide) rfl (Nat.le_of_ble_eq_true rfl) ?_
  intro p e s m args below meth c A ls C hr hlocks hnm hAe G hl
  refine zHide (fun Qz_ hQz_ => ?_)
  have hx := C.1
  have hb := C.2.1
  have hl : lv_has ls 6 [(0, .ref mo), (1, .int w_)] := hl
  have hz := hL.1
  have hcr := hL.cr
  refine lv_iconst (v := 0) hx hb dX12_loops_0 (by decide) ?_
  refine lv_istore_n (lv' := [(2, .int 0), (0, .ref mo), (1, .int w_)]) hx hb dX12_loops_1 rfl hl (by decide) (zLvf_h rfl) (fun ls hl => ?_)
  refine lv_iconst (v := 0) hx hb dX12_loops_2 (by decide) ?_
  refine lv_istore_n (lv' := [(3, .int 0), (2, .int 0), (0, .ref mo), (1, .int w_)]) hx hb dX12_loops_3 rfl hl (by decide) (zLvf_h rfl) (fun ls hl => ?_)
  refine z_lp2 (T := T) 4 (fun (i : Nat) (u : Int32) => [[zO11 mo m_all m_has i_size i_next i_where i_token i_number i_word i_wrong i_farCrossing m_read i_z0 i_crossings i_inns m_posts m_shut m_here i_steps i_done i_at i_gone m_was m_came m_seenAt m_rowWorth m_farBy m_used i_everywhere i_again0 i_d0 i_never i_firstCame i_longRun i_moved i_crowd i_l0 i_fitMany i_fitLeast i_fitMost m_fitPost m_fitEnd m_keptPosts i_x0], [zAr T 0 m_all 3952 f_all]]) (fun (i : Nat) (u : Int32) => [(3, .int (nI i)), (2, .int u), (0, .ref mo), (1, .int w_)]) (fun (i : Nat) (u : Int32) => i ≤ 7) (fun (i : Nat) (u : Int32) => 7 - i) ?_ 0 0 (show 0 ≤ 7 from by omega) G (lv_sub hl [0, 1, 2, 3] rfl)
  intro i u hi ih_4 H locs ls G hl
  replace hi : i ≤ 7 := hi
  replace G : zS T A s.heap s [[zO11 mo m_all m_has i_size i_next i_where i_token i_number i_word i_wrong i_farCrossing m_read i_z0 i_crossings i_inns m_posts m_shut m_here i_steps i_done i_at i_gone m_was m_came m_seenAt m_rowWorth m_farBy m_used i_everywhere i_again0 i_d0 i_never i_firstCame i_longRun i_moved i_crowd i_l0 i_fitMany i_fitLeast i_fitMost m_fitPost m_fitEnd m_keptPosts i_x0], [zAr T 0 m_all 3952 f_all]] _ _ := G
  replace hl : lv_has ls 6 [(3, .int (nI i)), (2, .int u), (0, .ref mo), (1, .int w_)] := hl
  refine lv_iload_n hx hb dX12_loops_4 rfl (lv_at hl 0 rfl) ?_
  refine lv_aload_n hx hb dX12_loops_5 rfl (lv_at hl 2 rfl) ?_
  refine z_get C G clX12 0 rfl 12 (by decide) m_fl_RX12_169 rfl dX12_loops_6 ?_
  refine lv_icmp_ge (tgt := 105) hx hb dX12_loops_9 (by decide) (fun c_1 => ?_) (fun c_1 => ?_)
  · have c_1n : i_crossings.toInt ≤ (i : Int) := by have q := (fa_le _ _).mp c_1; rw [nI_toInt (n := i) (by omega)] at q; exact q
    refine lv_iload_n hx hb dX12_loops_105 rfl (lv_at hl 1 rfl) ?_
    exact z_back hQz_ (z_iret C hr hlocks G (Nat.le_of_ble_eq_true rfl) (Nat.le_of_ble_eq_true rfl) dX12_loops_106 rfl)
  · have c_1n : ¬ i_crossings.toInt ≤ (i : Int) := fun q => c_1 ((fa_le _ _).mpr (by rw [nI_toInt (n := i) (by omega)]; exact q))
    refine lv_iconst (v := 0) hx hb dX12_loops_12 (by decide) ?_
    refine lv_istore (lv' := [(4, .int 0), (3, .int (nI i)), (2, .int u), (0, .ref mo), (1, .int w_)]) hx hb dX12_loops_13 hl (by decide) (zLvf_h rfl) (fun ls hl => ?_)
    refine z_lp2 (T := T) 15 (fun (k : Nat) (v : Int32) => [[zO11 mo m_all m_has i_size i_next i_where i_token i_number i_word i_wrong i_farCrossing m_read i_z0 i_crossings i_inns m_posts m_shut m_here i_steps i_done i_at i_gone m_was m_came m_seenAt m_rowWorth m_farBy m_used i_everywhere i_again0 i_d0 i_never i_firstCame i_longRun i_moved i_crowd i_l0 i_fitMany i_fitLeast i_fitMost m_fitPost m_fitEnd m_keptPosts i_x0], [zAr T 0 m_all 3952 f_all]]) (fun (k : Nat) (v : Int32) => [(4, .int (nI k)), (3, .int (nI i)), (2, .int v), (0, .ref mo), (1, .int w_)]) (fun (k : Nat) (v : Int32) => k ≤ 4) (fun (k : Nat) (v : Int32) => 4 - k) ?_ 0 u (show 0 ≤ 4 from by omega) G (lv_sub hl [0, 1, 2, 3, 4] rfl)
    intro k v hk ih_15 H locs ls G hl
    replace hk : k ≤ 4 := hk
    replace G : zS T A s.heap s [[zO11 mo m_all m_has i_size i_next i_where i_token i_number i_word i_wrong i_farCrossing m_read i_z0 i_crossings i_inns m_posts m_shut m_here i_steps i_done i_at i_gone m_was m_came m_seenAt m_rowWorth m_farBy m_used i_everywhere i_again0 i_d0 i_never i_firstCame i_longRun i_moved i_crowd i_l0 i_fitMany i_fitLeast i_fitMost m_fitPost m_fitEnd m_keptPosts i_x0], [zAr T 0 m_all 3952 f_all]] _ _ := G
    replace hl : lv_has ls 6 [(4, .int (nI k)), (3, .int (nI i)), (2, .int v), (0, .ref mo), (1, .int w_)] := hl
    refine lv_iload hx hb dX12_loops_15 (lv_at hl 0 rfl) ?_
    refine lv_aload_n hx hb dX12_loops_17 rfl (lv_at hl 3 rfl) ?_
    refine lv_iload_n hx hb dX12_loops_18 rfl (lv_at hl 1 rfl) ?_
    have ti_2 : (nI i).toInt = ((i : Nat) : Int) := nI_toInt (by omega)
    refine z_Vi (bc := [[zO11 mo m_all m_has i_size i_next i_where i_token i_number i_word i_wrong i_farCrossing m_read i_z0 i_crossings i_inns m_posts m_shut m_here i_steps i_done i_at i_gone m_was m_came m_seenAt m_rowWorth m_farBy m_used i_everywhere i_again0 i_d0 i_never i_firstCame i_longRun i_moved i_crowd i_l0 i_fitMany i_fitLeast i_fitMost m_fitPost m_fitEnd m_keptPosts i_x0], [zAr T 0 m_all 3952 f_all]]) (br := []) (As := [.int (nI i)]) (rest := [.int (nI k)]) C G (c_m_roads5 l T mo m_all m_has i_size i_next i_where i_token i_number i_word i_wrong i_farCrossing m_read i_z0 i_crossings i_inns m_posts m_shut m_here i_steps i_done i_at i_gone m_was m_came m_seenAt m_rowWorth m_farBy m_used i_everywhere i_again0 i_d0 i_never i_firstCame i_longRun i_moved i_crowd i_l0 i_fitMany i_fitLeast i_fitMost m_fitPost m_fitEnd m_keptPosts i_x0 f_all (nI i) (by first | with_reducible assumption | with_reducible rfl | omega | assumption | rfl | decide) (by first | with_reducible assumption | with_reducible rfl | omega | assumption | rfl | decide) (by first | with_reducible assumption | with_reducible rfl | omega | assumption | rfl | decide)) (kV_RX12_255 C.2.2.2.2 (Nat.le_of_ble_eq_true rfl) (Nat.le_of_ble_eq_true rfl)) [0, 1] [0, 0] rfl rfl (ci := 11) (qc := (RX12, TX12, 43)) rfl rfl (List.mem_flatten.mpr ⟨_, List.mem_of_getElem? (i := 0) rfl, List.mem_cons_self⟩) rfl rfl hl.1 dX12_loops_19 (Nat.le_of_ble_eq_true rfl) (Nat.le_of_ble_eq_true rfl) (fun r_5 b1 H locs hw G => ?_)
    refine zAn3 hw ?_
    intro hbs9 h_3 h_4
    clear hw
    subst hbs9
    have G : zS T A s.heap s [[zO11 mo m_all m_has i_size i_next i_where i_token i_number i_word i_wrong i_farCrossing m_read i_z0 i_crossings i_inns m_posts m_shut m_here i_steps i_done i_at i_gone m_was m_came m_seenAt m_rowWorth m_farBy m_used i_everywhere i_again0 i_d0 i_never i_firstCame i_longRun i_moved i_crowd i_l0 i_fitMany i_fitLeast i_fitMost m_fitPost m_fitEnd m_keptPosts i_x0], [zAr T 0 m_all 3952 f_all]] _ _ := G
    refine lv_icmp_ge (tgt := 99) hx hb dX12_loops_22 (by decide) (fun c_6 => ?_) (fun c_6 => ?_)
    · have c_6n : r_5.toInt ≤ (k : Int) := by have q := (fa_le _ _).mp c_6; rw [nI_toInt (n := k) (by omega)] at q; exact q
      refine lv_iinc (v := nI (i + 1)) (lv' := [(3, .int (nI (i + 1))), (4, .int (nI k)), (2, .int v), (0, .ref mo), (1, .int w_)]) hx hb dX12_loops_99 hl (k := 1) rfl (z_inc i 1) (by decide) (zLvf_h rfl) (fun ls hl => ?_)
      refine lv_goto (tgt := 4) hx hb dX12_loops_102 (by decide) ?_
      exact ih_4 (i + 1) v (show (i + 1) ≤ 7 from by omega) (show 7 - (i + 1) < 7 - i from by omega) _ _ ls G (lv_sub hl [0, 2, 3, 4] rfl)
    · have c_6n : ¬ r_5.toInt ≤ (k : Int) := fun q => c_6 ((fa_le _ _).mpr (by rw [nI_toInt (n := k) (by omega)]; exact q))
      refine lv_iload_n hx hb dX12_loops_25 rfl (lv_at hl 2 rfl) ?_
      refine lv_iload_n hx hb dX12_loops_26 rfl (lv_at hl 4 rfl) ?_
      refine lv_if_ne (tgt := 45) hx hb dX12_loops_27 (by decide) (fun c_7 => ?_) (fun c_7 => ?_)
      · have c_7n : ¬ w_.toInt = (0 : Int) := fun q => c_7 ((fa_eq _ _).mpr q)
        refine lv_iconst (v := 0) hx hb dX12_loops_45 (by decide) ?_
        refine lv_iadd hx hb dX12_loops_46 ?_
        refine lv_istore_n (lv' := [(2, .int (v + 0)), (4, .int (nI k)), (3, .int (nI i)), (0, .ref mo), (1, .int w_)]) hx hb dX12_loops_47 rfl hl (by decide) (zLvf_h rfl) (fun ls hl => ?_)
        refine lv_iconst (v := 0) hx hb dX12_loops_48 (by decide) ?_
        refine lv_istore (lv' := [(5, .int 0), (2, .int (v + 0)), (4, .int (nI k)), (3, .int (nI i)), (0, .ref mo), (1, .int w_)]) hx hb dX12_loops_49 hl (by decide) (zLvf_h rfl) (fun ls hl => ?_)
        refine z_lp2 (T := T) 51 (fun (t : Nat) (v2 : Int32) => [[zO11 mo m_all m_has i_size i_next i_where i_token i_number i_word i_wrong i_farCrossing m_read i_z0 i_crossings i_inns m_posts m_shut m_here i_steps i_done i_at i_gone m_was m_came m_seenAt m_rowWorth m_farBy m_used i_everywhere i_again0 i_d0 i_never i_firstCame i_longRun i_moved i_crowd i_l0 i_fitMany i_fitLeast i_fitMost m_fitPost m_fitEnd m_keptPosts i_x0], [zAr T 0 m_all 3952 f_all]]) (fun (t : Nat) (v2 : Int32) => [(5, .int (nI t)), (2, .int v2), (4, .int (nI k)), (3, .int (nI i)), (0, .ref mo), (1, .int w_)]) (fun (t : Nat) (v2 : Int32) => t ≤ 4) (fun (t : Nat) (v2 : Int32) => 4 - t) ?_ 0 (v + 0) (show 0 ≤ 4 from by omega) G (lv_sub hl [0, 1, 2, 3, 4, 5] rfl)
        intro t v2 ht ih_51 H locs ls G hl
        replace ht : t ≤ 4 := ht
        replace G : zS T A s.heap s [[zO11 mo m_all m_has i_size i_next i_where i_token i_number i_word i_wrong i_farCrossing m_read i_z0 i_crossings i_inns m_posts m_shut m_here i_steps i_done i_at i_gone m_was m_came m_seenAt m_rowWorth m_farBy m_used i_everywhere i_again0 i_d0 i_never i_firstCame i_longRun i_moved i_crowd i_l0 i_fitMany i_fitLeast i_fitMost m_fitPost m_fitEnd m_keptPosts i_x0], [zAr T 0 m_all 3952 f_all]] _ _ := G
        replace hl : lv_has ls 6 [(5, .int (nI t)), (2, .int v2), (4, .int (nI k)), (3, .int (nI i)), (0, .ref mo), (1, .int w_)] := hl
        refine lv_iload hx hb dX12_loops_51 (lv_at hl 0 rfl) ?_
        refine lv_iload hx hb dX12_loops_53 (lv_at hl 2 rfl) ?_
        refine lv_icmp_ge (tgt := 93) hx hb dX12_loops_55 (by decide) (fun c_8 => ?_) (fun c_8 => ?_)
        · have c_8n : k ≤ t := (nI_leI (a := k) (b := t) (by omega) (by omega)).mp c_8
          refine lv_iinc (v := nI (k + 1)) (lv' := [(4, .int (nI (k + 1))), (5, .int (nI t)), (2, .int v2), (3, .int (nI i)), (0, .ref mo), (1, .int w_)]) hx hb dX12_loops_93 hl (k := 2) rfl (z_inc k 1) (by decide) (zLvf_h rfl) (fun ls hl => ?_)
          refine lv_goto (tgt := 15) hx hb dX12_loops_96 (by decide) ?_
          exact ih_15 (k + 1) v2 (show (k + 1) ≤ 4 from by omega) (show 4 - (k + 1) < 4 - k from by omega) _ _ ls G (lv_sub hl [0, 3, 2, 4, 5] rfl)
        · have c_8n : ¬ k ≤ t := fun q => c_8 ((nI_leI (a := k) (b := t) (by omega) (by omega)).mpr q)
          refine lv_iload_n hx hb dX12_loops_58 rfl (lv_at hl 1 rfl) ?_
          refine lv_iload_n hx hb dX12_loops_59 rfl (lv_at hl 5 rfl) ?_
          refine lv_if_eq (tgt := 84) hx hb dX12_loops_60 (by decide) (fun c_9 => ?_) (fun c_9 => ?_)
          · have c_9n : w_.toInt = (0 : Int) := (fa_eq _ _).mp c_9
            refine lv_iconst (v := 0) hx hb dX12_loops_84 (by decide) ?_
            refine lv_iadd hx hb dX12_loops_85 ?_
            refine lv_istore_n (lv' := [(2, .int (v2 + 0)), (5, .int (nI t)), (4, .int (nI k)), (3, .int (nI i)), (0, .ref mo), (1, .int w_)]) hx hb dX12_loops_86 rfl hl (by decide) (zLvf_h rfl) (fun ls hl => ?_)
            refine lv_iinc (v := nI (t + 1)) (lv' := [(5, .int (nI (t + 1))), (2, .int (v2 + 0)), (4, .int (nI k)), (3, .int (nI i)), (0, .ref mo), (1, .int w_)]) hx hb dX12_loops_87 hl (k := 1) rfl (z_inc t 1) (by decide) (zLvf_h rfl) (fun ls hl => ?_)
            refine lv_goto (tgt := 51) hx hb dX12_loops_90 (by decide) ?_
            exact ih_51 (t + 1) (v2 + 0) (show (t + 1) ≤ 4 from by omega) (show 4 - (t + 1) < 4 - t from by omega) _ _ ls G (lv_sub hl [0, 1, 2, 3, 4, 5] rfl)
          · have c_9n : ¬ w_.toInt = (0 : Int) := fun q => c_9 ((fa_eq _ _).mpr q)
            refine lv_aload_n hx hb dX12_loops_63 rfl (lv_at hl 4 rfl) ?_
            refine lv_iload_n hx hb dX12_loops_64 rfl (lv_at hl 3 rfl) ?_
            refine lv_iload hx hb dX12_loops_65 (lv_at hl 2 rfl) ?_
            have ti_10 : (nI i).toInt = ((i : Nat) : Int) := nI_toInt (by omega)
            have ti_11 : (nI k).toInt = ((k : Nat) : Int) := nI_toInt (by omega)
            refine z_Vi (bc := [[zO11 mo m_all m_has i_size i_next i_where i_token i_number i_word i_wrong i_farCrossing m_read i_z0 i_crossings i_inns m_posts m_shut m_here i_steps i_done i_at i_gone m_was m_came m_seenAt m_rowWorth m_farBy m_used i_everywhere i_again0 i_d0 i_never i_firstCame i_longRun i_moved i_crowd i_l0 i_fitMany i_fitLeast i_fitMost m_fitPost m_fitEnd m_keptPosts i_x0], [zAr T 0 m_all 3952 f_all]]) (br := []) (As := [.int (nI i), .int (nI k)]) (rest := [.int v2]) C G (c_m_leadsTo l T mo m_all m_has i_size i_next i_where i_token i_number i_word i_wrong i_farCrossing m_read i_z0 i_crossings i_inns m_posts m_shut m_here i_steps i_done i_at i_gone m_was m_came m_seenAt m_rowWorth m_farBy m_used i_everywhere i_again0 i_d0 i_never i_firstCame i_longRun i_moved i_crowd i_l0 i_fitMany i_fitLeast i_fitMost m_fitPost m_fitEnd m_keptPosts i_x0 f_all (nI i) (nI k) (by first | with_reducible assumption | with_reducible rfl | omega | assumption | rfl | decide) (by first | with_reducible assumption | with_reducible rfl | omega | assumption | rfl | decide) (by first | with_reducible assumption | with_reducible rfl | omega | assumption | rfl | decide) (by first | with_reducible assumption | with_reducible rfl | omega | assumption | rfl | decide) (by first | with_reducible assumption | with_reducible rfl | omega | assumption | rfl | decide)) (kV_RX12_190 C.2.2.2.2 (Nat.le_of_ble_eq_true rfl) (Nat.le_of_ble_eq_true rfl)) [0, 1] [0, 0] rfl rfl (ci := 11) (qc := (RX12, TX12, 43)) rfl rfl (List.mem_flatten.mpr ⟨_, List.mem_of_getElem? (i := 0) rfl, List.mem_cons_self⟩) rfl rfl hl.1 dX12_loops_67 (Nat.le_of_ble_eq_true rfl) (Nat.le_of_ble_eq_true rfl) (fun r_15 b1 H locs hw G => ?_)
            refine zAn4 hw ?_
            intro hbs9 h_12 h_13 h_14
            clear hw
            subst hbs9
            have G : zS T A s.heap s [[zO11 mo m_all m_has i_size i_next i_where i_token i_number i_word i_wrong i_farCrossing m_read i_z0 i_crossings i_inns m_posts m_shut m_here i_steps i_done i_at i_gone m_was m_came m_seenAt m_rowWorth m_farBy m_used i_everywhere i_again0 i_d0 i_never i_firstCame i_longRun i_moved i_crowd i_l0 i_fitMany i_fitLeast i_fitMost m_fitPost m_fitEnd m_keptPosts i_x0], [zAr T 0 m_all 3952 f_all]] _ _ := G
            subst h_12
            refine lv_aload_n hx hb dX12_loops_70 rfl (lv_at hl 4 rfl) ?_
            refine lv_iload_n hx hb dX12_loops_71 rfl (lv_at hl 3 rfl) ?_
            refine lv_iload hx hb dX12_loops_72 (lv_at hl 0 rfl) ?_
            have ti_16 : (nI i).toInt = ((i : Nat) : Int) := nI_toInt (by omega)
            have ti_17 : (nI t).toInt = ((t : Nat) : Int) := nI_toInt (by omega)
            refine z_Vi (bc := [[zO11 mo m_all m_has i_size i_next i_where i_token i_number i_word i_wrong i_farCrossing m_read i_z0 i_crossings i_inns m_posts m_shut m_here i_steps i_done i_at i_gone m_was m_came m_seenAt m_rowWorth m_farBy m_used i_everywhere i_again0 i_d0 i_never i_firstCame i_longRun i_moved i_crowd i_l0 i_fitMany i_fitLeast i_fitMost m_fitPost m_fitEnd m_keptPosts i_x0], [zAr T 0 m_all 3952 f_all]]) (br := []) (As := [.int (nI i), .int (nI t)]) (rest := [.int (zLe f_all i_z0 (nI i) (nI k)), .int v2]) C G (c_m_leadsTo l T mo m_all m_has i_size i_next i_where i_token i_number i_word i_wrong i_farCrossing m_read i_z0 i_crossings i_inns m_posts m_shut m_here i_steps i_done i_at i_gone m_was m_came m_seenAt m_rowWorth m_farBy m_used i_everywhere i_again0 i_d0 i_never i_firstCame i_longRun i_moved i_crowd i_l0 i_fitMany i_fitLeast i_fitMost m_fitPost m_fitEnd m_keptPosts i_x0 f_all (nI i) (nI t) (by first | with_reducible assumption | with_reducible rfl | omega | assumption | rfl | decide) (by first | with_reducible assumption | with_reducible rfl | omega | assumption | rfl | decide) (by first | with_reducible assumption | with_reducible rfl | omega | assumption | rfl | decide) (by first | with_reducible assumption | with_reducible rfl | omega | assumption | rfl | decide) (by first | with_reducible assumption | with_reducible rfl | omega | assumption | rfl | decide)) (kV_RX12_190 C.2.2.2.2 (Nat.le_of_ble_eq_true rfl) (Nat.le_of_ble_eq_true rfl)) [0, 1] [0, 0] rfl rfl (ci := 11) (qc := (RX12, TX12, 43)) rfl rfl (List.mem_flatten.mpr ⟨_, List.mem_of_getElem? (i := 0) rfl, List.mem_cons_self⟩) rfl rfl hl.1 dX12_loops_74 (Nat.le_of_ble_eq_true rfl) (Nat.le_of_ble_eq_true rfl) (fun r_21 b1 H locs hw G => ?_)
            refine zAn4 hw ?_
            intro hbs9 h_18 h_19 h_20
            clear hw
            subst hbs9
            have G : zS T A s.heap s [[zO11 mo m_all m_has i_size i_next i_where i_token i_number i_word i_wrong i_farCrossing m_read i_z0 i_crossings i_inns m_posts m_shut m_here i_steps i_done i_at i_gone m_was m_came m_seenAt m_rowWorth m_farBy m_used i_everywhere i_again0 i_d0 i_never i_firstCame i_longRun i_moved i_crowd i_l0 i_fitMany i_fitLeast i_fitMost m_fitPost m_fitEnd m_keptPosts i_x0], [zAr T 0 m_all 3952 f_all]] _ _ := G
            subst h_18
            refine lv_icmp_ne (tgt := 84) hx hb dX12_loops_77 (by decide) (fun c_22 => ?_) (fun c_22 => ?_)
            · have c_22n : ¬ (zLe f_all i_z0 (nI i) (nI k)).toInt = (zLe f_all i_z0 (nI i) (nI t)).toInt := fun q => c_22 ((fa_eq _ _).mpr q)
              refine lv_iconst (v := 0) hx hb dX12_loops_84 (by decide) ?_
              refine lv_iadd hx hb dX12_loops_85 ?_
              refine lv_istore_n (lv' := [(2, .int (v2 + 0)), (5, .int (nI t)), (4, .int (nI k)), (3, .int (nI i)), (0, .ref mo), (1, .int w_)]) hx hb dX12_loops_86 rfl hl (by decide) (zLvf_h rfl) (fun ls hl => ?_)
              refine lv_iinc (v := nI (t + 1)) (lv' := [(5, .int (nI (t + 1))), (2, .int (v2 + 0)), (4, .int (nI k)), (3, .int (nI i)), (0, .ref mo), (1, .int w_)]) hx hb dX12_loops_87 hl (k := 1) rfl (z_inc t 1) (by decide) (zLvf_h rfl) (fun ls hl => ?_)
              refine lv_goto (tgt := 51) hx hb dX12_loops_90 (by decide) ?_
              exact ih_51 (t + 1) (v2 + 0) (show (t + 1) ≤ 4 from by omega) (show 4 - (t + 1) < 4 - t from by omega) _ _ ls G (lv_sub hl [0, 1, 2, 3, 4, 5] rfl)
            · have c_22n : (zLe f_all i_z0 (nI i) (nI k)).toInt = (zLe f_all i_z0 (nI i) (nI t)).toInt := (fa_eq _ _).mp c_22
              refine lv_iconst (v := 1) hx hb dX12_loops_80 (by decide) ?_
              refine lv_goto (tgt := 85) hx hb dX12_loops_81 (by decide) ?_
              refine lv_iadd hx hb dX12_loops_85 ?_
              refine lv_istore_n (lv' := [(2, .int (v2 + 1)), (5, .int (nI t)), (4, .int (nI k)), (3, .int (nI i)), (0, .ref mo), (1, .int w_)]) hx hb dX12_loops_86 rfl hl (by decide) (zLvf_h rfl) (fun ls hl => ?_)
              refine lv_iinc (v := nI (t + 1)) (lv' := [(5, .int (nI (t + 1))), (2, .int (v2 + 1)), (4, .int (nI k)), (3, .int (nI i)), (0, .ref mo), (1, .int w_)]) hx hb dX12_loops_87 hl (k := 1) rfl (z_inc t 1) (by decide) (zLvf_h rfl) (fun ls hl => ?_)
              refine lv_goto (tgt := 51) hx hb dX12_loops_90 (by decide) ?_
              exact ih_51 (t + 1) (v2 + 1) (show (t + 1) ≤ 4 from by omega) (show 4 - (t + 1) < 4 - t from by omega) _ _ ls G (lv_sub hl [0, 1, 2, 3, 4, 5] rfl)
      · have c_7n : w_.toInt = (0 : Int) := (fa_eq _ _).mp c_7
        refine lv_aload_n hx hb dX12_loops_30 rfl (lv_at hl 3 rfl) ?_
        refine lv_iload_n hx hb dX12_loops_31 rfl (lv_at hl 1 rfl) ?_
        refine lv_iload hx hb dX12_loops_32 (lv_at hl 0 rfl) ?_
        have ti_23 : (nI i).toInt = ((i : Nat) : Int) := nI_toInt (by omega)
        have ti_24 : (nI k).toInt = ((k : Nat) : Int) := nI_toInt (by omega)
        refine z_Vi (bc := [[zO11 mo m_all m_has i_size i_next i_where i_token i_number i_word i_wrong i_farCrossing m_read i_z0 i_crossings i_inns m_posts m_shut m_here i_steps i_done i_at i_gone m_was m_came m_seenAt m_rowWorth m_farBy m_used i_everywhere i_again0 i_d0 i_never i_firstCame i_longRun i_moved i_crowd i_l0 i_fitMany i_fitLeast i_fitMost m_fitPost m_fitEnd m_keptPosts i_x0], [zAr T 0 m_all 3952 f_all]]) (br := []) (As := [.int (nI i), .int (nI k)]) (rest := [.int v]) C G (c_m_leadsTo l T mo m_all m_has i_size i_next i_where i_token i_number i_word i_wrong i_farCrossing m_read i_z0 i_crossings i_inns m_posts m_shut m_here i_steps i_done i_at i_gone m_was m_came m_seenAt m_rowWorth m_farBy m_used i_everywhere i_again0 i_d0 i_never i_firstCame i_longRun i_moved i_crowd i_l0 i_fitMany i_fitLeast i_fitMost m_fitPost m_fitEnd m_keptPosts i_x0 f_all (nI i) (nI k) (by first | with_reducible assumption | with_reducible rfl | omega | assumption | rfl | decide) (by first | with_reducible assumption | with_reducible rfl | omega | assumption | rfl | decide) (by first | with_reducible assumption | with_reducible rfl | omega | assumption | rfl | decide) (by first | with_reducible assumption | with_reducible rfl | omega | assumption | rfl | decide) (by first | with_reducible assumption | with_reducible rfl | omega | assumption | rfl | decide)) (kV_RX12_190 C.2.2.2.2 (Nat.le_of_ble_eq_true rfl) (Nat.le_of_ble_eq_true rfl)) [0, 1] [0, 0] rfl rfl (ci := 11) (qc := (RX12, TX12, 43)) rfl rfl (List.mem_flatten.mpr ⟨_, List.mem_of_getElem? (i := 0) rfl, List.mem_cons_self⟩) rfl rfl hl.1 dX12_loops_34 (Nat.le_of_ble_eq_true rfl) (Nat.le_of_ble_eq_true rfl) (fun r_28 b1 H locs hw G => ?_)
        refine zAn4 hw ?_
        intro hbs9 h_25 h_26 h_27
        clear hw
        subst hbs9
        have G : zS T A s.heap s [[zO11 mo m_all m_has i_size i_next i_where i_token i_number i_word i_wrong i_farCrossing m_read i_z0 i_crossings i_inns m_posts m_shut m_here i_steps i_done i_at i_gone m_was m_came m_seenAt m_rowWorth m_farBy m_used i_everywhere i_again0 i_d0 i_never i_firstCame i_longRun i_moved i_crowd i_l0 i_fitMany i_fitLeast i_fitMost m_fitPost m_fitEnd m_keptPosts i_x0], [zAr T 0 m_all 3952 f_all]] _ _ := G
        subst h_25
        refine lv_iload_n hx hb dX12_loops_37 rfl (lv_at hl 1 rfl) ?_
        refine lv_icmp_ne (tgt := 45) hx hb dX12_loops_38 (by decide) (fun c_29 => ?_) (fun c_29 => ?_)
        · have c_29n : ¬ (zLe f_all i_z0 (nI i) (nI k)).toInt = (i : Int) := fun q => c_29 ((fa_eq _ _).mpr (by rw [nI_toInt (n := i) (by omega)]; exact q))
          refine lv_iconst (v := 0) hx hb dX12_loops_45 (by decide) ?_
          refine lv_iadd hx hb dX12_loops_46 ?_
          refine lv_istore_n (lv' := [(2, .int (v + 0)), (4, .int (nI k)), (3, .int (nI i)), (0, .ref mo), (1, .int w_)]) hx hb dX12_loops_47 rfl hl (by decide) (zLvf_h rfl) (fun ls hl => ?_)
          refine lv_iconst (v := 0) hx hb dX12_loops_48 (by decide) ?_
          refine lv_istore (lv' := [(5, .int 0), (2, .int (v + 0)), (4, .int (nI k)), (3, .int (nI i)), (0, .ref mo), (1, .int w_)]) hx hb dX12_loops_49 hl (by decide) (zLvf_h rfl) (fun ls hl => ?_)
          refine z_lp2 (T := T) 51 (fun (t : Nat) (v2 : Int32) => [[zO11 mo m_all m_has i_size i_next i_where i_token i_number i_word i_wrong i_farCrossing m_read i_z0 i_crossings i_inns m_posts m_shut m_here i_steps i_done i_at i_gone m_was m_came m_seenAt m_rowWorth m_farBy m_used i_everywhere i_again0 i_d0 i_never i_firstCame i_longRun i_moved i_crowd i_l0 i_fitMany i_fitLeast i_fitMost m_fitPost m_fitEnd m_keptPosts i_x0], [zAr T 0 m_all 3952 f_all]]) (fun (t : Nat) (v2 : Int32) => [(5, .int (nI t)), (2, .int v2), (4, .int (nI k)), (3, .int (nI i)), (0, .ref mo), (1, .int w_)]) (fun (t : Nat) (v2 : Int32) => t ≤ 4) (fun (t : Nat) (v2 : Int32) => 4 - t) ?_ 0 (v + 0) (show 0 ≤ 4 from by omega) G (lv_sub hl [0, 1, 2, 3, 4, 5] rfl)
          intro t v2 ht ih_51 H locs ls G hl
          replace ht : t ≤ 4 := ht
          replace G : zS T A s.heap s [[zO11 mo m_all m_has i_size i_next i_where i_token i_number i_word i_wrong i_farCrossing m_read i_z0 i_crossings i_inns m_posts m_shut m_here i_steps i_done i_at i_gone m_was m_came m_seenAt m_rowWorth m_farBy m_used i_everywhere i_again0 i_d0 i_never i_firstCame i_longRun i_moved i_crowd i_l0 i_fitMany i_fitLeast i_fitMost m_fitPost m_fitEnd m_keptPosts i_x0], [zAr T 0 m_all 3952 f_all]] _ _ := G
          replace hl : lv_has ls 6 [(5, .int (nI t)), (2, .int v2), (4, .int (nI k)), (3, .int (nI i)), (0, .ref mo), (1, .int w_)] := hl
          refine lv_iload hx hb dX12_loops_51 (lv_at hl 0 rfl) ?_
          refine lv_iload hx hb dX12_loops_53 (lv_at hl 2 rfl) ?_
          refine lv_icmp_ge (tgt := 93) hx hb dX12_loops_55 (by decide) (fun c_30 => ?_) (fun c_30 => ?_)
          · have c_30n : k ≤ t := (nI_leI (a := k) (b := t) (by omega) (by omega)).mp c_30
            refine lv_iinc (v := nI (k + 1)) (lv' := [(4, .int (nI (k + 1))), (5, .int (nI t)), (2, .int v2), (3, .int (nI i)), (0, .ref mo), (1, .int w_)]) hx hb dX12_loops_93 hl (k := 2) rfl (z_inc k 1) (by decide) (zLvf_h rfl) (fun ls hl => ?_)
            refine lv_goto (tgt := 15) hx hb dX12_loops_96 (by decide) ?_
            exact ih_15 (k + 1) v2 (show (k + 1) ≤ 4 from by omega) (show 4 - (k + 1) < 4 - k from by omega) _ _ ls G (lv_sub hl [0, 3, 2, 4, 5] rfl)
          · have c_30n : ¬ k ≤ t := fun q => c_30 ((nI_leI (a := k) (b := t) (by omega) (by omega)).mpr q)
            refine lv_iload_n hx hb dX12_loops_58 rfl (lv_at hl 1 rfl) ?_
            refine lv_iload_n hx hb dX12_loops_59 rfl (lv_at hl 5 rfl) ?_
            refine lv_if_eq (tgt := 84) hx hb dX12_loops_60 (by decide) (fun c_31 => ?_) (fun c_31 => ?_)
            · have c_31n : w_.toInt = (0 : Int) := (fa_eq _ _).mp c_31
              refine lv_iconst (v := 0) hx hb dX12_loops_84 (by decide) ?_
              refine lv_iadd hx hb dX12_loops_85 ?_
              refine lv_istore_n (lv' := [(2, .int (v2 + 0)), (5, .int (nI t)), (4, .int (nI k)), (3, .int (nI i)), (0, .ref mo), (1, .int w_)]) hx hb dX12_loops_86 rfl hl (by decide) (zLvf_h rfl) (fun ls hl => ?_)
              refine lv_iinc (v := nI (t + 1)) (lv' := [(5, .int (nI (t + 1))), (2, .int (v2 + 0)), (4, .int (nI k)), (3, .int (nI i)), (0, .ref mo), (1, .int w_)]) hx hb dX12_loops_87 hl (k := 1) rfl (z_inc t 1) (by decide) (zLvf_h rfl) (fun ls hl => ?_)
              refine lv_goto (tgt := 51) hx hb dX12_loops_90 (by decide) ?_
              exact ih_51 (t + 1) (v2 + 0) (show (t + 1) ≤ 4 from by omega) (show 4 - (t + 1) < 4 - t from by omega) _ _ ls G (lv_sub hl [0, 1, 2, 3, 4, 5] rfl)
            · have c_31n : ¬ w_.toInt = (0 : Int) := fun q => c_31 ((fa_eq _ _).mpr q)
              refine lv_aload_n hx hb dX12_loops_63 rfl (lv_at hl 4 rfl) ?_
              refine lv_iload_n hx hb dX12_loops_64 rfl (lv_at hl 3 rfl) ?_
              refine lv_iload hx hb dX12_loops_65 (lv_at hl 2 rfl) ?_
              have ti_32 : (nI i).toInt = ((i : Nat) : Int) := nI_toInt (by omega)
              have ti_33 : (nI k).toInt = ((k : Nat) : Int) := nI_toInt (by omega)
              refine z_Vi (bc := [[zO11 mo m_all m_has i_size i_next i_where i_token i_number i_word i_wrong i_farCrossing m_read i_z0 i_crossings i_inns m_posts m_shut m_here i_steps i_done i_at i_gone m_was m_came m_seenAt m_rowWorth m_farBy m_used i_everywhere i_again0 i_d0 i_never i_firstCame i_longRun i_moved i_crowd i_l0 i_fitMany i_fitLeast i_fitMost m_fitPost m_fitEnd m_keptPosts i_x0], [zAr T 0 m_all 3952 f_all]]) (br := []) (As := [.int (nI i), .int (nI k)]) (rest := [.int v2]) C G (c_m_leadsTo l T mo m_all m_has i_size i_next i_where i_token i_number i_word i_wrong i_farCrossing m_read i_z0 i_crossings i_inns m_posts m_shut m_here i_steps i_done i_at i_gone m_was m_came m_seenAt m_rowWorth m_farBy m_used i_everywhere i_again0 i_d0 i_never i_firstCame i_longRun i_moved i_crowd i_l0 i_fitMany i_fitLeast i_fitMost m_fitPost m_fitEnd m_keptPosts i_x0 f_all (nI i) (nI k) (by first | with_reducible assumption | with_reducible rfl | omega | assumption | rfl | decide) (by first | with_reducible assumption | with_reducible rfl | omega | assumption | rfl | decide) (by first | with_reducible assumption | with_reducible rfl | omega | assumption | rfl | decide) (by first | with_reducible assumption | with_reducible rfl | omega | assumption | rfl | decide) (by first | with_reducible assumption | with_reducible rfl | omega | assumption | rfl | decide)) (kV_RX12_190 C.2.2.2.2 (Nat.le_of_ble_eq_true rfl) (Nat.le_of_ble_eq_true rfl)) [0, 1] [0, 0] rfl rfl (ci := 11) (qc := (RX12, TX12, 43)) rfl rfl (List.mem_flatten.mpr ⟨_, List.mem_of_getElem? (i := 0) rfl, List.mem_cons_self⟩) rfl rfl hl.1 dX12_loops_67 (Nat.le_of_ble_eq_true rfl) (Nat.le_of_ble_eq_true rfl) (fun r_37 b1 H locs hw G => ?_)
              refine zAn4 hw ?_
              intro hbs9 h_34 h_35 h_36
              clear hw
              subst hbs9
              have G : zS T A s.heap s [[zO11 mo m_all m_has i_size i_next i_where i_token i_number i_word i_wrong i_farCrossing m_read i_z0 i_crossings i_inns m_posts m_shut m_here i_steps i_done i_at i_gone m_was m_came m_seenAt m_rowWorth m_farBy m_used i_everywhere i_again0 i_d0 i_never i_firstCame i_longRun i_moved i_crowd i_l0 i_fitMany i_fitLeast i_fitMost m_fitPost m_fitEnd m_keptPosts i_x0], [zAr T 0 m_all 3952 f_all]] _ _ := G
              subst h_34
              refine lv_aload_n hx hb dX12_loops_70 rfl (lv_at hl 4 rfl) ?_
              refine lv_iload_n hx hb dX12_loops_71 rfl (lv_at hl 3 rfl) ?_
              refine lv_iload hx hb dX12_loops_72 (lv_at hl 0 rfl) ?_
              have ti_38 : (nI i).toInt = ((i : Nat) : Int) := nI_toInt (by omega)
              have ti_39 : (nI t).toInt = ((t : Nat) : Int) := nI_toInt (by omega)
              refine z_Vi (bc := [[zO11 mo m_all m_has i_size i_next i_where i_token i_number i_word i_wrong i_farCrossing m_read i_z0 i_crossings i_inns m_posts m_shut m_here i_steps i_done i_at i_gone m_was m_came m_seenAt m_rowWorth m_farBy m_used i_everywhere i_again0 i_d0 i_never i_firstCame i_longRun i_moved i_crowd i_l0 i_fitMany i_fitLeast i_fitMost m_fitPost m_fitEnd m_keptPosts i_x0], [zAr T 0 m_all 3952 f_all]]) (br := []) (As := [.int (nI i), .int (nI t)]) (rest := [.int (zLe f_all i_z0 (nI i) (nI k)), .int v2]) C G (c_m_leadsTo l T mo m_all m_has i_size i_next i_where i_token i_number i_word i_wrong i_farCrossing m_read i_z0 i_crossings i_inns m_posts m_shut m_here i_steps i_done i_at i_gone m_was m_came m_seenAt m_rowWorth m_farBy m_used i_everywhere i_again0 i_d0 i_never i_firstCame i_longRun i_moved i_crowd i_l0 i_fitMany i_fitLeast i_fitMost m_fitPost m_fitEnd m_keptPosts i_x0 f_all (nI i) (nI t) (by first | with_reducible assumption | with_reducible rfl | omega | assumption | rfl | decide) (by first | with_reducible assumption | with_reducible rfl | omega | assumption | rfl | decide) (by first | with_reducible assumption | with_reducible rfl | omega | assumption | rfl | decide) (by first | with_reducible assumption | with_reducible rfl | omega | assumption | rfl | decide) (by first | with_reducible assumption | with_reducible rfl | omega | assumption | rfl | decide)) (kV_RX12_190 C.2.2.2.2 (Nat.le_of_ble_eq_true rfl) (Nat.le_of_ble_eq_true rfl)) [0, 1] [0, 0] rfl rfl (ci := 11) (qc := (RX12, TX12, 43)) rfl rfl (List.mem_flatten.mpr ⟨_, List.mem_of_getElem? (i := 0) rfl, List.mem_cons_self⟩) rfl rfl hl.1 dX12_loops_74 (Nat.le_of_ble_eq_true rfl) (Nat.le_of_ble_eq_true rfl) (fun r_43 b1 H locs hw G => ?_)
              refine zAn4 hw ?_
              intro hbs9 h_40 h_41 h_42
              clear hw
              subst hbs9
              have G : zS T A s.heap s [[zO11 mo m_all m_has i_size i_next i_where i_token i_number i_word i_wrong i_farCrossing m_read i_z0 i_crossings i_inns m_posts m_shut m_here i_steps i_done i_at i_gone m_was m_came m_seenAt m_rowWorth m_farBy m_used i_everywhere i_again0 i_d0 i_never i_firstCame i_longRun i_moved i_crowd i_l0 i_fitMany i_fitLeast i_fitMost m_fitPost m_fitEnd m_keptPosts i_x0], [zAr T 0 m_all 3952 f_all]] _ _ := G
              subst h_40
              refine lv_icmp_ne (tgt := 84) hx hb dX12_loops_77 (by decide) (fun c_44 => ?_) (fun c_44 => ?_)
              · have c_44n : ¬ (zLe f_all i_z0 (nI i) (nI k)).toInt = (zLe f_all i_z0 (nI i) (nI t)).toInt := fun q => c_44 ((fa_eq _ _).mpr q)
                refine lv_iconst (v := 0) hx hb dX12_loops_84 (by decide) ?_
                refine lv_iadd hx hb dX12_loops_85 ?_
                refine lv_istore_n (lv' := [(2, .int (v2 + 0)), (5, .int (nI t)), (4, .int (nI k)), (3, .int (nI i)), (0, .ref mo), (1, .int w_)]) hx hb dX12_loops_86 rfl hl (by decide) (zLvf_h rfl) (fun ls hl => ?_)
                refine lv_iinc (v := nI (t + 1)) (lv' := [(5, .int (nI (t + 1))), (2, .int (v2 + 0)), (4, .int (nI k)), (3, .int (nI i)), (0, .ref mo), (1, .int w_)]) hx hb dX12_loops_87 hl (k := 1) rfl (z_inc t 1) (by decide) (zLvf_h rfl) (fun ls hl => ?_)
                refine lv_goto (tgt := 51) hx hb dX12_loops_90 (by decide) ?_
                exact ih_51 (t + 1) (v2 + 0) (show (t + 1) ≤ 4 from by omega) (show 4 - (t + 1) < 4 - t from by omega) _ _ ls G (lv_sub hl [0, 1, 2, 3, 4, 5] rfl)
              · have c_44n : (zLe f_all i_z0 (nI i) (nI k)).toInt = (zLe f_all i_z0 (nI i) (nI t)).toInt := (fa_eq _ _).mp c_44
                refine lv_iconst (v := 1) hx hb dX12_loops_80 (by decide) ?_
                refine lv_goto (tgt := 85) hx hb dX12_loops_81 (by decide) ?_
                refine lv_iadd hx hb dX12_loops_85 ?_
                refine lv_istore_n (lv' := [(2, .int (v2 + 1)), (5, .int (nI t)), (4, .int (nI k)), (3, .int (nI i)), (0, .ref mo), (1, .int w_)]) hx hb dX12_loops_86 rfl hl (by decide) (zLvf_h rfl) (fun ls hl => ?_)
                refine lv_iinc (v := nI (t + 1)) (lv' := [(5, .int (nI (t + 1))), (2, .int (v2 + 1)), (4, .int (nI k)), (3, .int (nI i)), (0, .ref mo), (1, .int w_)]) hx hb dX12_loops_87 hl (k := 1) rfl (z_inc t 1) (by decide) (zLvf_h rfl) (fun ls hl => ?_)
                refine lv_goto (tgt := 51) hx hb dX12_loops_90 (by decide) ?_
                exact ih_51 (t + 1) (v2 + 1) (show (t + 1) ≤ 4 from by omega) (show 4 - (t + 1) < 4 - t from by omega) _ _ ls G (lv_sub hl [0, 1, 2, 3, 4, 5] rfl)
        · have c_29n : (zLe f_all i_z0 (nI i) (nI k)).toInt = (i : Int) := by have q := (fa_eq _ _).mp c_29; rw [nI_toInt (n := i) (by omega)] at q; exact q
          refine lv_iconst (v := 1) hx hb dX12_loops_41 (by decide) ?_
          refine lv_goto (tgt := 46) hx hb dX12_loops_42 (by decide) ?_
          refine lv_iadd hx hb dX12_loops_46 ?_
          refine lv_istore_n (lv' := [(2, .int (v + 1)), (4, .int (nI k)), (3, .int (nI i)), (0, .ref mo), (1, .int w_)]) hx hb dX12_loops_47 rfl hl (by decide) (zLvf_h rfl) (fun ls hl => ?_)
          refine lv_iconst (v := 0) hx hb dX12_loops_48 (by decide) ?_
          refine lv_istore (lv' := [(5, .int 0), (2, .int (v + 1)), (4, .int (nI k)), (3, .int (nI i)), (0, .ref mo), (1, .int w_)]) hx hb dX12_loops_49 hl (by decide) (zLvf_h rfl) (fun ls hl => ?_)
          refine z_lp2 (T := T) 51 (fun (t : Nat) (v2 : Int32) => [[zO11 mo m_all m_has i_size i_next i_where i_token i_number i_word i_wrong i_farCrossing m_read i_z0 i_crossings i_inns m_posts m_shut m_here i_steps i_done i_at i_gone m_was m_came m_seenAt m_rowWorth m_farBy m_used i_everywhere i_again0 i_d0 i_never i_firstCame i_longRun i_moved i_crowd i_l0 i_fitMany i_fitLeast i_fitMost m_fitPost m_fitEnd m_keptPosts i_x0], [zAr T 0 m_all 3952 f_all]]) (fun (t : Nat) (v2 : Int32) => [(5, .int (nI t)), (2, .int v2), (4, .int (nI k)), (3, .int (nI i)), (0, .ref mo), (1, .int w_)]) (fun (t : Nat) (v2 : Int32) => t ≤ 4) (fun (t : Nat) (v2 : Int32) => 4 - t) ?_ 0 (v + 1) (show 0 ≤ 4 from by omega) G (lv_sub hl [0, 1, 2, 3, 4, 5] rfl)
          intro t v2 ht ih_51 H locs ls G hl
          replace ht : t ≤ 4 := ht
          replace G : zS T A s.heap s [[zO11 mo m_all m_has i_size i_next i_where i_token i_number i_word i_wrong i_farCrossing m_read i_z0 i_crossings i_inns m_posts m_shut m_here i_steps i_done i_at i_gone m_was m_came m_seenAt m_rowWorth m_farBy m_used i_everywhere i_again0 i_d0 i_never i_firstCame i_longRun i_moved i_crowd i_l0 i_fitMany i_fitLeast i_fitMost m_fitPost m_fitEnd m_keptPosts i_x0], [zAr T 0 m_all 3952 f_all]] _ _ := G
          replace hl : lv_has ls 6 [(5, .int (nI t)), (2, .int v2), (4, .int (nI k)), (3, .int (nI i)), (0, .ref mo), (1, .int w_)] := hl
          refine lv_iload hx hb dX12_loops_51 (lv_at hl 0 rfl) ?_
          refine lv_iload hx hb dX12_loops_53 (lv_at hl 2 rfl) ?_
          refine lv_icmp_ge (tgt := 93) hx hb dX12_loops_55 (by decide) (fun c_45 => ?_) (fun c_45 => ?_)
          · have c_45n : k ≤ t := (nI_leI (a := k) (b := t) (by omega) (by omega)).mp c_45
            refine lv_iinc (v := nI (k + 1)) (lv' := [(4, .int (nI (k + 1))), (5, .int (nI t)), (2, .int v2), (3, .int (nI i)), (0, .ref mo), (1, .int w_)]) hx hb dX12_loops_93 hl (k := 2) rfl (z_inc k 1) (by decide) (zLvf_h rfl) (fun ls hl => ?_)
            refine lv_goto (tgt := 15) hx hb dX12_loops_96 (by decide) ?_
            exact ih_15 (k + 1) v2 (show (k + 1) ≤ 4 from by omega) (show 4 - (k + 1) < 4 - k from by omega) _ _ ls G (lv_sub hl [0, 3, 2, 4, 5] rfl)
          · have c_45n : ¬ k ≤ t := fun q => c_45 ((nI_leI (a := k) (b := t) (by omega) (by omega)).mpr q)
            refine lv_iload_n hx hb dX12_loops_58 rfl (lv_at hl 1 rfl) ?_
            refine lv_iload_n hx hb dX12_loops_59 rfl (lv_at hl 5 rfl) ?_
            refine lv_if_eq (tgt := 84) hx hb dX12_loops_60 (by decide) (fun c_46 => ?_) (fun c_46 => ?_)
            · have c_46n : w_.toInt = (0 : Int) := (fa_eq _ _).mp c_46
              refine lv_iconst (v := 0) hx hb dX12_loops_84 (by decide) ?_
              refine lv_iadd hx hb dX12_loops_85 ?_
              refine lv_istore_n (lv' := [(2, .int (v2 + 0)), (5, .int (nI t)), (4, .int (nI k)), (3, .int (nI i)), (0, .ref mo), (1, .int w_)]) hx hb dX12_loops_86 rfl hl (by decide) (zLvf_h rfl) (fun ls hl => ?_)
              refine lv_iinc (v := nI (t + 1)) (lv' := [(5, .int (nI (t + 1))), (2, .int (v2 + 0)), (4, .int (nI k)), (3, .int (nI i)), (0, .ref mo), (1, .int w_)]) hx hb dX12_loops_87 hl (k := 1) rfl (z_inc t 1) (by decide) (zLvf_h rfl) (fun ls hl => ?_)
              refine lv_goto (tgt := 51) hx hb dX12_loops_90 (by decide) ?_
              exact ih_51 (t + 1) (v2 + 0) (show (t + 1) ≤ 4 from by omega) (show 4 - (t + 1) < 4 - t from by omega) _ _ ls G (lv_sub hl [0, 1, 2, 3, 4, 5] rfl)
            · have c_46n : ¬ w_.toInt = (0 : Int) := fun q => c_46 ((fa_eq _ _).mpr q)
              refine lv_aload_n hx hb dX12_loops_63 rfl (lv_at hl 4 rfl) ?_
              refine lv_iload_n hx hb dX12_loops_64 rfl (lv_at hl 3 rfl) ?_
              refine lv_iload hx hb dX12_loops_65 (lv_at hl 2 rfl) ?_
              have ti_47 : (nI i).toInt = ((i : Nat) : Int) := nI_toInt (by omega)
              have ti_48 : (nI k).toInt = ((k : Nat) : Int) := nI_toInt (by omega)
              refine z_Vi (bc := [[zO11 mo m_all m_has i_size i_next i_where i_token i_number i_word i_wrong i_farCrossing m_read i_z0 i_crossings i_inns m_posts m_shut m_here i_steps i_done i_at i_gone m_was m_came m_seenAt m_rowWorth m_farBy m_used i_everywhere i_again0 i_d0 i_never i_firstCame i_longRun i_moved i_crowd i_l0 i_fitMany i_fitLeast i_fitMost m_fitPost m_fitEnd m_keptPosts i_x0], [zAr T 0 m_all 3952 f_all]]) (br := []) (As := [.int (nI i), .int (nI k)]) (rest := [.int v2]) C G (c_m_leadsTo l T mo m_all m_has i_size i_next i_where i_token i_number i_word i_wrong i_farCrossing m_read i_z0 i_crossings i_inns m_posts m_shut m_here i_steps i_done i_at i_gone m_was m_came m_seenAt m_rowWorth m_farBy m_used i_everywhere i_again0 i_d0 i_never i_firstCame i_longRun i_moved i_crowd i_l0 i_fitMany i_fitLeast i_fitMost m_fitPost m_fitEnd m_keptPosts i_x0 f_all (nI i) (nI k) (by first | with_reducible assumption | with_reducible rfl | omega | assumption | rfl | decide) (by first | with_reducible assumption | with_reducible rfl | omega | assumption | rfl | decide) (by first | with_reducible assumption | with_reducible rfl | omega | assumption | rfl | decide) (by first | with_reducible assumption | with_reducible rfl | omega | assumption | rfl | decide) (by first | with_reducible assumption | with_reducible rfl | omega | assumption | rfl | decide)) (kV_RX12_190 C.2.2.2.2 (Nat.le_of_ble_eq_true rfl) (Nat.le_of_ble_eq_true rfl)) [0, 1] [0, 0] rfl rfl (ci := 11) (qc := (RX12, TX12, 43)) rfl rfl (List.mem_flatten.mpr ⟨_, List.mem_of_getElem? (i := 0) rfl, List.mem_cons_self⟩) rfl rfl hl.1 dX12_loops_67 (Nat.le_of_ble_eq_true rfl) (Nat.le_of_ble_eq_true rfl) (fun r_52 b1 H locs hw G => ?_)
              refine zAn4 hw ?_
              intro hbs9 h_49 h_50 h_51
              clear hw
              subst hbs9
              have G : zS T A s.heap s [[zO11 mo m_all m_has i_size i_next i_where i_token i_number i_word i_wrong i_farCrossing m_read i_z0 i_crossings i_inns m_posts m_shut m_here i_steps i_done i_at i_gone m_was m_came m_seenAt m_rowWorth m_farBy m_used i_everywhere i_again0 i_d0 i_never i_firstCame i_longRun i_moved i_crowd i_l0 i_fitMany i_fitLeast i_fitMost m_fitPost m_fitEnd m_keptPosts i_x0], [zAr T 0 m_all 3952 f_all]] _ _ := G
              subst h_49
              refine lv_aload_n hx hb dX12_loops_70 rfl (lv_at hl 4 rfl) ?_
              refine lv_iload_n hx hb dX12_loops_71 rfl (lv_at hl 3 rfl) ?_
              refine lv_iload hx hb dX12_loops_72 (lv_at hl 0 rfl) ?_
              have ti_53 : (nI i).toInt = ((i : Nat) : Int) := nI_toInt (by omega)
              have ti_54 : (nI t).toInt = ((t : Nat) : Int) := nI_toInt (by omega)
              refine z_Vi (bc := [[zO11 mo m_all m_has i_size i_next i_where i_token i_number i_word i_wrong i_farCrossing m_read i_z0 i_crossings i_inns m_posts m_shut m_here i_steps i_done i_at i_gone m_was m_came m_seenAt m_rowWorth m_farBy m_used i_everywhere i_again0 i_d0 i_never i_firstCame i_longRun i_moved i_crowd i_l0 i_fitMany i_fitLeast i_fitMost m_fitPost m_fitEnd m_keptPosts i_x0], [zAr T 0 m_all 3952 f_all]]) (br := []) (As := [.int (nI i), .int (nI t)]) (rest := [.int (zLe f_all i_z0 (nI i) (nI k)), .int v2]) C G (c_m_leadsTo l T mo m_all m_has i_size i_next i_where i_token i_number i_word i_wrong i_farCrossing m_read i_z0 i_crossings i_inns m_posts m_shut m_here i_steps i_done i_at i_gone m_was m_came m_seenAt m_rowWorth m_farBy m_used i_everywhere i_again0 i_d0 i_never i_firstCame i_longRun i_moved i_crowd i_l0 i_fitMany i_fitLeast i_fitMost m_fitPost m_fitEnd m_keptPosts i_x0 f_all (nI i) (nI t) (by first | with_reducible assumption | with_reducible rfl | omega | assumption | rfl | decide) (by first | with_reducible assumption | with_reducible rfl | omega | assumption | rfl | decide) (by first | with_reducible assumption | with_reducible rfl | omega | assumption | rfl | decide) (by first | with_reducible assumption | with_reducible rfl | omega | assumption | rfl | decide) (by first | with_reducible assumption | with_reducible rfl | omega | assumption | rfl | decide)) (kV_RX12_190 C.2.2.2.2 (Nat.le_of_ble_eq_true rfl) (Nat.le_of_ble_eq_true rfl)) [0, 1] [0, 0] rfl rfl (ci := 11) (qc := (RX12, TX12, 43)) rfl rfl (List.mem_flatten.mpr ⟨_, List.mem_of_getElem? (i := 0) rfl, List.mem_cons_self⟩) rfl rfl hl.1 dX12_loops_74 (Nat.le_of_ble_eq_true rfl) (Nat.le_of_ble_eq_true rfl) (fun r_58 b1 H locs hw G => ?_)
              refine zAn4 hw ?_
              intro hbs9 h_55 h_56 h_57
              clear hw
              subst hbs9
              have G : zS T A s.heap s [[zO11 mo m_all m_has i_size i_next i_where i_token i_number i_word i_wrong i_farCrossing m_read i_z0 i_crossings i_inns m_posts m_shut m_here i_steps i_done i_at i_gone m_was m_came m_seenAt m_rowWorth m_farBy m_used i_everywhere i_again0 i_d0 i_never i_firstCame i_longRun i_moved i_crowd i_l0 i_fitMany i_fitLeast i_fitMost m_fitPost m_fitEnd m_keptPosts i_x0], [zAr T 0 m_all 3952 f_all]] _ _ := G
              subst h_55
              refine lv_icmp_ne (tgt := 84) hx hb dX12_loops_77 (by decide) (fun c_59 => ?_) (fun c_59 => ?_)
              · have c_59n : ¬ (zLe f_all i_z0 (nI i) (nI k)).toInt = (zLe f_all i_z0 (nI i) (nI t)).toInt := fun q => c_59 ((fa_eq _ _).mpr q)
                refine lv_iconst (v := 0) hx hb dX12_loops_84 (by decide) ?_
                refine lv_iadd hx hb dX12_loops_85 ?_
                refine lv_istore_n (lv' := [(2, .int (v2 + 0)), (5, .int (nI t)), (4, .int (nI k)), (3, .int (nI i)), (0, .ref mo), (1, .int w_)]) hx hb dX12_loops_86 rfl hl (by decide) (zLvf_h rfl) (fun ls hl => ?_)
                refine lv_iinc (v := nI (t + 1)) (lv' := [(5, .int (nI (t + 1))), (2, .int (v2 + 0)), (4, .int (nI k)), (3, .int (nI i)), (0, .ref mo), (1, .int w_)]) hx hb dX12_loops_87 hl (k := 1) rfl (z_inc t 1) (by decide) (zLvf_h rfl) (fun ls hl => ?_)
                refine lv_goto (tgt := 51) hx hb dX12_loops_90 (by decide) ?_
                exact ih_51 (t + 1) (v2 + 0) (show (t + 1) ≤ 4 from by omega) (show 4 - (t + 1) < 4 - t from by omega) _ _ ls G (lv_sub hl [0, 1, 2, 3, 4, 5] rfl)
              · have c_59n : (zLe f_all i_z0 (nI i) (nI k)).toInt = (zLe f_all i_z0 (nI i) (nI t)).toInt := (fa_eq _ _).mp c_59
                refine lv_iconst (v := 1) hx hb dX12_loops_80 (by decide) ?_
                refine lv_goto (tgt := 85) hx hb dX12_loops_81 (by decide) ?_
                refine lv_iadd hx hb dX12_loops_85 ?_
                refine lv_istore_n (lv' := [(2, .int (v2 + 1)), (5, .int (nI t)), (4, .int (nI k)), (3, .int (nI i)), (0, .ref mo), (1, .int w_)]) hx hb dX12_loops_86 rfl hl (by decide) (zLvf_h rfl) (fun ls hl => ?_)
                refine lv_iinc (v := nI (t + 1)) (lv' := [(5, .int (nI (t + 1))), (2, .int (v2 + 1)), (4, .int (nI k)), (3, .int (nI i)), (0, .ref mo), (1, .int w_)]) hx hb dX12_loops_87 hl (k := 1) rfl (z_inc t 1) (by decide) (zLvf_h rfl) (fun ls hl => ?_)
                refine lv_goto (tgt := 51) hx hb dX12_loops_90 (by decide) ?_
                exact ih_51 (t + 1) (v2 + 1) (show (t + 1) ≤ 4 from by omega) (show 4 - (t + 1) < 4 - t from by omega) _ _ ls G (lv_sub hl [0, 1, 2, 3, 4, 5] rfl)
set_option maxHeartbeats 4000000 in
set_option maxRecDepth 100000 in
/-- c_m_busyOf -/
theorem c_m_busyOf (l : Launch) (T : zTy) (mo : Nat) (m_all : Nat) (m_has : Nat) (i_size : Int32) (i_next : Int32) (i_where : Int32) (i_token : Int32) (i_number : Int32) (i_word : Int32) (i_wrong : Int32) (i_farCrossing : Int32) (m_read : Nat) (i_z0 : Int32) (i_crossings : Int32) (i_inns : Int32) (m_posts : Nat) (m_shut : Nat) (m_here : Nat) (i_steps : Int32) (i_done : Int32) (i_at : Int32) (i_gone : Int32) (m_was : Nat) (m_came : Nat) (m_seenAt : Nat) (m_rowWorth : Nat) (m_farBy : Nat) (m_used : Nat) (i_everywhere : Int32) (i_again0 : Int32) (i_d0 : Int32) (i_never : Int32) (i_firstCame : Int32) (i_longRun : Int32) (i_moved : Int32) (i_crowd : Int32) (i_l0 : Int32) (i_fitMany : Int32) (i_fitLeast : Int32) (i_fitMost : Int32) (m_fitPost : Nat) (m_fitEnd : Nat) (m_keptPosts : Nat) (i_x0 : Int32) (f_all : Nat → Int32) (hL : zML f_all i_z0 i_crossings) : zMi l T yX12_busyOf cX12_busyOf 3 (some .int) 5 0 0 [.ref mo] [[zO11 mo m_all m_has i_size i_next i_where i_token i_number i_word i_wrong i_farCrossing m_read i_z0 i_crossings i_inns m_posts m_shut m_here i_steps i_done i_at i_gone m_was m_came m_seenAt m_rowWorth m_farBy m_used i_everywhere i_again0 i_d0 i_never i_firstCame i_longRun i_moved i_crowd i_l0 i_fitMany i_fitLeast i_fitMost m_fitPost m_fitEnd m_keptPosts i_x0], [zAr T 0 m_all 3952 f_all]] (fun (r : Int32) bs => bs = [[zO11 mo m_all m_has i_size i_next i_where i_token i_number i_word i_wrong i_farCrossing m_read i_z0 i_crossings i_inns m_posts m_shut m_here i_steps i_done i_at i_gone m_was m_came m_seenAt m_rowWorth m_farBy m_used i_everywhere i_again0 i_d0 i_never i_firstCame i_longRun i_moved i_crowd i_l0 i_fitMany i_fitLeast i_fitMost m_fitPost m_fitEnd m_keptPosts i_x0], [zAr T 0 m_all 3952 f_all]]) := by
  refine zMi_of (own := RX12) (by decide) rfl (Nat.le_of_ble_eq_true rfl) ?_
  intro p e s m args below meth c A ls C hr hlocks hnm hAe G hl
  refine zHide (fun Qz_ hQz_ => ?_)
  have hx := C.1
  have hb := C.2.1
  have hl : lv_has ls 3 [(0, .ref mo)] := hl
  have hz := hL.1
  have hcr := hL.cr
  refine lv_aload_n hx hb dX12_busyOf_0 rfl (lv_at hl 0 rfl) ?_
  refine z_get C G clX12 0 rfl 12 (by decide) m_fl_RX12_169 rfl dX12_busyOf_1 ?_
  refine lv_if_ne (tgt := 11) hx hb dX12_busyOf_4 (by decide) (fun c_1 => ?_) (fun c_1 => ?_)
  · have c_1n : ¬ i_crossings.toInt = (0 : Int) := fun q => c_1 ((fa_eq _ _).mpr q)
    refine lv_iconst (v := 0) hx hb dX12_busyOf_11 (by decide) ?_
    refine lv_istore_n (lv' := [(1, .int 0), (0, .ref mo)]) hx hb dX12_busyOf_12 rfl hl (by decide) (zLvf_h rfl) (fun ls hl => ?_)
    refine lv_iconst (v := 1) hx hb dX12_busyOf_13 (by decide) ?_
    refine lv_istore_n (lv' := [(2, .int 1), (1, .int 0), (0, .ref mo)]) hx hb dX12_busyOf_14 rfl hl (by decide) (zLvf_h rfl) (fun ls hl => ?_)
    refine z_lp2 (T := T) 15 (fun (i : Nat) (u : Int32) => [[zO11 mo m_all m_has i_size i_next i_where i_token i_number i_word i_wrong i_farCrossing m_read i_z0 i_crossings i_inns m_posts m_shut m_here i_steps i_done i_at i_gone m_was m_came m_seenAt m_rowWorth m_farBy m_used i_everywhere i_again0 i_d0 i_never i_firstCame i_longRun i_moved i_crowd i_l0 i_fitMany i_fitLeast i_fitMost m_fitPost m_fitEnd m_keptPosts i_x0], [zAr T 0 m_all 3952 f_all]]) (fun (i : Nat) (u : Int32) => [(2, .int (nI i)), (1, .int u), (0, .ref mo)]) (fun (i : Nat) (u : Int32) => i ≤ 7) (fun (i : Nat) (u : Int32) => 7 - i) ?_ 1 0 (show 1 ≤ 7 from by omega) G (lv_sub hl [0, 1, 2] rfl)
    intro i u hi ih_15 H locs ls G hl
    replace hi : i ≤ 7 := hi
    replace G : zS T A s.heap s [[zO11 mo m_all m_has i_size i_next i_where i_token i_number i_word i_wrong i_farCrossing m_read i_z0 i_crossings i_inns m_posts m_shut m_here i_steps i_done i_at i_gone m_was m_came m_seenAt m_rowWorth m_farBy m_used i_everywhere i_again0 i_d0 i_never i_firstCame i_longRun i_moved i_crowd i_l0 i_fitMany i_fitLeast i_fitMost m_fitPost m_fitEnd m_keptPosts i_x0], [zAr T 0 m_all 3952 f_all]] _ _ := G
    replace hl : lv_has ls 3 [(2, .int (nI i)), (1, .int u), (0, .ref mo)] := hl
    refine lv_iload_n hx hb dX12_busyOf_15 rfl (lv_at hl 0 rfl) ?_
    refine lv_aload_n hx hb dX12_busyOf_16 rfl (lv_at hl 2 rfl) ?_
    refine z_get C G clX12 0 rfl 12 (by decide) m_fl_RX12_169 rfl dX12_busyOf_17 ?_
    refine lv_icmp_ge (tgt := 50) hx hb dX12_busyOf_20 (by decide) (fun c_2 => ?_) (fun c_2 => ?_)
    · have c_2n : i_crossings.toInt ≤ (i : Int) := by have q := (fa_le _ _).mp c_2; rw [nI_toInt (n := i) (by omega)] at q; exact q
      refine lv_iload_n hx hb dX12_busyOf_50 rfl (lv_at hl 1 rfl) ?_
      exact z_back hQz_ (z_iret C hr hlocks G (Nat.le_of_ble_eq_true rfl) (Nat.le_of_ble_eq_true rfl) dX12_busyOf_51 rfl)
    · have c_2n : ¬ i_crossings.toInt ≤ (i : Int) := fun q => c_2 ((fa_le _ _).mpr (by rw [nI_toInt (n := i) (by omega)]; exact q))
      refine lv_aload_n hx hb dX12_busyOf_23 rfl (lv_at hl 2 rfl) ?_
      refine lv_iload_n hx hb dX12_busyOf_24 rfl (lv_at hl 0 rfl) ?_
      refine lv_iconst (v := 1) hx hb dX12_busyOf_25 (by decide) ?_
      have ti_3 : (nI i).toInt = ((i : Nat) : Int) := nI_toInt (by omega)
      refine z_Vi (bc := [[zO11 mo m_all m_has i_size i_next i_where i_token i_number i_word i_wrong i_farCrossing m_read i_z0 i_crossings i_inns m_posts m_shut m_here i_steps i_done i_at i_gone m_was m_came m_seenAt m_rowWorth m_farBy m_used i_everywhere i_again0 i_d0 i_never i_firstCame i_longRun i_moved i_crowd i_l0 i_fitMany i_fitLeast i_fitMost m_fitPost m_fitEnd m_keptPosts i_x0], [zAr T 0 m_all 3952 f_all]]) (br := []) (As := [.int (nI i), .int 1]) (rest := []) C G (c_m_leadHere l T mo m_all m_has i_size i_next i_where i_token i_number i_word i_wrong i_farCrossing m_read i_z0 i_crossings i_inns m_posts m_shut m_here i_steps i_done i_at i_gone m_was m_came m_seenAt m_rowWorth m_farBy m_used i_everywhere i_again0 i_d0 i_never i_firstCame i_longRun i_moved i_crowd i_l0 i_fitMany i_fitLeast i_fitMost m_fitPost m_fitEnd m_keptPosts i_x0 f_all (nI i) 1 (by first | with_reducible assumption | with_reducible rfl | omega | assumption | rfl | decide)) (kV_RX12_267 C.2.2.2.2 (Nat.le_of_ble_eq_true rfl) (Nat.le_of_ble_eq_true rfl)) [0, 1] [0, 0] rfl rfl (ci := 11) (qc := (RX12, TX12, 43)) rfl rfl (List.mem_flatten.mpr ⟨_, List.mem_of_getElem? (i := 0) rfl, List.mem_cons_self⟩) rfl rfl hl.1 dX12_busyOf_26 (Nat.le_of_ble_eq_true rfl) (Nat.le_of_ble_eq_true rfl) (fun r_4 b1 H locs hw G => ?_)
      obtain rfl := hw
      have G : zS T A s.heap s [[zO11 mo m_all m_has i_size i_next i_where i_token i_number i_word i_wrong i_farCrossing m_read i_z0 i_crossings i_inns m_posts m_shut m_here i_steps i_done i_at i_gone m_was m_came m_seenAt m_rowWorth m_farBy m_used i_everywhere i_again0 i_d0 i_never i_firstCame i_longRun i_moved i_crowd i_l0 i_fitMany i_fitLeast i_fitMost m_fitPost m_fitEnd m_keptPosts i_x0], [zAr T 0 m_all 3952 f_all]] _ _ := G
      refine lv_aload_n hx hb dX12_busyOf_29 rfl (lv_at hl 2 rfl) ?_
      refine lv_iload_n hx hb dX12_busyOf_30 rfl (lv_at hl 1 rfl) ?_
      refine lv_iconst (v := 1) hx hb dX12_busyOf_31 (by decide) ?_
      refine z_Vi (bc := [[zO11 mo m_all m_has i_size i_next i_where i_token i_number i_word i_wrong i_farCrossing m_read i_z0 i_crossings i_inns m_posts m_shut m_here i_steps i_done i_at i_gone m_was m_came m_seenAt m_rowWorth m_farBy m_used i_everywhere i_again0 i_d0 i_never i_firstCame i_longRun i_moved i_crowd i_l0 i_fitMany i_fitLeast i_fitMost m_fitPost m_fitEnd m_keptPosts i_x0], [zAr T 0 m_all 3952 f_all]]) (br := []) (As := [.int u, .int 1]) (rest := [.int r_4]) C G (c_m_leadHere l T mo m_all m_has i_size i_next i_where i_token i_number i_word i_wrong i_farCrossing m_read i_z0 i_crossings i_inns m_posts m_shut m_here i_steps i_done i_at i_gone m_was m_came m_seenAt m_rowWorth m_farBy m_used i_everywhere i_again0 i_d0 i_never i_firstCame i_longRun i_moved i_crowd i_l0 i_fitMany i_fitLeast i_fitMost m_fitPost m_fitEnd m_keptPosts i_x0 f_all u 1 (by first | with_reducible assumption | with_reducible rfl | omega | assumption | rfl | decide)) (kV_RX12_267 C.2.2.2.2 (Nat.le_of_ble_eq_true rfl) (Nat.le_of_ble_eq_true rfl)) [0, 1] [0, 0] rfl rfl (ci := 11) (qc := (RX12, TX12, 43)) rfl rfl (List.mem_flatten.mpr ⟨_, List.mem_of_getElem? (i := 0) rfl, List.mem_cons_self⟩) rfl rfl hl.1 dX12_busyOf_32 (Nat.le_of_ble_eq_true rfl) (Nat.le_of_ble_eq_true rfl) (fun r_5 b1 H locs hw G => ?_)
      obtain rfl := hw
      have G : zS T A s.heap s [[zO11 mo m_all m_has i_size i_next i_where i_token i_number i_word i_wrong i_farCrossing m_read i_z0 i_crossings i_inns m_posts m_shut m_here i_steps i_done i_at i_gone m_was m_came m_seenAt m_rowWorth m_farBy m_used i_everywhere i_again0 i_d0 i_never i_firstCame i_longRun i_moved i_crowd i_l0 i_fitMany i_fitLeast i_fitMost m_fitPost m_fitEnd m_keptPosts i_x0], [zAr T 0 m_all 3952 f_all]] _ _ := G
      refine lv_icmp_le (tgt := 42) hx hb dX12_busyOf_35 (by decide) (fun c_6 => ?_) (fun c_6 => ?_)
      · have c_6n : r_4.toInt ≤ r_5.toInt := (fa_le _ _).mp c_6
        refine lv_iload_n hx hb dX12_busyOf_42 rfl (lv_at hl 1 rfl) ?_
        refine lv_istore_n (lv' := [(1, .int u), (2, .int (nI i)), (0, .ref mo)]) hx hb dX12_busyOf_43 rfl hl (by decide) (zLvf_h rfl) (fun ls hl => ?_)
        refine lv_iinc (v := nI (i + 1)) (lv' := [(2, .int (nI (i + 1))), (1, .int u), (0, .ref mo)]) hx hb dX12_busyOf_44 hl (k := 1) rfl (z_inc i 1) (by decide) (zLvf_h rfl) (fun ls hl => ?_)
        refine lv_goto (tgt := 15) hx hb dX12_busyOf_47 (by decide) ?_
        exact ih_15 (i + 1) u (show (i + 1) ≤ 7 from by omega) (show 7 - (i + 1) < 7 - i from by omega) _ _ ls G (lv_sub hl [0, 1, 2] rfl)
      · have c_6n : ¬ r_4.toInt ≤ r_5.toInt := fun q => c_6 ((fa_le _ _).mpr q)
        refine lv_iload_n hx hb dX12_busyOf_38 rfl (lv_at hl 0 rfl) ?_
        refine lv_goto (tgt := 43) hx hb dX12_busyOf_39 (by decide) ?_
        refine lv_istore_n (lv' := [(1, .int (nI i)), (2, .int (nI i)), (0, .ref mo)]) hx hb dX12_busyOf_43 rfl hl (by decide) (zLvf_h rfl) (fun ls hl => ?_)
        refine lv_iinc (v := nI (i + 1)) (lv' := [(2, .int (nI (i + 1))), (1, .int (nI i)), (0, .ref mo)]) hx hb dX12_busyOf_44 hl (k := 1) rfl (z_inc i 1) (by decide) (zLvf_h rfl) (fun ls hl => ?_)
        refine lv_goto (tgt := 15) hx hb dX12_busyOf_47 (by decide) ?_
        exact ih_15 (i + 1) (nI i) (show (i + 1) ≤ 7 from by omega) (show 7 - (i + 1) < 7 - i from by omega) _ _ ls G (lv_sub hl [0, 1, 2] rfl)
  · have c_1n : i_crossings.toInt = (0 : Int) := (fa_eq _ _).mp c_1
    refine lv_iconst (v := (-1)) hx hb dX12_busyOf_7 (by decide) ?_
    refine lv_goto (tgt := 12) hx hb dX12_busyOf_8 (by decide) ?_
    refine lv_istore_n (lv' := [(1, .int (-1)), (0, .ref mo)]) hx hb dX12_busyOf_12 rfl hl (by decide) (zLvf_h rfl) (fun ls hl => ?_)
    refine lv_iconst (v := 1) hx hb dX12_busyOf_13 (by decide) ?_
    refine lv_istore_n (lv' := [(2, .int 1), (1, .int (-1)), (0, .ref mo)]) hx hb dX12_busyOf_14 rfl hl (by decide) (zLvf_h rfl) (fun ls hl => ?_)
    refine z_lp2 (T := T) 15 (fun (i : Nat) (u : Int32) => [[zO11 mo m_all m_has i_size i_next i_where i_token i_number i_word i_wrong i_farCrossing m_read i_z0 i_crossings i_inns m_posts m_shut m_here i_steps i_done i_at i_gone m_was m_came m_seenAt m_rowWorth m_farBy m_used i_everywhere i_again0 i_d0 i_never i_firstCame i_longRun i_moved i_crowd i_l0 i_fitMany i_fitLeast i_fitMost m_fitPost m_fitEnd m_keptPosts i_x0], [zAr T 0 m_all 3952 f_all]]) (fun (i : Nat) (u : Int32) => [(2, .int (nI i)), (1, .int u), (0, .ref mo)]) (fun (i : Nat) (u : Int32) => i ≤ 7) (fun (i : Nat) (u : Int32) => 7 - i) ?_ 1 (-1) (show 1 ≤ 7 from by omega) G (lv_sub hl [0, 1, 2] rfl)
    intro i u hi ih_15 H locs ls G hl
    replace hi : i ≤ 7 := hi
    replace G : zS T A s.heap s [[zO11 mo m_all m_has i_size i_next i_where i_token i_number i_word i_wrong i_farCrossing m_read i_z0 i_crossings i_inns m_posts m_shut m_here i_steps i_done i_at i_gone m_was m_came m_seenAt m_rowWorth m_farBy m_used i_everywhere i_again0 i_d0 i_never i_firstCame i_longRun i_moved i_crowd i_l0 i_fitMany i_fitLeast i_fitMost m_fitPost m_fitEnd m_keptPosts i_x0], [zAr T 0 m_all 3952 f_all]] _ _ := G
    replace hl : lv_has ls 3 [(2, .int (nI i)), (1, .int u), (0, .ref mo)] := hl
    refine lv_iload_n hx hb dX12_busyOf_15 rfl (lv_at hl 0 rfl) ?_
    refine lv_aload_n hx hb dX12_busyOf_16 rfl (lv_at hl 2 rfl) ?_
    refine z_get C G clX12 0 rfl 12 (by decide) m_fl_RX12_169 rfl dX12_busyOf_17 ?_
    refine lv_icmp_ge (tgt := 50) hx hb dX12_busyOf_20 (by decide) (fun c_7 => ?_) (fun c_7 => ?_)
    · have c_7n : i_crossings.toInt ≤ (i : Int) := by have q := (fa_le _ _).mp c_7; rw [nI_toInt (n := i) (by omega)] at q; exact q
      refine lv_iload_n hx hb dX12_busyOf_50 rfl (lv_at hl 1 rfl) ?_
      exact z_back hQz_ (z_iret C hr hlocks G (Nat.le_of_ble_eq_true rfl) (Nat.le_of_ble_eq_true rfl) dX12_busyOf_51 rfl)
    · have c_7n : ¬ i_crossings.toInt ≤ (i : Int) := fun q => c_7 ((fa_le _ _).mpr (by rw [nI_toInt (n := i) (by omega)]; exact q))
      refine lv_aload_n hx hb dX12_busyOf_23 rfl (lv_at hl 2 rfl) ?_
      refine lv_iload_n hx hb dX12_busyOf_24 rfl (lv_at hl 0 rfl) ?_
      refine lv_iconst (v := 1) hx hb dX12_busyOf_25 (by decide) ?_
      have ti_8 : (nI i).toInt = ((i : Nat) : Int) := nI_toInt (by omega)
      refine z_Vi (bc := [[zO11 mo m_all m_has i_size i_next i_where i_token i_number i_word i_wrong i_farCrossing m_read i_z0 i_crossings i_inns m_posts m_shut m_here i_steps i_done i_at i_gone m_was m_came m_seenAt m_rowWorth m_farBy m_used i_everywhere i_again0 i_d0 i_never i_firstCame i_longRun i_moved i_crowd i_l0 i_fitMany i_fitLeast i_fitMost m_fitPost m_fitEnd m_keptPosts i_x0], [zAr T 0 m_all 3952 f_all]]) (br := []) (As := [.int (nI i), .int 1]) (rest := []) C G (c_m_leadHere l T mo m_all m_has i_size i_next i_where i_token i_number i_word i_wrong i_farCrossing m_read i_z0 i_crossings i_inns m_posts m_shut m_here i_steps i_done i_at i_gone m_was m_came m_seenAt m_rowWorth m_farBy m_used i_everywhere i_again0 i_d0 i_never i_firstCame i_longRun i_moved i_crowd i_l0 i_fitMany i_fitLeast i_fitMost m_fitPost m_fitEnd m_keptPosts i_x0 f_all (nI i) 1 (by first | with_reducible assumption | with_reducible rfl | omega | assumption | rfl | decide)) (kV_RX12_267 C.2.2.2.2 (Nat.le_of_ble_eq_true rfl) (Nat.le_of_ble_eq_true rfl)) [0, 1] [0, 0] rfl rfl (ci := 11) (qc := (RX12, TX12, 43)) rfl rfl (List.mem_flatten.mpr ⟨_, List.mem_of_getElem? (i := 0) rfl, List.mem_cons_self⟩) rfl rfl hl.1 dX12_busyOf_26 (Nat.le_of_ble_eq_true rfl) (Nat.le_of_ble_eq_true rfl) (fun r_9 b1 H locs hw G => ?_)
      obtain rfl := hw
      have G : zS T A s.heap s [[zO11 mo m_all m_has i_size i_next i_where i_token i_number i_word i_wrong i_farCrossing m_read i_z0 i_crossings i_inns m_posts m_shut m_here i_steps i_done i_at i_gone m_was m_came m_seenAt m_rowWorth m_farBy m_used i_everywhere i_again0 i_d0 i_never i_firstCame i_longRun i_moved i_crowd i_l0 i_fitMany i_fitLeast i_fitMost m_fitPost m_fitEnd m_keptPosts i_x0], [zAr T 0 m_all 3952 f_all]] _ _ := G
      refine lv_aload_n hx hb dX12_busyOf_29 rfl (lv_at hl 2 rfl) ?_
      refine lv_iload_n hx hb dX12_busyOf_30 rfl (lv_at hl 1 rfl) ?_
      refine lv_iconst (v := 1) hx hb dX12_busyOf_31 (by decide) ?_
      refine z_Vi (bc := [[zO11 mo m_all m_has i_size i_next i_where i_token i_number i_word i_wrong i_farCrossing m_read i_z0 i_crossings i_inns m_posts m_shut m_here i_steps i_done i_at i_gone m_was m_came m_seenAt m_rowWorth m_farBy m_used i_everywhere i_again0 i_d0 i_never i_firstCame i_longRun i_moved i_crowd i_l0 i_fitMany i_fitLeast i_fitMost m_fitPost m_fitEnd m_keptPosts i_x0], [zAr T 0 m_all 3952 f_all]]) (br := []) (As := [.int u, .int 1]) (rest := [.int r_9]) C G (c_m_leadHere l T mo m_all m_has i_size i_next i_where i_token i_number i_word i_wrong i_farCrossing m_read i_z0 i_crossings i_inns m_posts m_shut m_here i_steps i_done i_at i_gone m_was m_came m_seenAt m_rowWorth m_farBy m_used i_everywhere i_again0 i_d0 i_never i_firstCame i_longRun i_moved i_crowd i_l0 i_fitMany i_fitLeast i_fitMost m_fitPost m_fitEnd m_keptPosts i_x0 f_all u 1 (by first | with_reducible assumption | with_reducible rfl | omega | assumption | rfl | decide)) (kV_RX12_267 C.2.2.2.2 (Nat.le_of_ble_eq_true rfl) (Nat.le_of_ble_eq_true rfl)) [0, 1] [0, 0] rfl rfl (ci := 11) (qc := (RX12, TX12, 43)) rfl rfl (List.mem_flatten.mpr ⟨_, List.mem_of_getElem? (i := 0) rfl, List.mem_cons_self⟩) rfl rfl hl.1 dX12_busyOf_32 (Nat.le_of_ble_eq_true rfl) (Nat.le_of_ble_eq_true rfl) (fun r_10 b1 H locs hw G => ?_)
      obtain rfl := hw
      have G : zS T A s.heap s [[zO11 mo m_all m_has i_size i_next i_where i_token i_number i_word i_wrong i_farCrossing m_read i_z0 i_crossings i_inns m_posts m_shut m_here i_steps i_done i_at i_gone m_was m_came m_seenAt m_rowWorth m_farBy m_used i_everywhere i_again0 i_d0 i_never i_firstCame i_longRun i_moved i_crowd i_l0 i_fitMany i_fitLeast i_fitMost m_fitPost m_fitEnd m_keptPosts i_x0], [zAr T 0 m_all 3952 f_all]] _ _ := G
      refine lv_icmp_le (tgt := 42) hx hb dX12_busyOf_35 (by decide) (fun c_11 => ?_) (fun c_11 => ?_)
      · have c_11n : r_9.toInt ≤ r_10.toInt := (fa_le _ _).mp c_11
        refine lv_iload_n hx hb dX12_busyOf_42 rfl (lv_at hl 1 rfl) ?_
        refine lv_istore_n (lv' := [(1, .int u), (2, .int (nI i)), (0, .ref mo)]) hx hb dX12_busyOf_43 rfl hl (by decide) (zLvf_h rfl) (fun ls hl => ?_)
        refine lv_iinc (v := nI (i + 1)) (lv' := [(2, .int (nI (i + 1))), (1, .int u), (0, .ref mo)]) hx hb dX12_busyOf_44 hl (k := 1) rfl (z_inc i 1) (by decide) (zLvf_h rfl) (fun ls hl => ?_)
        refine lv_goto (tgt := 15) hx hb dX12_busyOf_47 (by decide) ?_
        exact ih_15 (i + 1) u (show (i + 1) ≤ 7 from by omega) (show 7 - (i + 1) < 7 - i from by omega) _ _ ls G (lv_sub hl [0, 1, 2] rfl)
      · have c_11n : ¬ r_9.toInt ≤ r_10.toInt := fun q => c_11 ((fa_le _ _).mpr q)
        refine lv_iload_n hx hb dX12_busyOf_38 rfl (lv_at hl 0 rfl) ?_
        refine lv_goto (tgt := 43) hx hb dX12_busyOf_39 (by decide) ?_
        refine lv_istore_n (lv' := [(1, .int (nI i)), (2, .int (nI i)), (0, .ref mo)]) hx hb dX12_busyOf_43 rfl hl (by decide) (zLvf_h rfl) (fun ls hl => ?_)
        refine lv_iinc (v := nI (i + 1)) (lv' := [(2, .int (nI (i + 1))), (1, .int (nI i)), (0, .ref mo)]) hx hb dX12_busyOf_44 hl (k := 1) rfl (z_inc i 1) (by decide) (zLvf_h rfl) (fun ls hl => ?_)
        refine lv_goto (tgt := 15) hx hb dX12_busyOf_47 (by decide) ?_
        exact ih_15 (i + 1) (nI i) (show (i + 1) ≤ 7 from by omega) (show 7 - (i + 1) < 7 - i from by omega) _ _ ls G (lv_sub hl [0, 1, 2] rfl)
set_option maxHeartbeats 4000000 in
set_option maxRecDepth 100000 in
/-- c_m_classes -/
theorem c_m_classes (l : Launch) (T : zTy) (mo : Nat) (m_all : Nat) (m_has : Nat) (i_size : Int32) (i_next : Int32) (i_where : Int32) (i_token : Int32) (i_number : Int32) (i_word : Int32) (i_wrong : Int32) (i_farCrossing : Int32) (m_read : Nat) (i_z0 : Int32) (i_crossings : Int32) (i_inns : Int32) (m_posts : Nat) (m_shut : Nat) (m_here : Nat) (i_steps : Int32) (i_done : Int32) (i_at : Int32) (i_gone : Int32) (m_was : Nat) (m_came : Nat) (m_seenAt : Nat) (m_rowWorth : Nat) (m_farBy : Nat) (m_used : Nat) (i_everywhere : Int32) (i_again0 : Int32) (i_d0 : Int32) (i_never : Int32) (i_firstCame : Int32) (i_longRun : Int32) (i_moved : Int32) (i_crowd : Int32) (i_l0 : Int32) (i_fitMany : Int32) (i_fitLeast : Int32) (i_fitMost : Int32) (m_fitPost : Nat) (m_fitEnd : Nat) (m_keptPosts : Nat) (i_x0 : Int32) (f_all : Nat → Int32) (f_posts : Nat → Int32) (f_shut : Nat → Int32) (f_here : Nat → Int32) (f_farBy : Nat → Int32) (l_ : Int32) (w_ : Int32) (hB : zBI f_all) : zMi l T yX12_classes cX12_classes 3 (some .int) 6 0 0 [.ref mo, .int l_, .int w_] [[zO11 mo m_all m_has i_size i_next i_where i_token i_number i_word i_wrong i_farCrossing m_read i_z0 i_crossings i_inns m_posts m_shut m_here i_steps i_done i_at i_gone m_was m_came m_seenAt m_rowWorth m_farBy m_used i_everywhere i_again0 i_d0 i_never i_firstCame i_longRun i_moved i_crowd i_l0 i_fitMany i_fitLeast i_fitMost m_fitPost m_fitEnd m_keptPosts i_x0], [zAr T 0 m_all 3952 f_all], [zAr T 0 m_posts 7 f_posts], [zAr T 0 m_shut 7 f_shut], [zAr T 0 m_here 7 f_here], [zAr T 0 m_farBy 49 f_farBy]] (fun (r : Int32) bs => ∃ (j_z0 : Int32) (j_crossings : Int32) (j_inns : Int32) (j_steps : Int32) (j_done : Int32) (g_posts : Nat → Int32) (g_shut : Nat → Int32) (g_here : Nat → Int32) (g_farBy : Nat → Int32), bs = [[zO11 mo m_all m_has i_size i_next i_where i_token i_number i_word i_wrong i_farCrossing m_read j_z0 j_crossings j_inns m_posts m_shut m_here j_steps j_done i_at i_gone m_was m_came m_seenAt m_rowWorth m_farBy m_used i_everywhere i_again0 i_d0 i_never i_firstCame i_longRun i_moved i_crowd i_l0 i_fitMany i_fitLeast i_fitMost m_fitPost m_fitEnd m_keptPosts i_x0], [zAr T 0 m_all 3952 f_all], [zAr T 0 m_posts 7 g_posts], [zAr T 0 m_shut 7 g_shut], [zAr T 0 m_here 7 g_here], [zAr T 0 m_farBy 49 g_farBy]]) := by
  refine zMi_of (own := RX12) (by decide) rfl (Nat.le_of_ble_eq_true rfl) ?_
  intro p e s m args below meth c A ls C hr hlocks hnm hAe G hl
  refine zHide (fun Qz_ hQz_ => ?_)
  have hx := C.1
  have hb := C.2.1
  have hl : lv_has ls 3 [(0, .ref mo), (1, .int l_), (2, .int w_)] := hl
  refine lv_aload_n hx hb dX12_classes_0 rfl (lv_at hl 0 rfl) ?_
  refine lv_iload_n hx hb dX12_classes_1 rfl (lv_at hl 1 rfl) ?_
  refine z_Vi (bc := [[zO11 mo m_all m_has i_size i_next i_where i_token i_number i_word i_wrong i_farCrossing m_read i_z0 i_crossings i_inns m_posts m_shut m_here i_steps i_done i_at i_gone m_was m_came m_seenAt m_rowWorth m_farBy m_used i_everywhere i_again0 i_d0 i_never i_firstCame i_longRun i_moved i_crowd i_l0 i_fitMany i_fitLeast i_fitMost m_fitPost m_fitEnd m_keptPosts i_x0], [zAr T 0 m_all 3952 f_all], [zAr T 0 m_posts 7 f_posts], [zAr T 0 m_shut 7 f_shut], [zAr T 0 m_here 7 f_here]]) (br := [[zAr T 0 m_farBy 49 f_farBy]]) (As := [.int l_]) (rest := []) C G (c_m_isLand l T mo m_all m_has i_size i_next i_where i_token i_number i_word i_wrong i_farCrossing m_read i_z0 i_crossings i_inns m_posts m_shut m_here i_steps i_done i_at i_gone m_was m_came m_seenAt m_rowWorth m_farBy m_used i_everywhere i_again0 i_d0 i_never i_firstCame i_longRun i_moved i_crowd i_l0 i_fitMany i_fitLeast i_fitMost m_fitPost m_fitEnd m_keptPosts i_x0 f_all f_posts f_shut f_here l_ (by first | with_reducible assumption | with_reducible rfl | omega | assumption | rfl | decide)) (kV_RX12_184 C.2.2.2.2 (Nat.le_of_ble_eq_true rfl) (Nat.le_of_ble_eq_true rfl)) [0, 1, 2, 3, 4] [0, 0, 0, 0, 0] rfl rfl (ci := 11) (qc := (RX12, TX12, 43)) rfl rfl (List.mem_flatten.mpr ⟨_, List.mem_of_getElem? (i := 0) rfl, List.mem_cons_self⟩) rfl rfl hl.1 dX12_classes_2 (Nat.le_of_ble_eq_true rfl) (Nat.le_of_ble_eq_true rfl) (fun r_10 b1 H locs hw G => ?_)
  refine zEx8 hw ?_
  intro j_z0_1 j_crossings_2 j_inns_3 j_steps_4 j_done_5 g_posts_6 g_shut_7 g_here_8
  refine zCu2 ?_
  intro hbs9 hc_9
  clear hw
  subst hbs9
  have G : zS T A s.heap s [[zAr T 0 m_farBy 49 f_farBy], [zO11 mo m_all m_has i_size i_next i_where i_token i_number i_word i_wrong i_farCrossing m_read j_z0_1 j_crossings_2 j_inns_3 m_posts m_shut m_here j_steps_4 j_done_5 i_at i_gone m_was m_came m_seenAt m_rowWorth m_farBy m_used i_everywhere i_again0 i_d0 i_never i_firstCame i_longRun i_moved i_crowd i_l0 i_fitMany i_fitLeast i_fitMost m_fitPost m_fitEnd m_keptPosts i_x0], [zAr T 0 m_all 3952 f_all], [zAr T 0 m_posts 7 g_posts_6], [zAr T 0 m_shut 7 g_shut_7], [zAr T 0 m_here 7 g_here_8]] _ _ := G
  rcases hc_9 with ⟨rfl, h_11, h_12, h_13, h_14, h_15, h_16, h_17, h_18, h_19, h_20, h_21, h_22⟩ | ⟨rfl, h_23⟩
  · have h_11 : 0 ≤ l_.toInt := h_11
    have h_12 : l_.toInt ≤ 1 := h_12
    have h_13 : l_.toInt < (f_all 0).toInt := h_13
    have h_14 : j_z0_1.toInt = 610 + 51 * l_.toInt := h_14
    have h_15 : zML f_all j_z0_1 j_crossings_2 := h_15
    have h_16 : zMP g_posts_6 := h_16
    have h_17 : j_inns_3 = f_all (j_z0_1.toInt.toNat + 1) := h_17
    have h_18 : j_steps_4 = 0 := h_18
    have h_19 : j_done_5 = 0 := h_19
    have h_20 : (∀ j, j < 7 → g_posts_6 j = zPt f_all j_z0_1 (nI j)) := h_20
    have h_21 : (∀ j, j < 7 → g_shut_7 j = 0) := h_21
    have h_22 : (∀ j, j < 7 → g_here_8 j = zWk f_all j_z0_1 j) := h_22
    have hLx := h_15
    have hcr := hLx.cr
    have hzx := hLx.1
    have hPx := h_16
    refine lv_if_ne (tgt := 11) hx hb dX12_classes_5 (by decide) (fun _ => ?_) (fun q => absurd q (by decide))
    refine lv_iload_n hx hb dX12_classes_11 rfl (lv_at hl 2 rfl) ?_
    by_cases c_24o : w_.toInt < 0 ∨ 7 < w_.toInt
    · refine lv_tableOut (tgt := 101) hx hb dX12_classes_12 c_24o (by decide) ?_
      refine lv_bipush (v := (-2)) hx hb dX12_classes_101 (by decide) ?_
      have G := G.sub (bs' := [[zO11 mo m_all m_has i_size i_next i_where i_token i_number i_word i_wrong i_farCrossing m_read j_z0_1 j_crossings_2 j_inns_3 m_posts m_shut m_here j_steps_4 j_done_5 i_at i_gone m_was m_came m_seenAt m_rowWorth m_farBy m_used i_everywhere i_again0 i_d0 i_never i_firstCame i_longRun i_moved i_crowd i_l0 i_fitMany i_fitLeast i_fitMost m_fitPost m_fitEnd m_keptPosts i_x0], [zAr T 0 m_all 3952 f_all], [zAr T 0 m_posts 7 g_posts_6], [zAr T 0 m_shut 7 g_shut_7], [zAr T 0 m_here 7 g_here_8], [zAr T 0 m_farBy 49 f_farBy]]) [1, 2, 3, 4, 5, 0] rfl
      exact z_back hQz_ (z_iret C hr hlocks G (Nat.le_of_ble_eq_true rfl) (Nat.le_of_ble_eq_true rfl) dX12_classes_103 ⟨j_z0_1, j_crossings_2, j_inns_3, j_steps_4, j_done_5, g_posts_6, g_shut_7, g_here_8, f_farBy, rfl⟩)
    · have c_24r : w_.toInt = 0 ∨ w_.toInt = 1 ∨ w_.toInt = 2 ∨ w_.toInt = 3 ∨ w_.toInt = 4 ∨ w_.toInt = 5 ∨ w_.toInt = 6 ∨ w_.toInt = 7 := by omega
      rcases c_24r with c_24 | c_24 | c_24 | c_24 | c_24 | c_24 | c_24 | c_24
      · refine lv_tableIn (tgt := 60) hx hb dX12_classes_12 (by first | (rw [c_24]; decide) | omega) (by first | (rw [c_24]; decide) | omega) (by rw [c_24]; rfl) (by decide) ?_
        refine lv_aload_n hx hb dX12_classes_60 rfl (lv_at hl 0 rfl) ?_
        refine lv_iload_n hx hb dX12_classes_61 rfl (lv_at hl 2 rfl) ?_
        refine lv_iconst (v := 1) hx hb dX12_classes_62 (by decide) ?_
        refine lv_icmp_ne (tgt := 70) hx hb dX12_classes_63 (by decide) (fun c_25 => ?_) (fun c_25 => ?_)
        · have c_25n : ¬ w_.toInt = (1 : Int) := fun q => c_25 ((fa_eq _ _).mpr q)
          refine lv_iconst (v := 0) hx hb dX12_classes_70 (by decide) ?_
          refine z_Vi (bc := [[zO11 mo m_all m_has i_size i_next i_where i_token i_number i_word i_wrong i_farCrossing m_read j_z0_1 j_crossings_2 j_inns_3 m_posts m_shut m_here j_steps_4 j_done_5 i_at i_gone m_was m_came m_seenAt m_rowWorth m_farBy m_used i_everywhere i_again0 i_d0 i_never i_firstCame i_longRun i_moved i_crowd i_l0 i_fitMany i_fitLeast i_fitMost m_fitPost m_fitEnd m_keptPosts i_x0], [zAr T 0 m_all 3952 f_all], [zAr T 0 m_farBy 49 f_farBy]]) (br := [[zAr T 0 m_posts 7 g_posts_6], [zAr T 0 m_shut 7 g_shut_7], [zAr T 0 m_here 7 g_here_8]]) (As := [.int 0]) (rest := []) C G (c_m_classesOf l T mo m_all m_has i_size i_next i_where i_token i_number i_word i_wrong i_farCrossing m_read j_z0_1 j_crossings_2 j_inns_3 m_posts m_shut m_here j_steps_4 j_done_5 i_at i_gone m_was m_came m_seenAt m_rowWorth m_farBy m_used i_everywhere i_again0 i_d0 i_never i_firstCame i_longRun i_moved i_crowd i_l0 i_fitMany i_fitLeast i_fitMost m_fitPost m_fitEnd m_keptPosts i_x0 f_all f_farBy 0 (by first | with_reducible assumption | with_reducible rfl | omega | assumption | rfl | decide)) (kV_RX12_271 C.2.2.2.2 (Nat.le_of_ble_eq_true rfl) (Nat.le_of_ble_eq_true rfl)) [1, 2, 0] [0, 0, 0] rfl rfl (ci := 11) (qc := (RX12, TX12, 43)) rfl rfl (List.mem_flatten.mpr ⟨_, List.mem_of_getElem? (i := 0) rfl, List.mem_cons_self⟩) rfl rfl hl.1 dX12_classes_71 (Nat.le_of_ble_eq_true rfl) (Nat.le_of_ble_eq_true rfl) (fun r_27 b1 H locs hw G => ?_)
          refine zEx1 hw ?_
          intro g_farBy_26 hbs9
          clear hw
          subst hbs9
          have G : zS T A s.heap s [[zAr T 0 m_posts 7 g_posts_6], [zAr T 0 m_shut 7 g_shut_7], [zAr T 0 m_here 7 g_here_8], [zO11 mo m_all m_has i_size i_next i_where i_token i_number i_word i_wrong i_farCrossing m_read j_z0_1 j_crossings_2 j_inns_3 m_posts m_shut m_here j_steps_4 j_done_5 i_at i_gone m_was m_came m_seenAt m_rowWorth m_farBy m_used i_everywhere i_again0 i_d0 i_never i_firstCame i_longRun i_moved i_crowd i_l0 i_fitMany i_fitLeast i_fitMost m_fitPost m_fitEnd m_keptPosts i_x0], [zAr T 0 m_all 3952 f_all], [zAr T 0 m_farBy 49 g_farBy_26]] _ _ := G
          have G := G.sub (bs' := [[zO11 mo m_all m_has i_size i_next i_where i_token i_number i_word i_wrong i_farCrossing m_read j_z0_1 j_crossings_2 j_inns_3 m_posts m_shut m_here j_steps_4 j_done_5 i_at i_gone m_was m_came m_seenAt m_rowWorth m_farBy m_used i_everywhere i_again0 i_d0 i_never i_firstCame i_longRun i_moved i_crowd i_l0 i_fitMany i_fitLeast i_fitMost m_fitPost m_fitEnd m_keptPosts i_x0], [zAr T 0 m_all 3952 f_all], [zAr T 0 m_posts 7 g_posts_6], [zAr T 0 m_shut 7 g_shut_7], [zAr T 0 m_here 7 g_here_8], [zAr T 0 m_farBy 49 g_farBy_26]]) [3, 4, 0, 1, 2, 5] rfl
          exact z_back hQz_ (z_iret C hr hlocks G (Nat.le_of_ble_eq_true rfl) (Nat.le_of_ble_eq_true rfl) dX12_classes_74 ⟨j_z0_1, j_crossings_2, j_inns_3, j_steps_4, j_done_5, g_posts_6, g_shut_7, g_here_8, g_farBy_26, rfl⟩)
        · have c_25n : w_.toInt = (1 : Int) := (fa_eq _ _).mp c_25
          refine lv_iconst (v := 1) hx hb dX12_classes_66 (by decide) ?_
          refine lv_goto (tgt := 71) hx hb dX12_classes_67 (by decide) ?_
          refine z_Vi (bc := [[zO11 mo m_all m_has i_size i_next i_where i_token i_number i_word i_wrong i_farCrossing m_read j_z0_1 j_crossings_2 j_inns_3 m_posts m_shut m_here j_steps_4 j_done_5 i_at i_gone m_was m_came m_seenAt m_rowWorth m_farBy m_used i_everywhere i_again0 i_d0 i_never i_firstCame i_longRun i_moved i_crowd i_l0 i_fitMany i_fitLeast i_fitMost m_fitPost m_fitEnd m_keptPosts i_x0], [zAr T 0 m_all 3952 f_all], [zAr T 0 m_farBy 49 f_farBy]]) (br := [[zAr T 0 m_posts 7 g_posts_6], [zAr T 0 m_shut 7 g_shut_7], [zAr T 0 m_here 7 g_here_8]]) (As := [.int 1]) (rest := []) C G (c_m_classesOf l T mo m_all m_has i_size i_next i_where i_token i_number i_word i_wrong i_farCrossing m_read j_z0_1 j_crossings_2 j_inns_3 m_posts m_shut m_here j_steps_4 j_done_5 i_at i_gone m_was m_came m_seenAt m_rowWorth m_farBy m_used i_everywhere i_again0 i_d0 i_never i_firstCame i_longRun i_moved i_crowd i_l0 i_fitMany i_fitLeast i_fitMost m_fitPost m_fitEnd m_keptPosts i_x0 f_all f_farBy 1 (by first | with_reducible assumption | with_reducible rfl | omega | assumption | rfl | decide)) (kV_RX12_271 C.2.2.2.2 (Nat.le_of_ble_eq_true rfl) (Nat.le_of_ble_eq_true rfl)) [1, 2, 0] [0, 0, 0] rfl rfl (ci := 11) (qc := (RX12, TX12, 43)) rfl rfl (List.mem_flatten.mpr ⟨_, List.mem_of_getElem? (i := 0) rfl, List.mem_cons_self⟩) rfl rfl hl.1 dX12_classes_71 (Nat.le_of_ble_eq_true rfl) (Nat.le_of_ble_eq_true rfl) (fun r_29 b1 H locs hw G => ?_)
          refine zEx1 hw ?_
          intro g_farBy_28 hbs9
          clear hw
          subst hbs9
          have G : zS T A s.heap s [[zAr T 0 m_posts 7 g_posts_6], [zAr T 0 m_shut 7 g_shut_7], [zAr T 0 m_here 7 g_here_8], [zO11 mo m_all m_has i_size i_next i_where i_token i_number i_word i_wrong i_farCrossing m_read j_z0_1 j_crossings_2 j_inns_3 m_posts m_shut m_here j_steps_4 j_done_5 i_at i_gone m_was m_came m_seenAt m_rowWorth m_farBy m_used i_everywhere i_again0 i_d0 i_never i_firstCame i_longRun i_moved i_crowd i_l0 i_fitMany i_fitLeast i_fitMost m_fitPost m_fitEnd m_keptPosts i_x0], [zAr T 0 m_all 3952 f_all], [zAr T 0 m_farBy 49 g_farBy_28]] _ _ := G
          have G := G.sub (bs' := [[zO11 mo m_all m_has i_size i_next i_where i_token i_number i_word i_wrong i_farCrossing m_read j_z0_1 j_crossings_2 j_inns_3 m_posts m_shut m_here j_steps_4 j_done_5 i_at i_gone m_was m_came m_seenAt m_rowWorth m_farBy m_used i_everywhere i_again0 i_d0 i_never i_firstCame i_longRun i_moved i_crowd i_l0 i_fitMany i_fitLeast i_fitMost m_fitPost m_fitEnd m_keptPosts i_x0], [zAr T 0 m_all 3952 f_all], [zAr T 0 m_posts 7 g_posts_6], [zAr T 0 m_shut 7 g_shut_7], [zAr T 0 m_here 7 g_here_8], [zAr T 0 m_farBy 49 g_farBy_28]]) [3, 4, 0, 1, 2, 5] rfl
          exact z_back hQz_ (z_iret C hr hlocks G (Nat.le_of_ble_eq_true rfl) (Nat.le_of_ble_eq_true rfl) dX12_classes_74 ⟨j_z0_1, j_crossings_2, j_inns_3, j_steps_4, j_done_5, g_posts_6, g_shut_7, g_here_8, g_farBy_28, rfl⟩)
      · refine lv_tableIn (tgt := 60) hx hb dX12_classes_12 (by first | (rw [c_24]; decide) | omega) (by first | (rw [c_24]; decide) | omega) (by rw [c_24]; rfl) (by decide) ?_
        refine lv_aload_n hx hb dX12_classes_60 rfl (lv_at hl 0 rfl) ?_
        refine lv_iload_n hx hb dX12_classes_61 rfl (lv_at hl 2 rfl) ?_
        refine lv_iconst (v := 1) hx hb dX12_classes_62 (by decide) ?_
        refine lv_icmp_ne (tgt := 70) hx hb dX12_classes_63 (by decide) (fun c_30 => ?_) (fun c_30 => ?_)
        · have c_30n : ¬ w_.toInt = (1 : Int) := fun q => c_30 ((fa_eq _ _).mpr q)
          refine lv_iconst (v := 0) hx hb dX12_classes_70 (by decide) ?_
          refine z_Vi (bc := [[zO11 mo m_all m_has i_size i_next i_where i_token i_number i_word i_wrong i_farCrossing m_read j_z0_1 j_crossings_2 j_inns_3 m_posts m_shut m_here j_steps_4 j_done_5 i_at i_gone m_was m_came m_seenAt m_rowWorth m_farBy m_used i_everywhere i_again0 i_d0 i_never i_firstCame i_longRun i_moved i_crowd i_l0 i_fitMany i_fitLeast i_fitMost m_fitPost m_fitEnd m_keptPosts i_x0], [zAr T 0 m_all 3952 f_all], [zAr T 0 m_farBy 49 f_farBy]]) (br := [[zAr T 0 m_posts 7 g_posts_6], [zAr T 0 m_shut 7 g_shut_7], [zAr T 0 m_here 7 g_here_8]]) (As := [.int 0]) (rest := []) C G (c_m_classesOf l T mo m_all m_has i_size i_next i_where i_token i_number i_word i_wrong i_farCrossing m_read j_z0_1 j_crossings_2 j_inns_3 m_posts m_shut m_here j_steps_4 j_done_5 i_at i_gone m_was m_came m_seenAt m_rowWorth m_farBy m_used i_everywhere i_again0 i_d0 i_never i_firstCame i_longRun i_moved i_crowd i_l0 i_fitMany i_fitLeast i_fitMost m_fitPost m_fitEnd m_keptPosts i_x0 f_all f_farBy 0 (by first | with_reducible assumption | with_reducible rfl | omega | assumption | rfl | decide)) (kV_RX12_271 C.2.2.2.2 (Nat.le_of_ble_eq_true rfl) (Nat.le_of_ble_eq_true rfl)) [1, 2, 0] [0, 0, 0] rfl rfl (ci := 11) (qc := (RX12, TX12, 43)) rfl rfl (List.mem_flatten.mpr ⟨_, List.mem_of_getElem? (i := 0) rfl, List.mem_cons_self⟩) rfl rfl hl.1 dX12_classes_71 (Nat.le_of_ble_eq_true rfl) (Nat.le_of_ble_eq_true rfl) (fun r_32 b1 H locs hw G => ?_)
          refine zEx1 hw ?_
          intro g_farBy_31 hbs9
          clear hw
          subst hbs9
          have G : zS T A s.heap s [[zAr T 0 m_posts 7 g_posts_6], [zAr T 0 m_shut 7 g_shut_7], [zAr T 0 m_here 7 g_here_8], [zO11 mo m_all m_has i_size i_next i_where i_token i_number i_word i_wrong i_farCrossing m_read j_z0_1 j_crossings_2 j_inns_3 m_posts m_shut m_here j_steps_4 j_done_5 i_at i_gone m_was m_came m_seenAt m_rowWorth m_farBy m_used i_everywhere i_again0 i_d0 i_never i_firstCame i_longRun i_moved i_crowd i_l0 i_fitMany i_fitLeast i_fitMost m_fitPost m_fitEnd m_keptPosts i_x0], [zAr T 0 m_all 3952 f_all], [zAr T 0 m_farBy 49 g_farBy_31]] _ _ := G
          have G := G.sub (bs' := [[zO11 mo m_all m_has i_size i_next i_where i_token i_number i_word i_wrong i_farCrossing m_read j_z0_1 j_crossings_2 j_inns_3 m_posts m_shut m_here j_steps_4 j_done_5 i_at i_gone m_was m_came m_seenAt m_rowWorth m_farBy m_used i_everywhere i_again0 i_d0 i_never i_firstCame i_longRun i_moved i_crowd i_l0 i_fitMany i_fitLeast i_fitMost m_fitPost m_fitEnd m_keptPosts i_x0], [zAr T 0 m_all 3952 f_all], [zAr T 0 m_posts 7 g_posts_6], [zAr T 0 m_shut 7 g_shut_7], [zAr T 0 m_here 7 g_here_8], [zAr T 0 m_farBy 49 g_farBy_31]]) [3, 4, 0, 1, 2, 5] rfl
          exact z_back hQz_ (z_iret C hr hlocks G (Nat.le_of_ble_eq_true rfl) (Nat.le_of_ble_eq_true rfl) dX12_classes_74 ⟨j_z0_1, j_crossings_2, j_inns_3, j_steps_4, j_done_5, g_posts_6, g_shut_7, g_here_8, g_farBy_31, rfl⟩)
        · have c_30n : w_.toInt = (1 : Int) := (fa_eq _ _).mp c_30
          refine lv_iconst (v := 1) hx hb dX12_classes_66 (by decide) ?_
          refine lv_goto (tgt := 71) hx hb dX12_classes_67 (by decide) ?_
          refine z_Vi (bc := [[zO11 mo m_all m_has i_size i_next i_where i_token i_number i_word i_wrong i_farCrossing m_read j_z0_1 j_crossings_2 j_inns_3 m_posts m_shut m_here j_steps_4 j_done_5 i_at i_gone m_was m_came m_seenAt m_rowWorth m_farBy m_used i_everywhere i_again0 i_d0 i_never i_firstCame i_longRun i_moved i_crowd i_l0 i_fitMany i_fitLeast i_fitMost m_fitPost m_fitEnd m_keptPosts i_x0], [zAr T 0 m_all 3952 f_all], [zAr T 0 m_farBy 49 f_farBy]]) (br := [[zAr T 0 m_posts 7 g_posts_6], [zAr T 0 m_shut 7 g_shut_7], [zAr T 0 m_here 7 g_here_8]]) (As := [.int 1]) (rest := []) C G (c_m_classesOf l T mo m_all m_has i_size i_next i_where i_token i_number i_word i_wrong i_farCrossing m_read j_z0_1 j_crossings_2 j_inns_3 m_posts m_shut m_here j_steps_4 j_done_5 i_at i_gone m_was m_came m_seenAt m_rowWorth m_farBy m_used i_everywhere i_again0 i_d0 i_never i_firstCame i_longRun i_moved i_crowd i_l0 i_fitMany i_fitLeast i_fitMost m_fitPost m_fitEnd m_keptPosts i_x0 f_all f_farBy 1 (by first | with_reducible assumption | with_reducible rfl | omega | assumption | rfl | decide)) (kV_RX12_271 C.2.2.2.2 (Nat.le_of_ble_eq_true rfl) (Nat.le_of_ble_eq_true rfl)) [1, 2, 0] [0, 0, 0] rfl rfl (ci := 11) (qc := (RX12, TX12, 43)) rfl rfl (List.mem_flatten.mpr ⟨_, List.mem_of_getElem? (i := 0) rfl, List.mem_cons_self⟩) rfl rfl hl.1 dX12_classes_71 (Nat.le_of_ble_eq_true rfl) (Nat.le_of_ble_eq_true rfl) (fun r_34 b1 H locs hw G => ?_)
          refine zEx1 hw ?_
          intro g_farBy_33 hbs9
          clear hw
          subst hbs9
          have G : zS T A s.heap s [[zAr T 0 m_posts 7 g_posts_6], [zAr T 0 m_shut 7 g_shut_7], [zAr T 0 m_here 7 g_here_8], [zO11 mo m_all m_has i_size i_next i_where i_token i_number i_word i_wrong i_farCrossing m_read j_z0_1 j_crossings_2 j_inns_3 m_posts m_shut m_here j_steps_4 j_done_5 i_at i_gone m_was m_came m_seenAt m_rowWorth m_farBy m_used i_everywhere i_again0 i_d0 i_never i_firstCame i_longRun i_moved i_crowd i_l0 i_fitMany i_fitLeast i_fitMost m_fitPost m_fitEnd m_keptPosts i_x0], [zAr T 0 m_all 3952 f_all], [zAr T 0 m_farBy 49 g_farBy_33]] _ _ := G
          have G := G.sub (bs' := [[zO11 mo m_all m_has i_size i_next i_where i_token i_number i_word i_wrong i_farCrossing m_read j_z0_1 j_crossings_2 j_inns_3 m_posts m_shut m_here j_steps_4 j_done_5 i_at i_gone m_was m_came m_seenAt m_rowWorth m_farBy m_used i_everywhere i_again0 i_d0 i_never i_firstCame i_longRun i_moved i_crowd i_l0 i_fitMany i_fitLeast i_fitMost m_fitPost m_fitEnd m_keptPosts i_x0], [zAr T 0 m_all 3952 f_all], [zAr T 0 m_posts 7 g_posts_6], [zAr T 0 m_shut 7 g_shut_7], [zAr T 0 m_here 7 g_here_8], [zAr T 0 m_farBy 49 g_farBy_33]]) [3, 4, 0, 1, 2, 5] rfl
          exact z_back hQz_ (z_iret C hr hlocks G (Nat.le_of_ble_eq_true rfl) (Nat.le_of_ble_eq_true rfl) dX12_classes_74 ⟨j_z0_1, j_crossings_2, j_inns_3, j_steps_4, j_done_5, g_posts_6, g_shut_7, g_here_8, g_farBy_33, rfl⟩)
      · refine lv_tableIn (tgt := 75) hx hb dX12_classes_12 (by first | (rw [c_24]; decide) | omega) (by first | (rw [c_24]; decide) | omega) (by rw [c_24]; rfl) (by decide) ?_
        refine lv_aload_n hx hb dX12_classes_75 rfl (lv_at hl 0 rfl) ?_
        refine lv_iload_n hx hb dX12_classes_76 rfl (lv_at hl 2 rfl) ?_
        refine z_Vi (bc := [[zO11 mo m_all m_has i_size i_next i_where i_token i_number i_word i_wrong i_farCrossing m_read j_z0_1 j_crossings_2 j_inns_3 m_posts m_shut m_here j_steps_4 j_done_5 i_at i_gone m_was m_came m_seenAt m_rowWorth m_farBy m_used i_everywhere i_again0 i_d0 i_never i_firstCame i_longRun i_moved i_crowd i_l0 i_fitMany i_fitLeast i_fitMost m_fitPost m_fitEnd m_keptPosts i_x0], [zAr T 0 m_all 3952 f_all]]) (br := [[zAr T 0 m_farBy 49 f_farBy], [zAr T 0 m_posts 7 g_posts_6], [zAr T 0 m_shut 7 g_shut_7], [zAr T 0 m_here 7 g_here_8]]) (As := [.int w_]) (rest := []) C G (c_m_crossingsOf l T mo m_all m_has i_size i_next i_where i_token i_number i_word i_wrong i_farCrossing m_read j_z0_1 j_crossings_2 j_inns_3 m_posts m_shut m_here j_steps_4 j_done_5 i_at i_gone m_was m_came m_seenAt m_rowWorth m_farBy m_used i_everywhere i_again0 i_d0 i_never i_firstCame i_longRun i_moved i_crowd i_l0 i_fitMany i_fitLeast i_fitMost m_fitPost m_fitEnd m_keptPosts i_x0 f_all w_ (by first | with_reducible assumption | with_reducible rfl | omega | assumption | rfl | decide)) (kV_RX12_275 C.2.2.2.2 (Nat.le_of_ble_eq_true rfl) (Nat.le_of_ble_eq_true rfl)) [1, 2] [1, 0] rfl rfl (ci := 11) (qc := (RX12, TX12, 43)) rfl rfl (List.mem_flatten.mpr ⟨_, List.mem_of_getElem? (i := 0) rfl, List.mem_cons_self⟩) rfl rfl hl.1 dX12_classes_77 (Nat.le_of_ble_eq_true rfl) (Nat.le_of_ble_eq_true rfl) (fun r_35 b1 H locs hw G => ?_)
        obtain rfl := hw
        have G : zS T A s.heap s [[zAr T 0 m_farBy 49 f_farBy], [zAr T 0 m_posts 7 g_posts_6], [zAr T 0 m_shut 7 g_shut_7], [zAr T 0 m_here 7 g_here_8], [zO11 mo m_all m_has i_size i_next i_where i_token i_number i_word i_wrong i_farCrossing m_read j_z0_1 j_crossings_2 j_inns_3 m_posts m_shut m_here j_steps_4 j_done_5 i_at i_gone m_was m_came m_seenAt m_rowWorth m_farBy m_used i_everywhere i_again0 i_d0 i_never i_firstCame i_longRun i_moved i_crowd i_l0 i_fitMany i_fitLeast i_fitMost m_fitPost m_fitEnd m_keptPosts i_x0], [zAr T 0 m_all 3952 f_all]] _ _ := G
        have G := G.sub (bs' := [[zO11 mo m_all m_has i_size i_next i_where i_token i_number i_word i_wrong i_farCrossing m_read j_z0_1 j_crossings_2 j_inns_3 m_posts m_shut m_here j_steps_4 j_done_5 i_at i_gone m_was m_came m_seenAt m_rowWorth m_farBy m_used i_everywhere i_again0 i_d0 i_never i_firstCame i_longRun i_moved i_crowd i_l0 i_fitMany i_fitLeast i_fitMost m_fitPost m_fitEnd m_keptPosts i_x0], [zAr T 0 m_all 3952 f_all], [zAr T 0 m_posts 7 g_posts_6], [zAr T 0 m_shut 7 g_shut_7], [zAr T 0 m_here 7 g_here_8], [zAr T 0 m_farBy 49 f_farBy]]) [4, 5, 1, 2, 3, 0] rfl
        exact z_back hQz_ (z_iret C hr hlocks G (Nat.le_of_ble_eq_true rfl) (Nat.le_of_ble_eq_true rfl) dX12_classes_80 ⟨j_z0_1, j_crossings_2, j_inns_3, j_steps_4, j_done_5, g_posts_6, g_shut_7, g_here_8, f_farBy, rfl⟩)
      · refine lv_tableIn (tgt := 75) hx hb dX12_classes_12 (by first | (rw [c_24]; decide) | omega) (by first | (rw [c_24]; decide) | omega) (by rw [c_24]; rfl) (by decide) ?_
        refine lv_aload_n hx hb dX12_classes_75 rfl (lv_at hl 0 rfl) ?_
        refine lv_iload_n hx hb dX12_classes_76 rfl (lv_at hl 2 rfl) ?_
        refine z_Vi (bc := [[zO11 mo m_all m_has i_size i_next i_where i_token i_number i_word i_wrong i_farCrossing m_read j_z0_1 j_crossings_2 j_inns_3 m_posts m_shut m_here j_steps_4 j_done_5 i_at i_gone m_was m_came m_seenAt m_rowWorth m_farBy m_used i_everywhere i_again0 i_d0 i_never i_firstCame i_longRun i_moved i_crowd i_l0 i_fitMany i_fitLeast i_fitMost m_fitPost m_fitEnd m_keptPosts i_x0], [zAr T 0 m_all 3952 f_all]]) (br := [[zAr T 0 m_farBy 49 f_farBy], [zAr T 0 m_posts 7 g_posts_6], [zAr T 0 m_shut 7 g_shut_7], [zAr T 0 m_here 7 g_here_8]]) (As := [.int w_]) (rest := []) C G (c_m_crossingsOf l T mo m_all m_has i_size i_next i_where i_token i_number i_word i_wrong i_farCrossing m_read j_z0_1 j_crossings_2 j_inns_3 m_posts m_shut m_here j_steps_4 j_done_5 i_at i_gone m_was m_came m_seenAt m_rowWorth m_farBy m_used i_everywhere i_again0 i_d0 i_never i_firstCame i_longRun i_moved i_crowd i_l0 i_fitMany i_fitLeast i_fitMost m_fitPost m_fitEnd m_keptPosts i_x0 f_all w_ (by first | with_reducible assumption | with_reducible rfl | omega | assumption | rfl | decide)) (kV_RX12_275 C.2.2.2.2 (Nat.le_of_ble_eq_true rfl) (Nat.le_of_ble_eq_true rfl)) [1, 2] [1, 0] rfl rfl (ci := 11) (qc := (RX12, TX12, 43)) rfl rfl (List.mem_flatten.mpr ⟨_, List.mem_of_getElem? (i := 0) rfl, List.mem_cons_self⟩) rfl rfl hl.1 dX12_classes_77 (Nat.le_of_ble_eq_true rfl) (Nat.le_of_ble_eq_true rfl) (fun r_36 b1 H locs hw G => ?_)
        obtain rfl := hw
        have G : zS T A s.heap s [[zAr T 0 m_farBy 49 f_farBy], [zAr T 0 m_posts 7 g_posts_6], [zAr T 0 m_shut 7 g_shut_7], [zAr T 0 m_here 7 g_here_8], [zO11 mo m_all m_has i_size i_next i_where i_token i_number i_word i_wrong i_farCrossing m_read j_z0_1 j_crossings_2 j_inns_3 m_posts m_shut m_here j_steps_4 j_done_5 i_at i_gone m_was m_came m_seenAt m_rowWorth m_farBy m_used i_everywhere i_again0 i_d0 i_never i_firstCame i_longRun i_moved i_crowd i_l0 i_fitMany i_fitLeast i_fitMost m_fitPost m_fitEnd m_keptPosts i_x0], [zAr T 0 m_all 3952 f_all]] _ _ := G
        have G := G.sub (bs' := [[zO11 mo m_all m_has i_size i_next i_where i_token i_number i_word i_wrong i_farCrossing m_read j_z0_1 j_crossings_2 j_inns_3 m_posts m_shut m_here j_steps_4 j_done_5 i_at i_gone m_was m_came m_seenAt m_rowWorth m_farBy m_used i_everywhere i_again0 i_d0 i_never i_firstCame i_longRun i_moved i_crowd i_l0 i_fitMany i_fitLeast i_fitMost m_fitPost m_fitEnd m_keptPosts i_x0], [zAr T 0 m_all 3952 f_all], [zAr T 0 m_posts 7 g_posts_6], [zAr T 0 m_shut 7 g_shut_7], [zAr T 0 m_here 7 g_here_8], [zAr T 0 m_farBy 49 f_farBy]]) [4, 5, 1, 2, 3, 0] rfl
        exact z_back hQz_ (z_iret C hr hlocks G (Nat.le_of_ble_eq_true rfl) (Nat.le_of_ble_eq_true rfl) dX12_classes_80 ⟨j_z0_1, j_crossings_2, j_inns_3, j_steps_4, j_done_5, g_posts_6, g_shut_7, g_here_8, f_farBy, rfl⟩)
      · refine lv_tableIn (tgt := 81) hx hb dX12_classes_12 (by first | (rw [c_24]; decide) | omega) (by first | (rw [c_24]; decide) | omega) (by rw [c_24]; rfl) (by decide) ?_
        refine lv_aload_n hx hb dX12_classes_81 rfl (lv_at hl 0 rfl) ?_
        refine lv_iload_n hx hb dX12_classes_82 rfl (lv_at hl 2 rfl) ?_
        refine lv_iconst (v := 5) hx hb dX12_classes_83 (by decide) ?_
        refine lv_icmp_ne (tgt := 91) hx hb dX12_classes_84 (by decide) (fun c_37 => ?_) (fun c_37 => ?_)
        · have c_37n : ¬ w_.toInt = (5 : Int) := fun q => c_37 ((fa_eq _ _).mpr q)
          refine lv_iconst (v := 0) hx hb dX12_classes_91 (by decide) ?_
          refine z_Vi (bc := [[zO11 mo m_all m_has i_size i_next i_where i_token i_number i_word i_wrong i_farCrossing m_read j_z0_1 j_crossings_2 j_inns_3 m_posts m_shut m_here j_steps_4 j_done_5 i_at i_gone m_was m_came m_seenAt m_rowWorth m_farBy m_used i_everywhere i_again0 i_d0 i_never i_firstCame i_longRun i_moved i_crowd i_l0 i_fitMany i_fitLeast i_fitMost m_fitPost m_fitEnd m_keptPosts i_x0], [zAr T 0 m_all 3952 f_all]]) (br := [[zAr T 0 m_farBy 49 f_farBy], [zAr T 0 m_posts 7 g_posts_6], [zAr T 0 m_shut 7 g_shut_7], [zAr T 0 m_here 7 g_here_8]]) (As := [.int 0]) (rest := []) C G (c_m_loops l T mo m_all m_has i_size i_next i_where i_token i_number i_word i_wrong i_farCrossing m_read j_z0_1 j_crossings_2 j_inns_3 m_posts m_shut m_here j_steps_4 j_done_5 i_at i_gone m_was m_came m_seenAt m_rowWorth m_farBy m_used i_everywhere i_again0 i_d0 i_never i_firstCame i_longRun i_moved i_crowd i_l0 i_fitMany i_fitLeast i_fitMost m_fitPost m_fitEnd m_keptPosts i_x0 f_all 0 (by first | with_reducible assumption | with_reducible rfl | omega | assumption | rfl | decide)) (kV_RX12_278 C.2.2.2.2 (Nat.le_of_ble_eq_true rfl) (Nat.le_of_ble_eq_true rfl)) [1, 2] [1, 0] rfl rfl (ci := 11) (qc := (RX12, TX12, 43)) rfl rfl (List.mem_flatten.mpr ⟨_, List.mem_of_getElem? (i := 0) rfl, List.mem_cons_self⟩) rfl rfl hl.1 dX12_classes_92 (Nat.le_of_ble_eq_true rfl) (Nat.le_of_ble_eq_true rfl) (fun r_38 b1 H locs hw G => ?_)
          obtain rfl := hw
          have G : zS T A s.heap s [[zAr T 0 m_farBy 49 f_farBy], [zAr T 0 m_posts 7 g_posts_6], [zAr T 0 m_shut 7 g_shut_7], [zAr T 0 m_here 7 g_here_8], [zO11 mo m_all m_has i_size i_next i_where i_token i_number i_word i_wrong i_farCrossing m_read j_z0_1 j_crossings_2 j_inns_3 m_posts m_shut m_here j_steps_4 j_done_5 i_at i_gone m_was m_came m_seenAt m_rowWorth m_farBy m_used i_everywhere i_again0 i_d0 i_never i_firstCame i_longRun i_moved i_crowd i_l0 i_fitMany i_fitLeast i_fitMost m_fitPost m_fitEnd m_keptPosts i_x0], [zAr T 0 m_all 3952 f_all]] _ _ := G
          have G := G.sub (bs' := [[zO11 mo m_all m_has i_size i_next i_where i_token i_number i_word i_wrong i_farCrossing m_read j_z0_1 j_crossings_2 j_inns_3 m_posts m_shut m_here j_steps_4 j_done_5 i_at i_gone m_was m_came m_seenAt m_rowWorth m_farBy m_used i_everywhere i_again0 i_d0 i_never i_firstCame i_longRun i_moved i_crowd i_l0 i_fitMany i_fitLeast i_fitMost m_fitPost m_fitEnd m_keptPosts i_x0], [zAr T 0 m_all 3952 f_all], [zAr T 0 m_posts 7 g_posts_6], [zAr T 0 m_shut 7 g_shut_7], [zAr T 0 m_here 7 g_here_8], [zAr T 0 m_farBy 49 f_farBy]]) [4, 5, 1, 2, 3, 0] rfl
          exact z_back hQz_ (z_iret C hr hlocks G (Nat.le_of_ble_eq_true rfl) (Nat.le_of_ble_eq_true rfl) dX12_classes_95 ⟨j_z0_1, j_crossings_2, j_inns_3, j_steps_4, j_done_5, g_posts_6, g_shut_7, g_here_8, f_farBy, rfl⟩)
        · have c_37n : w_.toInt = (5 : Int) := (fa_eq _ _).mp c_37
          refine lv_iconst (v := 1) hx hb dX12_classes_87 (by decide) ?_
          refine lv_goto (tgt := 92) hx hb dX12_classes_88 (by decide) ?_
          refine z_Vi (bc := [[zO11 mo m_all m_has i_size i_next i_where i_token i_number i_word i_wrong i_farCrossing m_read j_z0_1 j_crossings_2 j_inns_3 m_posts m_shut m_here j_steps_4 j_done_5 i_at i_gone m_was m_came m_seenAt m_rowWorth m_farBy m_used i_everywhere i_again0 i_d0 i_never i_firstCame i_longRun i_moved i_crowd i_l0 i_fitMany i_fitLeast i_fitMost m_fitPost m_fitEnd m_keptPosts i_x0], [zAr T 0 m_all 3952 f_all]]) (br := [[zAr T 0 m_farBy 49 f_farBy], [zAr T 0 m_posts 7 g_posts_6], [zAr T 0 m_shut 7 g_shut_7], [zAr T 0 m_here 7 g_here_8]]) (As := [.int 1]) (rest := []) C G (c_m_loops l T mo m_all m_has i_size i_next i_where i_token i_number i_word i_wrong i_farCrossing m_read j_z0_1 j_crossings_2 j_inns_3 m_posts m_shut m_here j_steps_4 j_done_5 i_at i_gone m_was m_came m_seenAt m_rowWorth m_farBy m_used i_everywhere i_again0 i_d0 i_never i_firstCame i_longRun i_moved i_crowd i_l0 i_fitMany i_fitLeast i_fitMost m_fitPost m_fitEnd m_keptPosts i_x0 f_all 1 (by first | with_reducible assumption | with_reducible rfl | omega | assumption | rfl | decide)) (kV_RX12_278 C.2.2.2.2 (Nat.le_of_ble_eq_true rfl) (Nat.le_of_ble_eq_true rfl)) [1, 2] [1, 0] rfl rfl (ci := 11) (qc := (RX12, TX12, 43)) rfl rfl (List.mem_flatten.mpr ⟨_, List.mem_of_getElem? (i := 0) rfl, List.mem_cons_self⟩) rfl rfl hl.1 dX12_classes_92 (Nat.le_of_ble_eq_true rfl) (Nat.le_of_ble_eq_true rfl) (fun r_39 b1 H locs hw G => ?_)
          obtain rfl := hw
          have G : zS T A s.heap s [[zAr T 0 m_farBy 49 f_farBy], [zAr T 0 m_posts 7 g_posts_6], [zAr T 0 m_shut 7 g_shut_7], [zAr T 0 m_here 7 g_here_8], [zO11 mo m_all m_has i_size i_next i_where i_token i_number i_word i_wrong i_farCrossing m_read j_z0_1 j_crossings_2 j_inns_3 m_posts m_shut m_here j_steps_4 j_done_5 i_at i_gone m_was m_came m_seenAt m_rowWorth m_farBy m_used i_everywhere i_again0 i_d0 i_never i_firstCame i_longRun i_moved i_crowd i_l0 i_fitMany i_fitLeast i_fitMost m_fitPost m_fitEnd m_keptPosts i_x0], [zAr T 0 m_all 3952 f_all]] _ _ := G
          have G := G.sub (bs' := [[zO11 mo m_all m_has i_size i_next i_where i_token i_number i_word i_wrong i_farCrossing m_read j_z0_1 j_crossings_2 j_inns_3 m_posts m_shut m_here j_steps_4 j_done_5 i_at i_gone m_was m_came m_seenAt m_rowWorth m_farBy m_used i_everywhere i_again0 i_d0 i_never i_firstCame i_longRun i_moved i_crowd i_l0 i_fitMany i_fitLeast i_fitMost m_fitPost m_fitEnd m_keptPosts i_x0], [zAr T 0 m_all 3952 f_all], [zAr T 0 m_posts 7 g_posts_6], [zAr T 0 m_shut 7 g_shut_7], [zAr T 0 m_here 7 g_here_8], [zAr T 0 m_farBy 49 f_farBy]]) [4, 5, 1, 2, 3, 0] rfl
          exact z_back hQz_ (z_iret C hr hlocks G (Nat.le_of_ble_eq_true rfl) (Nat.le_of_ble_eq_true rfl) dX12_classes_95 ⟨j_z0_1, j_crossings_2, j_inns_3, j_steps_4, j_done_5, g_posts_6, g_shut_7, g_here_8, f_farBy, rfl⟩)
      · refine lv_tableIn (tgt := 81) hx hb dX12_classes_12 (by first | (rw [c_24]; decide) | omega) (by first | (rw [c_24]; decide) | omega) (by rw [c_24]; rfl) (by decide) ?_
        refine lv_aload_n hx hb dX12_classes_81 rfl (lv_at hl 0 rfl) ?_
        refine lv_iload_n hx hb dX12_classes_82 rfl (lv_at hl 2 rfl) ?_
        refine lv_iconst (v := 5) hx hb dX12_classes_83 (by decide) ?_
        refine lv_icmp_ne (tgt := 91) hx hb dX12_classes_84 (by decide) (fun c_40 => ?_) (fun c_40 => ?_)
        · have c_40n : ¬ w_.toInt = (5 : Int) := fun q => c_40 ((fa_eq _ _).mpr q)
          refine lv_iconst (v := 0) hx hb dX12_classes_91 (by decide) ?_
          refine z_Vi (bc := [[zO11 mo m_all m_has i_size i_next i_where i_token i_number i_word i_wrong i_farCrossing m_read j_z0_1 j_crossings_2 j_inns_3 m_posts m_shut m_here j_steps_4 j_done_5 i_at i_gone m_was m_came m_seenAt m_rowWorth m_farBy m_used i_everywhere i_again0 i_d0 i_never i_firstCame i_longRun i_moved i_crowd i_l0 i_fitMany i_fitLeast i_fitMost m_fitPost m_fitEnd m_keptPosts i_x0], [zAr T 0 m_all 3952 f_all]]) (br := [[zAr T 0 m_farBy 49 f_farBy], [zAr T 0 m_posts 7 g_posts_6], [zAr T 0 m_shut 7 g_shut_7], [zAr T 0 m_here 7 g_here_8]]) (As := [.int 0]) (rest := []) C G (c_m_loops l T mo m_all m_has i_size i_next i_where i_token i_number i_word i_wrong i_farCrossing m_read j_z0_1 j_crossings_2 j_inns_3 m_posts m_shut m_here j_steps_4 j_done_5 i_at i_gone m_was m_came m_seenAt m_rowWorth m_farBy m_used i_everywhere i_again0 i_d0 i_never i_firstCame i_longRun i_moved i_crowd i_l0 i_fitMany i_fitLeast i_fitMost m_fitPost m_fitEnd m_keptPosts i_x0 f_all 0 (by first | with_reducible assumption | with_reducible rfl | omega | assumption | rfl | decide)) (kV_RX12_278 C.2.2.2.2 (Nat.le_of_ble_eq_true rfl) (Nat.le_of_ble_eq_true rfl)) [1, 2] [1, 0] rfl rfl (ci := 11) (qc := (RX12, TX12, 43)) rfl rfl (List.mem_flatten.mpr ⟨_, List.mem_of_getElem? (i := 0) rfl, List.mem_cons_self⟩) rfl rfl hl.1 dX12_classes_92 (Nat.le_of_ble_eq_true rfl) (Nat.le_of_ble_eq_true rfl) (fun r_41 b1 H locs hw G => ?_)
          obtain rfl := hw
          have G : zS T A s.heap s [[zAr T 0 m_farBy 49 f_farBy], [zAr T 0 m_posts 7 g_posts_6], [zAr T 0 m_shut 7 g_shut_7], [zAr T 0 m_here 7 g_here_8], [zO11 mo m_all m_has i_size i_next i_where i_token i_number i_word i_wrong i_farCrossing m_read j_z0_1 j_crossings_2 j_inns_3 m_posts m_shut m_here j_steps_4 j_done_5 i_at i_gone m_was m_came m_seenAt m_rowWorth m_farBy m_used i_everywhere i_again0 i_d0 i_never i_firstCame i_longRun i_moved i_crowd i_l0 i_fitMany i_fitLeast i_fitMost m_fitPost m_fitEnd m_keptPosts i_x0], [zAr T 0 m_all 3952 f_all]] _ _ := G
          have G := G.sub (bs' := [[zO11 mo m_all m_has i_size i_next i_where i_token i_number i_word i_wrong i_farCrossing m_read j_z0_1 j_crossings_2 j_inns_3 m_posts m_shut m_here j_steps_4 j_done_5 i_at i_gone m_was m_came m_seenAt m_rowWorth m_farBy m_used i_everywhere i_again0 i_d0 i_never i_firstCame i_longRun i_moved i_crowd i_l0 i_fitMany i_fitLeast i_fitMost m_fitPost m_fitEnd m_keptPosts i_x0], [zAr T 0 m_all 3952 f_all], [zAr T 0 m_posts 7 g_posts_6], [zAr T 0 m_shut 7 g_shut_7], [zAr T 0 m_here 7 g_here_8], [zAr T 0 m_farBy 49 f_farBy]]) [4, 5, 1, 2, 3, 0] rfl
          exact z_back hQz_ (z_iret C hr hlocks G (Nat.le_of_ble_eq_true rfl) (Nat.le_of_ble_eq_true rfl) dX12_classes_95 ⟨j_z0_1, j_crossings_2, j_inns_3, j_steps_4, j_done_5, g_posts_6, g_shut_7, g_here_8, f_farBy, rfl⟩)
        · have c_40n : w_.toInt = (5 : Int) := (fa_eq _ _).mp c_40
          refine lv_iconst (v := 1) hx hb dX12_classes_87 (by decide) ?_
          refine lv_goto (tgt := 92) hx hb dX12_classes_88 (by decide) ?_
          refine z_Vi (bc := [[zO11 mo m_all m_has i_size i_next i_where i_token i_number i_word i_wrong i_farCrossing m_read j_z0_1 j_crossings_2 j_inns_3 m_posts m_shut m_here j_steps_4 j_done_5 i_at i_gone m_was m_came m_seenAt m_rowWorth m_farBy m_used i_everywhere i_again0 i_d0 i_never i_firstCame i_longRun i_moved i_crowd i_l0 i_fitMany i_fitLeast i_fitMost m_fitPost m_fitEnd m_keptPosts i_x0], [zAr T 0 m_all 3952 f_all]]) (br := [[zAr T 0 m_farBy 49 f_farBy], [zAr T 0 m_posts 7 g_posts_6], [zAr T 0 m_shut 7 g_shut_7], [zAr T 0 m_here 7 g_here_8]]) (As := [.int 1]) (rest := []) C G (c_m_loops l T mo m_all m_has i_size i_next i_where i_token i_number i_word i_wrong i_farCrossing m_read j_z0_1 j_crossings_2 j_inns_3 m_posts m_shut m_here j_steps_4 j_done_5 i_at i_gone m_was m_came m_seenAt m_rowWorth m_farBy m_used i_everywhere i_again0 i_d0 i_never i_firstCame i_longRun i_moved i_crowd i_l0 i_fitMany i_fitLeast i_fitMost m_fitPost m_fitEnd m_keptPosts i_x0 f_all 1 (by first | with_reducible assumption | with_reducible rfl | omega | assumption | rfl | decide)) (kV_RX12_278 C.2.2.2.2 (Nat.le_of_ble_eq_true rfl) (Nat.le_of_ble_eq_true rfl)) [1, 2] [1, 0] rfl rfl (ci := 11) (qc := (RX12, TX12, 43)) rfl rfl (List.mem_flatten.mpr ⟨_, List.mem_of_getElem? (i := 0) rfl, List.mem_cons_self⟩) rfl rfl hl.1 dX12_classes_92 (Nat.le_of_ble_eq_true rfl) (Nat.le_of_ble_eq_true rfl) (fun r_42 b1 H locs hw G => ?_)
          obtain rfl := hw
          have G : zS T A s.heap s [[zAr T 0 m_farBy 49 f_farBy], [zAr T 0 m_posts 7 g_posts_6], [zAr T 0 m_shut 7 g_shut_7], [zAr T 0 m_here 7 g_here_8], [zO11 mo m_all m_has i_size i_next i_where i_token i_number i_word i_wrong i_farCrossing m_read j_z0_1 j_crossings_2 j_inns_3 m_posts m_shut m_here j_steps_4 j_done_5 i_at i_gone m_was m_came m_seenAt m_rowWorth m_farBy m_used i_everywhere i_again0 i_d0 i_never i_firstCame i_longRun i_moved i_crowd i_l0 i_fitMany i_fitLeast i_fitMost m_fitPost m_fitEnd m_keptPosts i_x0], [zAr T 0 m_all 3952 f_all]] _ _ := G
          have G := G.sub (bs' := [[zO11 mo m_all m_has i_size i_next i_where i_token i_number i_word i_wrong i_farCrossing m_read j_z0_1 j_crossings_2 j_inns_3 m_posts m_shut m_here j_steps_4 j_done_5 i_at i_gone m_was m_came m_seenAt m_rowWorth m_farBy m_used i_everywhere i_again0 i_d0 i_never i_firstCame i_longRun i_moved i_crowd i_l0 i_fitMany i_fitLeast i_fitMost m_fitPost m_fitEnd m_keptPosts i_x0], [zAr T 0 m_all 3952 f_all], [zAr T 0 m_posts 7 g_posts_6], [zAr T 0 m_shut 7 g_shut_7], [zAr T 0 m_here 7 g_here_8], [zAr T 0 m_farBy 49 f_farBy]]) [4, 5, 1, 2, 3, 0] rfl
          exact z_back hQz_ (z_iret C hr hlocks G (Nat.le_of_ble_eq_true rfl) (Nat.le_of_ble_eq_true rfl) dX12_classes_95 ⟨j_z0_1, j_crossings_2, j_inns_3, j_steps_4, j_done_5, g_posts_6, g_shut_7, g_here_8, f_farBy, rfl⟩)
      · refine lv_tableIn (tgt := 75) hx hb dX12_classes_12 (by first | (rw [c_24]; decide) | omega) (by first | (rw [c_24]; decide) | omega) (by rw [c_24]; rfl) (by decide) ?_
        refine lv_aload_n hx hb dX12_classes_75 rfl (lv_at hl 0 rfl) ?_
        refine lv_iload_n hx hb dX12_classes_76 rfl (lv_at hl 2 rfl) ?_
        refine z_Vi (bc := [[zO11 mo m_all m_has i_size i_next i_where i_token i_number i_word i_wrong i_farCrossing m_read j_z0_1 j_crossings_2 j_inns_3 m_posts m_shut m_here j_steps_4 j_done_5 i_at i_gone m_was m_came m_seenAt m_rowWorth m_farBy m_used i_everywhere i_again0 i_d0 i_never i_firstCame i_longRun i_moved i_crowd i_l0 i_fitMany i_fitLeast i_fitMost m_fitPost m_fitEnd m_keptPosts i_x0], [zAr T 0 m_all 3952 f_all]]) (br := [[zAr T 0 m_farBy 49 f_farBy], [zAr T 0 m_posts 7 g_posts_6], [zAr T 0 m_shut 7 g_shut_7], [zAr T 0 m_here 7 g_here_8]]) (As := [.int w_]) (rest := []) C G (c_m_crossingsOf l T mo m_all m_has i_size i_next i_where i_token i_number i_word i_wrong i_farCrossing m_read j_z0_1 j_crossings_2 j_inns_3 m_posts m_shut m_here j_steps_4 j_done_5 i_at i_gone m_was m_came m_seenAt m_rowWorth m_farBy m_used i_everywhere i_again0 i_d0 i_never i_firstCame i_longRun i_moved i_crowd i_l0 i_fitMany i_fitLeast i_fitMost m_fitPost m_fitEnd m_keptPosts i_x0 f_all w_ (by first | with_reducible assumption | with_reducible rfl | omega | assumption | rfl | decide)) (kV_RX12_275 C.2.2.2.2 (Nat.le_of_ble_eq_true rfl) (Nat.le_of_ble_eq_true rfl)) [1, 2] [1, 0] rfl rfl (ci := 11) (qc := (RX12, TX12, 43)) rfl rfl (List.mem_flatten.mpr ⟨_, List.mem_of_getElem? (i := 0) rfl, List.mem_cons_self⟩) rfl rfl hl.1 dX12_classes_77 (Nat.le_of_ble_eq_true rfl) (Nat.le_of_ble_eq_true rfl) (fun r_43 b1 H locs hw G => ?_)
        obtain rfl := hw
        have G : zS T A s.heap s [[zAr T 0 m_farBy 49 f_farBy], [zAr T 0 m_posts 7 g_posts_6], [zAr T 0 m_shut 7 g_shut_7], [zAr T 0 m_here 7 g_here_8], [zO11 mo m_all m_has i_size i_next i_where i_token i_number i_word i_wrong i_farCrossing m_read j_z0_1 j_crossings_2 j_inns_3 m_posts m_shut m_here j_steps_4 j_done_5 i_at i_gone m_was m_came m_seenAt m_rowWorth m_farBy m_used i_everywhere i_again0 i_d0 i_never i_firstCame i_longRun i_moved i_crowd i_l0 i_fitMany i_fitLeast i_fitMost m_fitPost m_fitEnd m_keptPosts i_x0], [zAr T 0 m_all 3952 f_all]] _ _ := G
        have G := G.sub (bs' := [[zO11 mo m_all m_has i_size i_next i_where i_token i_number i_word i_wrong i_farCrossing m_read j_z0_1 j_crossings_2 j_inns_3 m_posts m_shut m_here j_steps_4 j_done_5 i_at i_gone m_was m_came m_seenAt m_rowWorth m_farBy m_used i_everywhere i_again0 i_d0 i_never i_firstCame i_longRun i_moved i_crowd i_l0 i_fitMany i_fitLeast i_fitMost m_fitPost m_fitEnd m_keptPosts i_x0], [zAr T 0 m_all 3952 f_all], [zAr T 0 m_posts 7 g_posts_6], [zAr T 0 m_shut 7 g_shut_7], [zAr T 0 m_here 7 g_here_8], [zAr T 0 m_farBy 49 f_farBy]]) [4, 5, 1, 2, 3, 0] rfl
        exact z_back hQz_ (z_iret C hr hlocks G (Nat.le_of_ble_eq_true rfl) (Nat.le_of_ble_eq_true rfl) dX12_classes_80 ⟨j_z0_1, j_crossings_2, j_inns_3, j_steps_4, j_done_5, g_posts_6, g_shut_7, g_here_8, f_farBy, rfl⟩)
      · refine lv_tableIn (tgt := 96) hx hb dX12_classes_12 (by first | (rw [c_24]; decide) | omega) (by first | (rw [c_24]; decide) | omega) (by rw [c_24]; rfl) (by decide) ?_
        refine lv_aload_n hx hb dX12_classes_96 rfl (lv_at hl 0 rfl) ?_
        refine z_Vi (bc := [[zO11 mo m_all m_has i_size i_next i_where i_token i_number i_word i_wrong i_farCrossing m_read j_z0_1 j_crossings_2 j_inns_3 m_posts m_shut m_here j_steps_4 j_done_5 i_at i_gone m_was m_came m_seenAt m_rowWorth m_farBy m_used i_everywhere i_again0 i_d0 i_never i_firstCame i_longRun i_moved i_crowd i_l0 i_fitMany i_fitLeast i_fitMost m_fitPost m_fitEnd m_keptPosts i_x0], [zAr T 0 m_all 3952 f_all]]) (br := [[zAr T 0 m_farBy 49 f_farBy], [zAr T 0 m_posts 7 g_posts_6], [zAr T 0 m_shut 7 g_shut_7], [zAr T 0 m_here 7 g_here_8]]) (As := []) (rest := []) C G (c_m_busyOf l T mo m_all m_has i_size i_next i_where i_token i_number i_word i_wrong i_farCrossing m_read j_z0_1 j_crossings_2 j_inns_3 m_posts m_shut m_here j_steps_4 j_done_5 i_at i_gone m_was m_came m_seenAt m_rowWorth m_farBy m_used i_everywhere i_again0 i_d0 i_never i_firstCame i_longRun i_moved i_crowd i_l0 i_fitMany i_fitLeast i_fitMost m_fitPost m_fitEnd m_keptPosts i_x0 f_all (by first | with_reducible assumption | with_reducible rfl | omega | assumption | rfl | decide)) (kV_RX12_281 C.2.2.2.2 (Nat.le_of_ble_eq_true rfl) (Nat.le_of_ble_eq_true rfl)) [1, 2] [1, 0] rfl rfl (ci := 11) (qc := (RX12, TX12, 43)) rfl rfl (List.mem_flatten.mpr ⟨_, List.mem_of_getElem? (i := 0) rfl, List.mem_cons_self⟩) rfl rfl hl.1 dX12_classes_97 (Nat.le_of_ble_eq_true rfl) (Nat.le_of_ble_eq_true rfl) (fun r_44 b1 H locs hw G => ?_)
        obtain rfl := hw
        have G : zS T A s.heap s [[zAr T 0 m_farBy 49 f_farBy], [zAr T 0 m_posts 7 g_posts_6], [zAr T 0 m_shut 7 g_shut_7], [zAr T 0 m_here 7 g_here_8], [zO11 mo m_all m_has i_size i_next i_where i_token i_number i_word i_wrong i_farCrossing m_read j_z0_1 j_crossings_2 j_inns_3 m_posts m_shut m_here j_steps_4 j_done_5 i_at i_gone m_was m_came m_seenAt m_rowWorth m_farBy m_used i_everywhere i_again0 i_d0 i_never i_firstCame i_longRun i_moved i_crowd i_l0 i_fitMany i_fitLeast i_fitMost m_fitPost m_fitEnd m_keptPosts i_x0], [zAr T 0 m_all 3952 f_all]] _ _ := G
        have G := G.sub (bs' := [[zO11 mo m_all m_has i_size i_next i_where i_token i_number i_word i_wrong i_farCrossing m_read j_z0_1 j_crossings_2 j_inns_3 m_posts m_shut m_here j_steps_4 j_done_5 i_at i_gone m_was m_came m_seenAt m_rowWorth m_farBy m_used i_everywhere i_again0 i_d0 i_never i_firstCame i_longRun i_moved i_crowd i_l0 i_fitMany i_fitLeast i_fitMost m_fitPost m_fitEnd m_keptPosts i_x0], [zAr T 0 m_all 3952 f_all], [zAr T 0 m_posts 7 g_posts_6], [zAr T 0 m_shut 7 g_shut_7], [zAr T 0 m_here 7 g_here_8], [zAr T 0 m_farBy 49 f_farBy]]) [4, 5, 1, 2, 3, 0] rfl
        exact z_back hQz_ (z_iret C hr hlocks G (Nat.le_of_ble_eq_true rfl) (Nat.le_of_ble_eq_true rfl) dX12_classes_100 ⟨j_z0_1, j_crossings_2, j_inns_3, j_steps_4, j_done_5, g_posts_6, g_shut_7, g_here_8, f_farBy, rfl⟩)
  · have h_23 : (l_.toInt < 0 ∨ (f_all 0).toInt ≤ l_.toInt) := h_23
    refine lv_if_ne (tgt := 11) hx hb dX12_classes_5 (by decide) (fun q => absurd (by decide) q) (fun _ => ?_)
    refine lv_bipush (v := (-2)) hx hb dX12_classes_8 (by decide) ?_
    have G := G.sub (bs' := [[zO11 mo m_all m_has i_size i_next i_where i_token i_number i_word i_wrong i_farCrossing m_read j_z0_1 j_crossings_2 j_inns_3 m_posts m_shut m_here j_steps_4 j_done_5 i_at i_gone m_was m_came m_seenAt m_rowWorth m_farBy m_used i_everywhere i_again0 i_d0 i_never i_firstCame i_longRun i_moved i_crowd i_l0 i_fitMany i_fitLeast i_fitMost m_fitPost m_fitEnd m_keptPosts i_x0], [zAr T 0 m_all 3952 f_all], [zAr T 0 m_posts 7 g_posts_6], [zAr T 0 m_shut 7 g_shut_7], [zAr T 0 m_here 7 g_here_8], [zAr T 0 m_farBy 49 f_farBy]]) [1, 2, 3, 4, 5, 0] rfl
    exact z_back hQz_ (z_iret C hr hlocks G (Nat.le_of_ble_eq_true rfl) (Nat.le_of_ble_eq_true rfl) dX12_classes_10 ⟨j_z0_1, j_crossings_2, j_inns_3, j_steps_4, j_done_5, g_posts_6, g_shut_7, g_here_8, f_farBy, rfl⟩)
theorem m_fl_RX12_284 : Cond.fieldLink RX12 284 (TX12 27).1 (TX12 27).2.1 (TX12 27).2.2.1 ∈ zT := zmem1 zsub_6 22 rfl rfl
theorem m_fl_RX12_287 : Cond.fieldLink RX12 287 (TX12 28).1 (TX12 28).2.1 (TX12 28).2.2.1 ∈ zT := zmem1 zsub_6 23 rfl rfl
theorem m_co_X12_walksFar : Cond.code yX12_walksFar cX12_walksFar 5 none ∈ zT := zmem1 zsub_7 172 rfl rfl
theorem m_ml_RX12_290 : Cond.methodLink RX12 290 yX12_walksFar ∈ zT := zmem1 zsub_7 169 rfl rfl
theorem m_im_X12_walksFar : Cond.instanceMethod yX12_walksFar ∈ zT := zmem1 zsub_7 171 rfl rfl
theorem m_se_X12_walksFar : Cond.selects RX12 yX12_walksFar yX12_walksFar ∈ zT := zmem 87 rfl rfl
theorem m_co_X12_unusedOf : Cond.code yX12_unusedOf cX12_unusedOf 5 (some .int) ∈ zT := zmem1 zsub_7 176 rfl rfl
theorem m_ml_RX12_293 : Cond.methodLink RX12 293 yX12_unusedOf ∈ zT := zmem1 zsub_7 173 rfl rfl
theorem m_im_X12_unusedOf : Cond.instanceMethod yX12_unusedOf ∈ zT := zmem1 zsub_7 175 rfl rfl
theorem m_se_X12_unusedOf : Cond.selects RX12 yX12_unusedOf yX12_unusedOf ∈ zT := zmem 88 rfl rfl
theorem m_co_X12_roundOf : Cond.code yX12_roundOf cX12_roundOf 4 (some .int) ∈ zT := zmem1 zsub_7 180 rfl rfl
theorem m_ml_RX12_296 : Cond.methodLink RX12 296 yX12_roundOf ∈ zT := zmem1 zsub_7 177 rfl rfl
theorem m_im_X12_roundOf : Cond.instanceMethod yX12_roundOf ∈ zT := zmem1 zsub_7 179 rfl rfl
theorem m_se_X12_roundOf : Cond.selects RX12 yX12_roundOf yX12_roundOf ∈ zT := zmem 89 rfl rfl
theorem kV_RX12_290 {R : Room} {s : State} {args : Array Value} {d mc ms : Nat} (hts : ∀ w ∈ zT, w.before args s = true) (h1 : d + 1 ≤ R.frames) (h2 : 8 + (5 + 11) + 40 * d ≤ R.locals) : CallW R s args RX12 RX12 290 yX12_walksFar cX12_walksFar 5 none (zW yX12_walksFar cX12_walksFar 5 none) (zR d mc ms) mc ms 1 := z_cwV hts m_co_X12_walksFar m_ml_RX12_290 m_im_X12_walksFar m_se_X12_walksFar m_ii_RX12 (by decide +kernel) h1 h2
theorem kV_RX12_293 {R : Room} {s : State} {args : Array Value} {d mc ms : Nat} (hts : ∀ w ∈ zT, w.before args s = true) (h1 : d + 1 ≤ R.frames) (h2 : 8 + (5 + 11) + 40 * d ≤ R.locals) : CallW R s args RX12 RX12 293 yX12_unusedOf cX12_unusedOf 5 (some .int) (zW yX12_unusedOf cX12_unusedOf 5 (some .int)) (zR d mc ms) mc ms 1 := z_cwV hts m_co_X12_unusedOf m_ml_RX12_293 m_im_X12_unusedOf m_se_X12_unusedOf m_ii_RX12 (by decide +kernel) h1 h2
theorem kV_RX12_296 {R : Room} {s : State} {args : Array Value} {d mc ms : Nat} (hts : ∀ w ∈ zT, w.before args s = true) (h1 : d + 1 ≤ R.frames) (h2 : 8 + (4 + 11) + 40 * d ≤ R.locals) : CallW R s args RX12 RX12 296 yX12_roundOf cX12_roundOf 4 (some .int) (zW yX12_roundOf cX12_roundOf 4 (some .int)) (zR d mc ms) mc ms 0 := z_cwV hts m_co_X12_roundOf m_ml_RX12_296 m_im_X12_roundOf m_se_X12_roundOf m_ii_RX12 (by decide +kernel) h1 h2
theorem dX12_walksFar_0 : decode cX12_walksFar 0 = .ok (.aload_n 0, 1) := zo_42 (by decide +kernel)
theorem dX12_walksFar_1 : decode cX12_walksFar 1 = .ok (.iload_n 1, 1) := zo_27 (by decide +kernel)
theorem dX12_walksFar_2 : decode cX12_walksFar 2 = .ok (.invokevirtual 261, 3) := zo_182 (by decide +kernel)
theorem dX12_walksFar_5 : decode cX12_walksFar 5 = .ok (.istore_n 2, 1) := zo_61 (by decide +kernel)
theorem dX12_walksFar_6 : decode cX12_walksFar 6 = .ok (.iconst 1, 1) := zo_4 (by decide +kernel)
theorem dX12_walksFar_7 : decode cX12_walksFar 7 = .ok (.iload_n 1, 1) := zo_27 (by decide +kernel)
theorem dX12_walksFar_8 : decode cX12_walksFar 8 = .ok (.ishl, 1) := zo_120 (by decide +kernel)
theorem dX12_walksFar_9 : decode cX12_walksFar 9 = .ok (.istore_n 3, 1) := zo_62 (by decide +kernel)
theorem dX12_walksFar_10 : decode cX12_walksFar 10 = .ok (.iconst 0, 1) := zo_3 (by decide +kernel)
theorem dX12_walksFar_11 : decode cX12_walksFar 11 = .ok (.istore 4, 2) := zo_54 (by decide +kernel)
theorem dX12_walksFar_13 : decode cX12_walksFar 13 = .ok (.iload 4, 2) := zo_21 (by decide +kernel)
theorem dX12_walksFar_15 : decode cX12_walksFar 15 = .ok (.bipush 7, 2) := zo_16 (by decide +kernel)
theorem dX12_walksFar_17 : decode cX12_walksFar 17 = .ok (.if_icmp .ge 17, 3) := zo_162 (by decide +kernel)
theorem dX12_walksFar_20 : decode cX12_walksFar 20 = .ok (.aload_n 0, 1) := zo_42 (by decide +kernel)
theorem dX12_walksFar_21 : decode cX12_walksFar 21 = .ok (.getfield 44, 3) := zo_180 (by decide +kernel)
theorem dX12_walksFar_24 : decode cX12_walksFar 24 = .ok (.iload 4, 2) := zo_21 (by decide +kernel)
theorem dX12_walksFar_26 : decode cX12_walksFar 26 = .ok (.iconst 0, 1) := zo_3 (by decide +kernel)
theorem dX12_walksFar_27 : decode cX12_walksFar 27 = .ok (.iastore, 1) := zo_79 (by decide +kernel)
theorem dX12_walksFar_28 : decode cX12_walksFar 28 = .ok (.iinc 4 1, 3) := zo_132 (by decide +kernel)
theorem dX12_walksFar_31 : decode cX12_walksFar 31 = .ok (.goto (-18), 3) := zo_167 (by decide +kernel)
theorem dX12_walksFar_34 : decode cX12_walksFar 34 = .ok (.aload_n 0, 1) := zo_42 (by decide +kernel)
theorem dX12_walksFar_35 : decode cX12_walksFar 35 = .ok (.iload_n 3, 1) := zo_29 (by decide +kernel)
theorem dX12_walksFar_36 : decode cX12_walksFar 36 = .ok (.iload_n 2, 1) := zo_28 (by decide +kernel)
theorem dX12_walksFar_37 : decode cX12_walksFar 37 = .ok (.if_icmp .ne 7, 3) := zo_160 (by decide +kernel)
theorem dX12_walksFar_40 : decode cX12_walksFar 40 = .ok (.iconst 0, 1) := zo_3 (by decide +kernel)
theorem dX12_walksFar_41 : decode cX12_walksFar 41 = .ok (.goto 4, 3) := zo_167 (by decide +kernel)
theorem dX12_walksFar_44 : decode cX12_walksFar 44 = .ok (.iconst (-1), 1) := zo_2 (by decide +kernel)
theorem dX12_walksFar_45 : decode cX12_walksFar 45 = .ok (.putfield 284, 3) := zo_181 (by decide +kernel)
theorem dX12_walksFar_48 : decode cX12_walksFar 48 = .ok (.aload_n 0, 1) := zo_42 (by decide +kernel)
theorem dX12_walksFar_49 : decode cX12_walksFar 49 = .ok (.iconst (-1), 1) := zo_2 (by decide +kernel)
theorem dX12_walksFar_50 : decode cX12_walksFar 50 = .ok (.putfield 287, 3) := zo_181 (by decide +kernel)
theorem dX12_walksFar_53 : decode cX12_walksFar 53 = .ok (.aload_n 0, 1) := zo_42 (by decide +kernel)
theorem dX12_walksFar_54 : decode cX12_walksFar 54 = .ok (.iload_n 1, 1) := zo_27 (by decide +kernel)
theorem dX12_walksFar_55 : decode cX12_walksFar 55 = .ok (.invokevirtual 211, 3) := zo_182 (by decide +kernel)
theorem dX12_walksFar_58 : decode cX12_walksFar 58 = .ok (.iload_n 1, 1) := zo_27 (by decide +kernel)
theorem dX12_walksFar_59 : decode cX12_walksFar 59 = .ok (.istore 4, 2) := zo_54 (by decide +kernel)
theorem dX12_walksFar_61 : decode cX12_walksFar 61 = .ok (.aload_n 0, 1) := zo_42 (by decide +kernel)
theorem dX12_walksFar_62 : decode cX12_walksFar 62 = .ok (.getfield 208, 3) := zo_180 (by decide +kernel)
theorem dX12_walksFar_65 : decode cX12_walksFar 65 = .ok (.sipush 499, 3) := zo_17 (by decide +kernel)
theorem dX12_walksFar_68 : decode cX12_walksFar 68 = .ok (.if_icmp .ge 92, 3) := zo_162 (by decide +kernel)
theorem dX12_walksFar_71 : decode cX12_walksFar 71 = .ok (.aload_n 0, 1) := zo_42 (by decide +kernel)
theorem dX12_walksFar_72 : decode cX12_walksFar 72 = .ok (.invokevirtual 214, 3) := zo_182 (by decide +kernel)
theorem dX12_walksFar_75 : decode cX12_walksFar 75 = .ok (.ifCond .eq 85, 3) := zo_153 (by decide +kernel)
theorem dX12_walksFar_78 : decode cX12_walksFar 78 = .ok (.aload_n 0, 1) := zo_42 (by decide +kernel)
theorem dX12_walksFar_79 : decode cX12_walksFar 79 = .ok (.getfield 44, 3) := zo_180 (by decide +kernel)
theorem dX12_walksFar_82 : decode cX12_walksFar 82 = .ok (.iload 4, 2) := zo_21 (by decide +kernel)
theorem dX12_walksFar_84 : decode cX12_walksFar 84 = .ok (.dup2, 1) := zo_92 (by decide +kernel)
theorem dX12_walksFar_85 : decode cX12_walksFar 85 = .ok (.iaload, 1) := zo_46 (by decide +kernel)
theorem dX12_walksFar_86 : decode cX12_walksFar 86 = .ok (.iconst 1, 1) := zo_4 (by decide +kernel)
theorem dX12_walksFar_87 : decode cX12_walksFar 87 = .ok (.aload_n 0, 1) := zo_42 (by decide +kernel)
theorem dX12_walksFar_88 : decode cX12_walksFar 88 = .ok (.getfield 20, 3) := zo_180 (by decide +kernel)
theorem dX12_walksFar_91 : decode cX12_walksFar 91 = .ok (.iload 4, 2) := zo_21 (by decide +kernel)
theorem dX12_walksFar_93 : decode cX12_walksFar 93 = .ok (.iaload, 1) := zo_46 (by decide +kernel)
theorem dX12_walksFar_94 : decode cX12_walksFar 94 = .ok (.ishl, 1) := zo_120 (by decide +kernel)
theorem dX12_walksFar_95 : decode cX12_walksFar 95 = .ok (.ior, 1) := zo_128 (by decide +kernel)
theorem dX12_walksFar_96 : decode cX12_walksFar 96 = .ok (.iastore, 1) := zo_79 (by decide +kernel)
theorem dX12_walksFar_97 : decode cX12_walksFar 97 = .ok (.iload_n 3, 1) := zo_29 (by decide +kernel)
theorem dX12_walksFar_98 : decode cX12_walksFar 98 = .ok (.iconst 1, 1) := zo_4 (by decide +kernel)
theorem dX12_walksFar_99 : decode cX12_walksFar 99 = .ok (.aload_n 0, 1) := zo_42 (by decide +kernel)
theorem dX12_walksFar_100 : decode cX12_walksFar 100 = .ok (.getfield 202, 3) := zo_180 (by decide +kernel)
theorem dX12_walksFar_103 : decode cX12_walksFar 103 = .ok (.ishl, 1) := zo_120 (by decide +kernel)
theorem dX12_walksFar_104 : decode cX12_walksFar 104 = .ok (.ior, 1) := zo_128 (by decide +kernel)
theorem dX12_walksFar_105 : decode cX12_walksFar 105 = .ok (.istore_n 3, 1) := zo_62 (by decide +kernel)
theorem dX12_walksFar_106 : decode cX12_walksFar 106 = .ok (.aload_n 0, 1) := zo_42 (by decide +kernel)
theorem dX12_walksFar_107 : decode cX12_walksFar 107 = .ok (.getfield 284, 3) := zo_180 (by decide +kernel)
theorem dX12_walksFar_110 : decode cX12_walksFar 110 = .ok (.iconst (-1), 1) := zo_2 (by decide +kernel)
theorem dX12_walksFar_111 : decode cX12_walksFar 111 = .ok (.if_icmp .ne 16, 3) := zo_160 (by decide +kernel)
theorem dX12_walksFar_114 : decode cX12_walksFar 114 = .ok (.iload_n 3, 1) := zo_29 (by decide +kernel)
theorem dX12_walksFar_115 : decode cX12_walksFar 115 = .ok (.iload_n 2, 1) := zo_28 (by decide +kernel)
theorem dX12_walksFar_116 : decode cX12_walksFar 116 = .ok (.if_icmp .ne 11, 3) := zo_160 (by decide +kernel)
theorem dX12_walksFar_119 : decode cX12_walksFar 119 = .ok (.aload_n 0, 1) := zo_42 (by decide +kernel)
theorem dX12_walksFar_120 : decode cX12_walksFar 120 = .ok (.aload_n 0, 1) := zo_42 (by decide +kernel)
theorem dX12_walksFar_121 : decode cX12_walksFar 121 = .ok (.getfield 208, 3) := zo_180 (by decide +kernel)
theorem dX12_walksFar_124 : decode cX12_walksFar 124 = .ok (.putfield 284, 3) := zo_181 (by decide +kernel)
theorem dX12_walksFar_127 : decode cX12_walksFar 127 = .ok (.aload_n 0, 1) := zo_42 (by decide +kernel)
theorem dX12_walksFar_128 : decode cX12_walksFar 128 = .ok (.getfield 287, 3) := zo_180 (by decide +kernel)
theorem dX12_walksFar_131 : decode cX12_walksFar 131 = .ok (.iconst (-1), 1) := zo_2 (by decide +kernel)
theorem dX12_walksFar_132 : decode cX12_walksFar 132 = .ok (.if_icmp .ne 19, 3) := zo_160 (by decide +kernel)
theorem dX12_walksFar_135 : decode cX12_walksFar 135 = .ok (.aload_n 0, 1) := zo_42 (by decide +kernel)
theorem dX12_walksFar_136 : decode cX12_walksFar 136 = .ok (.getfield 202, 3) := zo_180 (by decide +kernel)
theorem dX12_walksFar_139 : decode cX12_walksFar 139 = .ok (.iload_n 1, 1) := zo_27 (by decide +kernel)
theorem dX12_walksFar_140 : decode cX12_walksFar 140 = .ok (.if_icmp .ne 11, 3) := zo_160 (by decide +kernel)
theorem dX12_walksFar_143 : decode cX12_walksFar 143 = .ok (.aload_n 0, 1) := zo_42 (by decide +kernel)
theorem dX12_walksFar_144 : decode cX12_walksFar 144 = .ok (.aload_n 0, 1) := zo_42 (by decide +kernel)
theorem dX12_walksFar_145 : decode cX12_walksFar 145 = .ok (.getfield 208, 3) := zo_180 (by decide +kernel)
theorem dX12_walksFar_148 : decode cX12_walksFar 148 = .ok (.putfield 287, 3) := zo_181 (by decide +kernel)
theorem dX12_walksFar_151 : decode cX12_walksFar 151 = .ok (.aload_n 0, 1) := zo_42 (by decide +kernel)
theorem dX12_walksFar_152 : decode cX12_walksFar 152 = .ok (.getfield 202, 3) := zo_180 (by decide +kernel)
theorem dX12_walksFar_155 : decode cX12_walksFar 155 = .ok (.istore 4, 2) := zo_54 (by decide +kernel)
theorem dX12_walksFar_157 : decode cX12_walksFar 157 = .ok (.goto (-96), 3) := zo_167 (by decide +kernel)
theorem dX12_walksFar_160 : decode cX12_walksFar 160 = .ok (.return_, 1) := zo_177 (by decide +kernel)
theorem dX12_unusedOf_0 : decode cX12_unusedOf 0 = .ok (.iconst 0, 1) := zo_3 (by decide +kernel)
theorem dX12_unusedOf_1 : decode cX12_unusedOf 1 = .ok (.istore_n 2, 1) := zo_61 (by decide +kernel)
theorem dX12_unusedOf_2 : decode cX12_unusedOf 2 = .ok (.iconst 0, 1) := zo_3 (by decide +kernel)
theorem dX12_unusedOf_3 : decode cX12_unusedOf 3 = .ok (.istore_n 3, 1) := zo_62 (by decide +kernel)
theorem dX12_unusedOf_4 : decode cX12_unusedOf 4 = .ok (.iload_n 3, 1) := zo_29 (by decide +kernel)
theorem dX12_unusedOf_5 : decode cX12_unusedOf 5 = .ok (.aload_n 0, 1) := zo_42 (by decide +kernel)
theorem dX12_unusedOf_6 : decode cX12_unusedOf 6 = .ok (.getfield 169, 3) := zo_180 (by decide +kernel)
theorem dX12_unusedOf_9 : decode cX12_unusedOf 9 = .ok (.if_icmp .ge 59, 3) := zo_162 (by decide +kernel)
theorem dX12_unusedOf_12 : decode cX12_unusedOf 12 = .ok (.iconst 0, 1) := zo_3 (by decide +kernel)
theorem dX12_unusedOf_13 : decode cX12_unusedOf 13 = .ok (.istore 4, 2) := zo_54 (by decide +kernel)
theorem dX12_unusedOf_15 : decode cX12_unusedOf 15 = .ok (.iload 4, 2) := zo_21 (by decide +kernel)
theorem dX12_unusedOf_17 : decode cX12_unusedOf 17 = .ok (.aload_n 0, 1) := zo_42 (by decide +kernel)
theorem dX12_unusedOf_18 : decode cX12_unusedOf 18 = .ok (.iload_n 3, 1) := zo_29 (by decide +kernel)
theorem dX12_unusedOf_19 : decode cX12_unusedOf 19 = .ok (.invokevirtual 255, 3) := zo_182 (by decide +kernel)
theorem dX12_unusedOf_22 : decode cX12_unusedOf 22 = .ok (.if_icmp .ge 40, 3) := zo_162 (by decide +kernel)
theorem dX12_unusedOf_25 : decode cX12_unusedOf 25 = .ok (.iload_n 2, 1) := zo_28 (by decide +kernel)
theorem dX12_unusedOf_26 : decode cX12_unusedOf 26 = .ok (.iload_n 1, 1) := zo_27 (by decide +kernel)
theorem dX12_unusedOf_27 : decode cX12_unusedOf 27 = .ok (.iload_n 3, 1) := zo_29 (by decide +kernel)
theorem dX12_unusedOf_28 : decode cX12_unusedOf 28 = .ok (.ishr, 1) := zo_122 (by decide +kernel)
theorem dX12_unusedOf_29 : decode cX12_unusedOf 29 = .ok (.iconst 1, 1) := zo_4 (by decide +kernel)
theorem dX12_unusedOf_30 : decode cX12_unusedOf 30 = .ok (.iand, 1) := zo_126 (by decide +kernel)
theorem dX12_unusedOf_31 : decode cX12_unusedOf 31 = .ok (.iconst 1, 1) := zo_4 (by decide +kernel)
theorem dX12_unusedOf_32 : decode cX12_unusedOf 32 = .ok (.if_icmp .ne 21, 3) := zo_160 (by decide +kernel)
theorem dX12_unusedOf_35 : decode cX12_unusedOf 35 = .ok (.aload_n 0, 1) := zo_42 (by decide +kernel)
theorem dX12_unusedOf_36 : decode cX12_unusedOf 36 = .ok (.getfield 44, 3) := zo_180 (by decide +kernel)
theorem dX12_unusedOf_39 : decode cX12_unusedOf 39 = .ok (.iload_n 3, 1) := zo_29 (by decide +kernel)
theorem dX12_unusedOf_40 : decode cX12_unusedOf 40 = .ok (.iaload, 1) := zo_46 (by decide +kernel)
theorem dX12_unusedOf_41 : decode cX12_unusedOf 41 = .ok (.iload 4, 2) := zo_21 (by decide +kernel)
theorem dX12_unusedOf_43 : decode cX12_unusedOf 43 = .ok (.ishr, 1) := zo_122 (by decide +kernel)
theorem dX12_unusedOf_44 : decode cX12_unusedOf 44 = .ok (.iconst 1, 1) := zo_4 (by decide +kernel)
theorem dX12_unusedOf_45 : decode cX12_unusedOf 45 = .ok (.iand, 1) := zo_126 (by decide +kernel)
theorem dX12_unusedOf_46 : decode cX12_unusedOf 46 = .ok (.ifCond .ne 7, 3) := zo_154 (by decide +kernel)
theorem dX12_unusedOf_49 : decode cX12_unusedOf 49 = .ok (.iconst 1, 1) := zo_4 (by decide +kernel)
theorem dX12_unusedOf_50 : decode cX12_unusedOf 50 = .ok (.goto 4, 3) := zo_167 (by decide +kernel)
theorem dX12_unusedOf_53 : decode cX12_unusedOf 53 = .ok (.iconst 0, 1) := zo_3 (by decide +kernel)
theorem dX12_unusedOf_54 : decode cX12_unusedOf 54 = .ok (.iadd, 1) := zo_96 (by decide +kernel)
theorem dX12_unusedOf_55 : decode cX12_unusedOf 55 = .ok (.istore_n 2, 1) := zo_61 (by decide +kernel)
theorem dX12_unusedOf_56 : decode cX12_unusedOf 56 = .ok (.iinc 4 1, 3) := zo_132 (by decide +kernel)
theorem dX12_unusedOf_59 : decode cX12_unusedOf 59 = .ok (.goto (-44), 3) := zo_167 (by decide +kernel)
theorem dX12_unusedOf_62 : decode cX12_unusedOf 62 = .ok (.iinc 3 1, 3) := zo_132 (by decide +kernel)
theorem dX12_unusedOf_65 : decode cX12_unusedOf 65 = .ok (.goto (-61), 3) := zo_167 (by decide +kernel)
theorem dX12_unusedOf_68 : decode cX12_unusedOf 68 = .ok (.iload_n 2, 1) := zo_28 (by decide +kernel)
theorem dX12_unusedOf_69 : decode cX12_unusedOf 69 = .ok (.ireturn, 1) := zo_172 (by decide +kernel)
theorem dX12_roundOf_0 : decode cX12_roundOf 0 = .ok (.aload_n 0, 1) := zo_42 (by decide +kernel)
theorem dX12_roundOf_1 : decode cX12_roundOf 1 = .ok (.getfield 208, 3) := zo_180 (by decide +kernel)
theorem dX12_roundOf_4 : decode cX12_roundOf 4 = .ok (.sipush 499, 3) := zo_17 (by decide +kernel)
theorem dX12_roundOf_7 : decode cX12_roundOf 7 = .ok (.if_icmp .lt 14, 3) := zo_161 (by decide +kernel)
theorem dX12_roundOf_10 : decode cX12_roundOf 10 = .ok (.aload_n 0, 1) := zo_42 (by decide +kernel)
theorem dX12_roundOf_11 : decode cX12_roundOf 11 = .ok (.aload_n 0, 1) := zo_42 (by decide +kernel)
theorem dX12_roundOf_12 : decode cX12_roundOf 12 = .ok (.getfield 202, 3) := zo_180 (by decide +kernel)
theorem dX12_roundOf_15 : decode cX12_roundOf 15 = .ok (.invokevirtual 178, 3) := zo_182 (by decide +kernel)
theorem dX12_roundOf_18 : decode cX12_roundOf 18 = .ok (.ifCond .eq 5, 3) := zo_153 (by decide +kernel)
theorem dX12_roundOf_21 : decode cX12_roundOf 21 = .ok (.iconst (-1), 1) := zo_2 (by decide +kernel)
theorem dX12_roundOf_22 : decode cX12_roundOf 22 = .ok (.ireturn, 1) := zo_172 (by decide +kernel)
theorem dX12_roundOf_23 : decode cX12_roundOf 23 = .ok (.aload_n 0, 1) := zo_42 (by decide +kernel)
theorem dX12_roundOf_24 : decode cX12_roundOf 24 = .ok (.getfield 202, 3) := zo_180 (by decide +kernel)
theorem dX12_roundOf_27 : decode cX12_roundOf 27 = .ok (.istore_n 1, 1) := zo_60 (by decide +kernel)
theorem dX12_roundOf_28 : decode cX12_roundOf 28 = .ok (.aload_n 0, 1) := zo_42 (by decide +kernel)
theorem dX12_roundOf_29 : decode cX12_roundOf 29 = .ok (.invokevirtual 220, 3) := zo_182 (by decide +kernel)
theorem dX12_roundOf_32 : decode cX12_roundOf 32 = .ok (.istore_n 2, 1) := zo_61 (by decide +kernel)
theorem dX12_roundOf_33 : decode cX12_roundOf 33 = .ok (.iconst 1, 1) := zo_4 (by decide +kernel)
theorem dX12_roundOf_34 : decode cX12_roundOf 34 = .ok (.istore_n 3, 1) := zo_62 (by decide +kernel)
theorem dX12_roundOf_35 : decode cX12_roundOf 35 = .ok (.iload_n 3, 1) := zo_29 (by decide +kernel)
theorem dX12_roundOf_36 : decode cX12_roundOf 36 = .ok (.sipush 1000, 3) := zo_17 (by decide +kernel)
theorem dX12_roundOf_39 : decode cX12_roundOf 39 = .ok (.if_icmp .ge 32, 3) := zo_162 (by decide +kernel)
theorem dX12_roundOf_42 : decode cX12_roundOf 42 = .ok (.aload_n 0, 1) := zo_42 (by decide +kernel)
theorem dX12_roundOf_43 : decode cX12_roundOf 43 = .ok (.invokevirtual 214, 3) := zo_182 (by decide +kernel)
theorem dX12_roundOf_46 : decode cX12_roundOf 46 = .ok (.pop, 1) := zo_87 (by decide +kernel)
theorem dX12_roundOf_47 : decode cX12_roundOf 47 = .ok (.aload_n 0, 1) := zo_42 (by decide +kernel)
theorem dX12_roundOf_48 : decode cX12_roundOf 48 = .ok (.getfield 202, 3) := zo_180 (by decide +kernel)
theorem dX12_roundOf_51 : decode cX12_roundOf 51 = .ok (.iload_n 1, 1) := zo_27 (by decide +kernel)
theorem dX12_roundOf_52 : decode cX12_roundOf 52 = .ok (.if_icmp .ne 13, 3) := zo_160 (by decide +kernel)
theorem dX12_roundOf_55 : decode cX12_roundOf 55 = .ok (.aload_n 0, 1) := zo_42 (by decide +kernel)
theorem dX12_roundOf_56 : decode cX12_roundOf 56 = .ok (.invokevirtual 220, 3) := zo_182 (by decide +kernel)
theorem dX12_roundOf_59 : decode cX12_roundOf 59 = .ok (.iload_n 2, 1) := zo_28 (by decide +kernel)
theorem dX12_roundOf_60 : decode cX12_roundOf 60 = .ok (.if_icmp .ne 5, 3) := zo_160 (by decide +kernel)
theorem dX12_roundOf_63 : decode cX12_roundOf 63 = .ok (.iload_n 3, 1) := zo_29 (by decide +kernel)
theorem dX12_roundOf_64 : decode cX12_roundOf 64 = .ok (.ireturn, 1) := zo_172 (by decide +kernel)
theorem dX12_roundOf_65 : decode cX12_roundOf 65 = .ok (.iinc 3 1, 3) := zo_132 (by decide +kernel)
theorem dX12_roundOf_68 : decode cX12_roundOf 68 = .ok (.goto (-33), 3) := zo_167 (by decide +kernel)
theorem dX12_roundOf_71 : decode cX12_roundOf 71 = .ok (.iconst (-1), 1) := zo_2 (by decide +kernel)
theorem dX12_roundOf_72 : decode cX12_roundOf 72 = .ok (.ireturn, 1) := zo_172 (by decide +kernel)
theorem dX12_cover_0 : decode cX12_cover 0 = .ok (.aload_n 0, 1) := zo_42 (by decide +kernel)
theorem dX12_cover_1 : decode cX12_cover 1 = .ok (.iload_n 1, 1) := zo_27 (by decide +kernel)
theorem dX12_cover_2 : decode cX12_cover 2 = .ok (.invokevirtual 184, 3) := zo_182 (by decide +kernel)
theorem dX12_cover_5 : decode cX12_cover 5 = .ok (.ifCond .eq 11, 3) := zo_153 (by decide +kernel)
theorem dX12_cover_8 : decode cX12_cover 8 = .ok (.aload_n 0, 1) := zo_42 (by decide +kernel)
theorem dX12_cover_9 : decode cX12_cover 9 = .ok (.iload_n 2, 1) := zo_28 (by decide +kernel)
theorem dX12_cover_10 : decode cX12_cover 10 = .ok (.invokevirtual 187, 3) := zo_182 (by decide +kernel)
theorem dX12_cover_13 : decode cX12_cover 13 = .ok (.ifCond .ne 6, 3) := zo_154 (by decide +kernel)
theorem dX12_cover_16 : decode cX12_cover 16 = .ok (.bipush (-2), 2) := zo_16 (by decide +kernel)
theorem dX12_cover_18 : decode cX12_cover 18 = .ok (.ireturn, 1) := zo_172 (by decide +kernel)
theorem dX12_cover_19 : decode cX12_cover 19 = .ok (.aload_n 0, 1) := zo_42 (by decide +kernel)
theorem dX12_cover_20 : decode cX12_cover 20 = .ok (.invokevirtual 258, 3) := zo_182 (by decide +kernel)
theorem dX12_cover_23 : decode cX12_cover 23 = .ok (.aload_n 0, 1) := zo_42 (by decide +kernel)
theorem dX12_cover_24 : decode cX12_cover 24 = .ok (.iload_n 2, 1) := zo_28 (by decide +kernel)
theorem dX12_cover_25 : decode cX12_cover 25 = .ok (.invokevirtual 290, 3) := zo_182 (by decide +kernel)
theorem dX12_cover_28 : decode cX12_cover 28 = .ok (.iload_n 3, 1) := zo_29 (by decide +kernel)
theorem dX12_cover_29 : decode cX12_cover 29 = .ok (.tableswitch 56 0 3 #[31, 36, 41, 51], 31) := by decide +kernel
theorem dX12_cover_60 : decode cX12_cover 60 = .ok (.aload_n 0, 1) := zo_42 (by decide +kernel)
theorem dX12_cover_61 : decode cX12_cover 61 = .ok (.getfield 284, 3) := zo_180 (by decide +kernel)
theorem dX12_cover_64 : decode cX12_cover 64 = .ok (.ireturn, 1) := zo_172 (by decide +kernel)
theorem dX12_cover_65 : decode cX12_cover 65 = .ok (.aload_n 0, 1) := zo_42 (by decide +kernel)
theorem dX12_cover_66 : decode cX12_cover 66 = .ok (.getfield 287, 3) := zo_180 (by decide +kernel)
theorem dX12_cover_69 : decode cX12_cover 69 = .ok (.ireturn, 1) := zo_172 (by decide +kernel)
theorem dX12_cover_70 : decode cX12_cover 70 = .ok (.aload_n 0, 1) := zo_42 (by decide +kernel)
theorem dX12_cover_71 : decode cX12_cover 71 = .ok (.aload_n 0, 1) := zo_42 (by decide +kernel)
theorem dX12_cover_72 : decode cX12_cover 72 = .ok (.iload_n 2, 1) := zo_28 (by decide +kernel)
theorem dX12_cover_73 : decode cX12_cover 73 = .ok (.invokevirtual 261, 3) := zo_182 (by decide +kernel)
theorem dX12_cover_76 : decode cX12_cover 76 = .ok (.invokevirtual 293, 3) := zo_182 (by decide +kernel)
theorem dX12_cover_79 : decode cX12_cover 79 = .ok (.ireturn, 1) := zo_172 (by decide +kernel)
theorem dX12_cover_80 : decode cX12_cover 80 = .ok (.aload_n 0, 1) := zo_42 (by decide +kernel)
theorem dX12_cover_81 : decode cX12_cover 81 = .ok (.invokevirtual 296, 3) := zo_182 (by decide +kernel)
theorem dX12_cover_84 : decode cX12_cover 84 = .ok (.ireturn, 1) := zo_172 (by decide +kernel)
theorem dX12_cover_85 : decode cX12_cover 85 = .ok (.bipush (-2), 2) := zo_16 (by decide +kernel)
theorem dX12_cover_87 : decode cX12_cover 87 = .ok (.ireturn, 1) := zo_172 (by decide +kernel)

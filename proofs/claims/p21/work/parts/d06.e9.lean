set_option maxHeartbeats 4000000 in
set_option maxRecDepth 100000 in
/-- c_m_wordOf -/
theorem xe_wordOf (l : Launch) (T : zTy) (v : Int64) : zMi l T yX12_wordOf cX12_wordOf 2 (some .int) 3 0 0 [.long v] [] (fun (r : Int32) bs => bs = [] ∧ r = zWord v) := by
  refine zMi_of (own := RX12) (by decide) rfl (Nat.le_of_ble_eq_true rfl) ?_
  intro p e s m args below meth c A ls C hr hlocks hnm hAe G hl
  have hx := C.1
  have hb := C.2.1
  have hl : lv_has ls 2 [(0, .long v)] := hl
  refine lv_lload_n hx hb dX12_wordOf_0 rfl (lv_at hl 0 rfl) ?_
  refine lv_iconst (v := 0) hx hb dX12_wordOf_1 (by decide) ?_
  refine lv_iconst (v := 0) hx hb dX12_wordOf_2 (by decide) ?_
  refine lv_iconst (v := 0) hx hb dX12_wordOf_3 (by decide) ?_
  refine lv_iconst (v := 3) hx hb dX12_wordOf_4 (by decide) ?_
  refine lv_bipush (v := 18) hx hb dX12_wordOf_5 (by decide) ?_
  refine lv_bipush (v := 15) hx hb dX12_wordOf_7 (by decide) ?_
  refine lv_bipush (v := 19) hx hb dX12_wordOf_9 (by decide) ?_
  refine lv_bipush (v := 19) hx hb dX12_wordOf_11 (by decide) ?_
  refine z_Sl (bc := []) (br := []) (As := [.int 0, .int 0, .int 0, .int 3, .int 18, .int 15, .int 19, .int 19]) (rest := [.long v]) C G (c_m_eight l T 0 0 0 3 18 15 19 19) (kS_RX12_66 C.2.2.2.2 (Nat.le_of_ble_eq_true rfl) (Nat.le_of_ble_eq_true rfl)) [] [] rfl rfl rfl rfl hl.1 dX12_wordOf_13 (Nat.le_of_ble_eq_true rfl) (Nat.le_of_ble_eq_true rfl) (fun r_2 b1 H locs hw G => ?_)
  obtain ⟨rfl, h_1⟩ := hw
  have G : zS T A s.heap s [] _ _ := G
  subst h_1
  refine z_lcne (tgt := 22) hx hb dX12_wordOf_16 dX12_wordOf_17 (by decide) (fun c_3 => ?_) (fun c_3 => ?_)
  · have c_3n : ¬ (v = (zEight 0 0 0 3 18 15 19 19)) := c_3
    refine lv_lload_n hx hb dX12_wordOf_22 rfl (lv_at hl 0 rfl) ?_
    refine lv_bipush (v := 16) hx hb dX12_wordOf_23 (by decide) ?_
    refine lv_bipush (v := 15) hx hb dX12_wordOf_25 (by decide) ?_
    refine lv_bipush (v := 19) hx hb dX12_wordOf_27 (by decide) ?_
    refine lv_bipush (v := 20) hx hb dX12_wordOf_29 (by decide) ?_
    refine z_Sl (bc := []) (br := []) (As := [.int 16, .int 15, .int 19, .int 20]) (rest := [.long v]) C G (c_m_four l T 16 15 19 20) (kS_RX12_60 C.2.2.2.2 (Nat.le_of_ble_eq_true rfl) (Nat.le_of_ble_eq_true rfl)) [] [] rfl rfl rfl rfl hl.1 dX12_wordOf_31 (Nat.le_of_ble_eq_true rfl) (Nat.le_of_ble_eq_true rfl) (fun r_5 b1 H locs hw G => ?_)
    obtain ⟨rfl, h_4⟩ := hw
    have G : zS T A s.heap s [] _ _ := G
    subst h_4
    refine z_lcne (tgt := 40) hx hb dX12_wordOf_34 dX12_wordOf_35 (by decide) (fun c_6 => ?_) (fun c_6 => ?_)
    · have c_6n : ¬ (v = (zFour 16 15 19 20)) := c_6
      refine lv_lload_n hx hb dX12_wordOf_40 rfl (lv_at hl 0 rfl) ?_
      refine lv_iconst (v := 0) hx hb dX12_wordOf_41 (by decide) ?_
      refine lv_bipush (v := 23) hx hb dX12_wordOf_42 (by decide) ?_
      refine lv_iconst (v := 1) hx hb dX12_wordOf_44 (by decide) ?_
      refine lv_bipush (v := 12) hx hb dX12_wordOf_45 (by decide) ?_
      refine lv_bipush (v := 11) hx hb dX12_wordOf_47 (by decide) ?_
      refine lv_iconst (v := 5) hx hb dX12_wordOf_49 (by decide) ?_
      refine lv_bipush (v := 18) hx hb dX12_wordOf_50 (by decide) ?_
      refine lv_bipush (v := 19) hx hb dX12_wordOf_52 (by decide) ?_
      refine z_Sl (bc := []) (br := []) (As := [.int 0, .int 23, .int 1, .int 12, .int 11, .int 5, .int 18, .int 19]) (rest := [.long v]) C G (c_m_eight l T 0 23 1 12 11 5 18 19) (kS_RX12_66 C.2.2.2.2 (Nat.le_of_ble_eq_true rfl) (Nat.le_of_ble_eq_true rfl)) [] [] rfl rfl rfl rfl hl.1 dX12_wordOf_54 (Nat.le_of_ble_eq_true rfl) (Nat.le_of_ble_eq_true rfl) (fun r_8 b1 H locs hw G => ?_)
      obtain ⟨rfl, h_7⟩ := hw
      have G : zS T A s.heap s [] _ _ := G
      subst h_7
      refine z_lcne (tgt := 63) hx hb dX12_wordOf_57 dX12_wordOf_58 (by decide) (fun c_9 => ?_) (fun c_9 => ?_)
      · have c_9n : ¬ (v = (zEight 0 23 1 12 11 5 18 19)) := c_9
        refine lv_lload_n hx hb dX12_wordOf_63 rfl (lv_at hl 0 rfl) ?_
        refine lv_iconst (v := 0) hx hb dX12_wordOf_64 (by decide) ?_
        refine lv_bipush (v := 9) hx hb dX12_wordOf_65 (by decide) ?_
        refine lv_bipush (v := 14) hx hb dX12_wordOf_67 (by decide) ?_
        refine lv_bipush (v := 14) hx hb dX12_wordOf_69 (by decide) ?_
        refine z_Sl (bc := []) (br := []) (As := [.int 0, .int 9, .int 14, .int 14]) (rest := [.long v]) C G (c_m_four l T 0 9 14 14) (kS_RX12_60 C.2.2.2.2 (Nat.le_of_ble_eq_true rfl) (Nat.le_of_ble_eq_true rfl)) [] [] rfl rfl rfl rfl hl.1 dX12_wordOf_71 (Nat.le_of_ble_eq_true rfl) (Nat.le_of_ble_eq_true rfl) (fun r_11 b1 H locs hw G => ?_)
        obtain ⟨rfl, h_10⟩ := hw
        have G : zS T A s.heap s [] _ _ := G
        subst h_10
        refine z_lcne (tgt := 80) hx hb dX12_wordOf_74 dX12_wordOf_75 (by decide) (fun c_12 => ?_) (fun c_12 => ?_)
        · have c_12n : ¬ (v = (zFour 0 9 14 14)) := c_12
          refine lv_lload_n hx hb dX12_wordOf_80 rfl (lv_at hl 0 rfl) ?_
          refine lv_iconst (v := 0) hx hb dX12_wordOf_81 (by decide) ?_
          refine lv_iconst (v := 0) hx hb dX12_wordOf_82 (by decide) ?_
          refine lv_bipush (v := 7) hx hb dX12_wordOf_83 (by decide) ?_
          refine lv_bipush (v := 15) hx hb dX12_wordOf_85 (by decide) ?_
          refine z_Sl (bc := []) (br := []) (As := [.int 0, .int 0, .int 7, .int 15]) (rest := [.long v]) C G (c_m_four l T 0 0 7 15) (kS_RX12_60 C.2.2.2.2 (Nat.le_of_ble_eq_true rfl) (Nat.le_of_ble_eq_true rfl)) [] [] rfl rfl rfl rfl hl.1 dX12_wordOf_87 (Nat.le_of_ble_eq_true rfl) (Nat.le_of_ble_eq_true rfl) (fun r_14 b1 H locs hw G => ?_)
          obtain ⟨rfl, h_13⟩ := hw
          have G : zS T A s.heap s [] _ _ := G
          subst h_13
          refine z_lcne (tgt := 96) hx hb dX12_wordOf_90 dX12_wordOf_91 (by decide) (fun c_15 => ?_) (fun c_15 => ?_)
          · have c_15n : ¬ (v = (zFour 0 0 7 15)) := c_15
            refine lv_lload_n hx hb dX12_wordOf_96 rfl (lv_at hl 0 rfl) ?_
            refine lv_iconst (v := 0) hx hb dX12_wordOf_97 (by decide) ?_
            refine lv_bipush (v := 18) hx hb dX12_wordOf_98 (by decide) ?_
            refine lv_bipush (v := 21) hx hb dX12_wordOf_100 (by decide) ?_
            refine lv_bipush (v := 14) hx hb dX12_wordOf_102 (by decide) ?_
            refine z_Sl (bc := []) (br := []) (As := [.int 0, .int 18, .int 21, .int 14]) (rest := [.long v]) C G (c_m_four l T 0 18 21 14) (kS_RX12_60 C.2.2.2.2 (Nat.le_of_ble_eq_true rfl) (Nat.le_of_ble_eq_true rfl)) [] [] rfl rfl rfl rfl hl.1 dX12_wordOf_104 (Nat.le_of_ble_eq_true rfl) (Nat.le_of_ble_eq_true rfl) (fun r_17 b1 H locs hw G => ?_)
            obtain ⟨rfl, h_16⟩ := hw
            have G : zS T A s.heap s [] _ _ := G
            subst h_16
            refine z_lcne (tgt := 114) hx hb dX12_wordOf_107 dX12_wordOf_108 (by decide) (fun c_18 => ?_) (fun c_18 => ?_)
            · have c_18n : ¬ (v = (zFour 0 18 21 14)) := c_18
              refine lv_lload_n hx hb dX12_wordOf_114 rfl (lv_at hl 0 rfl) ?_
              refine lv_bipush (v := 20) hx hb dX12_wordOf_115 (by decide) ?_
              refine lv_bipush (v := 21) hx hb dX12_wordOf_117 (by decide) ?_
              refine lv_bipush (v := 18) hx hb dX12_wordOf_119 (by decide) ?_
              refine lv_bipush (v := 14) hx hb dX12_wordOf_121 (by decide) ?_
              refine z_Sl (bc := []) (br := []) (As := [.int 20, .int 21, .int 18, .int 14]) (rest := [.long v]) C G (c_m_four l T 20 21 18 14) (kS_RX12_60 C.2.2.2.2 (Nat.le_of_ble_eq_true rfl) (Nat.le_of_ble_eq_true rfl)) [] [] rfl rfl rfl rfl hl.1 dX12_wordOf_123 (Nat.le_of_ble_eq_true rfl) (Nat.le_of_ble_eq_true rfl) (fun r_20 b1 H locs hw G => ?_)
              obtain ⟨rfl, h_19⟩ := hw
              have G : zS T A s.heap s [] _ _ := G
              subst h_19
              refine z_lcne (tgt := 133) hx hb dX12_wordOf_126 dX12_wordOf_127 (by decide) (fun c_21 => ?_) (fun c_21 => ?_)
              · have c_21n : ¬ (v = (zFour 20 21 18 14)) := c_21
                refine lv_lload_n hx hb dX12_wordOf_133 rfl (lv_at hl 0 rfl) ?_
                refine lv_iconst (v := 0) hx hb dX12_wordOf_134 (by decide) ?_
                refine lv_iconst (v := 1) hx hb dX12_wordOf_135 (by decide) ?_
                refine lv_iconst (v := 4) hx hb dX12_wordOf_136 (by decide) ?_
                refine lv_iconst (v := 4) hx hb dX12_wordOf_137 (by decide) ?_
                refine z_Sl (bc := []) (br := []) (As := [.int 0, .int 1, .int 4, .int 4]) (rest := [.long v]) C G (c_m_four l T 0 1 4 4) (kS_RX12_60 C.2.2.2.2 (Nat.le_of_ble_eq_true rfl) (Nat.le_of_ble_eq_true rfl)) [] [] rfl rfl rfl rfl hl.1 dX12_wordOf_138 (Nat.le_of_ble_eq_true rfl) (Nat.le_of_ble_eq_true rfl) (fun r_23 b1 H locs hw G => ?_)
                obtain ⟨rfl, h_22⟩ := hw
                have G : zS T A s.heap s [] _ _ := G
                subst h_22
                refine z_lcne (tgt := 148) hx hb dX12_wordOf_141 dX12_wordOf_142 (by decide) (fun c_24 => ?_) (fun c_24 => ?_)
                · have c_24n : ¬ (v = (zFour 0 1 4 4)) := c_24
                  refine lv_lload_n hx hb dX12_wordOf_148 rfl (lv_at hl 0 rfl) ?_
                  refine lv_bipush (v := 19) hx hb dX12_wordOf_149 (by decide) ?_
                  refine lv_bipush (v := 8) hx hb dX12_wordOf_151 (by decide) ?_
                  refine lv_bipush (v := 21) hx hb dX12_wordOf_153 (by decide) ?_
                  refine lv_bipush (v := 20) hx hb dX12_wordOf_155 (by decide) ?_
                  refine z_Sl (bc := []) (br := []) (As := [.int 19, .int 8, .int 21, .int 20]) (rest := [.long v]) C G (c_m_four l T 19 8 21 20) (kS_RX12_60 C.2.2.2.2 (Nat.le_of_ble_eq_true rfl) (Nat.le_of_ble_eq_true rfl)) [] [] rfl rfl rfl rfl hl.1 dX12_wordOf_157 (Nat.le_of_ble_eq_true rfl) (Nat.le_of_ble_eq_true rfl) (fun r_26 b1 H locs hw G => ?_)
                  obtain ⟨rfl, h_25⟩ := hw
                  have G : zS T A s.heap s [] _ _ := G
                  subst h_25
                  refine z_lcne (tgt := 167) hx hb dX12_wordOf_160 dX12_wordOf_161 (by decide) (fun c_27 => ?_) (fun c_27 => ?_)
                  · have c_27n : ¬ (v = (zFour 19 8 21 20)) := c_27
                    refine lv_lload_n hx hb dX12_wordOf_167 rfl (lv_at hl 0 rfl) ?_
                    refine lv_bipush (v := 15) hx hb dX12_wordOf_168 (by decide) ?_
                    refine lv_bipush (v := 16) hx hb dX12_wordOf_170 (by decide) ?_
                    refine lv_iconst (v := 5) hx hb dX12_wordOf_172 (by decide) ?_
                    refine lv_bipush (v := 14) hx hb dX12_wordOf_173 (by decide) ?_
                    refine z_Sl (bc := []) (br := []) (As := [.int 15, .int 16, .int 5, .int 14]) (rest := [.long v]) C G (c_m_four l T 15 16 5 14) (kS_RX12_60 C.2.2.2.2 (Nat.le_of_ble_eq_true rfl) (Nat.le_of_ble_eq_true rfl)) [] [] rfl rfl rfl rfl hl.1 dX12_wordOf_175 (Nat.le_of_ble_eq_true rfl) (Nat.le_of_ble_eq_true rfl) (fun r_29 b1 H locs hw G => ?_)
                    obtain ⟨rfl, h_28⟩ := hw
                    have G : zS T A s.heap s [] _ _ := G
                    subst h_28
                    refine z_lcne (tgt := 185) hx hb dX12_wordOf_178 dX12_wordOf_179 (by decide) (fun c_30 => ?_) (fun c_30 => ?_)
                    · have c_30n : ¬ (v = (zFour 15 16 5 14)) := c_30
                      refine lv_lload_n hx hb dX12_wordOf_185 rfl (lv_at hl 0 rfl) ?_
                      refine lv_iconst (v := 3) hx hb dX12_wordOf_186 (by decide) ?_
                      refine lv_iconst (v := 1) hx hb dX12_wordOf_187 (by decide) ?_
                      refine lv_bipush (v := 13) hx hb dX12_wordOf_188 (by decide) ?_
                      refine lv_iconst (v := 5) hx hb dX12_wordOf_190 (by decide) ?_
                      refine z_Sl (bc := []) (br := []) (As := [.int 3, .int 1, .int 13, .int 5]) (rest := [.long v]) C G (c_m_four l T 3 1 13 5) (kS_RX12_60 C.2.2.2.2 (Nat.le_of_ble_eq_true rfl) (Nat.le_of_ble_eq_true rfl)) [] [] rfl rfl rfl rfl hl.1 dX12_wordOf_191 (Nat.le_of_ble_eq_true rfl) (Nat.le_of_ble_eq_true rfl) (fun r_32 b1 H locs hw G => ?_)
                      obtain ⟨rfl, h_31⟩ := hw
                      have G : zS T A s.heap s [] _ _ := G
                      subst h_31
                      refine z_lcne (tgt := 201) hx hb dX12_wordOf_194 dX12_wordOf_195 (by decide) (fun c_33 => ?_) (fun c_33 => ?_)
                      · have c_33n : ¬ (v = (zFour 3 1 13 5)) := c_33
                        refine lv_lload_n hx hb dX12_wordOf_201 rfl (lv_at hl 0 rfl) ?_
                        refine lv_iconst (v := 0) hx hb dX12_wordOf_202 (by decide) ?_
                        refine lv_iconst (v := 0) hx hb dX12_wordOf_203 (by decide) ?_
                        refine lv_iconst (v := 0) hx hb dX12_wordOf_204 (by decide) ?_
                        refine lv_bipush (v := 14) hx hb dX12_wordOf_205 (by decide) ?_
                        refine lv_iconst (v := 5) hx hb dX12_wordOf_207 (by decide) ?_
                        refine lv_bipush (v := 22) hx hb dX12_wordOf_208 (by decide) ?_
                        refine lv_iconst (v := 5) hx hb dX12_wordOf_210 (by decide) ?_
                        refine lv_bipush (v := 18) hx hb dX12_wordOf_211 (by decide) ?_
                        refine z_Sl (bc := []) (br := []) (As := [.int 0, .int 0, .int 0, .int 14, .int 5, .int 22, .int 5, .int 18]) (rest := [.long v]) C G (c_m_eight l T 0 0 0 14 5 22 5 18) (kS_RX12_66 C.2.2.2.2 (Nat.le_of_ble_eq_true rfl) (Nat.le_of_ble_eq_true rfl)) [] [] rfl rfl rfl rfl hl.1 dX12_wordOf_213 (Nat.le_of_ble_eq_true rfl) (Nat.le_of_ble_eq_true rfl) (fun r_35 b1 H locs hw G => ?_)
                        obtain ⟨rfl, h_34⟩ := hw
                        have G : zS T A s.heap s [] _ _ := G
                        subst h_34
                        refine z_lcne (tgt := 225) hx hb dX12_wordOf_216 dX12_wordOf_217 (by decide) (fun c_36 => ?_) (fun c_36 => ?_)
                        · have c_36n : ¬ (v = (zEight 0 0 0 14 5 22 5 18)) := c_36
                          refine lv_bipush (v := 99) hx hb dX12_wordOf_225 (by decide) ?_
                          exact z_iret C hr hlocks G (Nat.le_of_ble_eq_true rfl) (Nat.le_of_ble_eq_true rfl) dX12_wordOf_227 ⟨rfl, (by unfold zWord; rw [if_neg c_3, if_neg c_6, if_neg c_9, if_neg c_12, if_neg c_15, if_neg c_18, if_neg c_21, if_neg c_24, if_neg c_27, if_neg c_30, if_neg c_33, if_neg c_36])⟩
                        · have c_36n : v = (zEight 0 0 0 14 5 22 5 18) := c_36
                          refine lv_bipush (v := 12) hx hb dX12_wordOf_220 (by decide) ?_
                          refine lv_goto (tgt := 227) hx hb dX12_wordOf_222 (by decide) ?_
                          exact z_iret C hr hlocks G (Nat.le_of_ble_eq_true rfl) (Nat.le_of_ble_eq_true rfl) dX12_wordOf_227 ⟨rfl, (by unfold zWord; rw [if_neg c_3, if_neg c_6, if_neg c_9, if_neg c_12, if_neg c_15, if_neg c_18, if_neg c_21, if_neg c_24, if_neg c_27, if_neg c_30, if_neg c_33, if_pos c_36])⟩
                      · have c_33n : v = (zFour 3 1 13 5) := c_33
                        refine lv_bipush (v := 11) hx hb dX12_wordOf_198 (by decide) ?_
                        exact z_iret C hr hlocks G (Nat.le_of_ble_eq_true rfl) (Nat.le_of_ble_eq_true rfl) dX12_wordOf_200 ⟨rfl, (by unfold zWord; rw [if_neg c_3, if_neg c_6, if_neg c_9, if_neg c_12, if_neg c_15, if_neg c_18, if_neg c_21, if_neg c_24, if_neg c_27, if_neg c_30, if_pos c_33])⟩
                    · have c_30n : v = (zFour 15 16 5 14) := c_30
                      refine lv_bipush (v := 10) hx hb dX12_wordOf_182 (by decide) ?_
                      exact z_iret C hr hlocks G (Nat.le_of_ble_eq_true rfl) (Nat.le_of_ble_eq_true rfl) dX12_wordOf_184 ⟨rfl, (by unfold zWord; rw [if_neg c_3, if_neg c_6, if_neg c_9, if_neg c_12, if_neg c_15, if_neg c_18, if_neg c_21, if_neg c_24, if_neg c_27, if_pos c_30])⟩
                  · have c_27n : v = (zFour 19 8 21 20) := c_27
                    refine lv_bipush (v := 9) hx hb dX12_wordOf_164 (by decide) ?_
                    exact z_iret C hr hlocks G (Nat.le_of_ble_eq_true rfl) (Nat.le_of_ble_eq_true rfl) dX12_wordOf_166 ⟨rfl, (by unfold zWord; rw [if_neg c_3, if_neg c_6, if_neg c_9, if_neg c_12, if_neg c_15, if_neg c_18, if_neg c_21, if_neg c_24, if_pos c_27])⟩
                · have c_24n : v = (zFour 0 1 4 4) := c_24
                  refine lv_bipush (v := 8) hx hb dX12_wordOf_145 (by decide) ?_
                  exact z_iret C hr hlocks G (Nat.le_of_ble_eq_true rfl) (Nat.le_of_ble_eq_true rfl) dX12_wordOf_147 ⟨rfl, (by unfold zWord; rw [if_neg c_3, if_neg c_6, if_neg c_9, if_neg c_12, if_neg c_15, if_neg c_18, if_neg c_21, if_pos c_24])⟩
              · have c_21n : v = (zFour 20 21 18 14) := c_21
                refine lv_bipush (v := 7) hx hb dX12_wordOf_130 (by decide) ?_
                exact z_iret C hr hlocks G (Nat.le_of_ble_eq_true rfl) (Nat.le_of_ble_eq_true rfl) dX12_wordOf_132 ⟨rfl, (by unfold zWord; rw [if_neg c_3, if_neg c_6, if_neg c_9, if_neg c_12, if_neg c_15, if_neg c_18, if_pos c_21])⟩
            · have c_18n : v = (zFour 0 18 21 14) := c_18
              refine lv_bipush (v := 6) hx hb dX12_wordOf_111 (by decide) ?_
              exact z_iret C hr hlocks G (Nat.le_of_ble_eq_true rfl) (Nat.le_of_ble_eq_true rfl) dX12_wordOf_113 ⟨rfl, (by unfold zWord; rw [if_neg c_3, if_neg c_6, if_neg c_9, if_neg c_12, if_neg c_15, if_pos c_18])⟩
          · have c_15n : v = (zFour 0 0 7 15) := c_15
            refine lv_iconst (v := 5) hx hb dX12_wordOf_94 (by decide) ?_
            exact z_iret C hr hlocks G (Nat.le_of_ble_eq_true rfl) (Nat.le_of_ble_eq_true rfl) dX12_wordOf_95 ⟨rfl, (by unfold zWord; rw [if_neg c_3, if_neg c_6, if_neg c_9, if_neg c_12, if_pos c_15])⟩
        · have c_12n : v = (zFour 0 9 14 14) := c_12
          refine lv_iconst (v := 4) hx hb dX12_wordOf_78 (by decide) ?_
          exact z_iret C hr hlocks G (Nat.le_of_ble_eq_true rfl) (Nat.le_of_ble_eq_true rfl) dX12_wordOf_79 ⟨rfl, (by unfold zWord; rw [if_neg c_3, if_neg c_6, if_neg c_9, if_pos c_12])⟩
      · have c_9n : v = (zEight 0 23 1 12 11 5 18 19) := c_9
        refine lv_iconst (v := 3) hx hb dX12_wordOf_61 (by decide) ?_
        exact z_iret C hr hlocks G (Nat.le_of_ble_eq_true rfl) (Nat.le_of_ble_eq_true rfl) dX12_wordOf_62 ⟨rfl, (by unfold zWord; rw [if_neg c_3, if_neg c_6, if_pos c_9])⟩
    · have c_6n : v = (zFour 16 15 19 20) := c_6
      refine lv_iconst (v := 2) hx hb dX12_wordOf_38 (by decide) ?_
      exact z_iret C hr hlocks G (Nat.le_of_ble_eq_true rfl) (Nat.le_of_ble_eq_true rfl) dX12_wordOf_39 ⟨rfl, (by unfold zWord; rw [if_neg c_3, if_pos c_6])⟩
  · have c_3n : v = (zEight 0 0 0 3 18 15 19 19) := c_3
    refine lv_iconst (v := 1) hx hb dX12_wordOf_20 (by decide) ?_
    exact z_iret C hr hlocks G (Nat.le_of_ble_eq_true rfl) (Nat.le_of_ble_eq_true rfl) dX12_wordOf_21 ⟨rfl, (by unfold zWord; rw [if_pos c_3])⟩

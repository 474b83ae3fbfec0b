theorem m_ml_RX12_1 : Cond.methodLink RX12 1 objectInit ∈ zT := zmem1 zsub_5 234 rfl rfl
theorem m_fl_RX12_7 : Cond.fieldLink RX12 7 (TX12 0).1 (TX12 0).2.1 (TX12 0).2.2.1 ∈ zT := zmem1 zsub_5 235 rfl rfl
theorem m_fl_RX12_13 : Cond.fieldLink RX12 13 (TX12 1).1 (TX12 1).2.1 (TX12 1).2.2.1 ∈ zT := zmem1 zsub_5 236 rfl rfl
theorem m_fl_RX12_17 : Cond.fieldLink RX12 17 (TX12 10).1 (TX12 10).2.1 (TX12 10).2.2.1 ∈ zT := zmem1 zsub_6 5 rfl rfl
theorem m_fl_RX12_20 : Cond.fieldLink RX12 20 (TX12 14).1 (TX12 14).2.1 (TX12 14).2.2.1 ∈ zT := zmem1 zsub_6 9 rfl rfl
theorem m_fl_RX12_23 : Cond.fieldLink RX12 23 (TX12 15).1 (TX12 15).2.1 (TX12 15).2.2.1 ∈ zT := zmem1 zsub_6 10 rfl rfl
theorem m_fl_RX12_26 : Cond.fieldLink RX12 26 (TX12 16).1 (TX12 16).2.1 (TX12 16).2.2.1 ∈ zT := zmem1 zsub_6 11 rfl rfl
theorem m_fl_RX12_29 : Cond.fieldLink RX12 29 (TX12 21).1 (TX12 21).2.1 (TX12 21).2.2.1 ∈ zT := zmem1 zsub_6 16 rfl rfl
theorem m_fl_RX12_32 : Cond.fieldLink RX12 32 (TX12 22).1 (TX12 22).2.1 (TX12 22).2.2.1 ∈ zT := zmem1 zsub_6 17 rfl rfl
theorem m_fl_RX12_35 : Cond.fieldLink RX12 35 (TX12 23).1 (TX12 23).2.1 (TX12 23).2.2.1 ∈ zT := zmem1 zsub_6 18 rfl rfl
theorem m_fl_RX12_38 : Cond.fieldLink RX12 38 (TX12 24).1 (TX12 24).2.1 (TX12 24).2.2.1 ∈ zT := zmem1 zsub_6 19 rfl rfl
theorem m_fl_RX12_41 : Cond.fieldLink RX12 41 (TX12 25).1 (TX12 25).2.1 (TX12 25).2.2.1 ∈ zT := zmem1 zsub_6 20 rfl rfl
theorem m_fl_RX12_44 : Cond.fieldLink RX12 44 (TX12 26).1 (TX12 26).2.1 (TX12 26).2.2.1 ∈ zT := zmem1 zsub_6 21 rfl rfl
theorem m_fl_RX12_47 : Cond.fieldLink RX12 47 (TX12 39).1 (TX12 39).2.1 (TX12 39).2.2.1 ∈ zT := zmem1 zsub_6 34 rfl rfl
theorem m_fl_RX12_50 : Cond.fieldLink RX12 50 (TX12 40).1 (TX12 40).2.1 (TX12 40).2.2.1 ∈ zT := zmem1 zsub_6 35 rfl rfl
theorem m_fl_RX12_53 : Cond.fieldLink RX12 53 (TX12 41).1 (TX12 41).2.1 (TX12 41).2.2.1 ∈ zT := zmem1 zsub_6 36 rfl rfl
theorem dX12_init_0 : decode cX12_init 0 = .ok (.aload_n 0, 1) := zo_42 (by decide +kernel)
theorem dX12_init_1 : decode cX12_init 1 = .ok (.invokespecial 1, 3) := zo_183 (by decide +kernel)
theorem dX12_init_4 : decode cX12_init 4 = .ok (.aload_n 0, 1) := zo_42 (by decide +kernel)
theorem dX12_init_5 : decode cX12_init 5 = .ok (.sipush 3952, 3) := zo_17 (by decide +kernel)
theorem dX12_init_8 : decode cX12_init 8 = .ok (.newarray .int, 2) := by decide +kernel
theorem dX12_init_10 : decode cX12_init 10 = .ok (.putfield 7, 3) := zo_181 (by decide +kernel)
theorem dX12_init_13 : decode cX12_init 13 = .ok (.aload_n 0, 1) := zo_42 (by decide +kernel)
theorem dX12_init_14 : decode cX12_init 14 = .ok (.iconst 3, 1) := zo_6 (by decide +kernel)
theorem dX12_init_15 : decode cX12_init 15 = .ok (.newarray .boolean, 2) := by decide +kernel
theorem dX12_init_17 : decode cX12_init 17 = .ok (.putfield 13, 3) := zo_181 (by decide +kernel)
theorem dX12_init_20 : decode cX12_init 20 = .ok (.aload_n 0, 1) := zo_42 (by decide +kernel)
theorem dX12_init_21 : decode cX12_init 21 = .ok (.bipush 121, 2) := zo_16 (by decide +kernel)
theorem dX12_init_23 : decode cX12_init 23 = .ok (.newarray .int, 2) := by decide +kernel
theorem dX12_init_25 : decode cX12_init 25 = .ok (.putfield 17, 3) := zo_181 (by decide +kernel)
theorem dX12_init_28 : decode cX12_init 28 = .ok (.aload_n 0, 1) := zo_42 (by decide +kernel)
theorem dX12_init_29 : decode cX12_init 29 = .ok (.bipush 7, 2) := zo_16 (by decide +kernel)
theorem dX12_init_31 : decode cX12_init 31 = .ok (.newarray .int, 2) := by decide +kernel
theorem dX12_init_33 : decode cX12_init 33 = .ok (.putfield 20, 3) := zo_181 (by decide +kernel)
theorem dX12_init_36 : decode cX12_init 36 = .ok (.aload_n 0, 1) := zo_42 (by decide +kernel)
theorem dX12_init_37 : decode cX12_init 37 = .ok (.bipush 7, 2) := zo_16 (by decide +kernel)
theorem dX12_init_39 : decode cX12_init 39 = .ok (.newarray .int, 2) := by decide +kernel
theorem dX12_init_41 : decode cX12_init 41 = .ok (.putfield 23, 3) := zo_181 (by decide +kernel)
theorem dX12_init_44 : decode cX12_init 44 = .ok (.aload_n 0, 1) := zo_42 (by decide +kernel)
theorem dX12_init_45 : decode cX12_init 45 = .ok (.bipush 7, 2) := zo_16 (by decide +kernel)
theorem dX12_init_47 : decode cX12_init 47 = .ok (.newarray .int, 2) := by decide +kernel
theorem dX12_init_49 : decode cX12_init 49 = .ok (.putfield 26, 3) := zo_181 (by decide +kernel)
theorem dX12_init_52 : decode cX12_init 52 = .ok (.aload_n 0, 1) := zo_42 (by decide +kernel)
theorem dX12_init_53 : decode cX12_init 53 = .ok (.bipush 7, 2) := zo_16 (by decide +kernel)
theorem dX12_init_55 : decode cX12_init 55 = .ok (.newarray .int, 2) := by decide +kernel
theorem dX12_init_57 : decode cX12_init 57 = .ok (.putfield 29, 3) := zo_181 (by decide +kernel)
theorem dX12_init_60 : decode cX12_init 60 = .ok (.aload_n 0, 1) := zo_42 (by decide +kernel)
theorem dX12_init_61 : decode cX12_init 61 = .ok (.bipush 7, 2) := zo_16 (by decide +kernel)
theorem dX12_init_63 : decode cX12_init 63 = .ok (.newarray .int, 2) := by decide +kernel
theorem dX12_init_65 : decode cX12_init 65 = .ok (.putfield 32, 3) := zo_181 (by decide +kernel)
theorem dX12_init_68 : decode cX12_init 68 = .ok (.aload_n 0, 1) := zo_42 (by decide +kernel)
theorem dX12_init_69 : decode cX12_init 69 = .ok (.sipush 16384, 3) := zo_17 (by decide +kernel)
theorem dX12_init_72 : decode cX12_init 72 = .ok (.newarray .int, 2) := by decide +kernel
theorem dX12_init_74 : decode cX12_init 74 = .ok (.putfield 35, 3) := zo_181 (by decide +kernel)
theorem dX12_init_77 : decode cX12_init 77 = .ok (.aload_n 0, 1) := zo_42 (by decide +kernel)
theorem dX12_init_78 : decode cX12_init 78 = .ok (.sipush 512, 3) := zo_17 (by decide +kernel)
theorem dX12_init_81 : decode cX12_init 81 = .ok (.newarray .int, 2) := by decide +kernel
theorem dX12_init_83 : decode cX12_init 83 = .ok (.putfield 38, 3) := zo_181 (by decide +kernel)
theorem dX12_init_86 : decode cX12_init 86 = .ok (.aload_n 0, 1) := zo_42 (by decide +kernel)
theorem dX12_init_87 : decode cX12_init 87 = .ok (.bipush 49, 2) := zo_16 (by decide +kernel)
theorem dX12_init_89 : decode cX12_init 89 = .ok (.newarray .int, 2) := by decide +kernel
theorem dX12_init_91 : decode cX12_init 91 = .ok (.putfield 41, 3) := zo_181 (by decide +kernel)
theorem dX12_init_94 : decode cX12_init 94 = .ok (.aload_n 0, 1) := zo_42 (by decide +kernel)
theorem dX12_init_95 : decode cX12_init 95 = .ok (.bipush 7, 2) := zo_16 (by decide +kernel)
theorem dX12_init_97 : decode cX12_init 97 = .ok (.newarray .int, 2) := by decide +kernel
theorem dX12_init_99 : decode cX12_init 99 = .ok (.putfield 44, 3) := zo_181 (by decide +kernel)
theorem dX12_init_102 : decode cX12_init 102 = .ok (.aload_n 0, 1) := zo_42 (by decide +kernel)
theorem dX12_init_103 : decode cX12_init 103 = .ok (.bipush 28, 2) := zo_16 (by decide +kernel)
theorem dX12_init_105 : decode cX12_init 105 = .ok (.newarray .int, 2) := by decide +kernel
theorem dX12_init_107 : decode cX12_init 107 = .ok (.putfield 47, 3) := zo_181 (by decide +kernel)
theorem dX12_init_110 : decode cX12_init 110 = .ok (.aload_n 0, 1) := zo_42 (by decide +kernel)
theorem dX12_init_111 : decode cX12_init 111 = .ok (.bipush 49, 2) := zo_16 (by decide +kernel)
theorem dX12_init_113 : decode cX12_init 113 = .ok (.newarray .int, 2) := by decide +kernel
theorem dX12_init_115 : decode cX12_init 115 = .ok (.putfield 50, 3) := zo_181 (by decide +kernel)
theorem dX12_init_118 : decode cX12_init 118 = .ok (.aload_n 0, 1) := zo_42 (by decide +kernel)
theorem dX12_init_119 : decode cX12_init 119 = .ok (.bipush 7, 2) := zo_16 (by decide +kernel)
theorem dX12_init_121 : decode cX12_init 121 = .ok (.newarray .int, 2) := by decide +kernel
theorem dX12_init_123 : decode cX12_init 123 = .ok (.putfield 53, 3) := zo_181 (by decide +kernel)
theorem dX12_init_126 : decode cX12_init 126 = .ok (.aload_n 0, 1) := zo_42 (by decide +kernel)
theorem dX12_init_127 : decode cX12_init 127 = .ok (.getfield 7, 3) := zo_180 (by decide +kernel)
theorem dX12_init_130 : decode cX12_init 130 = .ok (.bipush 6, 2) := zo_16 (by decide +kernel)
theorem dX12_init_132 : decode cX12_init 132 = .ok (.iconst (-1), 1) := zo_2 (by decide +kernel)
theorem dX12_init_133 : decode cX12_init 133 = .ok (.iastore, 1) := zo_79 (by decide +kernel)
theorem dX12_init_134 : decode cX12_init 134 = .ok (.return_, 1) := zo_177 (by decide +kernel)
theorem dX12_end_0 : decode cX12_end 0 = .ok (.iload_n 1, 1) := zo_27 (by decide +kernel)
theorem dX12_end_1 : decode cX12_end 1 = .ok (.ifCond .lt 13, 3) := zo_155 (by decide +kernel)
theorem dX12_end_4 : decode cX12_end 4 = .ok (.iload_n 1, 1) := zo_27 (by decide +kernel)
theorem dX12_end_5 : decode cX12_end 5 = .ok (.aload_n 0, 1) := zo_42 (by decide +kernel)
theorem dX12_end_6 : decode cX12_end 6 = .ok (.getfield 7, 3) := zo_180 (by decide +kernel)
theorem dX12_end_9 : decode cX12_end 9 = .ok (.iconst 4, 1) := zo_7 (by decide +kernel)
theorem dX12_end_10 : decode cX12_end 10 = .ok (.iaload, 1) := zo_46 (by decide +kernel)
theorem dX12_end_11 : decode cX12_end 11 = .ok (.if_icmp .le 5, 3) := zo_164 (by decide +kernel)
theorem dX12_end_14 : decode cX12_end 14 = .ok (.iconst (-1), 1) := zo_2 (by decide +kernel)
theorem dX12_end_15 : decode cX12_end 15 = .ok (.ireturn, 1) := zo_172 (by decide +kernel)
theorem dX12_end_16 : decode cX12_end 16 = .ok (.aload_n 0, 1) := zo_42 (by decide +kernel)
theorem dX12_end_17 : decode cX12_end 17 = .ok (.getfield 7, 3) := zo_180 (by decide +kernel)
theorem dX12_end_20 : decode cX12_end 20 = .ok (.iconst 4, 1) := zo_7 (by decide +kernel)
theorem dX12_end_21 : decode cX12_end 21 = .ok (.iload_n 1, 1) := zo_27 (by decide +kernel)
theorem dX12_end_22 : decode cX12_end 22 = .ok (.iastore, 1) := zo_79 (by decide +kernel)
theorem dX12_end_23 : decode cX12_end 23 = .ok (.iload_n 1, 1) := zo_27 (by decide +kernel)
theorem dX12_end_24 : decode cX12_end 24 = .ok (.ireturn, 1) := zo_172 (by decide +kernel)
set_option maxHeartbeats 4000000 in
set_option maxRecDepth 100000 in
theorem c_m_init (l : Launch) (T : zTy) (mo : Nat) : zMv l T yX12_init cX12_init 1 2 15 21147 [.ref mo] [[(mo, .inr (11, [.null, .null, .int 0, .int 0, .int 0, .int 0, .int 0, .int 0, .int 0, .int 0, .null, .int 0, .int 0, .int 0, .null, .null, .null, .int 0, .int 0, .int 0, .int 0, .null, .null, .null, .null, .null, .null, .int 0, .int 0, .int 0, .int 0, .int 0, .int 0, .int 0, .int 0, .int 0, .int 0, .int 0, .int 0, .null, .null, .null, .int 0]))]] (fun bs => ∃ (m_all : Nat) (m_has : Nat) (m_read : Nat) (m_posts : Nat) (m_shut : Nat) (m_here : Nat) (m_was : Nat) (m_came : Nat) (m_seenAt : Nat) (m_rowWorth : Nat) (m_farBy : Nat) (m_used : Nat) (m_fitPost : Nat) (m_fitEnd : Nat) (m_keptPosts : Nat), bs = [[zO11 mo m_all m_has 0 0 0 0 0 0 0 0 m_read 0 0 0 m_posts m_shut m_here 0 0 0 0 m_was m_came m_seenAt m_rowWorth m_farBy m_used 0 0 0 0 0 0 0 0 0 0 0 0 m_fitPost m_fitEnd m_keptPosts 0], [zAr T 0 m_all 3952 (upd (fun _ => 0) 6 (-1))], [zAr T 2 m_has 3 (fun _ => 0)], [zAr T 0 m_read 121 (fun _ => 0)], [zAr T 0 m_posts 7 (fun _ => 0)], [zAr T 0 m_shut 7 (fun _ => 0)], [zAr T 0 m_here 7 (fun _ => 0)], [zAr T 0 m_was 7 (fun _ => 0)], [zAr T 0 m_came 7 (fun _ => 0)], [zAr T 0 m_seenAt 16384 (fun _ => 0)], [zAr T 0 m_rowWorth 512 (fun _ => 0)], [zAr T 0 m_farBy 49 (fun _ => 0)], [zAr T 0 m_used 7 (fun _ => 0)], [zAr T 0 m_fitPost 28 (fun _ => 0)], [zAr T 0 m_fitEnd 49 (fun _ => 0)], [zAr T 0 m_keptPosts 7 (fun _ => 0)]]) := by
  refine zMv_of (own := RX12) (by decide) rfl (Nat.le_of_ble_eq_true rfl) ?_
  intro p e s m args below meth c A ls C hr hlocks hnm hAe G hl
  refine zHide (fun Q9 hQ9 => ?_)
  have hx := C.1
  have hb := C.2.1
  have hl : lv_has ls 1 [(0, .ref mo)] := hl
  refine lv_aload_n hx hb dX12_init_0 rfl (lv_at hl 0 rfl) ?_
  refine W.objInit hx hb C.2.2.2.1 (C.2.2.2.2 _ m_ml_RX12_1) (C.2.2.2.2 _ m_im_obj) (C.2.2.2.2 _ m_co_obj) rfl (by rw [C.2.2.1]; exact hl.1) rfl dX12_init_1 (Nat.le_of_ble_eq_true rfl) (Nat.le_of_ble_eq_true rfl) ?_
  refine W.eq (g2 := F0 m 4 ls []) rfl ?_
  refine lv_aload_n hx hb dX12_init_4 rfl (lv_at hl 0 rfl) ?_
  refine lv_sipush (v := 3952) hx hb dX12_init_5 (by decide) ?_
  refine z_newa C G 0 (ty := .int) (N' := 3952) (a0 := (3952, .inl (fun _ => 0))) rfl z_uint m_ar_int rfl (fun _ => rfl) (by decide) (by decide) (Nat.le_of_ble_eq_true rfl) (Nat.le_of_ble_eq_true rfl) (Nat.le_of_ble_eq_true rfl) dX12_init_8 (fun q_1 H G => ?_)
  have G : zS T A s.heap s [[(mo, .inr (11, [.null, .null, .int 0, .int 0, .int 0, .int 0, .int 0, .int 0, .int 0, .int 0, .null, .int 0, .int 0, .int 0, .null, .null, .null, .int 0, .int 0, .int 0, .int 0, .null, .null, .null, .null, .null, .null, .int 0, .int 0, .int 0, .int 0, .int 0, .int 0, .int 0, .int 0, .int 0, .int 0, .int 0, .int 0, .null, .null, .null, .int 0]))], [zAr T 0 q_1 3952 (fun _ => 0)]] _ _ := G
  refine z_putF C G hnm clX12 0 rfl 0 (by decide) m_fl_RX12_7 rfl rfl rfl rfl (Nat.le_of_ble_eq_true rfl) dX12_init_10 (fun H locs G => ?_)
  have G : zS T A s.heap s [[(mo, .inr (11, [.ref q_1, .null, .int 0, .int 0, .int 0, .int 0, .int 0, .int 0, .int 0, .int 0, .null, .int 0, .int 0, .int 0, .null, .null, .null, .int 0, .int 0, .int 0, .int 0, .null, .null, .null, .null, .null, .null, .int 0, .int 0, .int 0, .int 0, .int 0, .int 0, .int 0, .int 0, .int 0, .int 0, .int 0, .int 0, .null, .null, .null, .int 0]))], [zAr T 0 q_1 3952 (fun _ => 0)]] _ _ := G
  refine lv_aload_n hx hb dX12_init_13 rfl (lv_at hl 0 rfl) ?_
  refine lv_iconst (v := 3) hx hb dX12_init_14 (by decide) ?_
  refine z_newa C G 2 (ty := .boolean) (N' := 3) (a0 := (3, .inl (fun _ => 0))) rfl z_uboolean m_ar_boolean rfl (fun _ => rfl) (by decide) (by decide) (Nat.le_of_ble_eq_true rfl) (Nat.le_of_ble_eq_true rfl) (Nat.le_of_ble_eq_true rfl) dX12_init_15 (fun q_2 H G => ?_)
  have G : zS T A s.heap s [[(mo, .inr (11, [.ref q_1, .null, .int 0, .int 0, .int 0, .int 0, .int 0, .int 0, .int 0, .int 0, .null, .int 0, .int 0, .int 0, .null, .null, .null, .int 0, .int 0, .int 0, .int 0, .null, .null, .null, .null, .null, .null, .int 0, .int 0, .int 0, .int 0, .int 0, .int 0, .int 0, .int 0, .int 0, .int 0, .int 0, .int 0, .null, .null, .null, .int 0]))], [zAr T 0 q_1 3952 (fun _ => 0)], [zAr T 2 q_2 3 (fun _ => 0)]] _ _ := G
  refine z_putF C G hnm clX12 0 rfl 1 (by decide) m_fl_RX12_13 rfl rfl rfl rfl (Nat.le_of_ble_eq_true rfl) dX12_init_17 (fun H locs G => ?_)
  have G : zS T A s.heap s [[(mo, .inr (11, [.ref q_1, .ref q_2, .int 0, .int 0, .int 0, .int 0, .int 0, .int 0, .int 0, .int 0, .null, .int 0, .int 0, .int 0, .null, .null, .null, .int 0, .int 0, .int 0, .int 0, .null, .null, .null, .null, .null, .null, .int 0, .int 0, .int 0, .int 0, .int 0, .int 0, .int 0, .int 0, .int 0, .int 0, .int 0, .int 0, .null, .null, .null, .int 0]))], [zAr T 0 q_1 3952 (fun _ => 0)], [zAr T 2 q_2 3 (fun _ => 0)]] _ _ := G
  refine lv_aload_n hx hb dX12_init_20 rfl (lv_at hl 0 rfl) ?_
  refine lv_bipush (v := 121) hx hb dX12_init_21 (by decide) ?_
  refine z_newa C G 0 (ty := .int) (N' := 121) (a0 := (121, .inl (fun _ => 0))) rfl z_uint m_ar_int rfl (fun _ => rfl) (by decide) (by decide) (Nat.le_of_ble_eq_true rfl) (Nat.le_of_ble_eq_true rfl) (Nat.le_of_ble_eq_true rfl) dX12_init_23 (fun q_3 H G => ?_)
  have G : zS T A s.heap s [[(mo, .inr (11, [.ref q_1, .ref q_2, .int 0, .int 0, .int 0, .int 0, .int 0, .int 0, .int 0, .int 0, .null, .int 0, .int 0, .int 0, .null, .null, .null, .int 0, .int 0, .int 0, .int 0, .null, .null, .null, .null, .null, .null, .int 0, .int 0, .int 0, .int 0, .int 0, .int 0, .int 0, .int 0, .int 0, .int 0, .int 0, .int 0, .null, .null, .null, .int 0]))], [zAr T 0 q_1 3952 (fun _ => 0)], [zAr T 2 q_2 3 (fun _ => 0)], [zAr T 0 q_3 121 (fun _ => 0)]] _ _ := G
  refine z_putF C G hnm clX12 0 rfl 10 (by decide) m_fl_RX12_17 rfl rfl rfl rfl (Nat.le_of_ble_eq_true rfl) dX12_init_25 (fun H locs G => ?_)
  have G : zS T A s.heap s [[(mo, .inr (11, [.ref q_1, .ref q_2, .int 0, .int 0, .int 0, .int 0, .int 0, .int 0, .int 0, .int 0, .ref q_3, .int 0, .int 0, .int 0, .null, .null, .null, .int 0, .int 0, .int 0, .int 0, .null, .null, .null, .null, .null, .null, .int 0, .int 0, .int 0, .int 0, .int 0, .int 0, .int 0, .int 0, .int 0, .int 0, .int 0, .int 0, .null, .null, .null, .int 0]))], [zAr T 0 q_1 3952 (fun _ => 0)], [zAr T 2 q_2 3 (fun _ => 0)], [zAr T 0 q_3 121 (fun _ => 0)]] _ _ := G
  refine lv_aload_n hx hb dX12_init_28 rfl (lv_at hl 0 rfl) ?_
  refine lv_bipush (v := 7) hx hb dX12_init_29 (by decide) ?_
  refine z_newa C G 0 (ty := .int) (N' := 7) (a0 := (7, .inl (fun _ => 0))) rfl z_uint m_ar_int rfl (fun _ => rfl) (by decide) (by decide) (Nat.le_of_ble_eq_true rfl) (Nat.le_of_ble_eq_true rfl) (Nat.le_of_ble_eq_true rfl) dX12_init_31 (fun q_4 H G => ?_)
  have G : zS T A s.heap s [[(mo, .inr (11, [.ref q_1, .ref q_2, .int 0, .int 0, .int 0, .int 0, .int 0, .int 0, .int 0, .int 0, .ref q_3, .int 0, .int 0, .int 0, .null, .null, .null, .int 0, .int 0, .int 0, .int 0, .null, .null, .null, .null, .null, .null, .int 0, .int 0, .int 0, .int 0, .int 0, .int 0, .int 0, .int 0, .int 0, .int 0, .int 0, .int 0, .null, .null, .null, .int 0]))], [zAr T 0 q_1 3952 (fun _ => 0)], [zAr T 2 q_2 3 (fun _ => 0)], [zAr T 0 q_3 121 (fun _ => 0)], [zAr T 0 q_4 7 (fun _ => 0)]] _ _ := G
  refine z_putF C G hnm clX12 0 rfl 14 (by decide) m_fl_RX12_20 rfl rfl rfl rfl (Nat.le_of_ble_eq_true rfl) dX12_init_33 (fun H locs G => ?_)
  have G : zS T A s.heap s [[(mo, .inr (11, [.ref q_1, .ref q_2, .int 0, .int 0, .int 0, .int 0, .int 0, .int 0, .int 0, .int 0, .ref q_3, .int 0, .int 0, .int 0, .ref q_4, .null, .null, .int 0, .int 0, .int 0, .int 0, .null, .null, .null, .null, .null, .null, .int 0, .int 0, .int 0, .int 0, .int 0, .int 0, .int 0, .int 0, .int 0, .int 0, .int 0, .int 0, .null, .null, .null, .int 0]))], [zAr T 0 q_1 3952 (fun _ => 0)], [zAr T 2 q_2 3 (fun _ => 0)], [zAr T 0 q_3 121 (fun _ => 0)], [zAr T 0 q_4 7 (fun _ => 0)]] _ _ := G
  refine lv_aload_n hx hb dX12_init_36 rfl (lv_at hl 0 rfl) ?_
  refine lv_bipush (v := 7) hx hb dX12_init_37 (by decide) ?_
  refine z_newa C G 0 (ty := .int) (N' := 7) (a0 := (7, .inl (fun _ => 0))) rfl z_uint m_ar_int rfl (fun _ => rfl) (by decide) (by decide) (Nat.le_of_ble_eq_true rfl) (Nat.le_of_ble_eq_true rfl) (Nat.le_of_ble_eq_true rfl) dX12_init_39 (fun q_5 H G => ?_)
  have G : zS T A s.heap s [[(mo, .inr (11, [.ref q_1, .ref q_2, .int 0, .int 0, .int 0, .int 0, .int 0, .int 0, .int 0, .int 0, .ref q_3, .int 0, .int 0, .int 0, .ref q_4, .null, .null, .int 0, .int 0, .int 0, .int 0, .null, .null, .null, .null, .null, .null, .int 0, .int 0, .int 0, .int 0, .int 0, .int 0, .int 0, .int 0, .int 0, .int 0, .int 0, .int 0, .null, .null, .null, .int 0]))], [zAr T 0 q_1 3952 (fun _ => 0)], [zAr T 2 q_2 3 (fun _ => 0)], [zAr T 0 q_3 121 (fun _ => 0)], [zAr T 0 q_4 7 (fun _ => 0)], [zAr T 0 q_5 7 (fun _ => 0)]] _ _ := G
  refine z_putF C G hnm clX12 0 rfl 15 (by decide) m_fl_RX12_23 rfl rfl rfl rfl (Nat.le_of_ble_eq_true rfl) dX12_init_41 (fun H locs G => ?_)
  have G : zS T A s.heap s [[(mo, .inr (11, [.ref q_1, .ref q_2, .int 0, .int 0, .int 0, .int 0, .int 0, .int 0, .int 0, .int 0, .ref q_3, .int 0, .int 0, .int 0, .ref q_4, .ref q_5, .null, .int 0, .int 0, .int 0, .int 0, .null, .null, .null, .null, .null, .null, .int 0, .int 0, .int 0, .int 0, .int 0, .int 0, .int 0, .int 0, .int 0, .int 0, .int 0, .int 0, .null, .null, .null, .int 0]))], [zAr T 0 q_1 3952 (fun _ => 0)], [zAr T 2 q_2 3 (fun _ => 0)], [zAr T 0 q_3 121 (fun _ => 0)], [zAr T 0 q_4 7 (fun _ => 0)], [zAr T 0 q_5 7 (fun _ => 0)]] _ _ := G
  refine lv_aload_n hx hb dX12_init_44 rfl (lv_at hl 0 rfl) ?_
  refine lv_bipush (v := 7) hx hb dX12_init_45 (by decide) ?_
  refine z_newa C G 0 (ty := .int) (N' := 7) (a0 := (7, .inl (fun _ => 0))) rfl z_uint m_ar_int rfl (fun _ => rfl) (by decide) (by decide) (Nat.le_of_ble_eq_true rfl) (Nat.le_of_ble_eq_true rfl) (Nat.le_of_ble_eq_true rfl) dX12_init_47 (fun q_6 H G => ?_)
  have G : zS T A s.heap s [[(mo, .inr (11, [.ref q_1, .ref q_2, .int 0, .int 0, .int 0, .int 0, .int 0, .int 0, .int 0, .int 0, .ref q_3, .int 0, .int 0, .int 0, .ref q_4, .ref q_5, .null, .int 0, .int 0, .int 0, .int 0, .null, .null, .null, .null, .null, .null, .int 0, .int 0, .int 0, .int 0, .int 0, .int 0, .int 0, .int 0, .int 0, .int 0, .int 0, .int 0, .null, .null, .null, .int 0]))], [zAr T 0 q_1 3952 (fun _ => 0)], [zAr T 2 q_2 3 (fun _ => 0)], [zAr T 0 q_3 121 (fun _ => 0)], [zAr T 0 q_4 7 (fun _ => 0)], [zAr T 0 q_5 7 (fun _ => 0)], [zAr T 0 q_6 7 (fun _ => 0)]] _ _ := G
  refine z_putF C G hnm clX12 0 rfl 16 (by decide) m_fl_RX12_26 rfl rfl rfl rfl (Nat.le_of_ble_eq_true rfl) dX12_init_49 (fun H locs G => ?_)
  have G : zS T A s.heap s [[(mo, .inr (11, [.ref q_1, .ref q_2, .int 0, .int 0, .int 0, .int 0, .int 0, .int 0, .int 0, .int 0, .ref q_3, .int 0, .int 0, .int 0, .ref q_4, .ref q_5, .ref q_6, .int 0, .int 0, .int 0, .int 0, .null, .null, .null, .null, .null, .null, .int 0, .int 0, .int 0, .int 0, .int 0, .int 0, .int 0, .int 0, .int 0, .int 0, .int 0, .int 0, .null, .null, .null, .int 0]))], [zAr T 0 q_1 3952 (fun _ => 0)], [zAr T 2 q_2 3 (fun _ => 0)], [zAr T 0 q_3 121 (fun _ => 0)], [zAr T 0 q_4 7 (fun _ => 0)], [zAr T 0 q_5 7 (fun _ => 0)], [zAr T 0 q_6 7 (fun _ => 0)]] _ _ := G
  refine lv_aload_n hx hb dX12_init_52 rfl (lv_at hl 0 rfl) ?_
  refine lv_bipush (v := 7) hx hb dX12_init_53 (by decide) ?_
  refine z_newa C G 0 (ty := .int) (N' := 7) (a0 := (7, .inl (fun _ => 0))) rfl z_uint m_ar_int rfl (fun _ => rfl) (by decide) (by decide) (Nat.le_of_ble_eq_true rfl) (Nat.le_of_ble_eq_true rfl) (Nat.le_of_ble_eq_true rfl) dX12_init_55 (fun q_7 H G => ?_)
  have G : zS T A s.heap s [[(mo, .inr (11, [.ref q_1, .ref q_2, .int 0, .int 0, .int 0, .int 0, .int 0, .int 0, .int 0, .int 0, .ref q_3, .int 0, .int 0, .int 0, .ref q_4, .ref q_5, .ref q_6, .int 0, .int 0, .int 0, .int 0, .null, .null, .null, .null, .null, .null, .int 0, .int 0, .int 0, .int 0, .int 0, .int 0, .int 0, .int 0, .int 0, .int 0, .int 0, .int 0, .null, .null, .null, .int 0]))], [zAr T 0 q_1 3952 (fun _ => 0)], [zAr T 2 q_2 3 (fun _ => 0)], [zAr T 0 q_3 121 (fun _ => 0)], [zAr T 0 q_4 7 (fun _ => 0)], [zAr T 0 q_5 7 (fun _ => 0)], [zAr T 0 q_6 7 (fun _ => 0)], [zAr T 0 q_7 7 (fun _ => 0)]] _ _ := G
  refine z_putF C G hnm clX12 0 rfl 21 (by decide) m_fl_RX12_29 rfl rfl rfl rfl (Nat.le_of_ble_eq_true rfl) dX12_init_57 (fun H locs G => ?_)
  have G : zS T A s.heap s [[(mo, .inr (11, [.ref q_1, .ref q_2, .int 0, .int 0, .int 0, .int 0, .int 0, .int 0, .int 0, .int 0, .ref q_3, .int 0, .int 0, .int 0, .ref q_4, .ref q_5, .ref q_6, .int 0, .int 0, .int 0, .int 0, .ref q_7, .null, .null, .null, .null, .null, .int 0, .int 0, .int 0, .int 0, .int 0, .int 0, .int 0, .int 0, .int 0, .int 0, .int 0, .int 0, .null, .null, .null, .int 0]))], [zAr T 0 q_1 3952 (fun _ => 0)], [zAr T 2 q_2 3 (fun _ => 0)], [zAr T 0 q_3 121 (fun _ => 0)], [zAr T 0 q_4 7 (fun _ => 0)], [zAr T 0 q_5 7 (fun _ => 0)], [zAr T 0 q_6 7 (fun _ => 0)], [zAr T 0 q_7 7 (fun _ => 0)]] _ _ := G
  refine lv_aload_n hx hb dX12_init_60 rfl (lv_at hl 0 rfl) ?_
  refine lv_bipush (v := 7) hx hb dX12_init_61 (by decide) ?_
  refine z_newa C G 0 (ty := .int) (N' := 7) (a0 := (7, .inl (fun _ => 0))) rfl z_uint m_ar_int rfl (fun _ => rfl) (by decide) (by decide) (Nat.le_of_ble_eq_true rfl) (Nat.le_of_ble_eq_true rfl) (Nat.le_of_ble_eq_true rfl) dX12_init_63 (fun q_8 H G => ?_)
  have G : zS T A s.heap s [[(mo, .inr (11, [.ref q_1, .ref q_2, .int 0, .int 0, .int 0, .int 0, .int 0, .int 0, .int 0, .int 0, .ref q_3, .int 0, .int 0, .int 0, .ref q_4, .ref q_5, .ref q_6, .int 0, .int 0, .int 0, .int 0, .ref q_7, .null, .null, .null, .null, .null, .int 0, .int 0, .int 0, .int 0, .int 0, .int 0, .int 0, .int 0, .int 0, .int 0, .int 0, .int 0, .null, .null, .null, .int 0]))], [zAr T 0 q_1 3952 (fun _ => 0)], [zAr T 2 q_2 3 (fun _ => 0)], [zAr T 0 q_3 121 (fun _ => 0)], [zAr T 0 q_4 7 (fun _ => 0)], [zAr T 0 q_5 7 (fun _ => 0)], [zAr T 0 q_6 7 (fun _ => 0)], [zAr T 0 q_7 7 (fun _ => 0)], [zAr T 0 q_8 7 (fun _ => 0)]] _ _ := G
  refine z_putF C G hnm clX12 0 rfl 22 (by decide) m_fl_RX12_32 rfl rfl rfl rfl (Nat.le_of_ble_eq_true rfl) dX12_init_65 (fun H locs G => ?_)
  have G : zS T A s.heap s [[(mo, .inr (11, [.ref q_1, .ref q_2, .int 0, .int 0, .int 0, .int 0, .int 0, .int 0, .int 0, .int 0, .ref q_3, .int 0, .int 0, .int 0, .ref q_4, .ref q_5, .ref q_6, .int 0, .int 0, .int 0, .int 0, .ref q_7, .ref q_8, .null, .null, .null, .null, .int 0, .int 0, .int 0, .int 0, .int 0, .int 0, .int 0, .int 0, .int 0, .int 0, .int 0, .int 0, .null, .null, .null, .int 0]))], [zAr T 0 q_1 3952 (fun _ => 0)], [zAr T 2 q_2 3 (fun _ => 0)], [zAr T 0 q_3 121 (fun _ => 0)], [zAr T 0 q_4 7 (fun _ => 0)], [zAr T 0 q_5 7 (fun _ => 0)], [zAr T 0 q_6 7 (fun _ => 0)], [zAr T 0 q_7 7 (fun _ => 0)], [zAr T 0 q_8 7 (fun _ => 0)]] _ _ := G
  refine lv_aload_n hx hb dX12_init_68 rfl (lv_at hl 0 rfl) ?_
  refine lv_sipush (v := 16384) hx hb dX12_init_69 (by decide) ?_
  refine z_newa C G 0 (ty := .int) (N' := 16384) (a0 := (16384, .inl (fun _ => 0))) rfl z_uint m_ar_int rfl (fun _ => rfl) (by decide) (by decide) (Nat.le_of_ble_eq_true rfl) (Nat.le_of_ble_eq_true rfl) (Nat.le_of_ble_eq_true rfl) dX12_init_72 (fun q_9 H G => ?_)
  have G : zS T A s.heap s [[(mo, .inr (11, [.ref q_1, .ref q_2, .int 0, .int 0, .int 0, .int 0, .int 0, .int 0, .int 0, .int 0, .ref q_3, .int 0, .int 0, .int 0, .ref q_4, .ref q_5, .ref q_6, .int 0, .int 0, .int 0, .int 0, .ref q_7, .ref q_8, .null, .null, .null, .null, .int 0, .int 0, .int 0, .int 0, .int 0, .int 0, .int 0, .int 0, .int 0, .int 0, .int 0, .int 0, .null, .null, .null, .int 0]))], [zAr T 0 q_1 3952 (fun _ => 0)], [zAr T 2 q_2 3 (fun _ => 0)], [zAr T 0 q_3 121 (fun _ => 0)], [zAr T 0 q_4 7 (fun _ => 0)], [zAr T 0 q_5 7 (fun _ => 0)], [zAr T 0 q_6 7 (fun _ => 0)], [zAr T 0 q_7 7 (fun _ => 0)], [zAr T 0 q_8 7 (fun _ => 0)], [zAr T 0 q_9 16384 (fun _ => 0)]] _ _ := G
  refine z_putF C G hnm clX12 0 rfl 23 (by decide) m_fl_RX12_35 rfl rfl rfl rfl (Nat.le_of_ble_eq_true rfl) dX12_init_74 (fun H locs G => ?_)
  have G : zS T A s.heap s [[(mo, .inr (11, [.ref q_1, .ref q_2, .int 0, .int 0, .int 0, .int 0, .int 0, .int 0, .int 0, .int 0, .ref q_3, .int 0, .int 0, .int 0, .ref q_4, .ref q_5, .ref q_6, .int 0, .int 0, .int 0, .int 0, .ref q_7, .ref q_8, .ref q_9, .null, .null, .null, .int 0, .int 0, .int 0, .int 0, .int 0, .int 0, .int 0, .int 0, .int 0, .int 0, .int 0, .int 0, .null, .null, .null, .int 0]))], [zAr T 0 q_1 3952 (fun _ => 0)], [zAr T 2 q_2 3 (fun _ => 0)], [zAr T 0 q_3 121 (fun _ => 0)], [zAr T 0 q_4 7 (fun _ => 0)], [zAr T 0 q_5 7 (fun _ => 0)], [zAr T 0 q_6 7 (fun _ => 0)], [zAr T 0 q_7 7 (fun _ => 0)], [zAr T 0 q_8 7 (fun _ => 0)], [zAr T 0 q_9 16384 (fun _ => 0)]] _ _ := G
  refine lv_aload_n hx hb dX12_init_77 rfl (lv_at hl 0 rfl) ?_
  refine lv_sipush (v := 512) hx hb dX12_init_78 (by decide) ?_
  refine z_newa C G 0 (ty := .int) (N' := 512) (a0 := (512, .inl (fun _ => 0))) rfl z_uint m_ar_int rfl (fun _ => rfl) (by decide) (by decide) (Nat.le_of_ble_eq_true rfl) (Nat.le_of_ble_eq_true rfl) (Nat.le_of_ble_eq_true rfl) dX12_init_81 (fun q_10 H G => ?_)
  have G : zS T A s.heap s [[(mo, .inr (11, [.ref q_1, .ref q_2, .int 0, .int 0, .int 0, .int 0, .int 0, .int 0, .int 0, .int 0, .ref q_3, .int 0, .int 0, .int 0, .ref q_4, .ref q_5, .ref q_6, .int 0, .int 0, .int 0, .int 0, .ref q_7, .ref q_8, .ref q_9, .null, .null, .null, .int 0, .int 0, .int 0, .int 0, .int 0, .int 0, .int 0, .int 0, .int 0, .int 0, .int 0, .int 0, .null, .null, .null, .int 0]))], [zAr T 0 q_1 3952 (fun _ => 0)], [zAr T 2 q_2 3 (fun _ => 0)], [zAr T 0 q_3 121 (fun _ => 0)], [zAr T 0 q_4 7 (fun _ => 0)], [zAr T 0 q_5 7 (fun _ => 0)], [zAr T 0 q_6 7 (fun _ => 0)], [zAr T 0 q_7 7 (fun _ => 0)], [zAr T 0 q_8 7 (fun _ => 0)], [zAr T 0 q_9 16384 (fun _ => 0)], [zAr T 0 q_10 512 (fun _ => 0)]] _ _ := G
  refine z_putF C G hnm clX12 0 rfl 24 (by decide) m_fl_RX12_38 rfl rfl rfl rfl (Nat.le_of_ble_eq_true rfl) dX12_init_83 (fun H locs G => ?_)
  have G : zS T A s.heap s [[(mo, .inr (11, [.ref q_1, .ref q_2, .int 0, .int 0, .int 0, .int 0, .int 0, .int 0, .int 0, .int 0, .ref q_3, .int 0, .int 0, .int 0, .ref q_4, .ref q_5, .ref q_6, .int 0, .int 0, .int 0, .int 0, .ref q_7, .ref q_8, .ref q_9, .ref q_10, .null, .null, .int 0, .int 0, .int 0, .int 0, .int 0, .int 0, .int 0, .int 0, .int 0, .int 0, .int 0, .int 0, .null, .null, .null, .int 0]))], [zAr T 0 q_1 3952 (fun _ => 0)], [zAr T 2 q_2 3 (fun _ => 0)], [zAr T 0 q_3 121 (fun _ => 0)], [zAr T 0 q_4 7 (fun _ => 0)], [zAr T 0 q_5 7 (fun _ => 0)], [zAr T 0 q_6 7 (fun _ => 0)], [zAr T 0 q_7 7 (fun _ => 0)], [zAr T 0 q_8 7 (fun _ => 0)], [zAr T 0 q_9 16384 (fun _ => 0)], [zAr T 0 q_10 512 (fun _ => 0)]] _ _ := G
  refine lv_aload_n hx hb dX12_init_86 rfl (lv_at hl 0 rfl) ?_
  refine lv_bipush (v := 49) hx hb dX12_init_87 (by decide) ?_
  refine z_newa C G 0 (ty := .int) (N' := 49) (a0 := (49, .inl (fun _ => 0))) rfl z_uint m_ar_int rfl (fun _ => rfl) (by decide) (by decide) (Nat.le_of_ble_eq_true rfl) (Nat.le_of_ble_eq_true rfl) (Nat.le_of_ble_eq_true rfl) dX12_init_89 (fun q_11 H G => ?_)
  have G : zS T A s.heap s [[(mo, .inr (11, [.ref q_1, .ref q_2, .int 0, .int 0, .int 0, .int 0, .int 0, .int 0, .int 0, .int 0, .ref q_3, .int 0, .int 0, .int 0, .ref q_4, .ref q_5, .ref q_6, .int 0, .int 0, .int 0, .int 0, .ref q_7, .ref q_8, .ref q_9, .ref q_10, .null, .null, .int 0, .int 0, .int 0, .int 0, .int 0, .int 0, .int 0, .int 0, .int 0, .int 0, .int 0, .int 0, .null, .null, .null, .int 0]))], [zAr T 0 q_1 3952 (fun _ => 0)], [zAr T 2 q_2 3 (fun _ => 0)], [zAr T 0 q_3 121 (fun _ => 0)], [zAr T 0 q_4 7 (fun _ => 0)], [zAr T 0 q_5 7 (fun _ => 0)], [zAr T 0 q_6 7 (fun _ => 0)], [zAr T 0 q_7 7 (fun _ => 0)], [zAr T 0 q_8 7 (fun _ => 0)], [zAr T 0 q_9 16384 (fun _ => 0)], [zAr T 0 q_10 512 (fun _ => 0)], [zAr T 0 q_11 49 (fun _ => 0)]] _ _ := G
  refine z_putF C G hnm clX12 0 rfl 25 (by decide) m_fl_RX12_41 rfl rfl rfl rfl (Nat.le_of_ble_eq_true rfl) dX12_init_91 (fun H locs G => ?_)
  have G : zS T A s.heap s [[(mo, .inr (11, [.ref q_1, .ref q_2, .int 0, .int 0, .int 0, .int 0, .int 0, .int 0, .int 0, .int 0, .ref q_3, .int 0, .int 0, .int 0, .ref q_4, .ref q_5, .ref q_6, .int 0, .int 0, .int 0, .int 0, .ref q_7, .ref q_8, .ref q_9, .ref q_10, .ref q_11, .null, .int 0, .int 0, .int 0, .int 0, .int 0, .int 0, .int 0, .int 0, .int 0, .int 0, .int 0, .int 0, .null, .null, .null, .int 0]))], [zAr T 0 q_1 3952 (fun _ => 0)], [zAr T 2 q_2 3 (fun _ => 0)], [zAr T 0 q_3 121 (fun _ => 0)], [zAr T 0 q_4 7 (fun _ => 0)], [zAr T 0 q_5 7 (fun _ => 0)], [zAr T 0 q_6 7 (fun _ => 0)], [zAr T 0 q_7 7 (fun _ => 0)], [zAr T 0 q_8 7 (fun _ => 0)], [zAr T 0 q_9 16384 (fun _ => 0)], [zAr T 0 q_10 512 (fun _ => 0)], [zAr T 0 q_11 49 (fun _ => 0)]] _ _ := G
  refine lv_aload_n hx hb dX12_init_94 rfl (lv_at hl 0 rfl) ?_
  refine lv_bipush (v := 7) hx hb dX12_init_95 (by decide) ?_
  refine z_newa C G 0 (ty := .int) (N' := 7) (a0 := (7, .inl (fun _ => 0))) rfl z_uint m_ar_int rfl (fun _ => rfl) (by decide) (by decide) (Nat.le_of_ble_eq_true rfl) (Nat.le_of_ble_eq_true rfl) (Nat.le_of_ble_eq_true rfl) dX12_init_97 (fun q_12 H G => ?_)
  have G : zS T A s.heap s [[(mo, .inr (11, [.ref q_1, .ref q_2, .int 0, .int 0, .int 0, .int 0, .int 0, .int 0, .int 0, .int 0, .ref q_3, .int 0, .int 0, .int 0, .ref q_4, .ref q_5, .ref q_6, .int 0, .int 0, .int 0, .int 0, .ref q_7, .ref q_8, .ref q_9, .ref q_10, .ref q_11, .null, .int 0, .int 0, .int 0, .int 0, .int 0, .int 0, .int 0, .int 0, .int 0, .int 0, .int 0, .int 0, .null, .null, .null, .int 0]))], [zAr T 0 q_1 3952 (fun _ => 0)], [zAr T 2 q_2 3 (fun _ => 0)], [zAr T 0 q_3 121 (fun _ => 0)], [zAr T 0 q_4 7 (fun _ => 0)], [zAr T 0 q_5 7 (fun _ => 0)], [zAr T 0 q_6 7 (fun _ => 0)], [zAr T 0 q_7 7 (fun _ => 0)], [zAr T 0 q_8 7 (fun _ => 0)], [zAr T 0 q_9 16384 (fun _ => 0)], [zAr T 0 q_10 512 (fun _ => 0)], [zAr T 0 q_11 49 (fun _ => 0)], [zAr T 0 q_12 7 (fun _ => 0)]] _ _ := G
  refine z_putF C G hnm clX12 0 rfl 26 (by decide) m_fl_RX12_44 rfl rfl rfl rfl (Nat.le_of_ble_eq_true rfl) dX12_init_99 (fun H locs G => ?_)
  have G : zS T A s.heap s [[(mo, .inr (11, [.ref q_1, .ref q_2, .int 0, .int 0, .int 0, .int 0, .int 0, .int 0, .int 0, .int 0, .ref q_3, .int 0, .int 0, .int 0, .ref q_4, .ref q_5, .ref q_6, .int 0, .int 0, .int 0, .int 0, .ref q_7, .ref q_8, .ref q_9, .ref q_10, .ref q_11, .ref q_12, .int 0, .int 0, .int 0, .int 0, .int 0, .int 0, .int 0, .int 0, .int 0, .int 0, .int 0, .int 0, .null, .null, .null, .int 0]))], [zAr T 0 q_1 3952 (fun _ => 0)], [zAr T 2 q_2 3 (fun _ => 0)], [zAr T 0 q_3 121 (fun _ => 0)], [zAr T 0 q_4 7 (fun _ => 0)], [zAr T 0 q_5 7 (fun _ => 0)], [zAr T 0 q_6 7 (fun _ => 0)], [zAr T 0 q_7 7 (fun _ => 0)], [zAr T 0 q_8 7 (fun _ => 0)], [zAr T 0 q_9 16384 (fun _ => 0)], [zAr T 0 q_10 512 (fun _ => 0)], [zAr T 0 q_11 49 (fun _ => 0)], [zAr T 0 q_12 7 (fun _ => 0)]] _ _ := G
  refine lv_aload_n hx hb dX12_init_102 rfl (lv_at hl 0 rfl) ?_
  refine lv_bipush (v := 28) hx hb dX12_init_103 (by decide) ?_
  refine z_newa C G 0 (ty := .int) (N' := 28) (a0 := (28, .inl (fun _ => 0))) rfl z_uint m_ar_int rfl (fun _ => rfl) (by decide) (by decide) (Nat.le_of_ble_eq_true rfl) (Nat.le_of_ble_eq_true rfl) (Nat.le_of_ble_eq_true rfl) dX12_init_105 (fun q_13 H G => ?_)
  have G : zS T A s.heap s [[(mo, .inr (11, [.ref q_1, .ref q_2, .int 0, .int 0, .int 0, .int 0, .int 0, .int 0, .int 0, .int 0, .ref q_3, .int 0, .int 0, .int 0, .ref q_4, .ref q_5, .ref q_6, .int 0, .int 0, .int 0, .int 0, .ref q_7, .ref q_8, .ref q_9, .ref q_10, .ref q_11, .ref q_12, .int 0, .int 0, .int 0, .int 0, .int 0, .int 0, .int 0, .int 0, .int 0, .int 0, .int 0, .int 0, .null, .null, .null, .int 0]))], [zAr T 0 q_1 3952 (fun _ => 0)], [zAr T 2 q_2 3 (fun _ => 0)], [zAr T 0 q_3 121 (fun _ => 0)], [zAr T 0 q_4 7 (fun _ => 0)], [zAr T 0 q_5 7 (fun _ => 0)], [zAr T 0 q_6 7 (fun _ => 0)], [zAr T 0 q_7 7 (fun _ => 0)], [zAr T 0 q_8 7 (fun _ => 0)], [zAr T 0 q_9 16384 (fun _ => 0)], [zAr T 0 q_10 512 (fun _ => 0)], [zAr T 0 q_11 49 (fun _ => 0)], [zAr T 0 q_12 7 (fun _ => 0)], [zAr T 0 q_13 28 (fun _ => 0)]] _ _ := G
  refine z_putF C G hnm clX12 0 rfl 39 (by decide) m_fl_RX12_47 rfl rfl rfl rfl (Nat.le_of_ble_eq_true rfl) dX12_init_107 (fun H locs G => ?_)
  have G : zS T A s.heap s [[(mo, .inr (11, [.ref q_1, .ref q_2, .int 0, .int 0, .int 0, .int 0, .int 0, .int 0, .int 0, .int 0, .ref q_3, .int 0, .int 0, .int 0, .ref q_4, .ref q_5, .ref q_6, .int 0, .int 0, .int 0, .int 0, .ref q_7, .ref q_8, .ref q_9, .ref q_10, .ref q_11, .ref q_12, .int 0, .int 0, .int 0, .int 0, .int 0, .int 0, .int 0, .int 0, .int 0, .int 0, .int 0, .int 0, .ref q_13, .null, .null, .int 0]))], [zAr T 0 q_1 3952 (fun _ => 0)], [zAr T 2 q_2 3 (fun _ => 0)], [zAr T 0 q_3 121 (fun _ => 0)], [zAr T 0 q_4 7 (fun _ => 0)], [zAr T 0 q_5 7 (fun _ => 0)], [zAr T 0 q_6 7 (fun _ => 0)], [zAr T 0 q_7 7 (fun _ => 0)], [zAr T 0 q_8 7 (fun _ => 0)], [zAr T 0 q_9 16384 (fun _ => 0)], [zAr T 0 q_10 512 (fun _ => 0)], [zAr T 0 q_11 49 (fun _ => 0)], [zAr T 0 q_12 7 (fun _ => 0)], [zAr T 0 q_13 28 (fun _ => 0)]] _ _ := G
  refine lv_aload_n hx hb dX12_init_110 rfl (lv_at hl 0 rfl) ?_
  refine lv_bipush (v := 49) hx hb dX12_init_111 (by decide) ?_
  refine z_newa C G 0 (ty := .int) (N' := 49) (a0 := (49, .inl (fun _ => 0))) rfl z_uint m_ar_int rfl (fun _ => rfl) (by decide) (by decide) (Nat.le_of_ble_eq_true rfl) (Nat.le_of_ble_eq_true rfl) (Nat.le_of_ble_eq_true rfl) dX12_init_113 (fun q_14 H G => ?_)
  have G : zS T A s.heap s [[(mo, .inr (11, [.ref q_1, .ref q_2, .int 0, .int 0, .int 0, .int 0, .int 0, .int 0, .int 0, .int 0, .ref q_3, .int 0, .int 0, .int 0, .ref q_4, .ref q_5, .ref q_6, .int 0, .int 0, .int 0, .int 0, .ref q_7, .ref q_8, .ref q_9, .ref q_10, .ref q_11, .ref q_12, .int 0, .int 0, .int 0, .int 0, .int 0, .int 0, .int 0, .int 0, .int 0, .int 0, .int 0, .int 0, .ref q_13, .null, .null, .int 0]))], [zAr T 0 q_1 3952 (fun _ => 0)], [zAr T 2 q_2 3 (fun _ => 0)], [zAr T 0 q_3 121 (fun _ => 0)], [zAr T 0 q_4 7 (fun _ => 0)], [zAr T 0 q_5 7 (fun _ => 0)], [zAr T 0 q_6 7 (fun _ => 0)], [zAr T 0 q_7 7 (fun _ => 0)], [zAr T 0 q_8 7 (fun _ => 0)], [zAr T 0 q_9 16384 (fun _ => 0)], [zAr T 0 q_10 512 (fun _ => 0)], [zAr T 0 q_11 49 (fun _ => 0)], [zAr T 0 q_12 7 (fun _ => 0)], [zAr T 0 q_13 28 (fun _ => 0)], [zAr T 0 q_14 49 (fun _ => 0)]] _ _ := G
  refine z_putF C G hnm clX12 0 rfl 40 (by decide) m_fl_RX12_50 rfl rfl rfl rfl (Nat.le_of_ble_eq_true rfl) dX12_init_115 (fun H locs G => ?_)
  have G : zS T A s.heap s [[(mo, .inr (11, [.ref q_1, .ref q_2, .int 0, .int 0, .int 0, .int 0, .int 0, .int 0, .int 0, .int 0, .ref q_3, .int 0, .int 0, .int 0, .ref q_4, .ref q_5, .ref q_6, .int 0, .int 0, .int 0, .int 0, .ref q_7, .ref q_8, .ref q_9, .ref q_10, .ref q_11, .ref q_12, .int 0, .int 0, .int 0, .int 0, .int 0, .int 0, .int 0, .int 0, .int 0, .int 0, .int 0, .int 0, .ref q_13, .ref q_14, .null, .int 0]))], [zAr T 0 q_1 3952 (fun _ => 0)], [zAr T 2 q_2 3 (fun _ => 0)], [zAr T 0 q_3 121 (fun _ => 0)], [zAr T 0 q_4 7 (fun _ => 0)], [zAr T 0 q_5 7 (fun _ => 0)], [zAr T 0 q_6 7 (fun _ => 0)], [zAr T 0 q_7 7 (fun _ => 0)], [zAr T 0 q_8 7 (fun _ => 0)], [zAr T 0 q_9 16384 (fun _ => 0)], [zAr T 0 q_10 512 (fun _ => 0)], [zAr T 0 q_11 49 (fun _ => 0)], [zAr T 0 q_12 7 (fun _ => 0)], [zAr T 0 q_13 28 (fun _ => 0)], [zAr T 0 q_14 49 (fun _ => 0)]] _ _ := G
  refine lv_aload_n hx hb dX12_init_118 rfl (lv_at hl 0 rfl) ?_
  refine lv_bipush (v := 7) hx hb dX12_init_119 (by decide) ?_
  refine z_newa C G 0 (ty := .int) (N' := 7) (a0 := (7, .inl (fun _ => 0))) rfl z_uint m_ar_int rfl (fun _ => rfl) (by decide) (by decide) (Nat.le_of_ble_eq_true rfl) (Nat.le_of_ble_eq_true rfl) (Nat.le_of_ble_eq_true rfl) dX12_init_121 (fun q_15 H G => ?_)
  have G : zS T A s.heap s [[(mo, .inr (11, [.ref q_1, .ref q_2, .int 0, .int 0, .int 0, .int 0, .int 0, .int 0, .int 0, .int 0, .ref q_3, .int 0, .int 0, .int 0, .ref q_4, .ref q_5, .ref q_6, .int 0, .int 0, .int 0, .int 0, .ref q_7, .ref q_8, .ref q_9, .ref q_10, .ref q_11, .ref q_12, .int 0, .int 0, .int 0, .int 0, .int 0, .int 0, .int 0, .int 0, .int 0, .int 0, .int 0, .int 0, .ref q_13, .ref q_14, .null, .int 0]))], [zAr T 0 q_1 3952 (fun _ => 0)], [zAr T 2 q_2 3 (fun _ => 0)], [zAr T 0 q_3 121 (fun _ => 0)], [zAr T 0 q_4 7 (fun _ => 0)], [zAr T 0 q_5 7 (fun _ => 0)], [zAr T 0 q_6 7 (fun _ => 0)], [zAr T 0 q_7 7 (fun _ => 0)], [zAr T 0 q_8 7 (fun _ => 0)], [zAr T 0 q_9 16384 (fun _ => 0)], [zAr T 0 q_10 512 (fun _ => 0)], [zAr T 0 q_11 49 (fun _ => 0)], [zAr T 0 q_12 7 (fun _ => 0)], [zAr T 0 q_13 28 (fun _ => 0)], [zAr T 0 q_14 49 (fun _ => 0)], [zAr T 0 q_15 7 (fun _ => 0)]] _ _ := G
  refine z_putF C G hnm clX12 0 rfl 41 (by decide) m_fl_RX12_53 rfl rfl rfl rfl (Nat.le_of_ble_eq_true rfl) dX12_init_123 (fun H locs G => ?_)
  have G : zS T A s.heap s [[zO11 mo q_1 q_2 0 0 0 0 0 0 0 0 q_3 0 0 0 q_4 q_5 q_6 0 0 0 0 q_7 q_8 q_9 q_10 q_11 q_12 0 0 0 0 0 0 0 0 0 0 0 0 q_13 q_14 q_15 0], [zAr T 0 q_1 3952 (fun _ => 0)], [zAr T 2 q_2 3 (fun _ => 0)], [zAr T 0 q_3 121 (fun _ => 0)], [zAr T 0 q_4 7 (fun _ => 0)], [zAr T 0 q_5 7 (fun _ => 0)], [zAr T 0 q_6 7 (fun _ => 0)], [zAr T 0 q_7 7 (fun _ => 0)], [zAr T 0 q_8 7 (fun _ => 0)], [zAr T 0 q_9 16384 (fun _ => 0)], [zAr T 0 q_10 512 (fun _ => 0)], [zAr T 0 q_11 49 (fun _ => 0)], [zAr T 0 q_12 7 (fun _ => 0)], [zAr T 0 q_13 28 (fun _ => 0)], [zAr T 0 q_14 49 (fun _ => 0)], [zAr T 0 q_15 7 (fun _ => 0)]] _ _ := G
  refine lv_aload_n hx hb dX12_init_126 rfl (lv_at hl 0 rfl) ?_
  refine z_get C G clX12 0 rfl 0 (by decide) m_fl_RX12_7 rfl dX12_init_127 ?_
  refine lv_bipush (v := 6) hx hb dX12_init_130 (by decide) ?_
  refine lv_iconst (v := (-1)) hx hb dX12_init_132 (by decide) ?_
  refine z_ist C G 1 rfl (vp_in_nI (n := 6) (by decide) (by decide)) dX12_init_133 (fun H locs G => ?_)
  have G : zS T A s.heap s [[zO11 mo q_1 q_2 0 0 0 0 0 0 0 0 q_3 0 0 0 q_4 q_5 q_6 0 0 0 0 q_7 q_8 q_9 q_10 q_11 q_12 0 0 0 0 0 0 0 0 0 0 0 0 q_13 q_14 q_15 0], [zAr T 0 q_1 3952 (upd (fun _ => 0) 6 (-1))], [zAr T 2 q_2 3 (fun _ => 0)], [zAr T 0 q_3 121 (fun _ => 0)], [zAr T 0 q_4 7 (fun _ => 0)], [zAr T 0 q_5 7 (fun _ => 0)], [zAr T 0 q_6 7 (fun _ => 0)], [zAr T 0 q_7 7 (fun _ => 0)], [zAr T 0 q_8 7 (fun _ => 0)], [zAr T 0 q_9 16384 (fun _ => 0)], [zAr T 0 q_10 512 (fun _ => 0)], [zAr T 0 q_11 49 (fun _ => 0)], [zAr T 0 q_12 7 (fun _ => 0)], [zAr T 0 q_13 28 (fun _ => 0)], [zAr T 0 q_14 49 (fun _ => 0)], [zAr T 0 q_15 7 (fun _ => 0)]] _ _ := G
  exact z_back hQ9 (z_vret C hr hlocks G (Nat.le_of_ble_eq_true rfl) (Nat.le_of_ble_eq_true rfl) dX12_init_134 ⟨q_1, q_2, q_3, q_4, q_5, q_6, q_7, q_8, q_9, q_10, q_11, q_12, q_13, q_14, q_15, rfl⟩)
set_option maxHeartbeats 4000000 in
set_option maxRecDepth 100000 in
/-- c_m_end -/
theorem c_m_end (l : Launch) (T : zTy) (mo : Nat) (m_all : Nat) (m_has : Nat) (i_size : Int32) (i_next : Int32) (i_where : Int32) (i_token : Int32) (i_number : Int32) (i_word : Int32) (i_wrong : Int32) (i_farCrossing : Int32) (m_read : Nat) (i_z0 : Int32) (i_crossings : Int32) (i_inns : Int32) (m_posts : Nat) (m_shut : Nat) (m_here : Nat) (i_steps : Int32) (i_done : Int32) (i_at : Int32) (i_gone : Int32) (m_was : Nat) (m_came : Nat) (m_seenAt : Nat) (m_rowWorth : Nat) (m_farBy : Nat) (m_used : Nat) (i_everywhere : Int32) (i_again0 : Int32) (i_d0 : Int32) (i_never : Int32) (i_firstCame : Int32) (i_longRun : Int32) (i_moved : Int32) (i_crowd : Int32) (i_l0 : Int32) (i_fitMany : Int32) (i_fitLeast : Int32) (i_fitMost : Int32) (m_fitPost : Nat) (m_fitEnd : Nat) (m_keptPosts : Nat) (i_x0 : Int32) (f_all : Nat → Int32) (n : Int32) : zMi l T yX12_end cX12_end 2 (some .int) 1 0 0 [.ref mo, .int n] [[zO11 mo m_all m_has i_size i_next i_where i_token i_number i_word i_wrong i_farCrossing m_read i_z0 i_crossings i_inns m_posts m_shut m_here i_steps i_done i_at i_gone m_was m_came m_seenAt m_rowWorth m_farBy m_used i_everywhere i_again0 i_d0 i_never i_firstCame i_longRun i_moved i_crowd i_l0 i_fitMany i_fitLeast i_fitMost m_fitPost m_fitEnd m_keptPosts i_x0], [zAr T 0 m_all 3952 f_all]] (fun (r : Int32) bs => ∃ (g_all : Nat → Int32), bs = [[zO11 mo m_all m_has i_size i_next i_where i_token i_number i_word i_wrong i_farCrossing m_read i_z0 i_crossings i_inns m_posts m_shut m_here i_steps i_done i_at i_gone m_was m_came m_seenAt m_rowWorth m_farBy m_used i_everywhere i_again0 i_d0 i_never i_firstCame i_longRun i_moved i_crowd i_l0 i_fitMany i_fitLeast i_fitMost m_fitPost m_fitEnd m_keptPosts i_x0], [zAr T 0 m_all 3952 g_all]] ∧ ((n.toInt < 0 ∨ (f_all 4).toInt < n.toInt) ∧ r.toInt = -1 ∧ g_all = f_all ∨ (0 ≤ n.toInt ∧ n.toInt ≤ (f_all 4).toInt) ∧ g_all = upd f_all 4 n ∧ r = n)) := by
  refine zMi_of (own := RX12) (by decide) rfl (Nat.le_of_ble_eq_true rfl) ?_
  intro p e s m args below meth c A ls C hr hlocks hnm hAe G hl
  refine zHide (fun Q9 hQ9 => ?_)
  have hx := C.1
  have hb := C.2.1
  have hl : lv_has ls 2 [(0, .ref mo), (1, .int n)] := hl
  refine lv_iload_n hx hb dX12_end_0 rfl (lv_at hl 1 rfl) ?_
  refine lv_if_lt (tgt := 14) hx hb dX12_end_1 (by decide) (fun c_1 => ?_) (fun c_1 => ?_)
  · have c_1n : n.toInt < (0 : Int) := (fa_lt _ _).mp c_1
    refine lv_iconst (v := (-1)) hx hb dX12_end_14 (by decide) ?_
    exact z_back hQ9 (z_iret C hr hlocks G (Nat.le_of_ble_eq_true rfl) (Nat.le_of_ble_eq_true rfl) dX12_end_15 ⟨f_all, rfl, (Or.inl ⟨by omega, by decide, rfl⟩)⟩)
  · have c_1n : ¬ n.toInt < (0 : Int) := fun q => c_1 ((fa_lt _ _).mpr q)
    refine lv_iload_n hx hb dX12_end_4 rfl (lv_at hl 1 rfl) ?_
    refine lv_aload_n hx hb dX12_end_5 rfl (lv_at hl 0 rfl) ?_
    refine z_get C G clX12 0 rfl 0 (by decide) m_fl_RX12_7 rfl dX12_end_6 ?_
    refine lv_iconst (v := 4) hx hb dX12_end_9 (by decide) ?_
    refine z_ild C G 1 rfl (vp_in_nI (n := 4) (by decide) (by decide)) dX12_end_10 ?_
    refine lv_topi (fun v_2 ev_2 => ?_)
    rw [show ((4 : Int32).toNatClampNeg) = 4 from rfl] at ev_2
    subst ev_2
    refine lv_icmp_le (tgt := 16) hx hb dX12_end_11 (by decide) (fun c_3 => ?_) (fun c_3 => ?_)
    · have c_3n : n.toInt ≤ (f_all 4).toInt := (fa_le _ _).mp c_3
      refine lv_aload_n hx hb dX12_end_16 rfl (lv_at hl 0 rfl) ?_
      refine z_get C G clX12 0 rfl 0 (by decide) m_fl_RX12_7 rfl dX12_end_17 ?_
      refine lv_iconst (v := 4) hx hb dX12_end_20 (by decide) ?_
      refine lv_iload_n hx hb dX12_end_21 rfl (lv_at hl 1 rfl) ?_
      refine z_ist C G 1 rfl (vp_in_nI (n := 4) (by decide) (by decide)) dX12_end_22 (fun H locs G => ?_)
      have G : zS T A s.heap s [[zO11 mo m_all m_has i_size i_next i_where i_token i_number i_word i_wrong i_farCrossing m_read i_z0 i_crossings i_inns m_posts m_shut m_here i_steps i_done i_at i_gone m_was m_came m_seenAt m_rowWorth m_farBy m_used i_everywhere i_again0 i_d0 i_never i_firstCame i_longRun i_moved i_crowd i_l0 i_fitMany i_fitLeast i_fitMost m_fitPost m_fitEnd m_keptPosts i_x0], [zAr T 0 m_all 3952 (upd f_all 4 n)]] _ _ := G
      refine lv_iload_n hx hb dX12_end_23 rfl (lv_at hl 1 rfl) ?_
      exact z_back hQ9 (z_iret C hr hlocks G (Nat.le_of_ble_eq_true rfl) (Nat.le_of_ble_eq_true rfl) dX12_end_24 ⟨(upd f_all 4 n), rfl, (Or.inr ⟨by omega, rfl, rfl⟩)⟩)
    · have c_3n : ¬ n.toInt ≤ (f_all 4).toInt := fun q => c_3 ((fa_le _ _).mpr q)
      refine lv_iconst (v := (-1)) hx hb dX12_end_14 (by decide) ?_
      exact z_back hQ9 (z_iret C hr hlocks G (Nat.le_of_ble_eq_true rfl) (Nat.le_of_ble_eq_true rfl) dX12_end_15 ⟨f_all, rfl, (Or.inl ⟨by omega, by decide, rfl⟩)⟩)
theorem dX12_feed_0 : decode cX12_feed 0 = .ok (.aload_n 0, 1) := zo_42 (by decide +kernel)
theorem dX12_feed_1 : decode cX12_feed 1 = .ok (.getfield 7, 3) := zo_180 (by decide +kernel)
theorem dX12_feed_4 : decode cX12_feed 4 = .ok (.iconst 4, 1) := zo_7 (by decide +kernel)
theorem dX12_feed_5 : decode cX12_feed 5 = .ok (.iaload, 1) := zo_46 (by decide +kernel)
theorem dX12_feed_6 : decode cX12_feed 6 = .ok (.bipush 20, 2) := zo_16 (by decide +kernel)
theorem dX12_feed_8 : decode cX12_feed 8 = .ok (.iadd, 1) := zo_96 (by decide +kernel)
theorem dX12_feed_9 : decode cX12_feed 9 = .ok (.sipush 600, 3) := zo_17 (by decide +kernel)
theorem dX12_feed_12 : decode cX12_feed 12 = .ok (.if_icmp .le 5, 3) := zo_164 (by decide +kernel)
theorem dX12_feed_15 : decode cX12_feed 15 = .ok (.iconst (-1), 1) := zo_2 (by decide +kernel)
theorem dX12_feed_16 : decode cX12_feed 16 = .ok (.ireturn, 1) := zo_172 (by decide +kernel)
theorem dX12_feed_17 : decode cX12_feed 17 = .ok (.iconst 0, 1) := zo_3 (by decide +kernel)
theorem dX12_feed_18 : decode cX12_feed 18 = .ok (.istore 6, 2) := zo_54 (by decide +kernel)
theorem dX12_feed_20 : decode cX12_feed 20 = .ok (.iload 6, 2) := zo_21 (by decide +kernel)
theorem dX12_feed_22 : decode cX12_feed 22 = .ok (.bipush 20, 2) := zo_16 (by decide +kernel)
theorem dX12_feed_24 : decode cX12_feed 24 = .ok (.if_icmp .ge 98, 3) := zo_162 (by decide +kernel)
theorem dX12_feed_27 : decode cX12_feed 27 = .ok (.iload 6, 2) := zo_21 (by decide +kernel)
theorem dX12_feed_29 : decode cX12_feed 29 = .ok (.iconst 4, 1) := zo_7 (by decide +kernel)
theorem dX12_feed_30 : decode cX12_feed 30 = .ok (.if_icmp .ge 7, 3) := zo_162 (by decide +kernel)
theorem dX12_feed_33 : decode cX12_feed 33 = .ok (.iload_n 1, 1) := zo_27 (by decide +kernel)
theorem dX12_feed_34 : decode cX12_feed 34 = .ok (.goto 39, 3) := zo_167 (by decide +kernel)
theorem dX12_feed_37 : decode cX12_feed 37 = .ok (.iload 6, 2) := zo_21 (by decide +kernel)
theorem dX12_feed_39 : decode cX12_feed 39 = .ok (.bipush 8, 2) := zo_16 (by decide +kernel)
theorem dX12_feed_41 : decode cX12_feed 41 = .ok (.if_icmp .ge 7, 3) := zo_162 (by decide +kernel)
theorem dX12_feed_44 : decode cX12_feed 44 = .ok (.iload_n 2, 1) := zo_28 (by decide +kernel)
theorem dX12_feed_45 : decode cX12_feed 45 = .ok (.goto 28, 3) := zo_167 (by decide +kernel)
theorem dX12_feed_48 : decode cX12_feed 48 = .ok (.iload 6, 2) := zo_21 (by decide +kernel)
theorem dX12_feed_50 : decode cX12_feed 50 = .ok (.bipush 12, 2) := zo_16 (by decide +kernel)
theorem dX12_feed_52 : decode cX12_feed 52 = .ok (.if_icmp .ge 7, 3) := zo_162 (by decide +kernel)
theorem dX12_feed_55 : decode cX12_feed 55 = .ok (.iload_n 3, 1) := zo_29 (by decide +kernel)
theorem dX12_feed_56 : decode cX12_feed 56 = .ok (.goto 17, 3) := zo_167 (by decide +kernel)
theorem dX12_feed_59 : decode cX12_feed 59 = .ok (.iload 6, 2) := zo_21 (by decide +kernel)
theorem dX12_feed_61 : decode cX12_feed 61 = .ok (.bipush 16, 2) := zo_16 (by decide +kernel)
theorem dX12_feed_63 : decode cX12_feed 63 = .ok (.if_icmp .ge 8, 3) := zo_162 (by decide +kernel)
theorem dX12_feed_66 : decode cX12_feed 66 = .ok (.iload 4, 2) := zo_21 (by decide +kernel)
theorem dX12_feed_68 : decode cX12_feed 68 = .ok (.goto 5, 3) := zo_167 (by decide +kernel)
theorem dX12_feed_71 : decode cX12_feed 71 = .ok (.iload 5, 2) := zo_21 (by decide +kernel)
theorem dX12_feed_73 : decode cX12_feed 73 = .ok (.istore 7, 2) := zo_54 (by decide +kernel)
theorem dX12_feed_75 : decode cX12_feed 75 = .ok (.aload_n 0, 1) := zo_42 (by decide +kernel)
theorem dX12_feed_76 : decode cX12_feed 76 = .ok (.getfield 7, 3) := zo_180 (by decide +kernel)
theorem dX12_feed_79 : decode cX12_feed 79 = .ok (.bipush 10, 2) := zo_16 (by decide +kernel)
theorem dX12_feed_81 : decode cX12_feed 81 = .ok (.aload_n 0, 1) := zo_42 (by decide +kernel)
theorem dX12_feed_82 : decode cX12_feed 82 = .ok (.getfield 7, 3) := zo_180 (by decide +kernel)
theorem dX12_feed_85 : decode cX12_feed 85 = .ok (.iconst 4, 1) := zo_7 (by decide +kernel)
theorem dX12_feed_86 : decode cX12_feed 86 = .ok (.iaload, 1) := zo_46 (by decide +kernel)
theorem dX12_feed_87 : decode cX12_feed 87 = .ok (.iadd, 1) := zo_96 (by decide +kernel)
theorem dX12_feed_88 : decode cX12_feed 88 = .ok (.iload 7, 2) := zo_21 (by decide +kernel)
theorem dX12_feed_90 : decode cX12_feed 90 = .ok (.bipush 24, 2) := zo_16 (by decide +kernel)
theorem dX12_feed_92 : decode cX12_feed 92 = .ok (.bipush 8, 2) := zo_16 (by decide +kernel)
theorem dX12_feed_94 : decode cX12_feed 94 = .ok (.iload 6, 2) := zo_21 (by decide +kernel)
theorem dX12_feed_96 : decode cX12_feed 96 = .ok (.iconst 4, 1) := zo_7 (by decide +kernel)
theorem dX12_feed_97 : decode cX12_feed 97 = .ok (.irem, 1) := zo_112 (by decide +kernel)
theorem dX12_feed_98 : decode cX12_feed 98 = .ok (.imul, 1) := zo_104 (by decide +kernel)
theorem dX12_feed_99 : decode cX12_feed 99 = .ok (.isub, 1) := zo_100 (by decide +kernel)
theorem dX12_feed_100 : decode cX12_feed 100 = .ok (.ishr, 1) := zo_122 (by decide +kernel)
theorem dX12_feed_101 : decode cX12_feed 101 = .ok (.sipush 255, 3) := zo_17 (by decide +kernel)
theorem dX12_feed_104 : decode cX12_feed 104 = .ok (.iand, 1) := zo_126 (by decide +kernel)
theorem dX12_feed_105 : decode cX12_feed 105 = .ok (.iastore, 1) := zo_79 (by decide +kernel)
theorem dX12_feed_106 : decode cX12_feed 106 = .ok (.aload_n 0, 1) := zo_42 (by decide +kernel)
theorem dX12_feed_107 : decode cX12_feed 107 = .ok (.getfield 7, 3) := zo_180 (by decide +kernel)
theorem dX12_feed_110 : decode cX12_feed 110 = .ok (.iconst 4, 1) := zo_7 (by decide +kernel)
theorem dX12_feed_111 : decode cX12_feed 111 = .ok (.dup2, 1) := zo_92 (by decide +kernel)
theorem dX12_feed_112 : decode cX12_feed 112 = .ok (.iaload, 1) := zo_46 (by decide +kernel)
theorem dX12_feed_113 : decode cX12_feed 113 = .ok (.iconst 1, 1) := zo_4 (by decide +kernel)
theorem dX12_feed_114 : decode cX12_feed 114 = .ok (.iadd, 1) := zo_96 (by decide +kernel)
theorem dX12_feed_115 : decode cX12_feed 115 = .ok (.iastore, 1) := zo_79 (by decide +kernel)
theorem dX12_feed_116 : decode cX12_feed 116 = .ok (.iinc 6 1, 3) := zo_132 (by decide +kernel)
theorem dX12_feed_119 : decode cX12_feed 119 = .ok (.goto (-99), 3) := zo_167 (by decide +kernel)
theorem dX12_feed_122 : decode cX12_feed 122 = .ok (.aload_n 0, 1) := zo_42 (by decide +kernel)
theorem dX12_feed_123 : decode cX12_feed 123 = .ok (.getfield 7, 3) := zo_180 (by decide +kernel)
theorem dX12_feed_126 : decode cX12_feed 126 = .ok (.iconst 4, 1) := zo_7 (by decide +kernel)
theorem dX12_feed_127 : decode cX12_feed 127 = .ok (.iaload, 1) := zo_46 (by decide +kernel)
theorem dX12_feed_128 : decode cX12_feed 128 = .ok (.ireturn, 1) := zo_172 (by decide +kernel)
theorem m_co_X12_isIn : Cond.code yX12_isIn cX12_isIn 3 (some .boolean) ∈ zT := zmem1 zsub_6 139 rfl rfl
theorem m_ml_RX12_111 : Cond.methodLink RX12 111 yX12_isIn ∈ zT := zmem1 zsub_6 137 rfl rfl
theorem m_st_X12_isIn : Cond.static yX12_isIn ∈ zT := zmem1 zsub_6 138 rfl rfl
theorem m_ii_RX12 : Cond.initialized RX12 ∈ zT := zmem1 zsub_1 12 rfl rfl
theorem kS_RX12_111 {R : Room} {s : State} {args : Array Value} {d mc ms : Nat} (hts : ∀ w ∈ zT, w.before args s = true) (h1 : d + 1 ≤ R.frames) (h2 : 8 + (3 + 11) + 40 * d ≤ R.locals) : CallB R s args RX12 111 yX12_isIn cX12_isIn 3 (some .boolean) (zW yX12_isIn cX12_isIn 3 (some .boolean)) (zR d mc ms) mc ms 3 ∧ (Cond.static yX12_isIn).before args s = true := z_cwS hts m_co_X12_isIn m_ml_RX12_111 m_st_X12_isIn m_ii_RX12 (by decide +kernel) h1 h2
theorem dX12_isIn_0 : decode cX12_isIn 0 = .ok (.iload_n 0, 1) := zo_26 (by decide +kernel)
theorem dX12_isIn_1 : decode cX12_isIn 1 = .ok (.iload_n 1, 1) := zo_27 (by decide +kernel)
theorem dX12_isIn_2 : decode cX12_isIn 2 = .ok (.if_icmp .lt 12, 3) := zo_161 (by decide +kernel)
theorem dX12_isIn_5 : decode cX12_isIn 5 = .ok (.iload_n 0, 1) := zo_26 (by decide +kernel)
theorem dX12_isIn_6 : decode cX12_isIn 6 = .ok (.iload_n 2, 1) := zo_28 (by decide +kernel)
theorem dX12_isIn_7 : decode cX12_isIn 7 = .ok (.if_icmp .gt 7, 3) := zo_163 (by decide +kernel)
theorem dX12_isIn_10 : decode cX12_isIn 10 = .ok (.iconst 1, 1) := zo_4 (by decide +kernel)
theorem dX12_isIn_11 : decode cX12_isIn 11 = .ok (.goto 4, 3) := zo_167 (by decide +kernel)
theorem dX12_isIn_14 : decode cX12_isIn 14 = .ok (.iconst 0, 1) := zo_3 (by decide +kernel)
theorem dX12_isIn_15 : decode cX12_isIn 15 = .ok (.ireturn, 1) := zo_172 (by decide +kernel)
theorem dX12_image_0 : decode cX12_image 0 = .ok (.iload_n 1, 1) := zo_27 (by decide +kernel)
theorem dX12_image_1 : decode cX12_image 1 = .ok (.iconst 0, 1) := zo_3 (by decide +kernel)
theorem dX12_image_2 : decode cX12_image 2 = .ok (.iconst 2, 1) := zo_5 (by decide +kernel)
theorem dX12_image_3 : decode cX12_image 3 = .ok (.invokestatic 111, 3) := zo_184 (by decide +kernel)
theorem dX12_image_6 : decode cX12_image 6 = .ok (.ifCond .ne 5, 3) := zo_154 (by decide +kernel)
theorem dX12_image_9 : decode cX12_image 9 = .ok (.iconst 0, 1) := zo_3 (by decide +kernel)
theorem dX12_image_10 : decode cX12_image 10 = .ok (.ireturn, 1) := zo_172 (by decide +kernel)
theorem dX12_image_11 : decode cX12_image 11 = .ok (.aload_n 0, 1) := zo_42 (by decide +kernel)
theorem dX12_image_12 : decode cX12_image 12 = .ok (.getfield 13, 3) := zo_180 (by decide +kernel)
theorem dX12_image_15 : decode cX12_image 15 = .ok (.iload_n 1, 1) := zo_27 (by decide +kernel)
theorem dX12_image_16 : decode cX12_image 16 = .ok (.iconst 1, 1) := zo_4 (by decide +kernel)
theorem dX12_image_17 : decode cX12_image 17 = .ok (.bastore, 1) := zo_84 (by decide +kernel)
theorem dX12_image_18 : decode cX12_image 18 = .ok (.iconst 0, 1) := zo_3 (by decide +kernel)
theorem dX12_image_19 : decode cX12_image 19 = .ok (.istore_n 2, 1) := zo_61 (by decide +kernel)
theorem dX12_image_20 : decode cX12_image 20 = .ok (.iload_n 2, 1) := zo_28 (by decide +kernel)
theorem dX12_image_21 : decode cX12_image 21 = .ok (.sipush 988, 3) := zo_17 (by decide +kernel)
theorem dX12_image_24 : decode cX12_image 24 = .ok (.if_icmp .ge 29, 3) := zo_162 (by decide +kernel)
theorem dX12_image_27 : decode cX12_image 27 = .ok (.aload_n 0, 1) := zo_42 (by decide +kernel)
theorem dX12_image_28 : decode cX12_image 28 = .ok (.getfield 7, 3) := zo_180 (by decide +kernel)
theorem dX12_image_31 : decode cX12_image 31 = .ok (.sipush 988, 3) := zo_17 (by decide +kernel)
theorem dX12_image_34 : decode cX12_image 34 = .ok (.iload_n 1, 1) := zo_27 (by decide +kernel)
theorem dX12_image_35 : decode cX12_image 35 = .ok (.iconst 1, 1) := zo_4 (by decide +kernel)
theorem dX12_image_36 : decode cX12_image 36 = .ok (.iadd, 1) := zo_96 (by decide +kernel)
theorem dX12_image_37 : decode cX12_image 37 = .ok (.imul, 1) := zo_104 (by decide +kernel)
theorem dX12_image_38 : decode cX12_image 38 = .ok (.iload_n 2, 1) := zo_28 (by decide +kernel)
theorem dX12_image_39 : decode cX12_image 39 = .ok (.iadd, 1) := zo_96 (by decide +kernel)
theorem dX12_image_40 : decode cX12_image 40 = .ok (.aload_n 0, 1) := zo_42 (by decide +kernel)
theorem dX12_image_41 : decode cX12_image 41 = .ok (.getfield 7, 3) := zo_180 (by decide +kernel)
theorem dX12_image_44 : decode cX12_image 44 = .ok (.iload_n 2, 1) := zo_28 (by decide +kernel)
theorem dX12_image_45 : decode cX12_image 45 = .ok (.iaload, 1) := zo_46 (by decide +kernel)
theorem dX12_image_46 : decode cX12_image 46 = .ok (.iastore, 1) := zo_79 (by decide +kernel)
theorem dX12_image_47 : decode cX12_image 47 = .ok (.iinc 2 1, 3) := zo_132 (by decide +kernel)
theorem dX12_image_50 : decode cX12_image 50 = .ok (.goto (-30), 3) := zo_167 (by decide +kernel)
theorem dX12_image_53 : decode cX12_image 53 = .ok (.iconst 1, 1) := zo_4 (by decide +kernel)
theorem dX12_image_54 : decode cX12_image 54 = .ok (.ireturn, 1) := zo_172 (by decide +kernel)
set_option maxHeartbeats 4000000 in
set_option maxRecDepth 100000 in
/-- c_m_isIn -/
theorem c_m_isIn (l : Launch) (T : zTy) (x : Int32) (y : Int32) (z : Int32) : zMi l T yX12_isIn cX12_isIn 3 (some .boolean) 1 0 0 [.int x, .int y, .int z] [] (fun (r : Int32) bs => bs = [] ∧ ((r = 1 ∧ y.toInt ≤ x.toInt ∧ x.toInt ≤ z.toInt) ∨ (r = 0 ∧ (x.toInt < y.toInt ∨ z.toInt < x.toInt)))) := by
  refine zMi_of (own := RX12) (by decide) rfl (Nat.le_of_ble_eq_true rfl) ?_
  intro p e s m args below meth c A ls C hr hlocks hnm hAe G hl
  refine zHide (fun Q9 hQ9 => ?_)
  have hx := C.1
  have hb := C.2.1
  have hl : lv_has ls 3 [(0, .int x), (1, .int y), (2, .int z)] := hl
  refine lv_iload_n hx hb dX12_isIn_0 rfl (lv_at hl 0 rfl) ?_
  refine lv_iload_n hx hb dX12_isIn_1 rfl (lv_at hl 1 rfl) ?_
  refine lv_icmp_lt (tgt := 14) hx hb dX12_isIn_2 (by decide) (fun c_1 => ?_) (fun c_1 => ?_)
  · have c_1n : x.toInt < y.toInt := (fa_lt _ _).mp c_1
    refine lv_iconst (v := 0) hx hb dX12_isIn_14 (by decide) ?_
    exact z_back hQ9 (z_zret C hr hlocks G (Nat.le_of_ble_eq_true rfl) (Nat.le_of_ble_eq_true rfl) dX12_isIn_15 rfl ⟨rfl, (Or.inr (⟨rfl, (by first | with_reducible assumption | omega | assumption)⟩))⟩)
  · have c_1n : ¬ x.toInt < y.toInt := fun q => c_1 ((fa_lt _ _).mpr q)
    refine lv_iload_n hx hb dX12_isIn_5 rfl (lv_at hl 0 rfl) ?_
    refine lv_iload_n hx hb dX12_isIn_6 rfl (lv_at hl 2 rfl) ?_
    refine lv_icmp_gt (tgt := 14) hx hb dX12_isIn_7 (by decide) (fun c_2 => ?_) (fun c_2 => ?_)
    · have c_2n : z.toInt < x.toInt := (fa_lt _ _).mp c_2
      refine lv_iconst (v := 0) hx hb dX12_isIn_14 (by decide) ?_
      exact z_back hQ9 (z_zret C hr hlocks G (Nat.le_of_ble_eq_true rfl) (Nat.le_of_ble_eq_true rfl) dX12_isIn_15 rfl ⟨rfl, (Or.inr (⟨rfl, (by first | with_reducible assumption | omega | assumption)⟩))⟩)
    · have c_2n : ¬ z.toInt < x.toInt := fun q => c_2 ((fa_lt _ _).mpr q)
      refine lv_iconst (v := 1) hx hb dX12_isIn_10 (by decide) ?_
      refine lv_goto (tgt := 15) hx hb dX12_isIn_11 (by decide) ?_
      exact z_back hQ9 (z_zret C hr hlocks G (Nat.le_of_ble_eq_true rfl) (Nat.le_of_ble_eq_true rfl) dX12_isIn_15 rfl ⟨rfl, (Or.inl (⟨rfl, (by first | with_reducible assumption | omega | assumption), (by first | with_reducible assumption | omega | assumption)⟩))⟩)
theorem z_upS {x f : Nat → Int32} {b i : Nat} {v : Int32} (h : ∀ j, j < i → x (b + j) = f j) (hv : v = f i) : ∀ j, j < i + 1 → upd x (b + i) v (b + j) = f j := by
  intro j hj
  unfold upd
  split
  · rename_i e
    rw [show j = i by omega]
    exact hv
  · exact h j (by omega)
theorem z_upO {x f : Nat → Int32} {p : Nat → Prop} {i : Nat} {v : Int32} (h : ∀ j, p j → x j = f j) (hi : ¬ p i) : ∀ j, p j → upd x i v j = f j := by
  intro j hj
  unfold upd
  split
  · rename_i e
    exact absurd (e ▸ hj) hi
  · exact h j hj
set_option maxHeartbeats 4000000 in
set_option maxRecDepth 100000 in
/-- c_m_image -/
theorem c_m_image (l : Launch) (T : zTy) (mo : Nat) (m_all : Nat) (m_has : Nat) (i_size : Int32) (i_next : Int32) (i_where : Int32) (i_token : Int32) (i_number : Int32) (i_word : Int32) (i_wrong : Int32) (i_farCrossing : Int32) (m_read : Nat) (i_z0 : Int32) (i_crossings : Int32) (i_inns : Int32) (m_posts : Nat) (m_shut : Nat) (m_here : Nat) (i_steps : Int32) (i_done : Int32) (i_at : Int32) (i_gone : Int32) (m_was : Nat) (m_came : Nat) (m_seenAt : Nat) (m_rowWorth : Nat) (m_farBy : Nat) (m_used : Nat) (i_everywhere : Int32) (i_again0 : Int32) (i_d0 : Int32) (i_never : Int32) (i_firstCame : Int32) (i_longRun : Int32) (i_moved : Int32) (i_crowd : Int32) (i_l0 : Int32) (i_fitMany : Int32) (i_fitLeast : Int32) (i_fitMost : Int32) (m_fitPost : Nat) (m_fitEnd : Nat) (m_keptPosts : Nat) (i_x0 : Int32) (f_all : Nat → Int32) (f_has : Nat → Int32) (k_ : Int32) : zMi l T yX12_image cX12_image 3 (some .boolean) 2 0 0 [.ref mo, .int k_] [[zO11 mo m_all m_has i_size i_next i_where i_token i_number i_word i_wrong i_farCrossing m_read i_z0 i_crossings i_inns m_posts m_shut m_here i_steps i_done i_at i_gone m_was m_came m_seenAt m_rowWorth m_farBy m_used i_everywhere i_again0 i_d0 i_never i_firstCame i_longRun i_moved i_crowd i_l0 i_fitMany i_fitLeast i_fitMost m_fitPost m_fitEnd m_keptPosts i_x0], [zAr T 0 m_all 3952 f_all], [zAr T 2 m_has 3 f_has]] (fun (r : Int32) bs => ∃ (g_all : Nat → Int32) (g_has : Nat → Int32), bs = [[zO11 mo m_all m_has i_size i_next i_where i_token i_number i_word i_wrong i_farCrossing m_read i_z0 i_crossings i_inns m_posts m_shut m_here i_steps i_done i_at i_gone m_was m_came m_seenAt m_rowWorth m_farBy m_used i_everywhere i_again0 i_d0 i_never i_firstCame i_longRun i_moved i_crowd i_l0 i_fitMany i_fitLeast i_fitMost m_fitPost m_fitEnd m_keptPosts i_x0], [zAr T 0 m_all 3952 g_all], [zAr T 2 m_has 3 g_has]] ∧ (r = 0 ∧ (k_.toInt < 0 ∨ 3 ≤ k_.toInt) ∧ g_all = f_all ∧ g_has = f_has ∨ r = 1 ∧ (0 ≤ k_.toInt ∧ k_.toInt < 3) ∧ (∀ j, j < 988 → g_all (988 * (k_.toNatClampNeg + 1) + j) = f_all j) ∧ (∀ j, (j < 988 * (k_.toNatClampNeg + 1) ∨ 988 * (k_.toNatClampNeg + 1) + 988 ≤ j) → g_all j = f_all j) ∧ g_has = upd f_has k_.toNatClampNeg 1)) := by
  refine zMi_of (own := RX12) (by decide) rfl (Nat.le_of_ble_eq_true rfl) ?_
  intro p e s m args below meth c A ls C hr hlocks hnm hAe G hl
  refine zHide (fun Q9 hQ9 => ?_)
  have hx := C.1
  have hb := C.2.1
  have hl : lv_has ls 3 [(0, .ref mo), (1, .int k_)] := hl
  refine lv_iload_n hx hb dX12_image_0 rfl (lv_at hl 1 rfl) ?_
  refine lv_iconst (v := 0) hx hb dX12_image_1 (by decide) ?_
  refine lv_iconst (v := 2) hx hb dX12_image_2 (by decide) ?_
  refine z_Si (bc := []) (br := [[zO11 mo m_all m_has i_size i_next i_where i_token i_number i_word i_wrong i_farCrossing m_read i_z0 i_crossings i_inns m_posts m_shut m_here i_steps i_done i_at i_gone m_was m_came m_seenAt m_rowWorth m_farBy m_used i_everywhere i_again0 i_d0 i_never i_firstCame i_longRun i_moved i_crowd i_l0 i_fitMany i_fitLeast i_fitMost m_fitPost m_fitEnd m_keptPosts i_x0], [zAr T 0 m_all 3952 f_all], [zAr T 2 m_has 3 f_has]]) (As := [.int k_, .int 0, .int 2]) (rest := []) C G (c_m_isIn l T k_ 0 2) (kS_RX12_111 C.2.2.2.2 (Nat.le_of_ble_eq_true rfl) (Nat.le_of_ble_eq_true rfl)) [] [] rfl rfl rfl rfl hl.1 dX12_image_3 (Nat.le_of_ble_eq_true rfl) (Nat.le_of_ble_eq_true rfl) (fun r_2 b1 H locs hw G => ?_)
  refine zAn2 hw ?_
  intro hbs9 hc_1
  clear hw
  subst hbs9
  have G : zS T A s.heap s [[zO11 mo m_all m_has i_size i_next i_where i_token i_number i_word i_wrong i_farCrossing m_read i_z0 i_crossings i_inns m_posts m_shut m_here i_steps i_done i_at i_gone m_was m_came m_seenAt m_rowWorth m_farBy m_used i_everywhere i_again0 i_d0 i_never i_firstCame i_longRun i_moved i_crowd i_l0 i_fitMany i_fitLeast i_fitMost m_fitPost m_fitEnd m_keptPosts i_x0], [zAr T 0 m_all 3952 f_all], [zAr T 2 m_has 3 f_has]] _ _ := G
  rcases hc_1 with ⟨rfl, h_3, h_4⟩ | ⟨rfl, h_5⟩
  · have h_3 : (0 : Int) ≤ k_.toInt := h_3
    have h_4 : k_.toInt ≤ (2 : Int) := h_4
    refine lv_if_ne (tgt := 11) hx hb dX12_image_6 (by decide) (fun _ => ?_) (fun q => absurd q (by decide))
    rcases (show k_.toInt = 0 ∨ k_.toInt = 1 ∨ k_.toInt = 2 from by omega) with hk | hk | hk
    · obtain rfl : k_ = 0 := Int32.toInt_inj.mp hk
      refine lv_aload_n hx hb dX12_image_11 rfl (lv_at hl 0 rfl) ?_
      refine z_get C G clX12 0 rfl 1 (by decide) m_fl_RX12_13 rfl dX12_image_12 ?_
      refine lv_iload_n hx hb dX12_image_15 rfl (lv_at hl 1 rfl) ?_
      refine lv_iconst (v := 1) hx hb dX12_image_16 (by decide) ?_
      refine z_zst C G 2 rfl (vp_in_nI (n := 0) (by decide) (by decide)) dX12_image_17 (fun H locs G => ?_)
      have G : zS T A s.heap s [[zO11 mo m_all m_has i_size i_next i_where i_token i_number i_word i_wrong i_farCrossing m_read i_z0 i_crossings i_inns m_posts m_shut m_here i_steps i_done i_at i_gone m_was m_came m_seenAt m_rowWorth m_farBy m_used i_everywhere i_again0 i_d0 i_never i_firstCame i_longRun i_moved i_crowd i_l0 i_fitMany i_fitLeast i_fitMost m_fitPost m_fitEnd m_keptPosts i_x0], [zAr T 0 m_all 3952 f_all], [zAr T 2 m_has 3 (upd f_has 0 (vp_nar .boolean 1))]] _ _ := G
      refine lv_iconst (v := 0) hx hb dX12_image_18 (by decide) ?_
      refine lv_istore_n (lv' := [(2, .int 0), (0, .ref mo), (1, .int 0)]) hx hb dX12_image_19 rfl hl (by decide) rfl (fun ls hl => ?_)
      refine z_lp2 (T := T) 20 (fun (i : Nat) (x : Nat → Int32) => [[zO11 mo m_all m_has i_size i_next i_where i_token i_number i_word i_wrong i_farCrossing m_read i_z0 i_crossings i_inns m_posts m_shut m_here i_steps i_done i_at i_gone m_was m_came m_seenAt m_rowWorth m_farBy m_used i_everywhere i_again0 i_d0 i_never i_firstCame i_longRun i_moved i_crowd i_l0 i_fitMany i_fitLeast i_fitMost m_fitPost m_fitEnd m_keptPosts i_x0], [zAr T 0 m_all 3952 x], [zAr T 2 m_has 3 (upd f_has 0 (vp_nar .boolean 1))]]) (fun (i : Nat) (x : Nat → Int32) => [(2, .int (nI i)), (0, .ref mo), (1, .int 0)]) (fun (i : Nat) (x : Nat → Int32) => i ≤ 988 ∧ (∀ j, j < i → x (988 + j) = f_all j) ∧ (∀ j, (j < 988 ∨ 1976 ≤ j) → x j = f_all j)) (fun (i : Nat) (x : Nat → Int32) => 988 - i) ?_ 0 f_all (show 0 ≤ 988 ∧ (∀ j, j < 0 → f_all (988 + j) = f_all j) ∧ (∀ j, (j < 988 ∨ 1976 ≤ j) → f_all j = f_all j) from ⟨by omega, fun j hj => absurd hj (by omega), fun j _ => rfl⟩) G (lv_sub hl [0, 1, 2] rfl)
      intro i x hI9 ih_20 H locs ls G hl
      replace hI9 : i ≤ 988 ∧ (∀ j, j < i → x (988 + j) = f_all j) ∧ (∀ j, (j < 988 ∨ 1976 ≤ j) → x j = f_all j) := hI9
      refine zAn3 hI9 ?_
      intro hi hS hO
      clear hI9
      replace G : zS T A s.heap s [[zO11 mo m_all m_has i_size i_next i_where i_token i_number i_word i_wrong i_farCrossing m_read i_z0 i_crossings i_inns m_posts m_shut m_here i_steps i_done i_at i_gone m_was m_came m_seenAt m_rowWorth m_farBy m_used i_everywhere i_again0 i_d0 i_never i_firstCame i_longRun i_moved i_crowd i_l0 i_fitMany i_fitLeast i_fitMost m_fitPost m_fitEnd m_keptPosts i_x0], [zAr T 0 m_all 3952 x], [zAr T 2 m_has 3 (upd f_has 0 (vp_nar .boolean 1))]] _ _ := G
      replace hl : lv_has ls 3 [(2, .int (nI i)), (0, .ref mo), (1, .int 0)] := hl
      refine lv_iload_n hx hb dX12_image_20 rfl (lv_at hl 0 rfl) ?_
      refine lv_sipush (v := 988) hx hb dX12_image_21 (by decide) ?_
      refine lv_icmp_ge (tgt := 53) hx hb dX12_image_24 (by decide) (fun c_6 => ?_) (fun c_6 => ?_)
      · have c_6n : 988 ≤ i := (nI_leI (a := 988) (b := i) (by omega) (by omega)).mp c_6
        refine lv_iconst (v := 1) hx hb dX12_image_53 (by decide) ?_
        exact z_back hQ9 (z_zret C hr hlocks G (Nat.le_of_ble_eq_true rfl) (Nat.le_of_ble_eq_true rfl) dX12_image_54 rfl ⟨x, (upd f_has 0 (vp_nar .boolean 1)), rfl, (Or.inr ⟨rfl, by decide, fun j hj => hS j (by omega), hO, rfl⟩)⟩)
      · have c_6n : ¬ 988 ≤ i := fun q => c_6 ((nI_leI (a := 988) (b := i) (by omega) (by omega)).mpr q)
        refine lv_aload_n hx hb dX12_image_27 rfl (lv_at hl 1 rfl) ?_
        refine z_get C G clX12 0 rfl 0 (by decide) m_fl_RX12_7 rfl dX12_image_28 ?_
        refine lv_sipush (v := 988) hx hb dX12_image_31 (by decide) ?_
        refine lv_iload_n hx hb dX12_image_34 rfl (lv_at hl 2 rfl) ?_
        refine lv_iconst (v := 1) hx hb dX12_image_35 (by decide) ?_
        refine lv_iadd hx hb dX12_image_36 ?_
        refine lv_topi (fun y_7 ey_7 => ?_)
        obtain rfl : y_7 = 1 := ey_7.trans (by decide)
        refine lv_imul hx hb dX12_image_37 ?_
        refine lv_topi (fun y_8 ey_8 => ?_)
        obtain rfl : y_8 = 988 := ey_8.trans (by decide)
        refine lv_iload_n hx hb dX12_image_38 rfl (lv_at hl 0 rfl) ?_
        refine lv_iadd hx hb dX12_image_39 ?_
        refine lv_topi (fun y_9 ey_9 => ?_)
        obtain rfl : y_9 = nI (988 + i) := ey_9.trans (z_iaddn 988 i rfl rfl)
        refine lv_aload_n hx hb dX12_image_40 rfl (lv_at hl 1 rfl) ?_
        refine z_get C G clX12 0 rfl 0 (by decide) m_fl_RX12_7 rfl dX12_image_41 ?_
        refine lv_iload_n hx hb dX12_image_44 rfl (lv_at hl 0 rfl) ?_
        refine z_ild C G 1 rfl (vp_in_nI (by omega) (by omega)) dX12_image_45 ?_
        refine lv_topi (fun v_10 ev_10 => ?_)
        rw [nI_clamp (by omega)] at ev_10
        subst ev_10
        refine z_ist C G 1 rfl (vp_in_nI (by omega) (by omega)) dX12_image_46 (fun H locs G => ?_)
        rw [nI_clamp (by omega)] at G
        have G : zS T A s.heap s [[zO11 mo m_all m_has i_size i_next i_where i_token i_number i_word i_wrong i_farCrossing m_read i_z0 i_crossings i_inns m_posts m_shut m_here i_steps i_done i_at i_gone m_was m_came m_seenAt m_rowWorth m_farBy m_used i_everywhere i_again0 i_d0 i_never i_firstCame i_longRun i_moved i_crowd i_l0 i_fitMany i_fitLeast i_fitMost m_fitPost m_fitEnd m_keptPosts i_x0], [zAr T 0 m_all 3952 (upd x (988 + i) (x i))], [zAr T 2 m_has 3 (upd f_has 0 (vp_nar .boolean 1))]] _ _ := G
        refine lv_iinc (v := nI (i + 1)) (lv' := [(2, .int (nI (i + 1))), (0, .ref mo), (1, .int 0)]) hx hb dX12_image_47 hl (k := 0) rfl (z_inc i 1) (by decide) rfl (fun ls hl => ?_)
        refine lv_goto (tgt := 20) hx hb dX12_image_50 (by decide) ?_
        exact ih_20 (i + 1) (upd x (988 + i) (x i)) (show (i + 1) ≤ 988 ∧ (∀ j, j < (i + 1) → (upd x (988 + i) (x i)) (988 + j) = f_all j) ∧ (∀ j, (j < 988 ∨ 1976 ≤ j) → (upd x (988 + i) (x i)) j = f_all j) from ⟨by omega, z_upS hS (hO i (by omega)), z_upO hO (by omega)⟩) (show 988 - (i + 1) < 988 - i from by omega) _ _ ls G (lv_sub hl [0, 1, 2] rfl)
    · obtain rfl : k_ = 1 := Int32.toInt_inj.mp hk
      refine lv_aload_n hx hb dX12_image_11 rfl (lv_at hl 0 rfl) ?_
      refine z_get C G clX12 0 rfl 1 (by decide) m_fl_RX12_13 rfl dX12_image_12 ?_
      refine lv_iload_n hx hb dX12_image_15 rfl (lv_at hl 1 rfl) ?_
      refine lv_iconst (v := 1) hx hb dX12_image_16 (by decide) ?_
      refine z_zst C G 2 rfl (vp_in_nI (n := 1) (by decide) (by decide)) dX12_image_17 (fun H locs G => ?_)
      have G : zS T A s.heap s [[zO11 mo m_all m_has i_size i_next i_where i_token i_number i_word i_wrong i_farCrossing m_read i_z0 i_crossings i_inns m_posts m_shut m_here i_steps i_done i_at i_gone m_was m_came m_seenAt m_rowWorth m_farBy m_used i_everywhere i_again0 i_d0 i_never i_firstCame i_longRun i_moved i_crowd i_l0 i_fitMany i_fitLeast i_fitMost m_fitPost m_fitEnd m_keptPosts i_x0], [zAr T 0 m_all 3952 f_all], [zAr T 2 m_has 3 (upd f_has 1 (vp_nar .boolean 1))]] _ _ := G
      refine lv_iconst (v := 0) hx hb dX12_image_18 (by decide) ?_
      refine lv_istore_n (lv' := [(2, .int 0), (0, .ref mo), (1, .int 1)]) hx hb dX12_image_19 rfl hl (by decide) rfl (fun ls hl => ?_)
      refine z_lp2 (T := T) 20 (fun (i : Nat) (x : Nat → Int32) => [[zO11 mo m_all m_has i_size i_next i_where i_token i_number i_word i_wrong i_farCrossing m_read i_z0 i_crossings i_inns m_posts m_shut m_here i_steps i_done i_at i_gone m_was m_came m_seenAt m_rowWorth m_farBy m_used i_everywhere i_again0 i_d0 i_never i_firstCame i_longRun i_moved i_crowd i_l0 i_fitMany i_fitLeast i_fitMost m_fitPost m_fitEnd m_keptPosts i_x0], [zAr T 0 m_all 3952 x], [zAr T 2 m_has 3 (upd f_has 1 (vp_nar .boolean 1))]]) (fun (i : Nat) (x : Nat → Int32) => [(2, .int (nI i)), (0, .ref mo), (1, .int 1)]) (fun (i : Nat) (x : Nat → Int32) => i ≤ 988 ∧ (∀ j, j < i → x (1976 + j) = f_all j) ∧ (∀ j, (j < 1976 ∨ 2964 ≤ j) → x j = f_all j)) (fun (i : Nat) (x : Nat → Int32) => 988 - i) ?_ 0 f_all (show 0 ≤ 988 ∧ (∀ j, j < 0 → f_all (1976 + j) = f_all j) ∧ (∀ j, (j < 1976 ∨ 2964 ≤ j) → f_all j = f_all j) from ⟨by omega, fun j hj => absurd hj (by omega), fun j _ => rfl⟩) G (lv_sub hl [0, 1, 2] rfl)
      intro i x hI9 ih_20 H locs ls G hl
      replace hI9 : i ≤ 988 ∧ (∀ j, j < i → x (1976 + j) = f_all j) ∧ (∀ j, (j < 1976 ∨ 2964 ≤ j) → x j = f_all j) := hI9
      refine zAn3 hI9 ?_
      intro hi hS hO
      clear hI9
      replace G : zS T A s.heap s [[zO11 mo m_all m_has i_size i_next i_where i_token i_number i_word i_wrong i_farCrossing m_read i_z0 i_crossings i_inns m_posts m_shut m_here i_steps i_done i_at i_gone m_was m_came m_seenAt m_rowWorth m_farBy m_used i_everywhere i_again0 i_d0 i_never i_firstCame i_longRun i_moved i_crowd i_l0 i_fitMany i_fitLeast i_fitMost m_fitPost m_fitEnd m_keptPosts i_x0], [zAr T 0 m_all 3952 x], [zAr T 2 m_has 3 (upd f_has 1 (vp_nar .boolean 1))]] _ _ := G
      replace hl : lv_has ls 3 [(2, .int (nI i)), (0, .ref mo), (1, .int 1)] := hl
      refine lv_iload_n hx hb dX12_image_20 rfl (lv_at hl 0 rfl) ?_
      refine lv_sipush (v := 988) hx hb dX12_image_21 (by decide) ?_
      refine lv_icmp_ge (tgt := 53) hx hb dX12_image_24 (by decide) (fun c_11 => ?_) (fun c_11 => ?_)
      · have c_11n : 988 ≤ i := (nI_leI (a := 988) (b := i) (by omega) (by omega)).mp c_11
        refine lv_iconst (v := 1) hx hb dX12_image_53 (by decide) ?_
        exact z_back hQ9 (z_zret C hr hlocks G (Nat.le_of_ble_eq_true rfl) (Nat.le_of_ble_eq_true rfl) dX12_image_54 rfl ⟨x, (upd f_has 1 (vp_nar .boolean 1)), rfl, (Or.inr ⟨rfl, by decide, fun j hj => hS j (by omega), hO, rfl⟩)⟩)
      · have c_11n : ¬ 988 ≤ i := fun q => c_11 ((nI_leI (a := 988) (b := i) (by omega) (by omega)).mpr q)
        refine lv_aload_n hx hb dX12_image_27 rfl (lv_at hl 1 rfl) ?_
        refine z_get C G clX12 0 rfl 0 (by decide) m_fl_RX12_7 rfl dX12_image_28 ?_
        refine lv_sipush (v := 988) hx hb dX12_image_31 (by decide) ?_
        refine lv_iload_n hx hb dX12_image_34 rfl (lv_at hl 2 rfl) ?_
        refine lv_iconst (v := 1) hx hb dX12_image_35 (by decide) ?_
        refine lv_iadd hx hb dX12_image_36 ?_
        refine lv_topi (fun y_12 ey_12 => ?_)
        obtain rfl : y_12 = 2 := ey_12.trans (by decide)
        refine lv_imul hx hb dX12_image_37 ?_
        refine lv_topi (fun y_13 ey_13 => ?_)
        obtain rfl : y_13 = 1976 := ey_13.trans (by decide)
        refine lv_iload_n hx hb dX12_image_38 rfl (lv_at hl 0 rfl) ?_
        refine lv_iadd hx hb dX12_image_39 ?_
        refine lv_topi (fun y_14 ey_14 => ?_)
        obtain rfl : y_14 = nI (1976 + i) := ey_14.trans (z_iaddn 1976 i rfl rfl)
        refine lv_aload_n hx hb dX12_image_40 rfl (lv_at hl 1 rfl) ?_
        refine z_get C G clX12 0 rfl 0 (by decide) m_fl_RX12_7 rfl dX12_image_41 ?_
        refine lv_iload_n hx hb dX12_image_44 rfl (lv_at hl 0 rfl) ?_
        refine z_ild C G 1 rfl (vp_in_nI (by omega) (by omega)) dX12_image_45 ?_
        refine lv_topi (fun v_15 ev_15 => ?_)
        rw [nI_clamp (by omega)] at ev_15
        subst ev_15
        refine z_ist C G 1 rfl (vp_in_nI (by omega) (by omega)) dX12_image_46 (fun H locs G => ?_)
        rw [nI_clamp (by omega)] at G
        have G : zS T A s.heap s [[zO11 mo m_all m_has i_size i_next i_where i_token i_number i_word i_wrong i_farCrossing m_read i_z0 i_crossings i_inns m_posts m_shut m_here i_steps i_done i_at i_gone m_was m_came m_seenAt m_rowWorth m_farBy m_used i_everywhere i_again0 i_d0 i_never i_firstCame i_longRun i_moved i_crowd i_l0 i_fitMany i_fitLeast i_fitMost m_fitPost m_fitEnd m_keptPosts i_x0], [zAr T 0 m_all 3952 (upd x (1976 + i) (x i))], [zAr T 2 m_has 3 (upd f_has 1 (vp_nar .boolean 1))]] _ _ := G
        refine lv_iinc (v := nI (i + 1)) (lv' := [(2, .int (nI (i + 1))), (0, .ref mo), (1, .int 1)]) hx hb dX12_image_47 hl (k := 0) rfl (z_inc i 1) (by decide) rfl (fun ls hl => ?_)
        refine lv_goto (tgt := 20) hx hb dX12_image_50 (by decide) ?_
        exact ih_20 (i + 1) (upd x (1976 + i) (x i)) (show (i + 1) ≤ 988 ∧ (∀ j, j < (i + 1) → (upd x (1976 + i) (x i)) (1976 + j) = f_all j) ∧ (∀ j, (j < 1976 ∨ 2964 ≤ j) → (upd x (1976 + i) (x i)) j = f_all j) from ⟨by omega, z_upS hS (hO i (by omega)), z_upO hO (by omega)⟩) (show 988 - (i + 1) < 988 - i from by omega) _ _ ls G (lv_sub hl [0, 1, 2] rfl)
    · obtain rfl : k_ = 2 := Int32.toInt_inj.mp hk
      refine lv_aload_n hx hb dX12_image_11 rfl (lv_at hl 0 rfl) ?_
      refine z_get C G clX12 0 rfl 1 (by decide) m_fl_RX12_13 rfl dX12_image_12 ?_
      refine lv_iload_n hx hb dX12_image_15 rfl (lv_at hl 1 rfl) ?_
      refine lv_iconst (v := 1) hx hb dX12_image_16 (by decide) ?_
      refine z_zst C G 2 rfl (vp_in_nI (n := 2) (by decide) (by decide)) dX12_image_17 (fun H locs G => ?_)
      have G : zS T A s.heap s [[zO11 mo m_all m_has i_size i_next i_where i_token i_number i_word i_wrong i_farCrossing m_read i_z0 i_crossings i_inns m_posts m_shut m_here i_steps i_done i_at i_gone m_was m_came m_seenAt m_rowWorth m_farBy m_used i_everywhere i_again0 i_d0 i_never i_firstCame i_longRun i_moved i_crowd i_l0 i_fitMany i_fitLeast i_fitMost m_fitPost m_fitEnd m_keptPosts i_x0], [zAr T 0 m_all 3952 f_all], [zAr T 2 m_has 3 (upd f_has 2 (vp_nar .boolean 1))]] _ _ := G
      refine lv_iconst (v := 0) hx hb dX12_image_18 (by decide) ?_
      refine lv_istore_n (lv' := [(2, .int 0), (0, .ref mo), (1, .int 2)]) hx hb dX12_image_19 rfl hl (by decide) rfl (fun ls hl => ?_)
      refine z_lp2 (T := T) 20 (fun (i : Nat) (x : Nat → Int32) => [[zO11 mo m_all m_has i_size i_next i_where i_token i_number i_word i_wrong i_farCrossing m_read i_z0 i_crossings i_inns m_posts m_shut m_here i_steps i_done i_at i_gone m_was m_came m_seenAt m_rowWorth m_farBy m_used i_everywhere i_again0 i_d0 i_never i_firstCame i_longRun i_moved i_crowd i_l0 i_fitMany i_fitLeast i_fitMost m_fitPost m_fitEnd m_keptPosts i_x0], [zAr T 0 m_all 3952 x], [zAr T 2 m_has 3 (upd f_has 2 (vp_nar .boolean 1))]]) (fun (i : Nat) (x : Nat → Int32) => [(2, .int (nI i)), (0, .ref mo), (1, .int 2)]) (fun (i : Nat) (x : Nat → Int32) => i ≤ 988 ∧ (∀ j, j < i → x (2964 + j) = f_all j) ∧ (∀ j, (j < 2964 ∨ 3952 ≤ j) → x j = f_all j)) (fun (i : Nat) (x : Nat → Int32) => 988 - i) ?_ 0 f_all (show 0 ≤ 988 ∧ (∀ j, j < 0 → f_all (2964 + j) = f_all j) ∧ (∀ j, (j < 2964 ∨ 3952 ≤ j) → f_all j = f_all j) from ⟨by omega, fun j hj => absurd hj (by omega), fun j _ => rfl⟩) G (lv_sub hl [0, 1, 2] rfl)
      intro i x hI9 ih_20 H locs ls G hl
      replace hI9 : i ≤ 988 ∧ (∀ j, j < i → x (2964 + j) = f_all j) ∧ (∀ j, (j < 2964 ∨ 3952 ≤ j) → x j = f_all j) := hI9
      refine zAn3 hI9 ?_
      intro hi hS hO
      clear hI9
      replace G : zS T A s.heap s [[zO11 mo m_all m_has i_size i_next i_where i_token i_number i_word i_wrong i_farCrossing m_read i_z0 i_crossings i_inns m_posts m_shut m_here i_steps i_done i_at i_gone m_was m_came m_seenAt m_rowWorth m_farBy m_used i_everywhere i_again0 i_d0 i_never i_firstCame i_longRun i_moved i_crowd i_l0 i_fitMany i_fitLeast i_fitMost m_fitPost m_fitEnd m_keptPosts i_x0], [zAr T 0 m_all 3952 x], [zAr T 2 m_has 3 (upd f_has 2 (vp_nar .boolean 1))]] _ _ := G
      replace hl : lv_has ls 3 [(2, .int (nI i)), (0, .ref mo), (1, .int 2)] := hl
      refine lv_iload_n hx hb dX12_image_20 rfl (lv_at hl 0 rfl) ?_
      refine lv_sipush (v := 988) hx hb dX12_image_21 (by decide) ?_
      refine lv_icmp_ge (tgt := 53) hx hb dX12_image_24 (by decide) (fun c_16 => ?_) (fun c_16 => ?_)
      · have c_16n : 988 ≤ i := (nI_leI (a := 988) (b := i) (by omega) (by omega)).mp c_16
        refine lv_iconst (v := 1) hx hb dX12_image_53 (by decide) ?_
        exact z_back hQ9 (z_zret C hr hlocks G (Nat.le_of_ble_eq_true rfl) (Nat.le_of_ble_eq_true rfl) dX12_image_54 rfl ⟨x, (upd f_has 2 (vp_nar .boolean 1)), rfl, (Or.inr ⟨rfl, by decide, fun j hj => hS j (by omega), hO, rfl⟩)⟩)
      · have c_16n : ¬ 988 ≤ i := fun q => c_16 ((nI_leI (a := 988) (b := i) (by omega) (by omega)).mpr q)
        refine lv_aload_n hx hb dX12_image_27 rfl (lv_at hl 1 rfl) ?_
        refine z_get C G clX12 0 rfl 0 (by decide) m_fl_RX12_7 rfl dX12_image_28 ?_
        refine lv_sipush (v := 988) hx hb dX12_image_31 (by decide) ?_
        refine lv_iload_n hx hb dX12_image_34 rfl (lv_at hl 2 rfl) ?_
        refine lv_iconst (v := 1) hx hb dX12_image_35 (by decide) ?_
        refine lv_iadd hx hb dX12_image_36 ?_
        refine lv_topi (fun y_17 ey_17 => ?_)
        obtain rfl : y_17 = 3 := ey_17.trans (by decide)
        refine lv_imul hx hb dX12_image_37 ?_
        refine lv_topi (fun y_18 ey_18 => ?_)
        obtain rfl : y_18 = 2964 := ey_18.trans (by decide)
        refine lv_iload_n hx hb dX12_image_38 rfl (lv_at hl 0 rfl) ?_
        refine lv_iadd hx hb dX12_image_39 ?_
        refine lv_topi (fun y_19 ey_19 => ?_)
        obtain rfl : y_19 = nI (2964 + i) := ey_19.trans (z_iaddn 2964 i rfl rfl)
        refine lv_aload_n hx hb dX12_image_40 rfl (lv_at hl 1 rfl) ?_
        refine z_get C G clX12 0 rfl 0 (by decide) m_fl_RX12_7 rfl dX12_image_41 ?_
        refine lv_iload_n hx hb dX12_image_44 rfl (lv_at hl 0 rfl) ?_
        refine z_ild C G 1 rfl (vp_in_nI (by omega) (by omega)) dX12_image_45 ?_
        refine lv_topi (fun v_20 ev_20 => ?_)
        rw [nI_clamp (by omega)] at ev_20
        subst ev_20
        refine z_ist C G 1 rfl (vp_in_nI (by omega) (by omega)) dX12_image_46 (fun H locs G => ?_)
        rw [nI_clamp (by omega)] at G
        have G : zS T A s.heap s [[zO11 mo m_all m_has i_size i_next i_where i_token i_number i_word i_wrong i_farCrossing m_read i_z0 i_crossings i_inns m_posts m_shut m_here i_steps i_done i_at i_gone m_was m_came m_seenAt m_rowWorth m_farBy m_used i_everywhere i_again0 i_d0 i_never i_firstCame i_longRun i_moved i_crowd i_l0 i_fitMany i_fitLeast i_fitMost m_fitPost m_fitEnd m_keptPosts i_x0], [zAr T 0 m_all 3952 (upd x (2964 + i) (x i))], [zAr T 2 m_has 3 (upd f_has 2 (vp_nar .boolean 1))]] _ _ := G
        refine lv_iinc (v := nI (i + 1)) (lv' := [(2, .int (nI (i + 1))), (0, .ref mo), (1, .int 2)]) hx hb dX12_image_47 hl (k := 0) rfl (z_inc i 1) (by decide) rfl (fun ls hl => ?_)
        refine lv_goto (tgt := 20) hx hb dX12_image_50 (by decide) ?_
        exact ih_20 (i + 1) (upd x (2964 + i) (x i)) (show (i + 1) ≤ 988 ∧ (∀ j, j < (i + 1) → (upd x (2964 + i) (x i)) (2964 + j) = f_all j) ∧ (∀ j, (j < 2964 ∨ 3952 ≤ j) → (upd x (2964 + i) (x i)) j = f_all j) from ⟨by omega, z_upS hS (hO i (by omega)), z_upO hO (by omega)⟩) (show 988 - (i + 1) < 988 - i from by omega) _ _ ls G (lv_sub hl [0, 1, 2] rfl)
  · have h_5 : (k_.toInt < (0 : Int) ∨ (2 : Int) < k_.toInt) := h_5
    refine lv_if_ne (tgt := 11) hx hb dX12_image_6 (by decide) (fun q => absurd (by decide) q) (fun _ => ?_)
    refine lv_iconst (v := 0) hx hb dX12_image_9 (by decide) ?_
    exact z_back hQ9 (z_zret C hr hlocks G (Nat.le_of_ble_eq_true rfl) (Nat.le_of_ble_eq_true rfl) dX12_image_10 rfl ⟨f_all, f_has, rfl, (Or.inl ⟨rfl, by omega, rfl, rfl⟩)⟩)
theorem dX12_again_0 : decode cX12_again 0 = .ok (.iload_n 1, 1) := zo_27 (by decide +kernel)
theorem dX12_again_1 : decode cX12_again 1 = .ok (.iconst 0, 1) := zo_3 (by decide +kernel)
theorem dX12_again_2 : decode cX12_again 2 = .ok (.iconst 2, 1) := zo_5 (by decide +kernel)
theorem dX12_again_3 : decode cX12_again 3 = .ok (.invokestatic 111, 3) := zo_184 (by decide +kernel)
theorem dX12_again_6 : decode cX12_again 6 = .ok (.ifCond .eq 12, 3) := zo_153 (by decide +kernel)
theorem dX12_again_9 : decode cX12_again 9 = .ok (.aload_n 0, 1) := zo_42 (by decide +kernel)
theorem dX12_again_10 : decode cX12_again 10 = .ok (.getfield 13, 3) := zo_180 (by decide +kernel)
theorem dX12_again_13 : decode cX12_again 13 = .ok (.iload_n 1, 1) := zo_27 (by decide +kernel)
theorem dX12_again_14 : decode cX12_again 14 = .ok (.baload, 1) := zo_51 (by decide +kernel)
theorem dX12_again_15 : decode cX12_again 15 = .ok (.ifCond .ne 5, 3) := zo_154 (by decide +kernel)
theorem dX12_again_18 : decode cX12_again 18 = .ok (.iconst 0, 1) := zo_3 (by decide +kernel)
theorem dX12_again_19 : decode cX12_again 19 = .ok (.ireturn, 1) := zo_172 (by decide +kernel)
theorem dX12_again_20 : decode cX12_again 20 = .ok (.iconst 0, 1) := zo_3 (by decide +kernel)
theorem dX12_again_21 : decode cX12_again 21 = .ok (.istore_n 2, 1) := zo_61 (by decide +kernel)
theorem dX12_again_22 : decode cX12_again 22 = .ok (.iload_n 2, 1) := zo_28 (by decide +kernel)
theorem dX12_again_23 : decode cX12_again 23 = .ok (.sipush 988, 3) := zo_17 (by decide +kernel)
theorem dX12_again_26 : decode cX12_again 26 = .ok (.if_icmp .ge 29, 3) := zo_162 (by decide +kernel)
theorem dX12_again_29 : decode cX12_again 29 = .ok (.aload_n 0, 1) := zo_42 (by decide +kernel)
theorem dX12_again_30 : decode cX12_again 30 = .ok (.getfield 7, 3) := zo_180 (by decide +kernel)
theorem dX12_again_33 : decode cX12_again 33 = .ok (.iload_n 2, 1) := zo_28 (by decide +kernel)
theorem dX12_again_34 : decode cX12_again 34 = .ok (.aload_n 0, 1) := zo_42 (by decide +kernel)
theorem dX12_again_35 : decode cX12_again 35 = .ok (.getfield 7, 3) := zo_180 (by decide +kernel)
theorem dX12_again_38 : decode cX12_again 38 = .ok (.sipush 988, 3) := zo_17 (by decide +kernel)
theorem dX12_again_41 : decode cX12_again 41 = .ok (.iload_n 1, 1) := zo_27 (by decide +kernel)
theorem dX12_again_42 : decode cX12_again 42 = .ok (.iconst 1, 1) := zo_4 (by decide +kernel)
theorem dX12_again_43 : decode cX12_again 43 = .ok (.iadd, 1) := zo_96 (by decide +kernel)
theorem dX12_again_44 : decode cX12_again 44 = .ok (.imul, 1) := zo_104 (by decide +kernel)
theorem dX12_again_45 : decode cX12_again 45 = .ok (.iload_n 2, 1) := zo_28 (by decide +kernel)
theorem dX12_again_46 : decode cX12_again 46 = .ok (.iadd, 1) := zo_96 (by decide +kernel)
theorem dX12_again_47 : decode cX12_again 47 = .ok (.iaload, 1) := zo_46 (by decide +kernel)
theorem dX12_again_48 : decode cX12_again 48 = .ok (.iastore, 1) := zo_79 (by decide +kernel)
theorem dX12_again_49 : decode cX12_again 49 = .ok (.iinc 2 1, 3) := zo_132 (by decide +kernel)
theorem dX12_again_52 : decode cX12_again 52 = .ok (.goto (-30), 3) := zo_167 (by decide +kernel)
theorem dX12_again_55 : decode cX12_again 55 = .ok (.iconst 1, 1) := zo_4 (by decide +kernel)
theorem dX12_again_56 : decode cX12_again 56 = .ok (.ireturn, 1) := zo_172 (by decide +kernel)
set_option maxHeartbeats 4000000 in
set_option maxRecDepth 100000 in
/-- c_m_again -/
theorem c_m_again (l : Launch) (T : zTy) (mo : Nat) (m_all : Nat) (m_has : Nat) (i_size : Int32) (i_next : Int32) (i_where : Int32) (i_token : Int32) (i_number : Int32) (i_word : Int32) (i_wrong : Int32) (i_farCrossing : Int32) (m_read : Nat) (i_z0 : Int32) (i_crossings : Int32) (i_inns : Int32) (m_posts : Nat) (m_shut : Nat) (m_here : Nat) (i_steps : Int32) (i_done : Int32) (i_at : Int32) (i_gone : Int32) (m_was : Nat) (m_came : Nat) (m_seenAt : Nat) (m_rowWorth : Nat) (m_farBy : Nat) (m_used : Nat) (i_everywhere : Int32) (i_again0 : Int32) (i_d0 : Int32) (i_never : Int32) (i_firstCame : Int32) (i_longRun : Int32) (i_moved : Int32) (i_crowd : Int32) (i_l0 : Int32) (i_fitMany : Int32) (i_fitLeast : Int32) (i_fitMost : Int32) (m_fitPost : Nat) (m_fitEnd : Nat) (m_keptPosts : Nat) (i_x0 : Int32) (f_all : Nat → Int32) (f_has : Nat → Int32) (k_ : Int32) : zMi l T yX12_again cX12_again 3 (some .boolean) 2 0 0 [.ref mo, .int k_] [[zO11 mo m_all m_has i_size i_next i_where i_token i_number i_word i_wrong i_farCrossing m_read i_z0 i_crossings i_inns m_posts m_shut m_here i_steps i_done i_at i_gone m_was m_came m_seenAt m_rowWorth m_farBy m_used i_everywhere i_again0 i_d0 i_never i_firstCame i_longRun i_moved i_crowd i_l0 i_fitMany i_fitLeast i_fitMost m_fitPost m_fitEnd m_keptPosts i_x0], [zAr T 0 m_all 3952 f_all], [zAr T 2 m_has 3 f_has]] (fun (r : Int32) bs => ∃ (g_all : Nat → Int32), bs = [[zO11 mo m_all m_has i_size i_next i_where i_token i_number i_word i_wrong i_farCrossing m_read i_z0 i_crossings i_inns m_posts m_shut m_here i_steps i_done i_at i_gone m_was m_came m_seenAt m_rowWorth m_farBy m_used i_everywhere i_again0 i_d0 i_never i_firstCame i_longRun i_moved i_crowd i_l0 i_fitMany i_fitLeast i_fitMost m_fitPost m_fitEnd m_keptPosts i_x0], [zAr T 0 m_all 3952 g_all], [zAr T 2 m_has 3 f_has]] ∧ (r = 0 ∧ (k_.toInt < 0 ∨ 3 ≤ k_.toInt ∨ f_has k_.toNatClampNeg = 0) ∧ g_all = f_all ∨ r = 1 ∧ (0 ≤ k_.toInt ∧ k_.toInt < 3) ∧ ¬ f_has k_.toNatClampNeg = 0 ∧ (∀ j, j < 988 → g_all j = f_all (988 * (k_.toNatClampNeg + 1) + j)) ∧ (∀ j, 988 ≤ j → g_all j = f_all j))) := by
  refine zMi_of (own := RX12) (by decide) rfl (Nat.le_of_ble_eq_true rfl) ?_
  intro p e s m args below meth c A ls C hr hlocks hnm hAe G hl
  refine zHide (fun Q9 hQ9 => ?_)
  have hx := C.1
  have hb := C.2.1
  have hl : lv_has ls 3 [(0, .ref mo), (1, .int k_)] := hl
  refine lv_iload_n hx hb dX12_again_0 rfl (lv_at hl 1 rfl) ?_
  refine lv_iconst (v := 0) hx hb dX12_again_1 (by decide) ?_
  refine lv_iconst (v := 2) hx hb dX12_again_2 (by decide) ?_
  refine z_Si (bc := []) (br := [[zO11 mo m_all m_has i_size i_next i_where i_token i_number i_word i_wrong i_farCrossing m_read i_z0 i_crossings i_inns m_posts m_shut m_here i_steps i_done i_at i_gone m_was m_came m_seenAt m_rowWorth m_farBy m_used i_everywhere i_again0 i_d0 i_never i_firstCame i_longRun i_moved i_crowd i_l0 i_fitMany i_fitLeast i_fitMost m_fitPost m_fitEnd m_keptPosts i_x0], [zAr T 0 m_all 3952 f_all], [zAr T 2 m_has 3 f_has]]) (As := [.int k_, .int 0, .int 2]) (rest := []) C G (c_m_isIn l T k_ 0 2) (kS_RX12_111 C.2.2.2.2 (Nat.le_of_ble_eq_true rfl) (Nat.le_of_ble_eq_true rfl)) [] [] rfl rfl rfl rfl hl.1 dX12_again_3 (Nat.le_of_ble_eq_true rfl) (Nat.le_of_ble_eq_true rfl) (fun r_2 b1 H locs hw G => ?_)
  refine zAn2 hw ?_
  intro hbs9 hc_1
  clear hw
  subst hbs9
  have G : zS T A s.heap s [[zO11 mo m_all m_has i_size i_next i_where i_token i_number i_word i_wrong i_farCrossing m_read i_z0 i_crossings i_inns m_posts m_shut m_here i_steps i_done i_at i_gone m_was m_came m_seenAt m_rowWorth m_farBy m_used i_everywhere i_again0 i_d0 i_never i_firstCame i_longRun i_moved i_crowd i_l0 i_fitMany i_fitLeast i_fitMost m_fitPost m_fitEnd m_keptPosts i_x0], [zAr T 0 m_all 3952 f_all], [zAr T 2 m_has 3 f_has]] _ _ := G
  rcases hc_1 with ⟨rfl, h_3, h_4⟩ | ⟨rfl, h_5⟩
  · have h_3 : (0 : Int) ≤ k_.toInt := h_3
    have h_4 : k_.toInt ≤ (2 : Int) := h_4
    refine lv_if_eq (tgt := 18) hx hb dX12_again_6 (by decide) (fun q => absurd q (by decide)) (fun _ => ?_)
    refine lv_aload_n hx hb dX12_again_9 rfl (lv_at hl 0 rfl) ?_
    refine z_get C G clX12 0 rfl 1 (by decide) m_fl_RX12_13 rfl dX12_again_10 ?_
    refine lv_iload_n hx hb dX12_again_13 rfl (lv_at hl 1 rfl) ?_
    refine z_zld C G 2 rfl (vp_in_iff.mpr ⟨by omega, by omega⟩) dX12_again_14 ?_
    refine lv_topi (fun v_6 ev_6 => ?_)
    subst ev_6
    refine lv_if_ne (tgt := 20) hx hb dX12_again_15 (by decide) (fun c_7 => ?_) (fun c_7 => ?_)
    · have c_7n : ¬ (f_has k_.toNatClampNeg).toInt = (0 : Int) := fun q => c_7 ((fa_eq _ _).mpr q)
      rcases (show k_.toInt = 0 ∨ k_.toInt = 1 ∨ k_.toInt = 2 from by omega) with hk | hk | hk
      · obtain rfl : k_ = 0 := Int32.toInt_inj.mp hk
        refine lv_iconst (v := 0) hx hb dX12_again_20 (by decide) ?_
        refine lv_istore_n (lv' := [(2, .int 0), (0, .ref mo), (1, .int 0)]) hx hb dX12_again_21 rfl hl (by decide) rfl (fun ls hl => ?_)
        refine z_lp2 (T := T) 22 (fun (i : Nat) (x : Nat → Int32) => [[zO11 mo m_all m_has i_size i_next i_where i_token i_number i_word i_wrong i_farCrossing m_read i_z0 i_crossings i_inns m_posts m_shut m_here i_steps i_done i_at i_gone m_was m_came m_seenAt m_rowWorth m_farBy m_used i_everywhere i_again0 i_d0 i_never i_firstCame i_longRun i_moved i_crowd i_l0 i_fitMany i_fitLeast i_fitMost m_fitPost m_fitEnd m_keptPosts i_x0], [zAr T 0 m_all 3952 x], [zAr T 2 m_has 3 f_has]]) (fun (i : Nat) (x : Nat → Int32) => [(2, .int (nI i)), (0, .ref mo), (1, .int 0)]) (fun (i : Nat) (x : Nat → Int32) => i ≤ 988 ∧ (∀ j, j < i → x j = f_all (988 + j)) ∧ (∀ j, i ≤ j → x j = f_all j)) (fun (i : Nat) (x : Nat → Int32) => 988 - i) ?_ 0 f_all (show 0 ≤ 988 ∧ (∀ j, j < 0 → f_all j = f_all (988 + j)) ∧ (∀ j, 0 ≤ j → f_all j = f_all j) from ⟨by omega, fun j hj => absurd hj (by omega), fun j _ => rfl⟩) G (lv_sub hl [0, 1, 2] rfl)
        intro i x hI9 ih_22 H locs ls G hl
        replace hI9 : i ≤ 988 ∧ (∀ j, j < i → x j = f_all (988 + j)) ∧ (∀ j, i ≤ j → x j = f_all j) := hI9
        refine zAn3 hI9 ?_
        intro hi hS hO
        clear hI9
        replace G : zS T A s.heap s [[zO11 mo m_all m_has i_size i_next i_where i_token i_number i_word i_wrong i_farCrossing m_read i_z0 i_crossings i_inns m_posts m_shut m_here i_steps i_done i_at i_gone m_was m_came m_seenAt m_rowWorth m_farBy m_used i_everywhere i_again0 i_d0 i_never i_firstCame i_longRun i_moved i_crowd i_l0 i_fitMany i_fitLeast i_fitMost m_fitPost m_fitEnd m_keptPosts i_x0], [zAr T 0 m_all 3952 x], [zAr T 2 m_has 3 f_has]] _ _ := G
        replace hl : lv_has ls 3 [(2, .int (nI i)), (0, .ref mo), (1, .int 0)] := hl
        refine lv_iload_n hx hb dX12_again_22 rfl (lv_at hl 0 rfl) ?_
        refine lv_sipush (v := 988) hx hb dX12_again_23 (by decide) ?_
        refine lv_icmp_ge (tgt := 55) hx hb dX12_again_26 (by decide) (fun c_8 => ?_) (fun c_8 => ?_)
        · have c_8n : 988 ≤ i := (nI_leI (a := 988) (b := i) (by omega) (by omega)).mp c_8
          refine lv_iconst (v := 1) hx hb dX12_again_55 (by decide) ?_
          exact z_back hQ9 (z_zret C hr hlocks G (Nat.le_of_ble_eq_true rfl) (Nat.le_of_ble_eq_true rfl) dX12_again_56 rfl ⟨x, rfl, (Or.inr ⟨rfl, by decide, by assumption, fun j hj => hS j (by omega), fun j hj => hO j (by omega)⟩)⟩)
        · have c_8n : ¬ 988 ≤ i := fun q => c_8 ((nI_leI (a := 988) (b := i) (by omega) (by omega)).mpr q)
          refine lv_aload_n hx hb dX12_again_29 rfl (lv_at hl 1 rfl) ?_
          refine z_get C G clX12 0 rfl 0 (by decide) m_fl_RX12_7 rfl dX12_again_30 ?_
          refine lv_iload_n hx hb dX12_again_33 rfl (lv_at hl 0 rfl) ?_
          refine lv_aload_n hx hb dX12_again_34 rfl (lv_at hl 1 rfl) ?_
          refine z_get C G clX12 0 rfl 0 (by decide) m_fl_RX12_7 rfl dX12_again_35 ?_
          refine lv_sipush (v := 988) hx hb dX12_again_38 (by decide) ?_
          refine lv_iload_n hx hb dX12_again_41 rfl (lv_at hl 2 rfl) ?_
          refine lv_iconst (v := 1) hx hb dX12_again_42 (by decide) ?_
          refine lv_iadd hx hb dX12_again_43 ?_
          refine lv_topi (fun y_9 ey_9 => ?_)
          obtain rfl : y_9 = 1 := ey_9.trans (by decide)
          refine lv_imul hx hb dX12_again_44 ?_
          refine lv_topi (fun y_10 ey_10 => ?_)
          obtain rfl : y_10 = 988 := ey_10.trans (by decide)
          refine lv_iload_n hx hb dX12_again_45 rfl (lv_at hl 0 rfl) ?_
          refine lv_iadd hx hb dX12_again_46 ?_
          refine lv_topi (fun y_11 ey_11 => ?_)
          obtain rfl : y_11 = nI (988 + i) := ey_11.trans (z_iaddn 988 i rfl rfl)
          refine z_ild C G 1 rfl (vp_in_nI (by omega) (by omega)) dX12_again_47 ?_
          refine lv_topi (fun v_12 ev_12 => ?_)
          rw [nI_clamp (by omega)] at ev_12
          subst ev_12
          refine z_ist C G 1 rfl (vp_in_nI (by omega) (by omega)) dX12_again_48 (fun H locs G => ?_)
          rw [nI_clamp (by omega)] at G
          have G : zS T A s.heap s [[zO11 mo m_all m_has i_size i_next i_where i_token i_number i_word i_wrong i_farCrossing m_read i_z0 i_crossings i_inns m_posts m_shut m_here i_steps i_done i_at i_gone m_was m_came m_seenAt m_rowWorth m_farBy m_used i_everywhere i_again0 i_d0 i_never i_firstCame i_longRun i_moved i_crowd i_l0 i_fitMany i_fitLeast i_fitMost m_fitPost m_fitEnd m_keptPosts i_x0], [zAr T 0 m_all 3952 (upd x i (x (988 + i)))], [zAr T 2 m_has 3 f_has]] _ _ := G
          refine lv_iinc (v := nI (i + 1)) (lv' := [(2, .int (nI (i + 1))), (0, .ref mo), (1, .int 0)]) hx hb dX12_again_49 hl (k := 0) rfl (z_inc i 1) (by decide) rfl (fun ls hl => ?_)
          refine lv_goto (tgt := 22) hx hb dX12_again_52 (by decide) ?_
          exact ih_22 (i + 1) (upd x i (x (988 + i))) (show (i + 1) ≤ 988 ∧ (∀ j, j < (i + 1) → (upd x i (x (988 + i))) j = f_all (988 + j)) ∧ (∀ j, (i + 1) ≤ j → (upd x i (x (988 + i))) j = f_all j) from ⟨by omega, z_updE (F := fun j => f_all (988 + j)) hS (hO (988 + i) (by omega)), fun j hj => (pk_un (by omega)).trans (hO j (by omega))⟩) (show 988 - (i + 1) < 988 - i from by omega) _ _ ls G (lv_sub hl [0, 1, 2] rfl)
      · obtain rfl : k_ = 1 := Int32.toInt_inj.mp hk
        refine lv_iconst (v := 0) hx hb dX12_again_20 (by decide) ?_
        refine lv_istore_n (lv' := [(2, .int 0), (0, .ref mo), (1, .int 1)]) hx hb dX12_again_21 rfl hl (by decide) rfl (fun ls hl => ?_)
        refine z_lp2 (T := T) 22 (fun (i : Nat) (x : Nat → Int32) => [[zO11 mo m_all m_has i_size i_next i_where i_token i_number i_word i_wrong i_farCrossing m_read i_z0 i_crossings i_inns m_posts m_shut m_here i_steps i_done i_at i_gone m_was m_came m_seenAt m_rowWorth m_farBy m_used i_everywhere i_again0 i_d0 i_never i_firstCame i_longRun i_moved i_crowd i_l0 i_fitMany i_fitLeast i_fitMost m_fitPost m_fitEnd m_keptPosts i_x0], [zAr T 0 m_all 3952 x], [zAr T 2 m_has 3 f_has]]) (fun (i : Nat) (x : Nat → Int32) => [(2, .int (nI i)), (0, .ref mo), (1, .int 1)]) (fun (i : Nat) (x : Nat → Int32) => i ≤ 988 ∧ (∀ j, j < i → x j = f_all (1976 + j)) ∧ (∀ j, i ≤ j → x j = f_all j)) (fun (i : Nat) (x : Nat → Int32) => 988 - i) ?_ 0 f_all (show 0 ≤ 988 ∧ (∀ j, j < 0 → f_all j = f_all (1976 + j)) ∧ (∀ j, 0 ≤ j → f_all j = f_all j) from ⟨by omega, fun j hj => absurd hj (by omega), fun j _ => rfl⟩) G (lv_sub hl [0, 1, 2] rfl)
        intro i x hI9 ih_22 H locs ls G hl
        replace hI9 : i ≤ 988 ∧ (∀ j, j < i → x j = f_all (1976 + j)) ∧ (∀ j, i ≤ j → x j = f_all j) := hI9
        refine zAn3 hI9 ?_
        intro hi hS hO
        clear hI9
        replace G : zS T A s.heap s [[zO11 mo m_all m_has i_size i_next i_where i_token i_number i_word i_wrong i_farCrossing m_read i_z0 i_crossings i_inns m_posts m_shut m_here i_steps i_done i_at i_gone m_was m_came m_seenAt m_rowWorth m_farBy m_used i_everywhere i_again0 i_d0 i_never i_firstCame i_longRun i_moved i_crowd i_l0 i_fitMany i_fitLeast i_fitMost m_fitPost m_fitEnd m_keptPosts i_x0], [zAr T 0 m_all 3952 x], [zAr T 2 m_has 3 f_has]] _ _ := G
        replace hl : lv_has ls 3 [(2, .int (nI i)), (0, .ref mo), (1, .int 1)] := hl
        refine lv_iload_n hx hb dX12_again_22 rfl (lv_at hl 0 rfl) ?_
        refine lv_sipush (v := 988) hx hb dX12_again_23 (by decide) ?_
        refine lv_icmp_ge (tgt := 55) hx hb dX12_again_26 (by decide) (fun c_13 => ?_) (fun c_13 => ?_)
        · have c_13n : 988 ≤ i := (nI_leI (a := 988) (b := i) (by omega) (by omega)).mp c_13
          refine lv_iconst (v := 1) hx hb dX12_again_55 (by decide) ?_
          exact z_back hQ9 (z_zret C hr hlocks G (Nat.le_of_ble_eq_true rfl) (Nat.le_of_ble_eq_true rfl) dX12_again_56 rfl ⟨x, rfl, (Or.inr ⟨rfl, by decide, by assumption, fun j hj => hS j (by omega), fun j hj => hO j (by omega)⟩)⟩)
        · have c_13n : ¬ 988 ≤ i := fun q => c_13 ((nI_leI (a := 988) (b := i) (by omega) (by omega)).mpr q)
          refine lv_aload_n hx hb dX12_again_29 rfl (lv_at hl 1 rfl) ?_
          refine z_get C G clX12 0 rfl 0 (by decide) m_fl_RX12_7 rfl dX12_again_30 ?_
          refine lv_iload_n hx hb dX12_again_33 rfl (lv_at hl 0 rfl) ?_
          refine lv_aload_n hx hb dX12_again_34 rfl (lv_at hl 1 rfl) ?_
          refine z_get C G clX12 0 rfl 0 (by decide) m_fl_RX12_7 rfl dX12_again_35 ?_
          refine lv_sipush (v := 988) hx hb dX12_again_38 (by decide) ?_
          refine lv_iload_n hx hb dX12_again_41 rfl (lv_at hl 2 rfl) ?_
          refine lv_iconst (v := 1) hx hb dX12_again_42 (by decide) ?_
          refine lv_iadd hx hb dX12_again_43 ?_
          refine lv_topi (fun y_14 ey_14 => ?_)
          obtain rfl : y_14 = 2 := ey_14.trans (by decide)
          refine lv_imul hx hb dX12_again_44 ?_
          refine lv_topi (fun y_15 ey_15 => ?_)
          obtain rfl : y_15 = 1976 := ey_15.trans (by decide)
          refine lv_iload_n hx hb dX12_again_45 rfl (lv_at hl 0 rfl) ?_
          refine lv_iadd hx hb dX12_again_46 ?_
          refine lv_topi (fun y_16 ey_16 => ?_)
          obtain rfl : y_16 = nI (1976 + i) := ey_16.trans (z_iaddn 1976 i rfl rfl)
          refine z_ild C G 1 rfl (vp_in_nI (by omega) (by omega)) dX12_again_47 ?_
          refine lv_topi (fun v_17 ev_17 => ?_)
          rw [nI_clamp (by omega)] at ev_17
          subst ev_17
          refine z_ist C G 1 rfl (vp_in_nI (by omega) (by omega)) dX12_again_48 (fun H locs G => ?_)
          rw [nI_clamp (by omega)] at G
          have G : zS T A s.heap s [[zO11 mo m_all m_has i_size i_next i_where i_token i_number i_word i_wrong i_farCrossing m_read i_z0 i_crossings i_inns m_posts m_shut m_here i_steps i_done i_at i_gone m_was m_came m_seenAt m_rowWorth m_farBy m_used i_everywhere i_again0 i_d0 i_never i_firstCame i_longRun i_moved i_crowd i_l0 i_fitMany i_fitLeast i_fitMost m_fitPost m_fitEnd m_keptPosts i_x0], [zAr T 0 m_all 3952 (upd x i (x (1976 + i)))], [zAr T 2 m_has 3 f_has]] _ _ := G
          refine lv_iinc (v := nI (i + 1)) (lv' := [(2, .int (nI (i + 1))), (0, .ref mo), (1, .int 1)]) hx hb dX12_again_49 hl (k := 0) rfl (z_inc i 1) (by decide) rfl (fun ls hl => ?_)
          refine lv_goto (tgt := 22) hx hb dX12_again_52 (by decide) ?_
          exact ih_22 (i + 1) (upd x i (x (1976 + i))) (show (i + 1) ≤ 988 ∧ (∀ j, j < (i + 1) → (upd x i (x (1976 + i))) j = f_all (1976 + j)) ∧ (∀ j, (i + 1) ≤ j → (upd x i (x (1976 + i))) j = f_all j) from ⟨by omega, z_updE (F := fun j => f_all (1976 + j)) hS (hO (1976 + i) (by omega)), fun j hj => (pk_un (by omega)).trans (hO j (by omega))⟩) (show 988 - (i + 1) < 988 - i from by omega) _ _ ls G (lv_sub hl [0, 1, 2] rfl)
      · obtain rfl : k_ = 2 := Int32.toInt_inj.mp hk
        refine lv_iconst (v := 0) hx hb dX12_again_20 (by decide) ?_
        refine lv_istore_n (lv' := [(2, .int 0), (0, .ref mo), (1, .int 2)]) hx hb dX12_again_21 rfl hl (by decide) rfl (fun ls hl => ?_)
        refine z_lp2 (T := T) 22 (fun (i : Nat) (x : Nat → Int32) => [[zO11 mo m_all m_has i_size i_next i_where i_token i_number i_word i_wrong i_farCrossing m_read i_z0 i_crossings i_inns m_posts m_shut m_here i_steps i_done i_at i_gone m_was m_came m_seenAt m_rowWorth m_farBy m_used i_everywhere i_again0 i_d0 i_never i_firstCame i_longRun i_moved i_crowd i_l0 i_fitMany i_fitLeast i_fitMost m_fitPost m_fitEnd m_keptPosts i_x0], [zAr T 0 m_all 3952 x], [zAr T 2 m_has 3 f_has]]) (fun (i : Nat) (x : Nat → Int32) => [(2, .int (nI i)), (0, .ref mo), (1, .int 2)]) (fun (i : Nat) (x : Nat → Int32) => i ≤ 988 ∧ (∀ j, j < i → x j = f_all (2964 + j)) ∧ (∀ j, i ≤ j → x j = f_all j)) (fun (i : Nat) (x : Nat → Int32) => 988 - i) ?_ 0 f_all (show 0 ≤ 988 ∧ (∀ j, j < 0 → f_all j = f_all (2964 + j)) ∧ (∀ j, 0 ≤ j → f_all j = f_all j) from ⟨by omega, fun j hj => absurd hj (by omega), fun j _ => rfl⟩) G (lv_sub hl [0, 1, 2] rfl)
        intro i x hI9 ih_22 H locs ls G hl
        replace hI9 : i ≤ 988 ∧ (∀ j, j < i → x j = f_all (2964 + j)) ∧ (∀ j, i ≤ j → x j = f_all j) := hI9
        refine zAn3 hI9 ?_
        intro hi hS hO
        clear hI9
        replace G : zS T A s.heap s [[zO11 mo m_all m_has i_size i_next i_where i_token i_number i_word i_wrong i_farCrossing m_read i_z0 i_crossings i_inns m_posts m_shut m_here i_steps i_done i_at i_gone m_was m_came m_seenAt m_rowWorth m_farBy m_used i_everywhere i_again0 i_d0 i_never i_firstCame i_longRun i_moved i_crowd i_l0 i_fitMany i_fitLeast i_fitMost m_fitPost m_fitEnd m_keptPosts i_x0], [zAr T 0 m_all 3952 x], [zAr T 2 m_has 3 f_has]] _ _ := G
        replace hl : lv_has ls 3 [(2, .int (nI i)), (0, .ref mo), (1, .int 2)] := hl
        refine lv_iload_n hx hb dX12_again_22 rfl (lv_at hl 0 rfl) ?_
        refine lv_sipush (v := 988) hx hb dX12_again_23 (by decide) ?_
        refine lv_icmp_ge (tgt := 55) hx hb dX12_again_26 (by decide) (fun c_18 => ?_) (fun c_18 => ?_)
        · have c_18n : 988 ≤ i := (nI_leI (a := 988) (b := i) (by omega) (by omega)).mp c_18
          refine lv_iconst (v := 1) hx hb dX12_again_55 (by decide) ?_
          exact z_back hQ9 (z_zret C hr hlocks G (Nat.le_of_ble_eq_true rfl) (Nat.le_of_ble_eq_true rfl) dX12_again_56 rfl ⟨x, rfl, (Or.inr ⟨rfl, by decide, by assumption, fun j hj => hS j (by omega), fun j hj => hO j (by omega)⟩)⟩)
        · have c_18n : ¬ 988 ≤ i := fun q => c_18 ((nI_leI (a := 988) (b := i) (by omega) (by omega)).mpr q)
          refine lv_aload_n hx hb dX12_again_29 rfl (lv_at hl 1 rfl) ?_
          refine z_get C G clX12 0 rfl 0 (by decide) m_fl_RX12_7 rfl dX12_again_30 ?_
          refine lv_iload_n hx hb dX12_again_33 rfl (lv_at hl 0 rfl) ?_
          refine lv_aload_n hx hb dX12_again_34 rfl (lv_at hl 1 rfl) ?_
          refine z_get C G clX12 0 rfl 0 (by decide) m_fl_RX12_7 rfl dX12_again_35 ?_
          refine lv_sipush (v := 988) hx hb dX12_again_38 (by decide) ?_
          refine lv_iload_n hx hb dX12_again_41 rfl (lv_at hl 2 rfl) ?_
          refine lv_iconst (v := 1) hx hb dX12_again_42 (by decide) ?_
          refine lv_iadd hx hb dX12_again_43 ?_
          refine lv_topi (fun y_19 ey_19 => ?_)
          obtain rfl : y_19 = 3 := ey_19.trans (by decide)
          refine lv_imul hx hb dX12_again_44 ?_
          refine lv_topi (fun y_20 ey_20 => ?_)
          obtain rfl : y_20 = 2964 := ey_20.trans (by decide)
          refine lv_iload_n hx hb dX12_again_45 rfl (lv_at hl 0 rfl) ?_
          refine lv_iadd hx hb dX12_again_46 ?_
          refine lv_topi (fun y_21 ey_21 => ?_)
          obtain rfl : y_21 = nI (2964 + i) := ey_21.trans (z_iaddn 2964 i rfl rfl)
          refine z_ild C G 1 rfl (vp_in_nI (by omega) (by omega)) dX12_again_47 ?_
          refine lv_topi (fun v_22 ev_22 => ?_)
          rw [nI_clamp (by omega)] at ev_22
          subst ev_22
          refine z_ist C G 1 rfl (vp_in_nI (by omega) (by omega)) dX12_again_48 (fun H locs G => ?_)
          rw [nI_clamp (by omega)] at G
          have G : zS T A s.heap s [[zO11 mo m_all m_has i_size i_next i_where i_token i_number i_word i_wrong i_farCrossing m_read i_z0 i_crossings i_inns m_posts m_shut m_here i_steps i_done i_at i_gone m_was m_came m_seenAt m_rowWorth m_farBy m_used i_everywhere i_again0 i_d0 i_never i_firstCame i_longRun i_moved i_crowd i_l0 i_fitMany i_fitLeast i_fitMost m_fitPost m_fitEnd m_keptPosts i_x0], [zAr T 0 m_all 3952 (upd x i (x (2964 + i)))], [zAr T 2 m_has 3 f_has]] _ _ := G
          refine lv_iinc (v := nI (i + 1)) (lv' := [(2, .int (nI (i + 1))), (0, .ref mo), (1, .int 2)]) hx hb dX12_again_49 hl (k := 0) rfl (z_inc i 1) (by decide) rfl (fun ls hl => ?_)
          refine lv_goto (tgt := 22) hx hb dX12_again_52 (by decide) ?_
          exact ih_22 (i + 1) (upd x i (x (2964 + i))) (show (i + 1) ≤ 988 ∧ (∀ j, j < (i + 1) → (upd x i (x (2964 + i))) j = f_all (2964 + j)) ∧ (∀ j, (i + 1) ≤ j → (upd x i (x (2964 + i))) j = f_all j) from ⟨by omega, z_updE (F := fun j => f_all (2964 + j)) hS (hO (2964 + i) (by omega)), fun j hj => (pk_un (by omega)).trans (hO j (by omega))⟩) (show 988 - (i + 1) < 988 - i from by omega) _ _ ls G (lv_sub hl [0, 1, 2] rfl)
    · have c_7n : (f_has k_.toNatClampNeg).toInt = (0 : Int) := (fa_eq _ _).mp c_7
      refine lv_iconst (v := 0) hx hb dX12_again_18 (by decide) ?_
      exact z_back hQ9 (z_zret C hr hlocks G (Nat.le_of_ble_eq_true rfl) (Nat.le_of_ble_eq_true rfl) dX12_again_19 rfl ⟨f_all, rfl, (Or.inl ⟨rfl, by first | exact Or.inr (Or.inr (by assumption)) | omega, rfl⟩)⟩)
  · have h_5 : (k_.toInt < (0 : Int) ∨ (2 : Int) < k_.toInt) := h_5
    refine lv_if_eq (tgt := 18) hx hb dX12_again_6 (by decide) (fun _ => ?_) (fun q => absurd (by decide) q)
    refine lv_iconst (v := 0) hx hb dX12_again_18 (by decide) ?_
    exact z_back hQ9 (z_zret C hr hlocks G (Nat.le_of_ble_eq_true rfl) (Nat.le_of_ble_eq_true rfl) dX12_again_19 rfl ⟨f_all, rfl, (Or.inl ⟨rfl, by first | exact Or.inr (Or.inr (by assumption)) | omega, rfl⟩)⟩)
theorem m_fl_RX12_56 : Cond.fieldLink RX12 56 (TX12 2).1 (TX12 2).2.1 (TX12 2).2.2.1 ∈ zT := zmem1 zsub_5 237 rfl rfl
theorem dX12_isLetter_0 : decode cX12_isLetter 0 = .ok (.iload_n 0, 1) := zo_26 (by decide +kernel)
theorem dX12_isLetter_1 : decode cX12_isLetter 1 = .ok (.bipush 97, 2) := zo_16 (by decide +kernel)
theorem dX12_isLetter_3 : decode cX12_isLetter 3 = .ok (.if_icmp .lt 13, 3) := zo_161 (by decide +kernel)
theorem dX12_isLetter_6 : decode cX12_isLetter 6 = .ok (.iload_n 0, 1) := zo_26 (by decide +kernel)
theorem dX12_isLetter_7 : decode cX12_isLetter 7 = .ok (.bipush 122, 2) := zo_16 (by decide +kernel)
theorem dX12_isLetter_9 : decode cX12_isLetter 9 = .ok (.if_icmp .gt 7, 3) := zo_163 (by decide +kernel)
theorem dX12_isLetter_12 : decode cX12_isLetter 12 = .ok (.iconst 1, 1) := zo_4 (by decide +kernel)
theorem dX12_isLetter_13 : decode cX12_isLetter 13 = .ok (.goto 4, 3) := zo_167 (by decide +kernel)
theorem dX12_isLetter_16 : decode cX12_isLetter 16 = .ok (.iconst 0, 1) := zo_3 (by decide +kernel)
theorem dX12_isLetter_17 : decode cX12_isLetter 17 = .ok (.ireturn, 1) := zo_172 (by decide +kernel)
theorem dX12_isDigit_0 : decode cX12_isDigit 0 = .ok (.iload_n 0, 1) := zo_26 (by decide +kernel)
theorem dX12_isDigit_1 : decode cX12_isDigit 1 = .ok (.bipush 48, 2) := zo_16 (by decide +kernel)
theorem dX12_isDigit_3 : decode cX12_isDigit 3 = .ok (.if_icmp .lt 13, 3) := zo_161 (by decide +kernel)
theorem dX12_isDigit_6 : decode cX12_isDigit 6 = .ok (.iload_n 0, 1) := zo_26 (by decide +kernel)
theorem dX12_isDigit_7 : decode cX12_isDigit 7 = .ok (.bipush 57, 2) := zo_16 (by decide +kernel)
theorem dX12_isDigit_9 : decode cX12_isDigit 9 = .ok (.if_icmp .gt 7, 3) := zo_163 (by decide +kernel)
theorem dX12_isDigit_12 : decode cX12_isDigit 12 = .ok (.iconst 1, 1) := zo_4 (by decide +kernel)
theorem dX12_isDigit_13 : decode cX12_isDigit 13 = .ok (.goto 4, 3) := zo_167 (by decide +kernel)
theorem dX12_isDigit_16 : decode cX12_isDigit 16 = .ok (.iconst 0, 1) := zo_3 (by decide +kernel)
theorem dX12_isDigit_17 : decode cX12_isDigit 17 = .ok (.ireturn, 1) := zo_172 (by decide +kernel)
theorem dX12_byteAt_0 : decode cX12_byteAt 0 = .ok (.iload_n 1, 1) := zo_27 (by decide +kernel)
theorem dX12_byteAt_1 : decode cX12_byteAt 1 = .ok (.aload_n 0, 1) := zo_42 (by decide +kernel)
theorem dX12_byteAt_2 : decode cX12_byteAt 2 = .ok (.getfield 56, 3) := zo_180 (by decide +kernel)
theorem dX12_byteAt_5 : decode cX12_byteAt 5 = .ok (.if_icmp .ge 15, 3) := zo_162 (by decide +kernel)
theorem dX12_byteAt_8 : decode cX12_byteAt 8 = .ok (.aload_n 0, 1) := zo_42 (by decide +kernel)
theorem dX12_byteAt_9 : decode cX12_byteAt 9 = .ok (.getfield 7, 3) := zo_180 (by decide +kernel)
theorem dX12_byteAt_12 : decode cX12_byteAt 12 = .ok (.bipush 10, 2) := zo_16 (by decide +kernel)
theorem dX12_byteAt_14 : decode cX12_byteAt 14 = .ok (.iload_n 1, 1) := zo_27 (by decide +kernel)
theorem dX12_byteAt_15 : decode cX12_byteAt 15 = .ok (.iadd, 1) := zo_96 (by decide +kernel)
theorem dX12_byteAt_16 : decode cX12_byteAt 16 = .ok (.iaload, 1) := zo_46 (by decide +kernel)
theorem dX12_byteAt_17 : decode cX12_byteAt 17 = .ok (.goto 4, 3) := zo_167 (by decide +kernel)
theorem dX12_byteAt_20 : decode cX12_byteAt 20 = .ok (.iconst (-1), 1) := zo_2 (by decide +kernel)
theorem dX12_byteAt_21 : decode cX12_byteAt 21 = .ok (.ireturn, 1) := zo_172 (by decide +kernel)
set_option maxHeartbeats 4000000 in
set_option maxRecDepth 100000 in
/-- c_m_isLetter -/
theorem c_m_isLetter (l : Launch) (T : zTy) (x : Int32) : zMi l T yX12_isLetter cX12_isLetter 1 (some .boolean) 1 0 0 [.int x] [] (fun (r : Int32) bs => bs = [] ∧ ((r = 1 ∧ 97 ≤ x.toInt ∧ x.toInt ≤ 122) ∨ (r = 0 ∧ (x.toInt < 97 ∨ 122 < x.toInt)))) := by
  refine zMi_of (own := RX12) (by decide) rfl (Nat.le_of_ble_eq_true rfl) ?_
  intro p e s m args below meth c A ls C hr hlocks hnm hAe G hl
  refine zHide (fun Q9 hQ9 => ?_)
  have hx := C.1
  have hb := C.2.1
  have hl : lv_has ls 1 [(0, .int x)] := hl
  refine lv_iload_n hx hb dX12_isLetter_0 rfl (lv_at hl 0 rfl) ?_
  refine lv_bipush (v := 97) hx hb dX12_isLetter_1 (by decide) ?_
  refine lv_icmp_lt (tgt := 16) hx hb dX12_isLetter_3 (by decide) (fun c_1 => ?_) (fun c_1 => ?_)
  · have c_1n : x.toInt < (97 : Int) := (fa_lt _ _).mp c_1
    refine lv_iconst (v := 0) hx hb dX12_isLetter_16 (by decide) ?_
    exact z_back hQ9 (z_zret C hr hlocks G (Nat.le_of_ble_eq_true rfl) (Nat.le_of_ble_eq_true rfl) dX12_isLetter_17 rfl ⟨rfl, (Or.inr (⟨rfl, (by first | with_reducible assumption | omega | assumption)⟩))⟩)
  · have c_1n : ¬ x.toInt < (97 : Int) := fun q => c_1 ((fa_lt _ _).mpr q)
    refine lv_iload_n hx hb dX12_isLetter_6 rfl (lv_at hl 0 rfl) ?_
    refine lv_bipush (v := 122) hx hb dX12_isLetter_7 (by decide) ?_
    refine lv_icmp_gt (tgt := 16) hx hb dX12_isLetter_9 (by decide) (fun c_2 => ?_) (fun c_2 => ?_)
    · have c_2n : (122 : Int) < x.toInt := (fa_lt _ _).mp c_2
      refine lv_iconst (v := 0) hx hb dX12_isLetter_16 (by decide) ?_
      exact z_back hQ9 (z_zret C hr hlocks G (Nat.le_of_ble_eq_true rfl) (Nat.le_of_ble_eq_true rfl) dX12_isLetter_17 rfl ⟨rfl, (Or.inr (⟨rfl, (by first | with_reducible assumption | omega | assumption)⟩))⟩)
    · have c_2n : ¬ (122 : Int) < x.toInt := fun q => c_2 ((fa_lt _ _).mpr q)
      refine lv_iconst (v := 1) hx hb dX12_isLetter_12 (by decide) ?_
      refine lv_goto (tgt := 17) hx hb dX12_isLetter_13 (by decide) ?_
      exact z_back hQ9 (z_zret C hr hlocks G (Nat.le_of_ble_eq_true rfl) (Nat.le_of_ble_eq_true rfl) dX12_isLetter_17 rfl ⟨rfl, (Or.inl (⟨rfl, (by first | with_reducible assumption | omega | assumption), (by first | with_reducible assumption | omega | assumption)⟩))⟩)
set_option maxHeartbeats 4000000 in
set_option maxRecDepth 100000 in
/-- c_m_isDigit -/
theorem c_m_isDigit (l : Launch) (T : zTy) (x : Int32) : zMi l T yX12_isDigit cX12_isDigit 1 (some .boolean) 1 0 0 [.int x] [] (fun (r : Int32) bs => bs = [] ∧ ((r = 1 ∧ 48 ≤ x.toInt ∧ x.toInt ≤ 57) ∨ (r = 0 ∧ (x.toInt < 48 ∨ 57 < x.toInt)))) := by
  refine zMi_of (own := RX12) (by decide) rfl (Nat.le_of_ble_eq_true rfl) ?_
  intro p e s m args below meth c A ls C hr hlocks hnm hAe G hl
  refine zHide (fun Q9 hQ9 => ?_)
  have hx := C.1
  have hb := C.2.1
  have hl : lv_has ls 1 [(0, .int x)] := hl
  refine lv_iload_n hx hb dX12_isDigit_0 rfl (lv_at hl 0 rfl) ?_
  refine lv_bipush (v := 48) hx hb dX12_isDigit_1 (by decide) ?_
  refine lv_icmp_lt (tgt := 16) hx hb dX12_isDigit_3 (by decide) (fun c_1 => ?_) (fun c_1 => ?_)
  · have c_1n : x.toInt < (48 : Int) := (fa_lt _ _).mp c_1
    refine lv_iconst (v := 0) hx hb dX12_isDigit_16 (by decide) ?_
    exact z_back hQ9 (z_zret C hr hlocks G (Nat.le_of_ble_eq_true rfl) (Nat.le_of_ble_eq_true rfl) dX12_isDigit_17 rfl ⟨rfl, (Or.inr (⟨rfl, (by first | with_reducible assumption | omega | assumption)⟩))⟩)
  · have c_1n : ¬ x.toInt < (48 : Int) := fun q => c_1 ((fa_lt _ _).mpr q)
    refine lv_iload_n hx hb dX12_isDigit_6 rfl (lv_at hl 0 rfl) ?_
    refine lv_bipush (v := 57) hx hb dX12_isDigit_7 (by decide) ?_
    refine lv_icmp_gt (tgt := 16) hx hb dX12_isDigit_9 (by decide) (fun c_2 => ?_) (fun c_2 => ?_)
    · have c_2n : (57 : Int) < x.toInt := (fa_lt _ _).mp c_2
      refine lv_iconst (v := 0) hx hb dX12_isDigit_16 (by decide) ?_
      exact z_back hQ9 (z_zret C hr hlocks G (Nat.le_of_ble_eq_true rfl) (Nat.le_of_ble_eq_true rfl) dX12_isDigit_17 rfl ⟨rfl, (Or.inr (⟨rfl, (by first | with_reducible assumption | omega | assumption)⟩))⟩)
    · have c_2n : ¬ (57 : Int) < x.toInt := fun q => c_2 ((fa_lt _ _).mpr q)
      refine lv_iconst (v := 1) hx hb dX12_isDigit_12 (by decide) ?_
      refine lv_goto (tgt := 17) hx hb dX12_isDigit_13 (by decide) ?_
      exact z_back hQ9 (z_zret C hr hlocks G (Nat.le_of_ble_eq_true rfl) (Nat.le_of_ble_eq_true rfl) dX12_isDigit_17 rfl ⟨rfl, (Or.inl (⟨rfl, (by first | with_reducible assumption | omega | assumption), (by first | with_reducible assumption | omega | assumption)⟩))⟩)
theorem m_co_X12_four : Cond.code yX12_four cX12_four 4 (some .long) ∈ zT := zmem1 zsub_6 165 rfl rfl
theorem m_ml_RX12_60 : Cond.methodLink RX12 60 yX12_four ∈ zT := zmem1 zsub_6 163 rfl rfl
theorem m_st_X12_four : Cond.static yX12_four ∈ zT := zmem1 zsub_6 164 rfl rfl
theorem m_kl_RX12_64 : Cond.constantLong RX12 64 1048576 ∈ zT := zmem1 zsub_6 166 rfl rfl
theorem m_co_X12_eight : Cond.code yX12_eight cX12_eight 8 (some .long) ∈ zT := zmem1 zsub_6 162 rfl rfl
theorem m_ml_RX12_66 : Cond.methodLink RX12 66 yX12_eight ∈ zT := zmem1 zsub_6 160 rfl rfl
theorem m_st_X12_eight : Cond.static yX12_eight ∈ zT := zmem1 zsub_6 161 rfl rfl
theorem kS_RX12_60 {R : Room} {s : State} {args : Array Value} {d mc ms : Nat} (hts : ∀ w ∈ zT, w.before args s = true) (h1 : d + 1 ≤ R.frames) (h2 : 8 + (4 + 11) + 40 * d ≤ R.locals) : CallB R s args RX12 60 yX12_four cX12_four 4 (some .long) (zW yX12_four cX12_four 4 (some .long)) (zR d mc ms) mc ms 4 ∧ (Cond.static yX12_four).before args s = true := z_cwS hts m_co_X12_four m_ml_RX12_60 m_st_X12_four m_ii_RX12 (by decide +kernel) h1 h2
theorem kS_RX12_66 {R : Room} {s : State} {args : Array Value} {d mc ms : Nat} (hts : ∀ w ∈ zT, w.before args s = true) (h1 : d + 1 ≤ R.frames) (h2 : 8 + (8 + 11) + 40 * d ≤ R.locals) : CallB R s args RX12 66 yX12_eight cX12_eight 8 (some .long) (zW yX12_eight cX12_eight 8 (some .long)) (zR d mc ms) mc ms 8 ∧ (Cond.static yX12_eight).before args s = true := z_cwS hts m_co_X12_eight m_ml_RX12_66 m_st_X12_eight m_ii_RX12 (by decide +kernel) h1 h2
theorem dX12_four_0 : decode cX12_four 0 = .ok (.iload_n 0, 1) := zo_26 (by decide +kernel)
theorem dX12_four_1 : decode cX12_four 1 = .ok (.bipush 32, 2) := zo_16 (by decide +kernel)
theorem dX12_four_3 : decode cX12_four 3 = .ok (.imul, 1) := zo_104 (by decide +kernel)
theorem dX12_four_4 : decode cX12_four 4 = .ok (.iload_n 1, 1) := zo_27 (by decide +kernel)
theorem dX12_four_5 : decode cX12_four 5 = .ok (.iadd, 1) := zo_96 (by decide +kernel)
theorem dX12_four_6 : decode cX12_four 6 = .ok (.bipush 32, 2) := zo_16 (by decide +kernel)
theorem dX12_four_8 : decode cX12_four 8 = .ok (.imul, 1) := zo_104 (by decide +kernel)
theorem dX12_four_9 : decode cX12_four 9 = .ok (.iload_n 2, 1) := zo_28 (by decide +kernel)
theorem dX12_four_10 : decode cX12_four 10 = .ok (.iadd, 1) := zo_96 (by decide +kernel)
theorem dX12_four_11 : decode cX12_four 11 = .ok (.bipush 32, 2) := zo_16 (by decide +kernel)
theorem dX12_four_13 : decode cX12_four 13 = .ok (.imul, 1) := zo_104 (by decide +kernel)
theorem dX12_four_14 : decode cX12_four 14 = .ok (.iload_n 3, 1) := zo_29 (by decide +kernel)
theorem dX12_four_15 : decode cX12_four 15 = .ok (.iadd, 1) := zo_96 (by decide +kernel)
theorem dX12_four_16 : decode cX12_four 16 = .ok (.i2l, 1) := zo_133 (by decide +kernel)
theorem dX12_four_17 : decode cX12_four 17 = .ok (.lreturn, 1) := zo_173 (by decide +kernel)
theorem dX12_eight_0 : decode cX12_eight 0 = .ok (.iload_n 0, 1) := zo_26 (by decide +kernel)
theorem dX12_eight_1 : decode cX12_eight 1 = .ok (.iload_n 1, 1) := zo_27 (by decide +kernel)
theorem dX12_eight_2 : decode cX12_eight 2 = .ok (.iload_n 2, 1) := zo_28 (by decide +kernel)
theorem dX12_eight_3 : decode cX12_eight 3 = .ok (.iload_n 3, 1) := zo_29 (by decide +kernel)
theorem dX12_eight_4 : decode cX12_eight 4 = .ok (.invokestatic 60, 3) := zo_184 (by decide +kernel)
theorem dX12_eight_7 : decode cX12_eight 7 = .ok (.ldc2_w 64, 3) := zo_20 (by decide +kernel)
theorem dX12_eight_10 : decode cX12_eight 10 = .ok (.lmul, 1) := zo_105 (by decide +kernel)
theorem dX12_eight_11 : decode cX12_eight 11 = .ok (.iload 4, 2) := zo_21 (by decide +kernel)
theorem dX12_eight_13 : decode cX12_eight 13 = .ok (.iload 5, 2) := zo_21 (by decide +kernel)
theorem dX12_eight_15 : decode cX12_eight 15 = .ok (.iload 6, 2) := zo_21 (by decide +kernel)
theorem dX12_eight_17 : decode cX12_eight 17 = .ok (.iload 7, 2) := zo_21 (by decide +kernel)
theorem dX12_eight_19 : decode cX12_eight 19 = .ok (.invokestatic 60, 3) := zo_184 (by decide +kernel)
theorem dX12_eight_22 : decode cX12_eight 22 = .ok (.ladd, 1) := zo_97 (by decide +kernel)
theorem dX12_eight_23 : decode cX12_eight 23 = .ok (.lreturn, 1) := zo_173 (by decide +kernel)
theorem dX12_wordOf_0 : decode cX12_wordOf 0 = .ok (.lload_n 0, 1) := zo_30 (by decide +kernel)
theorem dX12_wordOf_1 : decode cX12_wordOf 1 = .ok (.iconst 0, 1) := zo_3 (by decide +kernel)
theorem dX12_wordOf_2 : decode cX12_wordOf 2 = .ok (.iconst 0, 1) := zo_3 (by decide +kernel)
theorem dX12_wordOf_3 : decode cX12_wordOf 3 = .ok (.iconst 0, 1) := zo_3 (by decide +kernel)
theorem dX12_wordOf_4 : decode cX12_wordOf 4 = .ok (.iconst 3, 1) := zo_6 (by decide +kernel)
theorem dX12_wordOf_5 : decode cX12_wordOf 5 = .ok (.bipush 18, 2) := zo_16 (by decide +kernel)
theorem dX12_wordOf_7 : decode cX12_wordOf 7 = .ok (.bipush 15, 2) := zo_16 (by decide +kernel)
theorem dX12_wordOf_9 : decode cX12_wordOf 9 = .ok (.bipush 19, 2) := zo_16 (by decide +kernel)
theorem dX12_wordOf_11 : decode cX12_wordOf 11 = .ok (.bipush 19, 2) := zo_16 (by decide +kernel)
theorem dX12_wordOf_13 : decode cX12_wordOf 13 = .ok (.invokestatic 66, 3) := zo_184 (by decide +kernel)
theorem dX12_wordOf_16 : decode cX12_wordOf 16 = .ok (.lcmp, 1) := zo_148 (by decide +kernel)
theorem dX12_wordOf_17 : decode cX12_wordOf 17 = .ok (.ifCond .ne 5, 3) := zo_154 (by decide +kernel)
theorem dX12_wordOf_20 : decode cX12_wordOf 20 = .ok (.iconst 1, 1) := zo_4 (by decide +kernel)
theorem dX12_wordOf_21 : decode cX12_wordOf 21 = .ok (.ireturn, 1) := zo_172 (by decide +kernel)
theorem dX12_wordOf_22 : decode cX12_wordOf 22 = .ok (.lload_n 0, 1) := zo_30 (by decide +kernel)
theorem dX12_wordOf_23 : decode cX12_wordOf 23 = .ok (.bipush 16, 2) := zo_16 (by decide +kernel)
theorem dX12_wordOf_25 : decode cX12_wordOf 25 = .ok (.bipush 15, 2) := zo_16 (by decide +kernel)
theorem dX12_wordOf_27 : decode cX12_wordOf 27 = .ok (.bipush 19, 2) := zo_16 (by decide +kernel)
theorem dX12_wordOf_29 : decode cX12_wordOf 29 = .ok (.bipush 20, 2) := zo_16 (by decide +kernel)
theorem dX12_wordOf_31 : decode cX12_wordOf 31 = .ok (.invokestatic 60, 3) := zo_184 (by decide +kernel)
theorem dX12_wordOf_34 : decode cX12_wordOf 34 = .ok (.lcmp, 1) := zo_148 (by decide +kernel)
theorem dX12_wordOf_35 : decode cX12_wordOf 35 = .ok (.ifCond .ne 5, 3) := zo_154 (by decide +kernel)
theorem dX12_wordOf_38 : decode cX12_wordOf 38 = .ok (.iconst 2, 1) := zo_5 (by decide +kernel)
theorem dX12_wordOf_39 : decode cX12_wordOf 39 = .ok (.ireturn, 1) := zo_172 (by decide +kernel)
theorem dX12_wordOf_40 : decode cX12_wordOf 40 = .ok (.lload_n 0, 1) := zo_30 (by decide +kernel)
theorem dX12_wordOf_41 : decode cX12_wordOf 41 = .ok (.iconst 0, 1) := zo_3 (by decide +kernel)
theorem dX12_wordOf_42 : decode cX12_wordOf 42 = .ok (.bipush 23, 2) := zo_16 (by decide +kernel)
theorem dX12_wordOf_44 : decode cX12_wordOf 44 = .ok (.iconst 1, 1) := zo_4 (by decide +kernel)
theorem dX12_wordOf_45 : decode cX12_wordOf 45 = .ok (.bipush 12, 2) := zo_16 (by decide +kernel)
theorem dX12_wordOf_47 : decode cX12_wordOf 47 = .ok (.bipush 11, 2) := zo_16 (by decide +kernel)
theorem dX12_wordOf_49 : decode cX12_wordOf 49 = .ok (.iconst 5, 1) := zo_8 (by decide +kernel)
theorem dX12_wordOf_50 : decode cX12_wordOf 50 = .ok (.bipush 18, 2) := zo_16 (by decide +kernel)
theorem dX12_wordOf_52 : decode cX12_wordOf 52 = .ok (.bipush 19, 2) := zo_16 (by decide +kernel)
theorem dX12_wordOf_54 : decode cX12_wordOf 54 = .ok (.invokestatic 66, 3) := zo_184 (by decide +kernel)
theorem dX12_wordOf_57 : decode cX12_wordOf 57 = .ok (.lcmp, 1) := zo_148 (by decide +kernel)
theorem dX12_wordOf_58 : decode cX12_wordOf 58 = .ok (.ifCond .ne 5, 3) := zo_154 (by decide +kernel)
theorem dX12_wordOf_61 : decode cX12_wordOf 61 = .ok (.iconst 3, 1) := zo_6 (by decide +kernel)
theorem dX12_wordOf_62 : decode cX12_wordOf 62 = .ok (.ireturn, 1) := zo_172 (by decide +kernel)
theorem dX12_wordOf_63 : decode cX12_wordOf 63 = .ok (.lload_n 0, 1) := zo_30 (by decide +kernel)
theorem dX12_wordOf_64 : decode cX12_wordOf 64 = .ok (.iconst 0, 1) := zo_3 (by decide +kernel)
theorem dX12_wordOf_65 : decode cX12_wordOf 65 = .ok (.bipush 9, 2) := zo_16 (by decide +kernel)
theorem dX12_wordOf_67 : decode cX12_wordOf 67 = .ok (.bipush 14, 2) := zo_16 (by decide +kernel)
theorem dX12_wordOf_69 : decode cX12_wordOf 69 = .ok (.bipush 14, 2) := zo_16 (by decide +kernel)
theorem dX12_wordOf_71 : decode cX12_wordOf 71 = .ok (.invokestatic 60, 3) := zo_184 (by decide +kernel)
theorem dX12_wordOf_74 : decode cX12_wordOf 74 = .ok (.lcmp, 1) := zo_148 (by decide +kernel)
theorem dX12_wordOf_75 : decode cX12_wordOf 75 = .ok (.ifCond .ne 5, 3) := zo_154 (by decide +kernel)
theorem dX12_wordOf_78 : decode cX12_wordOf 78 = .ok (.iconst 4, 1) := zo_7 (by decide +kernel)
theorem dX12_wordOf_79 : decode cX12_wordOf 79 = .ok (.ireturn, 1) := zo_172 (by decide +kernel)
theorem dX12_wordOf_80 : decode cX12_wordOf 80 = .ok (.lload_n 0, 1) := zo_30 (by decide +kernel)
theorem dX12_wordOf_81 : decode cX12_wordOf 81 = .ok (.iconst 0, 1) := zo_3 (by decide +kernel)
theorem dX12_wordOf_82 : decode cX12_wordOf 82 = .ok (.iconst 0, 1) := zo_3 (by decide +kernel)
theorem dX12_wordOf_83 : decode cX12_wordOf 83 = .ok (.bipush 7, 2) := zo_16 (by decide +kernel)
theorem dX12_wordOf_85 : decode cX12_wordOf 85 = .ok (.bipush 15, 2) := zo_16 (by decide +kernel)
theorem dX12_wordOf_87 : decode cX12_wordOf 87 = .ok (.invokestatic 60, 3) := zo_184 (by decide +kernel)
theorem dX12_wordOf_90 : decode cX12_wordOf 90 = .ok (.lcmp, 1) := zo_148 (by decide +kernel)
theorem dX12_wordOf_91 : decode cX12_wordOf 91 = .ok (.ifCond .ne 5, 3) := zo_154 (by decide +kernel)
theorem dX12_wordOf_94 : decode cX12_wordOf 94 = .ok (.iconst 5, 1) := zo_8 (by decide +kernel)
theorem dX12_wordOf_95 : decode cX12_wordOf 95 = .ok (.ireturn, 1) := zo_172 (by decide +kernel)
theorem dX12_wordOf_96 : decode cX12_wordOf 96 = .ok (.lload_n 0, 1) := zo_30 (by decide +kernel)
theorem dX12_wordOf_97 : decode cX12_wordOf 97 = .ok (.iconst 0, 1) := zo_3 (by decide +kernel)
theorem dX12_wordOf_98 : decode cX12_wordOf 98 = .ok (.bipush 18, 2) := zo_16 (by decide +kernel)
theorem dX12_wordOf_100 : decode cX12_wordOf 100 = .ok (.bipush 21, 2) := zo_16 (by decide +kernel)
theorem dX12_wordOf_102 : decode cX12_wordOf 102 = .ok (.bipush 14, 2) := zo_16 (by decide +kernel)
theorem dX12_wordOf_104 : decode cX12_wordOf 104 = .ok (.invokestatic 60, 3) := zo_184 (by decide +kernel)
theorem dX12_wordOf_107 : decode cX12_wordOf 107 = .ok (.lcmp, 1) := zo_148 (by decide +kernel)
theorem dX12_wordOf_108 : decode cX12_wordOf 108 = .ok (.ifCond .ne 6, 3) := zo_154 (by decide +kernel)
theorem dX12_wordOf_111 : decode cX12_wordOf 111 = .ok (.bipush 6, 2) := zo_16 (by decide +kernel)
theorem dX12_wordOf_113 : decode cX12_wordOf 113 = .ok (.ireturn, 1) := zo_172 (by decide +kernel)
theorem dX12_wordOf_114 : decode cX12_wordOf 114 = .ok (.lload_n 0, 1) := zo_30 (by decide +kernel)
theorem dX12_wordOf_115 : decode cX12_wordOf 115 = .ok (.bipush 20, 2) := zo_16 (by decide +kernel)
theorem dX12_wordOf_117 : decode cX12_wordOf 117 = .ok (.bipush 21, 2) := zo_16 (by decide +kernel)
theorem dX12_wordOf_119 : decode cX12_wordOf 119 = .ok (.bipush 18, 2) := zo_16 (by decide +kernel)
theorem dX12_wordOf_121 : decode cX12_wordOf 121 = .ok (.bipush 14, 2) := zo_16 (by decide +kernel)
theorem dX12_wordOf_123 : decode cX12_wordOf 123 = .ok (.invokestatic 60, 3) := zo_184 (by decide +kernel)
theorem dX12_wordOf_126 : decode cX12_wordOf 126 = .ok (.lcmp, 1) := zo_148 (by decide +kernel)
theorem dX12_wordOf_127 : decode cX12_wordOf 127 = .ok (.ifCond .ne 6, 3) := zo_154 (by decide +kernel)
theorem dX12_wordOf_130 : decode cX12_wordOf 130 = .ok (.bipush 7, 2) := zo_16 (by decide +kernel)
theorem dX12_wordOf_132 : decode cX12_wordOf 132 = .ok (.ireturn, 1) := zo_172 (by decide +kernel)
theorem dX12_wordOf_133 : decode cX12_wordOf 133 = .ok (.lload_n 0, 1) := zo_30 (by decide +kernel)
theorem dX12_wordOf_134 : decode cX12_wordOf 134 = .ok (.iconst 0, 1) := zo_3 (by decide +kernel)
theorem dX12_wordOf_135 : decode cX12_wordOf 135 = .ok (.iconst 1, 1) := zo_4 (by decide +kernel)
theorem dX12_wordOf_136 : decode cX12_wordOf 136 = .ok (.iconst 4, 1) := zo_7 (by decide +kernel)
theorem dX12_wordOf_137 : decode cX12_wordOf 137 = .ok (.iconst 4, 1) := zo_7 (by decide +kernel)
theorem dX12_wordOf_138 : decode cX12_wordOf 138 = .ok (.invokestatic 60, 3) := zo_184 (by decide +kernel)
theorem dX12_wordOf_141 : decode cX12_wordOf 141 = .ok (.lcmp, 1) := zo_148 (by decide +kernel)
theorem dX12_wordOf_142 : decode cX12_wordOf 142 = .ok (.ifCond .ne 6, 3) := zo_154 (by decide +kernel)
theorem dX12_wordOf_145 : decode cX12_wordOf 145 = .ok (.bipush 8, 2) := zo_16 (by decide +kernel)
theorem dX12_wordOf_147 : decode cX12_wordOf 147 = .ok (.ireturn, 1) := zo_172 (by decide +kernel)
theorem dX12_wordOf_148 : decode cX12_wordOf 148 = .ok (.lload_n 0, 1) := zo_30 (by decide +kernel)
theorem dX12_wordOf_149 : decode cX12_wordOf 149 = .ok (.bipush 19, 2) := zo_16 (by decide +kernel)
theorem dX12_wordOf_151 : decode cX12_wordOf 151 = .ok (.bipush 8, 2) := zo_16 (by decide +kernel)
theorem dX12_wordOf_153 : decode cX12_wordOf 153 = .ok (.bipush 21, 2) := zo_16 (by decide +kernel)
theorem dX12_wordOf_155 : decode cX12_wordOf 155 = .ok (.bipush 20, 2) := zo_16 (by decide +kernel)
theorem dX12_wordOf_157 : decode cX12_wordOf 157 = .ok (.invokestatic 60, 3) := zo_184 (by decide +kernel)
theorem dX12_wordOf_160 : decode cX12_wordOf 160 = .ok (.lcmp, 1) := zo_148 (by decide +kernel)
theorem dX12_wordOf_161 : decode cX12_wordOf 161 = .ok (.ifCond .ne 6, 3) := zo_154 (by decide +kernel)
theorem dX12_wordOf_164 : decode cX12_wordOf 164 = .ok (.bipush 9, 2) := zo_16 (by decide +kernel)
theorem dX12_wordOf_166 : decode cX12_wordOf 166 = .ok (.ireturn, 1) := zo_172 (by decide +kernel)
theorem dX12_wordOf_167 : decode cX12_wordOf 167 = .ok (.lload_n 0, 1) := zo_30 (by decide +kernel)
theorem dX12_wordOf_168 : decode cX12_wordOf 168 = .ok (.bipush 15, 2) := zo_16 (by decide +kernel)
theorem dX12_wordOf_170 : decode cX12_wordOf 170 = .ok (.bipush 16, 2) := zo_16 (by decide +kernel)
theorem dX12_wordOf_172 : decode cX12_wordOf 172 = .ok (.iconst 5, 1) := zo_8 (by decide +kernel)
theorem dX12_wordOf_173 : decode cX12_wordOf 173 = .ok (.bipush 14, 2) := zo_16 (by decide +kernel)
theorem dX12_wordOf_175 : decode cX12_wordOf 175 = .ok (.invokestatic 60, 3) := zo_184 (by decide +kernel)
theorem dX12_wordOf_178 : decode cX12_wordOf 178 = .ok (.lcmp, 1) := zo_148 (by decide +kernel)
theorem dX12_wordOf_179 : decode cX12_wordOf 179 = .ok (.ifCond .ne 6, 3) := zo_154 (by decide +kernel)
theorem dX12_wordOf_182 : decode cX12_wordOf 182 = .ok (.bipush 10, 2) := zo_16 (by decide +kernel)
theorem dX12_wordOf_184 : decode cX12_wordOf 184 = .ok (.ireturn, 1) := zo_172 (by decide +kernel)
theorem dX12_wordOf_185 : decode cX12_wordOf 185 = .ok (.lload_n 0, 1) := zo_30 (by decide +kernel)
theorem dX12_wordOf_186 : decode cX12_wordOf 186 = .ok (.iconst 3, 1) := zo_6 (by decide +kernel)
theorem dX12_wordOf_187 : decode cX12_wordOf 187 = .ok (.iconst 1, 1) := zo_4 (by decide +kernel)
theorem dX12_wordOf_188 : decode cX12_wordOf 188 = .ok (.bipush 13, 2) := zo_16 (by decide +kernel)
theorem dX12_wordOf_190 : decode cX12_wordOf 190 = .ok (.iconst 5, 1) := zo_8 (by decide +kernel)
theorem dX12_wordOf_191 : decode cX12_wordOf 191 = .ok (.invokestatic 60, 3) := zo_184 (by decide +kernel)
theorem dX12_wordOf_194 : decode cX12_wordOf 194 = .ok (.lcmp, 1) := zo_148 (by decide +kernel)
theorem dX12_wordOf_195 : decode cX12_wordOf 195 = .ok (.ifCond .ne 6, 3) := zo_154 (by decide +kernel)
theorem dX12_wordOf_198 : decode cX12_wordOf 198 = .ok (.bipush 11, 2) := zo_16 (by decide +kernel)
theorem dX12_wordOf_200 : decode cX12_wordOf 200 = .ok (.ireturn, 1) := zo_172 (by decide +kernel)
theorem dX12_wordOf_201 : decode cX12_wordOf 201 = .ok (.lload_n 0, 1) := zo_30 (by decide +kernel)
theorem dX12_wordOf_202 : decode cX12_wordOf 202 = .ok (.iconst 0, 1) := zo_3 (by decide +kernel)
theorem dX12_wordOf_203 : decode cX12_wordOf 203 = .ok (.iconst 0, 1) := zo_3 (by decide +kernel)
theorem dX12_wordOf_204 : decode cX12_wordOf 204 = .ok (.iconst 0, 1) := zo_3 (by decide +kernel)
theorem dX12_wordOf_205 : decode cX12_wordOf 205 = .ok (.bipush 14, 2) := zo_16 (by decide +kernel)
theorem dX12_wordOf_207 : decode cX12_wordOf 207 = .ok (.iconst 5, 1) := zo_8 (by decide +kernel)
theorem dX12_wordOf_208 : decode cX12_wordOf 208 = .ok (.bipush 22, 2) := zo_16 (by decide +kernel)
theorem dX12_wordOf_210 : decode cX12_wordOf 210 = .ok (.iconst 5, 1) := zo_8 (by decide +kernel)
theorem dX12_wordOf_211 : decode cX12_wordOf 211 = .ok (.bipush 18, 2) := zo_16 (by decide +kernel)
theorem dX12_wordOf_213 : decode cX12_wordOf 213 = .ok (.invokestatic 66, 3) := zo_184 (by decide +kernel)
theorem dX12_wordOf_216 : decode cX12_wordOf 216 = .ok (.lcmp, 1) := zo_148 (by decide +kernel)
theorem dX12_wordOf_217 : decode cX12_wordOf 217 = .ok (.ifCond .ne 8, 3) := zo_154 (by decide +kernel)
theorem dX12_wordOf_220 : decode cX12_wordOf 220 = .ok (.bipush 12, 2) := zo_16 (by decide +kernel)
theorem dX12_wordOf_222 : decode cX12_wordOf 222 = .ok (.goto 5, 3) := zo_167 (by decide +kernel)
theorem dX12_wordOf_225 : decode cX12_wordOf 225 = .ok (.bipush 99, 2) := zo_16 (by decide +kernel)
theorem dX12_wordOf_227 : decode cX12_wordOf 227 = .ok (.ireturn, 1) := zo_172 (by decide +kernel)

theorem m_in_RX11 : Cond.instantiable RX11 11 ∈ zT := zmem1 zsub_1 21 (by decide +kernel) (by decide +kernel)
theorem m_in_RX12 : Cond.instantiable RX12 43 ∈ zT := zmem1 zsub_5 230 (by decide +kernel) (by decide +kernel)
theorem m_cl_RL_7 : Cond.classLink RL 7 RX11 ∈ zT := zmem1 zsub_1 20 (by decide +kernel) (by decide +kernel)
theorem m_co_X11_init : Cond.code yX11_init cX11_init 1 none ∈ zT := zmem1 zsub_1 24 (by decide +kernel) (by decide +kernel)
theorem m_ml_RL_9 : Cond.methodLink RL 9 yX11_init ∈ zT := zmem1 zsub_1 22 (by decide +kernel) (by decide +kernel)
theorem m_im_X11_init : Cond.instanceMethod yX11_init ∈ zT := zmem1 zsub_1 23 (by decide +kernel) (by decide +kernel)
theorem m_cl_RL_10 : Cond.classLink RL 10 RX12 ∈ zT := zmem1 zsub_5 229 (by decide +kernel) (by decide +kernel)
theorem m_co_X12_init : Cond.code yX12_init cX12_init 1 none ∈ zT := zmem1 zsub_5 233 (by decide +kernel) (by decide +kernel)
theorem m_ml_RL_12 : Cond.methodLink RL 12 yX12_init ∈ zT := zmem1 zsub_5 231 (by decide +kernel) (by decide +kernel)
theorem m_im_X12_init : Cond.instanceMethod yX12_init ∈ zT := zmem1 zsub_5 232 (by decide +kernel) (by decide +kernel)
theorem m_co_X11_feed : Cond.code yX11_feed cX11_feed 6 (some .int) ∈ zT := zmem1 zsub_2 213 (by decide +kernel) (by decide +kernel)
theorem m_ml_RL_13 : Cond.methodLink RL 13 yX11_feed ∈ zT := zmem1 zsub_2 210 (by decide +kernel) (by decide +kernel)
theorem m_im_X11_feed : Cond.instanceMethod yX11_feed ∈ zT := zmem1 zsub_2 211 (by decide +kernel) (by decide +kernel)
theorem m_se_X11_feed : Cond.selects RX11 yX11_feed yX11_feed ∈ zT := zmem1 zsub_2 212 (by decide +kernel) (by decide +kernel)
theorem m_co_X12_feed : Cond.code yX12_feed cX12_feed 8 (some .int) ∈ zT := zmem1 zsub_6 128 (by decide +kernel) (by decide +kernel)
theorem m_ml_RL_17 : Cond.methodLink RL 17 yX12_feed ∈ zT := zmem1 zsub_6 125 (by decide +kernel) (by decide +kernel)
theorem m_im_X12_feed : Cond.instanceMethod yX12_feed ∈ zT := zmem1 zsub_6 126 (by decide +kernel) (by decide +kernel)
theorem m_se_X12_feed : Cond.selects RX12 yX12_feed yX12_feed ∈ zT := zmem1 zsub_6 127 (by decide +kernel) (by decide +kernel)
theorem m_co_X11_end : Cond.code yX11_end cX11_end 2 (some .int) ∈ zT := zmem1 zsub_2 221 (by decide +kernel) (by decide +kernel)
theorem m_ml_RL_18 : Cond.methodLink RL 18 yX11_end ∈ zT := zmem1 zsub_2 218 (by decide +kernel) (by decide +kernel)
theorem m_im_X11_end : Cond.instanceMethod yX11_end ∈ zT := zmem1 zsub_2 219 (by decide +kernel) (by decide +kernel)
theorem m_se_X11_end : Cond.selects RX11 yX11_end yX11_end ∈ zT := zmem1 zsub_2 220 (by decide +kernel) (by decide +kernel)
theorem m_co_X12_end : Cond.code yX12_end cX12_end 2 (some .int) ∈ zT := zmem1 zsub_6 132 (by decide +kernel) (by decide +kernel)
theorem m_ml_RL_22 : Cond.methodLink RL 22 yX12_end ∈ zT := zmem1 zsub_6 129 (by decide +kernel) (by decide +kernel)
theorem m_im_X12_end : Cond.instanceMethod yX12_end ∈ zT := zmem1 zsub_6 130 (by decide +kernel) (by decide +kernel)
theorem m_se_X12_end : Cond.selects RX12 yX12_end yX12_end ∈ zT := zmem1 zsub_6 131 (by decide +kernel) (by decide +kernel)
theorem m_co_X11_text : Cond.code yX11_text cX11_text 5 (some .int) ∈ zT := zmem1 zsub_2 225 (by decide +kernel) (by decide +kernel)
theorem m_ml_RL_23 : Cond.methodLink RL 23 yX11_text ∈ zT := zmem1 zsub_2 222 (by decide +kernel) (by decide +kernel)
theorem m_im_X11_text : Cond.instanceMethod yX11_text ∈ zT := zmem1 zsub_2 223 (by decide +kernel) (by decide +kernel)
theorem m_se_X11_text : Cond.selects RX11 yX11_text yX11_text ∈ zT := zmem1 zsub_2 224 (by decide +kernel) (by decide +kernel)
theorem m_co_X12_text : Cond.code yX12_text cX12_text 5 (some .int) ∈ zT := zmem1 zsub_6 136 (by decide +kernel) (by decide +kernel)
theorem m_ml_RL_27 : Cond.methodLink RL 27 yX12_text ∈ zT := zmem1 zsub_6 133 (by decide +kernel) (by decide +kernel)
theorem m_im_X12_text : Cond.instanceMethod yX12_text ∈ zT := zmem1 zsub_6 134 (by decide +kernel) (by decide +kernel)
theorem m_se_X12_text : Cond.selects RX12 yX12_text yX12_text ∈ zT := zmem1 zsub_6 135 (by decide +kernel) (by decide +kernel)
theorem m_co_X11_fault : Cond.code yX11_fault cX11_fault 2 (some .int) ∈ zT := zmem1 zsub_3 172 (by decide +kernel) (by decide +kernel)
theorem m_ml_RL_28 : Cond.methodLink RL 28 yX11_fault ∈ zT := zmem1 zsub_3 169 (by decide +kernel) (by decide +kernel)
theorem m_im_X11_fault : Cond.instanceMethod yX11_fault ∈ zT := zmem1 zsub_3 170 (by decide +kernel) (by decide +kernel)
theorem m_se_X11_fault : Cond.selects RX11 yX11_fault yX11_fault ∈ zT := zmem1 zsub_3 171 (by decide +kernel) (by decide +kernel)
theorem m_co_X12_fault : Cond.code yX12_fault cX12_fault 2 (some .int) ∈ zT := zmem1 zsub_6 223 (by decide +kernel) (by decide +kernel)
theorem m_ml_RL_31 : Cond.methodLink RL 31 yX12_fault ∈ zT := zmem1 zsub_6 220 (by decide +kernel) (by decide +kernel)
theorem m_im_X12_fault : Cond.instanceMethod yX12_fault ∈ zT := zmem1 zsub_6 221 (by decide +kernel) (by decide +kernel)
theorem m_se_X12_fault : Cond.selects RX12 yX12_fault yX12_fault ∈ zT := zmem1 zsub_6 222 (by decide +kernel) (by decide +kernel)
theorem m_co_X11_land : Cond.code yX11_land cX11_land 4 (some .int) ∈ zT := zmem1 zsub_3 192 (by decide +kernel) (by decide +kernel)
theorem m_ml_RL_32 : Cond.methodLink RL 32 yX11_land ∈ zT := zmem1 zsub_3 189 (by decide +kernel) (by decide +kernel)
theorem m_im_X11_land : Cond.instanceMethod yX11_land ∈ zT := zmem1 zsub_3 190 (by decide +kernel) (by decide +kernel)
theorem m_se_X11_land : Cond.selects RX11 yX11_land yX11_land ∈ zT := zmem1 zsub_3 191 (by decide +kernel) (by decide +kernel)
theorem m_co_X12_land : Cond.code yX12_land cX12_land 4 (some .int) ∈ zT := zmem1 zsub_6 227 (by decide +kernel) (by decide +kernel)
theorem m_ml_RL_35 : Cond.methodLink RL 35 yX12_land ∈ zT := zmem1 zsub_6 224 (by decide +kernel) (by decide +kernel)
theorem m_im_X12_land : Cond.instanceMethod yX12_land ∈ zT := zmem1 zsub_6 225 (by decide +kernel) (by decide +kernel)
theorem m_se_X12_land : Cond.selects RX12 yX12_land yX12_land ∈ zT := zmem1 zsub_6 226 (by decide +kernel) (by decide +kernel)
theorem m_co_X11_deed : Cond.code yX11_deed cX11_deed 5 (some .int) ∈ zT := zmem1 zsub_3 212 (by decide +kernel) (by decide +kernel)
theorem m_ml_RL_36 : Cond.methodLink RL 36 yX11_deed ∈ zT := zmem1 zsub_3 209 (by decide +kernel) (by decide +kernel)
theorem m_im_X11_deed : Cond.instanceMethod yX11_deed ∈ zT := zmem1 zsub_3 210 (by decide +kernel) (by decide +kernel)
theorem m_se_X11_deed : Cond.selects RX11 yX11_deed yX11_deed ∈ zT := zmem1 zsub_3 211 (by decide +kernel) (by decide +kernel)
theorem m_co_X12_deed : Cond.code yX12_deed cX12_deed 4 (some .int) ∈ zT := zmem1 zsub_7 200 (by decide +kernel) (by decide +kernel)
theorem m_ml_RL_40 : Cond.methodLink RL 40 yX12_deed ∈ zT := zmem1 zsub_7 197 (by decide +kernel) (by decide +kernel)
theorem m_im_X12_deed : Cond.instanceMethod yX12_deed ∈ zT := zmem1 zsub_7 198 (by decide +kernel) (by decide +kernel)
theorem m_se_X12_deed : Cond.selects RX12 yX12_deed yX12_deed ∈ zT := zmem1 zsub_7 199 (by decide +kernel) (by decide +kernel)
theorem m_co_X11_stop : Cond.code yX11_stop cX11_stop 5 (some .int) ∈ zT := zmem1 zsub_3 236 (by decide +kernel) (by decide +kernel)
theorem m_ml_RL_41 : Cond.methodLink RL 41 yX11_stop ∈ zT := zmem1 zsub_3 233 (by decide +kernel) (by decide +kernel)
theorem m_im_X11_stop : Cond.instanceMethod yX11_stop ∈ zT := zmem1 zsub_3 234 (by decide +kernel) (by decide +kernel)
theorem m_se_X11_stop : Cond.selects RX11 yX11_stop yX11_stop ∈ zT := zmem1 zsub_3 235 (by decide +kernel) (by decide +kernel)
theorem m_co_X12_stop : Cond.code yX12_stop cX12_stop 3 (some .int) ∈ zT := zmem1 zsub_7 208 (by decide +kernel) (by decide +kernel)
theorem m_ml_RL_44 : Cond.methodLink RL 44 yX12_stop ∈ zT := zmem1 zsub_7 205 (by decide +kernel) (by decide +kernel)
theorem m_im_X12_stop : Cond.instanceMethod yX12_stop ∈ zT := zmem1 zsub_7 206 (by decide +kernel) (by decide +kernel)
theorem m_se_X12_stop : Cond.selects RX12 yX12_stop yX12_stop ∈ zT := zmem1 zsub_7 207 (by decide +kernel) (by decide +kernel)
theorem m_co_X11_state : Cond.code yX11_state cX11_state 7 (some .int) ∈ zT := zmem1 zsub_4 82 (by decide +kernel) (by decide +kernel)
theorem m_ml_RL_45 : Cond.methodLink RL 45 yX11_state ∈ zT := zmem1 zsub_4 79 (by decide +kernel) (by decide +kernel)
theorem m_im_X11_state : Cond.instanceMethod yX11_state ∈ zT := zmem1 zsub_4 80 (by decide +kernel) (by decide +kernel)
theorem m_se_X11_state : Cond.selects RX11 yX11_state yX11_state ∈ zT := zmem1 zsub_4 81 (by decide +kernel) (by decide +kernel)
theorem m_co_X12_state : Cond.code yX12_state cX12_state 5 (some .int) ∈ zT := zmem1 zsub_8 8 (by decide +kernel) (by decide +kernel)
theorem m_ml_RL_49 : Cond.methodLink RL 49 yX12_state ∈ zT := zmem1 zsub_8 5 (by decide +kernel) (by decide +kernel)
theorem m_im_X12_state : Cond.instanceMethod yX12_state ∈ zT := zmem1 zsub_8 6 (by decide +kernel) (by decide +kernel)
theorem m_se_X12_state : Cond.selects RX12 yX12_state yX12_state ∈ zT := zmem1 zsub_8 7 (by decide +kernel) (by decide +kernel)
theorem m_co_X11_walk : Cond.code yX11_walk cX11_walk 5 (some .int) ∈ zT := zmem1 zsub_4 121 (by decide +kernel) (by decide +kernel)
theorem m_ml_RL_50 : Cond.methodLink RL 50 yX11_walk ∈ zT := zmem1 zsub_4 118 (by decide +kernel) (by decide +kernel)
theorem m_im_X11_walk : Cond.instanceMethod yX11_walk ∈ zT := zmem1 zsub_4 119 (by decide +kernel) (by decide +kernel)
theorem m_se_X11_walk : Cond.selects RX11 yX11_walk yX11_walk ∈ zT := zmem1 zsub_4 120 (by decide +kernel) (by decide +kernel)
theorem m_co_X12_walk : Cond.code yX12_walk cX12_walk 5 (some .int) ∈ zT := zmem1 zsub_7 15 (by decide +kernel) (by decide +kernel)
theorem m_ml_RL_53 : Cond.methodLink RL 53 yX12_walk ∈ zT := zmem1 zsub_7 12 (by decide +kernel) (by decide +kernel)
theorem m_im_X12_walk : Cond.instanceMethod yX12_walk ∈ zT := zmem1 zsub_7 13 (by decide +kernel) (by decide +kernel)
theorem m_se_X12_walk : Cond.selects RX12 yX12_walk yX12_walk ∈ zT := zmem1 zsub_7 14 (by decide +kernel) (by decide +kernel)
theorem m_co_X11_endOf : Cond.code yX11_endOf cX11_endOf 4 (some .int) ∈ zT := zmem1 zsub_4 169 (by decide +kernel) (by decide +kernel)
theorem m_ml_RL_54 : Cond.methodLink RL 54 yX11_endOf ∈ zT := zmem1 zsub_4 166 (by decide +kernel) (by decide +kernel)
theorem m_im_X11_endOf : Cond.instanceMethod yX11_endOf ∈ zT := zmem1 zsub_4 167 (by decide +kernel) (by decide +kernel)
theorem m_se_X11_endOf : Cond.selects RX11 yX11_endOf yX11_endOf ∈ zT := zmem1 zsub_4 168 (by decide +kernel) (by decide +kernel)
theorem m_co_X12_endOf : Cond.code yX12_endOf cX12_endOf 5 (some .int) ∈ zT := zmem1 zsub_7 39 (by decide +kernel) (by decide +kernel)
theorem m_ml_RL_57 : Cond.methodLink RL 57 yX12_endOf ∈ zT := zmem1 zsub_7 36 (by decide +kernel) (by decide +kernel)
theorem m_im_X12_endOf : Cond.instanceMethod yX12_endOf ∈ zT := zmem1 zsub_7 37 (by decide +kernel) (by decide +kernel)
theorem m_se_X12_endOf : Cond.selects RX12 yX12_endOf yX12_endOf ∈ zT := zmem1 zsub_7 38 (by decide +kernel) (by decide +kernel)
theorem m_co_X11_come : Cond.code yX11_come cX11_come 6 (some .int) ∈ zT := zmem1 zsub_4 177 (by decide +kernel) (by decide +kernel)
theorem m_ml_RL_58 : Cond.methodLink RL 58 yX11_come ∈ zT := zmem1 zsub_4 174 (by decide +kernel) (by decide +kernel)
theorem m_im_X11_come : Cond.instanceMethod yX11_come ∈ zT := zmem1 zsub_4 175 (by decide +kernel) (by decide +kernel)
theorem m_se_X11_come : Cond.selects RX11 yX11_come yX11_come ∈ zT := zmem1 zsub_4 176 (by decide +kernel) (by decide +kernel)
theorem m_co_X12_come : Cond.code yX12_come cX12_come 5 (some .int) ∈ zT := zmem1 zsub_7 43 (by decide +kernel) (by decide +kernel)
theorem m_ml_RL_61 : Cond.methodLink RL 61 yX12_come ∈ zT := zmem1 zsub_7 40 (by decide +kernel) (by decide +kernel)
theorem m_im_X12_come : Cond.instanceMethod yX12_come ∈ zT := zmem1 zsub_7 41 (by decide +kernel) (by decide +kernel)
theorem m_se_X12_come : Cond.selects RX12 yX12_come yX12_come ∈ zT := zmem1 zsub_7 42 (by decide +kernel) (by decide +kernel)
theorem m_co_X11_period : Cond.code yX11_period cX11_period 8 (some .int) ∈ zT := zmem1 zsub_4 187 (by decide +kernel) (by decide +kernel)
theorem m_ml_RL_62 : Cond.methodLink RL 62 yX11_period ∈ zT := zmem1 zsub_4 184 (by decide +kernel) (by decide +kernel)
theorem m_im_X11_period : Cond.instanceMethod yX11_period ∈ zT := zmem1 zsub_4 185 (by decide +kernel) (by decide +kernel)
theorem m_se_X11_period : Cond.selects RX11 yX11_period yX11_period ∈ zT := zmem1 zsub_4 186 (by decide +kernel) (by decide +kernel)
theorem m_co_X12_period : Cond.code yX12_period cX12_period 6 (some .int) ∈ zT := zmem1 zsub_7 51 (by decide +kernel) (by decide +kernel)
theorem m_ml_RL_66 : Cond.methodLink RL 66 yX12_period ∈ zT := zmem1 zsub_7 48 (by decide +kernel) (by decide +kernel)
theorem m_im_X12_period : Cond.instanceMethod yX12_period ∈ zT := zmem1 zsub_7 49 (by decide +kernel) (by decide +kernel)
theorem m_se_X12_period : Cond.selects RX12 yX12_period yX12_period ∈ zT := zmem1 zsub_7 50 (by decide +kernel) (by decide +kernel)
theorem m_co_X11_set : Cond.code yX11_set cX11_set 10 (some .int) ∈ zT := zmem1 zsub_4 206 (by decide +kernel) (by decide +kernel)
theorem m_ml_RL_67 : Cond.methodLink RL 67 yX11_set ∈ zT := zmem1 zsub_4 203 (by decide +kernel) (by decide +kernel)
theorem m_im_X11_set : Cond.instanceMethod yX11_set ∈ zT := zmem1 zsub_4 204 (by decide +kernel) (by decide +kernel)
theorem m_se_X11_set : Cond.selects RX11 yX11_set yX11_set ∈ zT := zmem1 zsub_4 205 (by decide +kernel) (by decide +kernel)
theorem m_co_X12_set : Cond.code yX12_set cX12_set 7 (some .int) ∈ zT := zmem1 zsub_7 59 (by decide +kernel) (by decide +kernel)
theorem m_ml_RL_70 : Cond.methodLink RL 70 yX12_set ∈ zT := zmem1 zsub_7 56 (by decide +kernel) (by decide +kernel)
theorem m_im_X12_set : Cond.instanceMethod yX12_set ∈ zT := zmem1 zsub_7 57 (by decide +kernel) (by decide +kernel)
theorem m_se_X12_set : Cond.selects RX12 yX12_set yX12_set ∈ zT := zmem1 zsub_7 58 (by decide +kernel) (by decide +kernel)
theorem m_co_X11_lot : Cond.code yX11_lot cX11_lot 9 (some .int) ∈ zT := zmem1 zsub_5 40 (by decide +kernel) (by decide +kernel)
theorem m_ml_RL_71 : Cond.methodLink RL 71 yX11_lot ∈ zT := zmem1 zsub_5 37 (by decide +kernel) (by decide +kernel)
theorem m_im_X11_lot : Cond.instanceMethod yX11_lot ∈ zT := zmem1 zsub_5 38 (by decide +kernel) (by decide +kernel)
theorem m_se_X11_lot : Cond.selects RX11 yX11_lot yX11_lot ∈ zT := zmem1 zsub_5 39 (by decide +kernel) (by decide +kernel)
theorem m_co_X12_lot : Cond.code yX12_lot cX12_lot 8 (some .int) ∈ zT := zmem1 zsub_7 86 (by decide +kernel) (by decide +kernel)
theorem m_ml_RL_75 : Cond.methodLink RL 75 yX12_lot ∈ zT := zmem1 zsub_7 83 (by decide +kernel) (by decide +kernel)
theorem m_im_X12_lot : Cond.instanceMethod yX12_lot ∈ zT := zmem1 zsub_7 84 (by decide +kernel) (by decide +kernel)
theorem m_se_X12_lot : Cond.selects RX12 yX12_lot yX12_lot ∈ zT := zmem1 zsub_7 85 (by decide +kernel) (by decide +kernel)
theorem m_co_X11_mean : Cond.code yX11_mean cX11_mean 8 (some .int) ∈ zT := zmem1 zsub_5 48 (by decide +kernel) (by decide +kernel)
theorem m_ml_RL_76 : Cond.methodLink RL 76 yX11_mean ∈ zT := zmem1 zsub_5 45 (by decide +kernel) (by decide +kernel)
theorem m_im_X11_mean : Cond.instanceMethod yX11_mean ∈ zT := zmem1 zsub_5 46 (by decide +kernel) (by decide +kernel)
theorem m_se_X11_mean : Cond.selects RX11 yX11_mean yX11_mean ∈ zT := zmem1 zsub_5 47 (by decide +kernel) (by decide +kernel)
theorem m_co_X12_mean : Cond.code yX12_mean cX12_mean 7 (some .int) ∈ zT := zmem1 zsub_7 96 (by decide +kernel) (by decide +kernel)
theorem m_ml_RL_79 : Cond.methodLink RL 79 yX12_mean ∈ zT := zmem1 zsub_7 93 (by decide +kernel) (by decide +kernel)
theorem m_im_X12_mean : Cond.instanceMethod yX12_mean ∈ zT := zmem1 zsub_7 94 (by decide +kernel) (by decide +kernel)
theorem m_se_X12_mean : Cond.selects RX12 yX12_mean yX12_mean ∈ zT := zmem1 zsub_7 95 (by decide +kernel) (by decide +kernel)
theorem m_co_X11_trees : Cond.code yX11_trees cX11_trees 4 (some .int) ∈ zT := zmem1 zsub_5 56 (by decide +kernel) (by decide +kernel)
theorem m_ml_RL_80 : Cond.methodLink RL 80 yX11_trees ∈ zT := zmem1 zsub_5 53 (by decide +kernel) (by decide +kernel)
theorem m_im_X11_trees : Cond.instanceMethod yX11_trees ∈ zT := zmem1 zsub_5 54 (by decide +kernel) (by decide +kernel)
theorem m_se_X11_trees : Cond.selects RX11 yX11_trees yX11_trees ∈ zT := zmem1 zsub_5 55 (by decide +kernel) (by decide +kernel)
theorem m_co_X12_trees : Cond.code yX12_trees cX12_trees 7 (some .int) ∈ zT := zmem1 zsub_7 100 (by decide +kernel) (by decide +kernel)
theorem m_ml_RL_83 : Cond.methodLink RL 83 yX12_trees ∈ zT := zmem1 zsub_7 97 (by decide +kernel) (by decide +kernel)
theorem m_im_X12_trees : Cond.instanceMethod yX12_trees ∈ zT := zmem1 zsub_7 98 (by decide +kernel) (by decide +kernel)
theorem m_se_X12_trees : Cond.selects RX12 yX12_trees yX12_trees ∈ zT := zmem1 zsub_7 99 (by decide +kernel) (by decide +kernel)
theorem m_co_X11_game : Cond.code yX11_game cX11_game 9 (some .int) ∈ zT := zmem1 zsub_5 93 (by decide +kernel) (by decide +kernel)
theorem m_ml_RL_84 : Cond.methodLink RL 84 yX11_game ∈ zT := zmem1 zsub_5 90 (by decide +kernel) (by decide +kernel)
theorem m_im_X11_game : Cond.instanceMethod yX11_game ∈ zT := zmem1 zsub_5 91 (by decide +kernel) (by decide +kernel)
theorem m_se_X11_game : Cond.selects RX11 yX11_game yX11_game ∈ zT := zmem1 zsub_5 92 (by decide +kernel) (by decide +kernel)
theorem m_co_X12_game : Cond.code yX12_game cX12_game 11 (some .int) ∈ zT := zmem1 zsub_7 108 (by decide +kernel) (by decide +kernel)
theorem m_ml_RL_87 : Cond.methodLink RL 87 yX12_game ∈ zT := zmem1 zsub_7 105 (by decide +kernel) (by decide +kernel)
theorem m_im_X12_game : Cond.instanceMethod yX12_game ∈ zT := zmem1 zsub_7 106 (by decide +kernel) (by decide +kernel)
theorem m_se_X12_game : Cond.selects RX12 yX12_game yX12_game ∈ zT := zmem1 zsub_7 107 (by decide +kernel) (by decide +kernel)
theorem m_co_X11_fact : Cond.code yX11_fact cX11_fact 5 (some .int) ∈ zT := zmem1 zsub_3 224 (by decide +kernel) (by decide +kernel)
theorem m_ml_RL_88 : Cond.methodLink RL 88 yX11_fact ∈ zT := zmem1 zsub_3 221 (by decide +kernel) (by decide +kernel)
theorem m_im_X11_fact : Cond.instanceMethod yX11_fact ∈ zT := zmem1 zsub_3 222 (by decide +kernel) (by decide +kernel)
theorem m_se_X11_fact : Cond.selects RX11 yX11_fact yX11_fact ∈ zT := zmem1 zsub_3 223 (by decide +kernel) (by decide +kernel)
theorem m_co_X12_fact : Cond.code yX12_fact cX12_fact 4 (some .int) ∈ zT := zmem1 zsub_8 28 (by decide +kernel) (by decide +kernel)
theorem m_ml_RL_91 : Cond.methodLink RL 91 yX12_fact ∈ zT := zmem1 zsub_8 25 (by decide +kernel) (by decide +kernel)
theorem m_im_X12_fact : Cond.instanceMethod yX12_fact ∈ zT := zmem1 zsub_8 26 (by decide +kernel) (by decide +kernel)
theorem m_se_X12_fact : Cond.selects RX12 yX12_fact yX12_fact ∈ zT := zmem1 zsub_8 27 (by decide +kernel) (by decide +kernel)
theorem m_co_X11_fits : Cond.code yX11_fits cX11_fits 7 (some .int) ∈ zT := zmem1 zsub_5 109 (by decide +kernel) (by decide +kernel)
theorem m_ml_RL_92 : Cond.methodLink RL 92 yX11_fits ∈ zT := zmem1 zsub_5 106 (by decide +kernel) (by decide +kernel)
theorem m_im_X11_fits : Cond.instanceMethod yX11_fits ∈ zT := zmem1 zsub_5 107 (by decide +kernel) (by decide +kernel)
theorem m_se_X11_fits : Cond.selects RX11 yX11_fits yX11_fits ∈ zT := zmem1 zsub_5 108 (by decide +kernel) (by decide +kernel)
theorem m_co_X12_fits : Cond.code yX12_fits cX12_fits 5 (some .int) ∈ zT := zmem1 zsub_8 36 (by decide +kernel) (by decide +kernel)
theorem m_ml_RL_95 : Cond.methodLink RL 95 yX12_fits ∈ zT := zmem1 zsub_8 33 (by decide +kernel) (by decide +kernel)
theorem m_im_X12_fits : Cond.instanceMethod yX12_fits ∈ zT := zmem1 zsub_8 34 (by decide +kernel) (by decide +kernel)
theorem m_se_X12_fits : Cond.selects RX12 yX12_fits yX12_fits ∈ zT := zmem1 zsub_8 35 (by decide +kernel) (by decide +kernel)
theorem m_co_X11_drawn : Cond.code yX11_drawn cX11_drawn 6 (some .int) ∈ zT := zmem1 zsub_4 106 (by decide +kernel) (by decide +kernel)
theorem m_ml_RL_96 : Cond.methodLink RL 96 yX11_drawn ∈ zT := zmem1 zsub_4 103 (by decide +kernel) (by decide +kernel)
theorem m_im_X11_drawn : Cond.instanceMethod yX11_drawn ∈ zT := zmem1 zsub_4 104 (by decide +kernel) (by decide +kernel)
theorem m_se_X11_drawn : Cond.selects RX11 yX11_drawn yX11_drawn ∈ zT := zmem1 zsub_4 105 (by decide +kernel) (by decide +kernel)
theorem m_co_X12_drawn : Cond.code yX12_drawn cX12_drawn 6 (some .int) ∈ zT := zmem1 zsub_8 73 (by decide +kernel) (by decide +kernel)
theorem m_ml_RL_99 : Cond.methodLink RL 99 yX12_drawn ∈ zT := zmem1 zsub_8 70 (by decide +kernel) (by decide +kernel)
theorem m_im_X12_drawn : Cond.instanceMethod yX12_drawn ∈ zT := zmem1 zsub_8 71 (by decide +kernel) (by decide +kernel)
theorem m_se_X12_drawn : Cond.selects RX12 yX12_drawn yX12_drawn ∈ zT := zmem1 zsub_8 72 (by decide +kernel) (by decide +kernel)
theorem m_co_X11_far : Cond.code yX11_far cX11_far 5 (some .int) ∈ zT := zmem1 zsub_5 170 (by decide +kernel) (by decide +kernel)
theorem m_ml_RL_100 : Cond.methodLink RL 100 yX11_far ∈ zT := zmem1 zsub_5 167 (by decide +kernel) (by decide +kernel)
theorem m_im_X11_far : Cond.instanceMethod yX11_far ∈ zT := zmem1 zsub_5 168 (by decide +kernel) (by decide +kernel)
theorem m_se_X11_far : Cond.selects RX11 yX11_far yX11_far ∈ zT := zmem1 zsub_5 169 (by decide +kernel) (by decide +kernel)
theorem m_co_X12_far : Cond.code yX12_far cX12_far 4 (some .int) ∈ zT := zmem1 zsub_7 116 (by decide +kernel) (by decide +kernel)
theorem m_ml_RL_103 : Cond.methodLink RL 103 yX12_far ∈ zT := zmem1 zsub_7 113 (by decide +kernel) (by decide +kernel)
theorem m_im_X12_far : Cond.instanceMethod yX12_far ∈ zT := zmem1 zsub_7 114 (by decide +kernel) (by decide +kernel)
theorem m_se_X12_far : Cond.selects RX12 yX12_far yX12_far ∈ zT := zmem1 zsub_7 115 (by decide +kernel) (by decide +kernel)
theorem m_co_X11_reach : Cond.code yX11_reach cX11_reach 5 (some .int) ∈ zT := zmem1 zsub_5 177 (by decide +kernel) (by decide +kernel)
theorem m_ml_RL_104 : Cond.methodLink RL 104 yX11_reach ∈ zT := zmem1 zsub_5 174 (by decide +kernel) (by decide +kernel)
theorem m_im_X11_reach : Cond.instanceMethod yX11_reach ∈ zT := zmem1 zsub_5 175 (by decide +kernel) (by decide +kernel)
theorem m_se_X11_reach : Cond.selects RX11 yX11_reach yX11_reach ∈ zT := zmem1 zsub_5 176 (by decide +kernel) (by decide +kernel)
theorem m_co_X12_reach : Cond.code yX12_reach cX12_reach 7 (some .int) ∈ zT := zmem1 zsub_7 128 (by decide +kernel) (by decide +kernel)
theorem m_ml_RL_107 : Cond.methodLink RL 107 yX12_reach ∈ zT := zmem1 zsub_7 125 (by decide +kernel) (by decide +kernel)
theorem m_im_X12_reach : Cond.instanceMethod yX12_reach ∈ zT := zmem1 zsub_7 126 (by decide +kernel) (by decide +kernel)
theorem m_se_X12_reach : Cond.selects RX12 yX12_reach yX12_reach ∈ zT := zmem1 zsub_7 127 (by decide +kernel) (by decide +kernel)
theorem m_co_X11_classes : Cond.code yX11_classes cX11_classes 4 (some .int) ∈ zT := zmem1 zsub_5 185 (by decide +kernel) (by decide +kernel)
theorem m_ml_RL_108 : Cond.methodLink RL 108 yX11_classes ∈ zT := zmem1 zsub_5 182 (by decide +kernel) (by decide +kernel)
theorem m_im_X11_classes : Cond.instanceMethod yX11_classes ∈ zT := zmem1 zsub_5 183 (by decide +kernel) (by decide +kernel)
theorem m_se_X11_classes : Cond.selects RX11 yX11_classes yX11_classes ∈ zT := zmem1 zsub_5 184 (by decide +kernel) (by decide +kernel)
theorem m_co_X12_classes : Cond.code yX12_classes cX12_classes 3 (some .int) ∈ zT := zmem1 zsub_7 136 (by decide +kernel) (by decide +kernel)
theorem m_ml_RL_111 : Cond.methodLink RL 111 yX12_classes ∈ zT := zmem1 zsub_7 133 (by decide +kernel) (by decide +kernel)
theorem m_im_X12_classes : Cond.instanceMethod yX12_classes ∈ zT := zmem1 zsub_7 134 (by decide +kernel) (by decide +kernel)
theorem m_se_X12_classes : Cond.selects RX12 yX12_classes yX12_classes ∈ zT := zmem1 zsub_7 135 (by decide +kernel) (by decide +kernel)
theorem m_co_X11_led : Cond.code yX11_led cX11_led 7 (some .int) ∈ zT := zmem1 zsub_5 223 (by decide +kernel) (by decide +kernel)
theorem m_ml_RL_112 : Cond.methodLink RL 112 yX11_led ∈ zT := zmem1 zsub_5 220 (by decide +kernel) (by decide +kernel)
theorem m_im_X11_led : Cond.instanceMethod yX11_led ∈ zT := zmem1 zsub_5 221 (by decide +kernel) (by decide +kernel)
theorem m_se_X11_led : Cond.selects RX11 yX11_led yX11_led ∈ zT := zmem1 zsub_5 222 (by decide +kernel) (by decide +kernel)
theorem m_co_X12_led : Cond.code yX12_led cX12_led 6 (some .int) ∈ zT := zmem1 zsub_7 164 (by decide +kernel) (by decide +kernel)
theorem m_ml_RL_115 : Cond.methodLink RL 115 yX12_led ∈ zT := zmem1 zsub_7 161 (by decide +kernel) (by decide +kernel)
theorem m_im_X12_led : Cond.instanceMethod yX12_led ∈ zT := zmem1 zsub_7 162 (by decide +kernel) (by decide +kernel)
theorem m_se_X12_led : Cond.selects RX12 yX12_led yX12_led ∈ zT := zmem1 zsub_7 163 (by decide +kernel) (by decide +kernel)
theorem m_co_X11_cover : Cond.code yX11_cover cX11_cover 5 (some .int) ∈ zT := zmem1 zsub_4 145 (by decide +kernel) (by decide +kernel)
theorem m_ml_RL_116 : Cond.methodLink RL 116 yX11_cover ∈ zT := zmem1 zsub_4 142 (by decide +kernel) (by decide +kernel)
theorem m_im_X11_cover : Cond.instanceMethod yX11_cover ∈ zT := zmem1 zsub_4 143 (by decide +kernel) (by decide +kernel)
theorem m_se_X11_cover : Cond.selects RX11 yX11_cover yX11_cover ∈ zT := zmem1 zsub_4 144 (by decide +kernel) (by decide +kernel)
theorem m_co_X12_cover : Cond.code yX12_cover cX12_cover 4 (some .int) ∈ zT := zmem1 zsub_7 168 (by decide +kernel) (by decide +kernel)
theorem m_ml_RL_119 : Cond.methodLink RL 119 yX12_cover ∈ zT := zmem1 zsub_7 165 (by decide +kernel) (by decide +kernel)
theorem m_im_X12_cover : Cond.instanceMethod yX12_cover ∈ zT := zmem1 zsub_7 166 (by decide +kernel) (by decide +kernel)
theorem m_se_X12_cover : Cond.selects RX12 yX12_cover yX12_cover ∈ zT := zmem1 zsub_7 167 (by decide +kernel) (by decide +kernel)
theorem m_co_X11_share : Cond.code yX11_share cX11_share 8 (some .int) ∈ zT := zmem1 zsub_4 183 (by decide +kernel) (by decide +kernel)
theorem m_ml_RL_120 : Cond.methodLink RL 120 yX11_share ∈ zT := zmem1 zsub_4 180 (by decide +kernel) (by decide +kernel)
theorem m_im_X11_share : Cond.instanceMethod yX11_share ∈ zT := zmem1 zsub_4 181 (by decide +kernel) (by decide +kernel)
theorem m_se_X11_share : Cond.selects RX11 yX11_share yX11_share ∈ zT := zmem1 zsub_4 182 (by decide +kernel) (by decide +kernel)
theorem m_co_X12_share : Cond.code yX12_share cX12_share 7 (some .int) ∈ zT := zmem1 zsub_7 47 (by decide +kernel) (by decide +kernel)
theorem m_ml_RL_123 : Cond.methodLink RL 123 yX12_share ∈ zT := zmem1 zsub_7 44 (by decide +kernel) (by decide +kernel)
theorem m_im_X12_share : Cond.instanceMethod yX12_share ∈ zT := zmem1 zsub_7 45 (by decide +kernel) (by decide +kernel)
theorem m_se_X12_share : Cond.selects RX12 yX12_share yX12_share ∈ zT := zmem1 zsub_7 46 (by decide +kernel) (by decide +kernel)
theorem m_co_X11_longest : Cond.code yX11_longest cX11_longest 12 (some .int) ∈ zT := zmem1 zsub_5 77 (by decide +kernel) (by decide +kernel)
theorem m_ml_RL_124 : Cond.methodLink RL 124 yX11_longest ∈ zT := zmem1 zsub_5 74 (by decide +kernel) (by decide +kernel)
theorem m_im_X11_longest : Cond.instanceMethod yX11_longest ∈ zT := zmem1 zsub_5 75 (by decide +kernel) (by decide +kernel)
theorem m_se_X11_longest : Cond.selects RX11 yX11_longest yX11_longest ∈ zT := zmem1 zsub_5 76 (by decide +kernel) (by decide +kernel)
theorem m_co_X12_longest : Cond.code yX12_longest cX12_longest 9 (some .int) ∈ zT := zmem1 zsub_7 184 (by decide +kernel) (by decide +kernel)
theorem m_ml_RL_128 : Cond.methodLink RL 128 yX12_longest ∈ zT := zmem1 zsub_7 181 (by decide +kernel) (by decide +kernel)
theorem m_im_X12_longest : Cond.instanceMethod yX12_longest ∈ zT := zmem1 zsub_7 182 (by decide +kernel) (by decide +kernel)
theorem m_se_X12_longest : Cond.selects RX12 yX12_longest yX12_longest ∈ zT := zmem1 zsub_7 183 (by decide +kernel) (by decide +kernel)
theorem m_co_X11_back : Cond.code yX11_back cX11_back 8 (some .int) ∈ zT := zmem1 zsub_5 85 (by decide +kernel) (by decide +kernel)
theorem m_ml_RL_129 : Cond.methodLink RL 129 yX11_back ∈ zT := zmem1 zsub_5 82 (by decide +kernel) (by decide +kernel)
theorem m_im_X11_back : Cond.instanceMethod yX11_back ∈ zT := zmem1 zsub_5 83 (by decide +kernel) (by decide +kernel)
theorem m_se_X11_back : Cond.selects RX11 yX11_back yX11_back ∈ zT := zmem1 zsub_5 84 (by decide +kernel) (by decide +kernel)
theorem m_co_X12_back : Cond.code yX12_back cX12_back 6 (some .int) ∈ zT := zmem1 zsub_7 192 (by decide +kernel) (by decide +kernel)
theorem m_ml_RL_132 : Cond.methodLink RL 132 yX12_back ∈ zT := zmem1 zsub_7 189 (by decide +kernel) (by decide +kernel)
theorem m_im_X12_back : Cond.instanceMethod yX12_back ∈ zT := zmem1 zsub_7 190 (by decide +kernel) (by decide +kernel)
theorem m_se_X12_back : Cond.selects RX12 yX12_back yX12_back ∈ zT := zmem1 zsub_7 191 (by decide +kernel) (by decide +kernel)
theorem m_co_X11_keys : Cond.code yX11_keys cX11_keys 9 (some .int) ∈ zT := zmem1 zsub_4 196 (by decide +kernel) (by decide +kernel)
theorem m_ml_RL_133 : Cond.methodLink RL 133 yX11_keys ∈ zT := zmem1 zsub_4 193 (by decide +kernel) (by decide +kernel)
theorem m_im_X11_keys : Cond.instanceMethod yX11_keys ∈ zT := zmem1 zsub_4 194 (by decide +kernel) (by decide +kernel)
theorem m_se_X11_keys : Cond.selects RX11 yX11_keys yX11_keys ∈ zT := zmem1 zsub_4 195 (by decide +kernel) (by decide +kernel)
theorem m_co_X12_keys : Cond.code yX12_keys cX12_keys 8 (some .int) ∈ zT := zmem1 zsub_7 196 (by decide +kernel) (by decide +kernel)
theorem m_ml_RL_136 : Cond.methodLink RL 136 yX12_keys ∈ zT := zmem1 zsub_7 193 (by decide +kernel) (by decide +kernel)
theorem m_im_X12_keys : Cond.instanceMethod yX12_keys ∈ zT := zmem1 zsub_7 194 (by decide +kernel) (by decide +kernel)
theorem m_se_X12_keys : Cond.selects RX12 yX12_keys yX12_keys ∈ zT := zmem1 zsub_7 195 (by decide +kernel) (by decide +kernel)
theorem m_co_X11_after : Cond.code yX11_after cX11_after 6 (some .int) ∈ zT := zmem1 zsub_4 94 (by decide +kernel) (by decide +kernel)
theorem m_ml_RL_137 : Cond.methodLink RL 137 yX11_after ∈ zT := zmem1 zsub_4 91 (by decide +kernel) (by decide +kernel)
theorem m_im_X11_after : Cond.instanceMethod yX11_after ∈ zT := zmem1 zsub_4 92 (by decide +kernel) (by decide +kernel)
theorem m_se_X11_after : Cond.selects RX11 yX11_after yX11_after ∈ zT := zmem1 zsub_4 93 (by decide +kernel) (by decide +kernel)
theorem m_co_X12_after : Cond.code yX12_after cX12_after 4 (some .int) ∈ zT := zmem1 zsub_8 20 (by decide +kernel) (by decide +kernel)
theorem m_ml_RL_140 : Cond.methodLink RL 140 yX12_after ∈ zT := zmem1 zsub_8 17 (by decide +kernel) (by decide +kernel)
theorem m_im_X12_after : Cond.instanceMethod yX12_after ∈ zT := zmem1 zsub_8 18 (by decide +kernel) (by decide +kernel)
theorem m_se_X12_after : Cond.selects RX12 yX12_after yX12_after ∈ zT := zmem1 zsub_8 19 (by decide +kernel) (by decide +kernel)
theorem m_co_X11_odds : Cond.code yX11_odds cX11_odds 8 (some .int) ∈ zT := zmem1 zsub_5 161 (by decide +kernel) (by decide +kernel)
theorem m_ml_RL_141 : Cond.methodLink RL 141 yX11_odds ∈ zT := zmem1 zsub_5 158 (by decide +kernel) (by decide +kernel)
theorem m_im_X11_odds : Cond.instanceMethod yX11_odds ∈ zT := zmem1 zsub_5 159 (by decide +kernel) (by decide +kernel)
theorem m_se_X11_odds : Cond.selects RX11 yX11_odds yX11_odds ∈ zT := zmem1 zsub_5 160 (by decide +kernel) (by decide +kernel)
theorem m_co_X12_odds : Cond.code yX12_odds cX12_odds 6 (some .int) ∈ zT := zmem1 zsub_8 65 (by decide +kernel) (by decide +kernel)
theorem m_ml_RL_145 : Cond.methodLink RL 145 yX12_odds ∈ zT := zmem1 zsub_8 62 (by decide +kernel) (by decide +kernel)
theorem m_im_X12_odds : Cond.instanceMethod yX12_odds ∈ zT := zmem1 zsub_8 63 (by decide +kernel) (by decide +kernel)
theorem m_se_X12_odds : Cond.selects RX12 yX12_odds yX12_odds ∈ zT := zmem1 zsub_8 64 (by decide +kernel) (by decide +kernel)
theorem m_co_X11_least : Cond.code yX11_least cX11_least 4 (some .int) ∈ zT := zmem1 zsub_5 166 (by decide +kernel) (by decide +kernel)
theorem m_ml_RL_146 : Cond.methodLink RL 146 yX11_least ∈ zT := zmem1 zsub_5 163 (by decide +kernel) (by decide +kernel)
theorem m_im_X11_least : Cond.instanceMethod yX11_least ∈ zT := zmem1 zsub_5 164 (by decide +kernel) (by decide +kernel)
theorem m_se_X11_least : Cond.selects RX11 yX11_least yX11_least ∈ zT := zmem1 zsub_5 165 (by decide +kernel) (by decide +kernel)
theorem m_co_X12_least : Cond.code yX12_least cX12_least 4 (some .int) ∈ zT := zmem1 zsub_8 69 (by decide +kernel) (by decide +kernel)
theorem m_ml_RL_149 : Cond.methodLink RL 149 yX12_least ∈ zT := zmem1 zsub_8 66 (by decide +kernel) (by decide +kernel)
theorem m_im_X12_least : Cond.instanceMethod yX12_least ∈ zT := zmem1 zsub_8 67 (by decide +kernel) (by decide +kernel)
theorem m_se_X12_least : Cond.selects RX12 yX12_least yX12_least ∈ zT := zmem1 zsub_8 68 (by decide +kernel) (by decide +kernel)
theorem m_co_X11_count : Cond.code yX11_count cX11_count 2 (some .int) ∈ zT := zmem1 zsub_3 176 (by decide +kernel) (by decide +kernel)
theorem m_ml_RL_150 : Cond.methodLink RL 150 yX11_count ∈ zT := zmem1 zsub_3 173 (by decide +kernel) (by decide +kernel)
theorem m_im_X11_count : Cond.instanceMethod yX11_count ∈ zT := zmem1 zsub_3 174 (by decide +kernel) (by decide +kernel)
theorem m_se_X11_count : Cond.selects RX11 yX11_count yX11_count ∈ zT := zmem1 zsub_3 175 (by decide +kernel) (by decide +kernel)
theorem m_co_X12_count : Cond.code yX12_count cX12_count 2 (some .int) ∈ zT := zmem1 zsub_8 86 (by decide +kernel) (by decide +kernel)
theorem m_ml_RL_153 : Cond.methodLink RL 153 yX12_count ∈ zT := zmem1 zsub_8 83 (by decide +kernel) (by decide +kernel)
theorem m_im_X12_count : Cond.instanceMethod yX12_count ∈ zT := zmem1 zsub_8 84 (by decide +kernel) (by decide +kernel)
theorem m_se_X12_count : Cond.selects RX12 yX12_count yX12_count ∈ zT := zmem1 zsub_8 85 (by decide +kernel) (by decide +kernel)
theorem m_co_X11_image : Cond.code yX11_image cX11_image 2 (some .boolean) ∈ zT := zmem1 zsub_3 180 (by decide +kernel) (by decide +kernel)
theorem m_ml_RL_154 : Cond.methodLink RL 154 yX11_image ∈ zT := zmem1 zsub_3 177 (by decide +kernel) (by decide +kernel)
theorem m_im_X11_image : Cond.instanceMethod yX11_image ∈ zT := zmem1 zsub_3 178 (by decide +kernel) (by decide +kernel)
theorem m_se_X11_image : Cond.selects RX11 yX11_image yX11_image ∈ zT := zmem1 zsub_3 179 (by decide +kernel) (by decide +kernel)
theorem m_co_X12_image : Cond.code yX12_image cX12_image 3 (some .boolean) ∈ zT := zmem1 zsub_8 90 (by decide +kernel) (by decide +kernel)
theorem m_ml_RL_158 : Cond.methodLink RL 158 yX12_image ∈ zT := zmem1 zsub_8 87 (by decide +kernel) (by decide +kernel)
theorem m_im_X12_image : Cond.instanceMethod yX12_image ∈ zT := zmem1 zsub_8 88 (by decide +kernel) (by decide +kernel)
theorem m_se_X12_image : Cond.selects RX12 yX12_image yX12_image ∈ zT := zmem1 zsub_8 89 (by decide +kernel) (by decide +kernel)
theorem m_co_X11_again : Cond.code yX11_again cX11_again 2 (some .boolean) ∈ zT := zmem1 zsub_3 188 (by decide +kernel) (by decide +kernel)
theorem m_ml_RL_159 : Cond.methodLink RL 159 yX11_again ∈ zT := zmem1 zsub_3 185 (by decide +kernel) (by decide +kernel)
theorem m_im_X11_again : Cond.instanceMethod yX11_again ∈ zT := zmem1 zsub_3 186 (by decide +kernel) (by decide +kernel)
theorem m_se_X11_again : Cond.selects RX11 yX11_again yX11_again ∈ zT := zmem1 zsub_3 187 (by decide +kernel) (by decide +kernel)
theorem m_co_X12_again : Cond.code yX12_again cX12_again 3 (some .boolean) ∈ zT := zmem1 zsub_8 94 (by decide +kernel) (by decide +kernel)
theorem m_ml_RL_162 : Cond.methodLink RL 162 yX12_again ∈ zT := zmem1 zsub_8 91 (by decide +kernel) (by decide +kernel)
theorem m_im_X12_again : Cond.instanceMethod yX12_again ∈ zT := zmem1 zsub_8 92 (by decide +kernel) (by decide +kernel)
theorem m_se_X12_again : Cond.selects RX12 yX12_again yX12_again ∈ zT := zmem1 zsub_8 93 (by decide +kernel) (by decide +kernel)
theorem kI_RL_9 {R : Room} {s : State} {args : Array Value} {d mc ms : Nat} (hts : ∀ w ∈ zT, w.before args s = true) (h1 : d + 1 ≤ R.frames) (h2 : 8 + (1 + 11) + 40 * d ≤ R.locals) : CallB R s args RL 9 yX11_init cX11_init 1 none (zW yX11_init cX11_init 1 none) (zR d mc ms) mc ms 0 ∧ yX11_init.name = "<init>" ∧ (Cond.instanceMethod yX11_init).before args s = true := z_cwI hts m_co_X11_init m_ml_RL_9 m_im_X11_init m_ii_RX11 rfl (by decide +kernel) h1 h2
theorem kI_RL_12 {R : Room} {s : State} {args : Array Value} {d mc ms : Nat} (hts : ∀ w ∈ zT, w.before args s = true) (h1 : d + 1 ≤ R.frames) (h2 : 8 + (1 + 11) + 40 * d ≤ R.locals) : CallB R s args RL 12 yX12_init cX12_init 1 none (zW yX12_init cX12_init 1 none) (zR d mc ms) mc ms 0 ∧ yX12_init.name = "<init>" ∧ (Cond.instanceMethod yX12_init).before args s = true := z_cwI hts m_co_X12_init m_ml_RL_12 m_im_X12_init m_ii_RX12 rfl (by decide +kernel) h1 h2
theorem kV_RL_13 {R : Room} {s : State} {args : Array Value} {d mc ms : Nat} (hts : ∀ w ∈ zT, w.before args s = true) (h1 : d + 1 ≤ R.frames) (h2 : 8 + (6 + 11) + 40 * d ≤ R.locals) : CallW R s args RL RX11 13 yX11_feed cX11_feed 6 (some .int) (zW yX11_feed cX11_feed 6 (some .int)) (zR d mc ms) mc ms 5 := z_cwV hts m_co_X11_feed m_ml_RL_13 m_im_X11_feed m_se_X11_feed m_ii_RX11 (by decide +kernel) h1 h2
theorem kV_RL_17 {R : Room} {s : State} {args : Array Value} {d mc ms : Nat} (hts : ∀ w ∈ zT, w.before args s = true) (h1 : d + 1 ≤ R.frames) (h2 : 8 + (8 + 11) + 40 * d ≤ R.locals) : CallW R s args RL RX12 17 yX12_feed cX12_feed 8 (some .int) (zW yX12_feed cX12_feed 8 (some .int)) (zR d mc ms) mc ms 5 := z_cwV hts m_co_X12_feed m_ml_RL_17 m_im_X12_feed m_se_X12_feed m_ii_RX12 (by decide +kernel) h1 h2
theorem kV_RL_18 {R : Room} {s : State} {args : Array Value} {d mc ms : Nat} (hts : ∀ w ∈ zT, w.before args s = true) (h1 : d + 1 ≤ R.frames) (h2 : 8 + (2 + 11) + 40 * d ≤ R.locals) : CallW R s args RL RX11 18 yX11_end cX11_end 2 (some .int) (zW yX11_end cX11_end 2 (some .int)) (zR d mc ms) mc ms 1 := z_cwV hts m_co_X11_end m_ml_RL_18 m_im_X11_end m_se_X11_end m_ii_RX11 (by decide +kernel) h1 h2
theorem kV_RL_22 {R : Room} {s : State} {args : Array Value} {d mc ms : Nat} (hts : ∀ w ∈ zT, w.before args s = true) (h1 : d + 1 ≤ R.frames) (h2 : 8 + (2 + 11) + 40 * d ≤ R.locals) : CallW R s args RL RX12 22 yX12_end cX12_end 2 (some .int) (zW yX12_end cX12_end 2 (some .int)) (zR d mc ms) mc ms 1 := z_cwV hts m_co_X12_end m_ml_RL_22 m_im_X12_end m_se_X12_end m_ii_RX12 (by decide +kernel) h1 h2
theorem kV_RL_23 {R : Room} {s : State} {args : Array Value} {d mc ms : Nat} (hts : ∀ w ∈ zT, w.before args s = true) (h1 : d + 1 ≤ R.frames) (h2 : 8 + (5 + 11) + 40 * d ≤ R.locals) : CallW R s args RL RX11 23 yX11_text cX11_text 5 (some .int) (zW yX11_text cX11_text 5 (some .int)) (zR d mc ms) mc ms 2 := z_cwV hts m_co_X11_text m_ml_RL_23 m_im_X11_text m_se_X11_text m_ii_RX11 (by decide +kernel) h1 h2
theorem kV_RL_27 {R : Room} {s : State} {args : Array Value} {d mc ms : Nat} (hts : ∀ w ∈ zT, w.before args s = true) (h1 : d + 1 ≤ R.frames) (h2 : 8 + (5 + 11) + 40 * d ≤ R.locals) : CallW R s args RL RX12 27 yX12_text cX12_text 5 (some .int) (zW yX12_text cX12_text 5 (some .int)) (zR d mc ms) mc ms 2 := z_cwV hts m_co_X12_text m_ml_RL_27 m_im_X12_text m_se_X12_text m_ii_RX12 (by decide +kernel) h1 h2
theorem kV_RL_28 {R : Room} {s : State} {args : Array Value} {d mc ms : Nat} (hts : ∀ w ∈ zT, w.before args s = true) (h1 : d + 1 ≤ R.frames) (h2 : 8 + (2 + 11) + 40 * d ≤ R.locals) : CallW R s args RL RX11 28 yX11_fault cX11_fault 2 (some .int) (zW yX11_fault cX11_fault 2 (some .int)) (zR d mc ms) mc ms 1 := z_cwV hts m_co_X11_fault m_ml_RL_28 m_im_X11_fault m_se_X11_fault m_ii_RX11 (by decide +kernel) h1 h2
theorem kV_RL_31 {R : Room} {s : State} {args : Array Value} {d mc ms : Nat} (hts : ∀ w ∈ zT, w.before args s = true) (h1 : d + 1 ≤ R.frames) (h2 : 8 + (2 + 11) + 40 * d ≤ R.locals) : CallW R s args RL RX12 31 yX12_fault cX12_fault 2 (some .int) (zW yX12_fault cX12_fault 2 (some .int)) (zR d mc ms) mc ms 1 := z_cwV hts m_co_X12_fault m_ml_RL_31 m_im_X12_fault m_se_X12_fault m_ii_RX12 (by decide +kernel) h1 h2
theorem kV_RL_32 {R : Room} {s : State} {args : Array Value} {d mc ms : Nat} (hts : ∀ w ∈ zT, w.before args s = true) (h1 : d + 1 ≤ R.frames) (h2 : 8 + (4 + 11) + 40 * d ≤ R.locals) : CallW R s args RL RX11 32 yX11_land cX11_land 4 (some .int) (zW yX11_land cX11_land 4 (some .int)) (zR d mc ms) mc ms 2 := z_cwV hts m_co_X11_land m_ml_RL_32 m_im_X11_land m_se_X11_land m_ii_RX11 (by decide +kernel) h1 h2
theorem kV_RL_35 {R : Room} {s : State} {args : Array Value} {d mc ms : Nat} (hts : ∀ w ∈ zT, w.before args s = true) (h1 : d + 1 ≤ R.frames) (h2 : 8 + (4 + 11) + 40 * d ≤ R.locals) : CallW R s args RL RX12 35 yX12_land cX12_land 4 (some .int) (zW yX12_land cX12_land 4 (some .int)) (zR d mc ms) mc ms 2 := z_cwV hts m_co_X12_land m_ml_RL_35 m_im_X12_land m_se_X12_land m_ii_RX12 (by decide +kernel) h1 h2
theorem kV_RL_36 {R : Room} {s : State} {args : Array Value} {d mc ms : Nat} (hts : ∀ w ∈ zT, w.before args s = true) (h1 : d + 1 ≤ R.frames) (h2 : 8 + (5 + 11) + 40 * d ≤ R.locals) : CallW R s args RL RX11 36 yX11_deed cX11_deed 5 (some .int) (zW yX11_deed cX11_deed 5 (some .int)) (zR d mc ms) mc ms 3 := z_cwV hts m_co_X11_deed m_ml_RL_36 m_im_X11_deed m_se_X11_deed m_ii_RX11 (by decide +kernel) h1 h2
theorem kV_RL_40 {R : Room} {s : State} {args : Array Value} {d mc ms : Nat} (hts : ∀ w ∈ zT, w.before args s = true) (h1 : d + 1 ≤ R.frames) (h2 : 8 + (4 + 11) + 40 * d ≤ R.locals) : CallW R s args RL RX12 40 yX12_deed cX12_deed 4 (some .int) (zW yX12_deed cX12_deed 4 (some .int)) (zR d mc ms) mc ms 3 := z_cwV hts m_co_X12_deed m_ml_RL_40 m_im_X12_deed m_se_X12_deed m_ii_RX12 (by decide +kernel) h1 h2
theorem kV_RL_41 {R : Room} {s : State} {args : Array Value} {d mc ms : Nat} (hts : ∀ w ∈ zT, w.before args s = true) (h1 : d + 1 ≤ R.frames) (h2 : 8 + (5 + 11) + 40 * d ≤ R.locals) : CallW R s args RL RX11 41 yX11_stop cX11_stop 5 (some .int) (zW yX11_stop cX11_stop 5 (some .int)) (zR d mc ms) mc ms 2 := z_cwV hts m_co_X11_stop m_ml_RL_41 m_im_X11_stop m_se_X11_stop m_ii_RX11 (by decide +kernel) h1 h2
theorem kV_RL_44 {R : Room} {s : State} {args : Array Value} {d mc ms : Nat} (hts : ∀ w ∈ zT, w.before args s = true) (h1 : d + 1 ≤ R.frames) (h2 : 8 + (3 + 11) + 40 * d ≤ R.locals) : CallW R s args RL RX12 44 yX12_stop cX12_stop 3 (some .int) (zW yX12_stop cX12_stop 3 (some .int)) (zR d mc ms) mc ms 2 := z_cwV hts m_co_X12_stop m_ml_RL_44 m_im_X12_stop m_se_X12_stop m_ii_RX12 (by decide +kernel) h1 h2
theorem kV_RL_45 {R : Room} {s : State} {args : Array Value} {d mc ms : Nat} (hts : ∀ w ∈ zT, w.before args s = true) (h1 : d + 1 ≤ R.frames) (h2 : 8 + (7 + 11) + 40 * d ≤ R.locals) : CallW R s args RL RX11 45 yX11_state cX11_state 7 (some .int) (zW yX11_state cX11_state 7 (some .int)) (zR d mc ms) mc ms 4 := z_cwV hts m_co_X11_state m_ml_RL_45 m_im_X11_state m_se_X11_state m_ii_RX11 (by decide +kernel) h1 h2
theorem kV_RL_49 {R : Room} {s : State} {args : Array Value} {d mc ms : Nat} (hts : ∀ w ∈ zT, w.before args s = true) (h1 : d + 1 ≤ R.frames) (h2 : 8 + (5 + 11) + 40 * d ≤ R.locals) : CallW R s args RL RX12 49 yX12_state cX12_state 5 (some .int) (zW yX12_state cX12_state 5 (some .int)) (zR d mc ms) mc ms 4 := z_cwV hts m_co_X12_state m_ml_RL_49 m_im_X12_state m_se_X12_state m_ii_RX12 (by decide +kernel) h1 h2
theorem kV_RL_50 {R : Room} {s : State} {args : Array Value} {d mc ms : Nat} (hts : ∀ w ∈ zT, w.before args s = true) (h1 : d + 1 ≤ R.frames) (h2 : 8 + (5 + 11) + 40 * d ≤ R.locals) : CallW R s args RL RX11 50 yX11_walk cX11_walk 5 (some .int) (zW yX11_walk cX11_walk 5 (some .int)) (zR d mc ms) mc ms 3 := z_cwV hts m_co_X11_walk m_ml_RL_50 m_im_X11_walk m_se_X11_walk m_ii_RX11 (by decide +kernel) h1 h2
theorem kV_RL_53 {R : Room} {s : State} {args : Array Value} {d mc ms : Nat} (hts : ∀ w ∈ zT, w.before args s = true) (h1 : d + 1 ≤ R.frames) (h2 : 8 + (5 + 11) + 40 * d ≤ R.locals) : CallW R s args RL RX12 53 yX12_walk cX12_walk 5 (some .int) (zW yX12_walk cX12_walk 5 (some .int)) (zR d mc ms) mc ms 3 := z_cwV hts m_co_X12_walk m_ml_RL_53 m_im_X12_walk m_se_X12_walk m_ii_RX12 (by decide +kernel) h1 h2
theorem kV_RL_54 {R : Room} {s : State} {args : Array Value} {d mc ms : Nat} (hts : ∀ w ∈ zT, w.before args s = true) (h1 : d + 1 ≤ R.frames) (h2 : 8 + (4 + 11) + 40 * d ≤ R.locals) : CallW R s args RL RX11 54 yX11_endOf cX11_endOf 4 (some .int) (zW yX11_endOf cX11_endOf 4 (some .int)) (zR d mc ms) mc ms 2 := z_cwV hts m_co_X11_endOf m_ml_RL_54 m_im_X11_endOf m_se_X11_endOf m_ii_RX11 (by decide +kernel) h1 h2
theorem kV_RL_57 {R : Room} {s : State} {args : Array Value} {d mc ms : Nat} (hts : ∀ w ∈ zT, w.before args s = true) (h1 : d + 1 ≤ R.frames) (h2 : 8 + (5 + 11) + 40 * d ≤ R.locals) : CallW R s args RL RX12 57 yX12_endOf cX12_endOf 5 (some .int) (zW yX12_endOf cX12_endOf 5 (some .int)) (zR d mc ms) mc ms 2 := z_cwV hts m_co_X12_endOf m_ml_RL_57 m_im_X12_endOf m_se_X12_endOf m_ii_RX12 (by decide +kernel) h1 h2
theorem kV_RL_58 {R : Room} {s : State} {args : Array Value} {d mc ms : Nat} (hts : ∀ w ∈ zT, w.before args s = true) (h1 : d + 1 ≤ R.frames) (h2 : 8 + (6 + 11) + 40 * d ≤ R.locals) : CallW R s args RL RX11 58 yX11_come cX11_come 6 (some .int) (zW yX11_come cX11_come 6 (some .int)) (zR d mc ms) mc ms 3 := z_cwV hts m_co_X11_come m_ml_RL_58 m_im_X11_come m_se_X11_come m_ii_RX11 (by decide +kernel) h1 h2
theorem kV_RL_61 {R : Room} {s : State} {args : Array Value} {d mc ms : Nat} (hts : ∀ w ∈ zT, w.before args s = true) (h1 : d + 1 ≤ R.frames) (h2 : 8 + (5 + 11) + 40 * d ≤ R.locals) : CallW R s args RL RX12 61 yX12_come cX12_come 5 (some .int) (zW yX12_come cX12_come 5 (some .int)) (zR d mc ms) mc ms 3 := z_cwV hts m_co_X12_come m_ml_RL_61 m_im_X12_come m_se_X12_come m_ii_RX12 (by decide +kernel) h1 h2
theorem kV_RL_62 {R : Room} {s : State} {args : Array Value} {d mc ms : Nat} (hts : ∀ w ∈ zT, w.before args s = true) (h1 : d + 1 ≤ R.frames) (h2 : 8 + (8 + 11) + 40 * d ≤ R.locals) : CallW R s args RL RX11 62 yX11_period cX11_period 8 (some .int) (zW yX11_period cX11_period 8 (some .int)) (zR d mc ms) mc ms 3 := z_cwV hts m_co_X11_period m_ml_RL_62 m_im_X11_period m_se_X11_period m_ii_RX11 (by decide +kernel) h1 h2
theorem kV_RL_66 {R : Room} {s : State} {args : Array Value} {d mc ms : Nat} (hts : ∀ w ∈ zT, w.before args s = true) (h1 : d + 1 ≤ R.frames) (h2 : 8 + (6 + 11) + 40 * d ≤ R.locals) : CallW R s args RL RX12 66 yX12_period cX12_period 6 (some .int) (zW yX12_period cX12_period 6 (some .int)) (zR d mc ms) mc ms 3 := z_cwV hts m_co_X12_period m_ml_RL_66 m_im_X12_period m_se_X12_period m_ii_RX12 (by decide +kernel) h1 h2
theorem kV_RL_67 {R : Room} {s : State} {args : Array Value} {d mc ms : Nat} (hts : ∀ w ∈ zT, w.before args s = true) (h1 : d + 1 ≤ R.frames) (h2 : 8 + (10 + 11) + 40 * d ≤ R.locals) : CallW R s args RL RX11 67 yX11_set cX11_set 10 (some .int) (zW yX11_set cX11_set 10 (some .int)) (zR d mc ms) mc ms 4 := z_cwV hts m_co_X11_set m_ml_RL_67 m_im_X11_set m_se_X11_set m_ii_RX11 (by decide +kernel) h1 h2
theorem kV_RL_70 {R : Room} {s : State} {args : Array Value} {d mc ms : Nat} (hts : ∀ w ∈ zT, w.before args s = true) (h1 : d + 1 ≤ R.frames) (h2 : 8 + (7 + 11) + 40 * d ≤ R.locals) : CallW R s args RL RX12 70 yX12_set cX12_set 7 (some .int) (zW yX12_set cX12_set 7 (some .int)) (zR d mc ms) mc ms 4 := z_cwV hts m_co_X12_set m_ml_RL_70 m_im_X12_set m_se_X12_set m_ii_RX12 (by decide +kernel) h1 h2
theorem kV_RL_71 {R : Room} {s : State} {args : Array Value} {d mc ms : Nat} (hts : ∀ w ∈ zT, w.before args s = true) (h1 : d + 1 ≤ R.frames) (h2 : 8 + (9 + 11) + 40 * d ≤ R.locals) : CallW R s args RL RX11 71 yX11_lot cX11_lot 9 (some .int) (zW yX11_lot cX11_lot 9 (some .int)) (zR d mc ms) mc ms 4 := z_cwV hts m_co_X11_lot m_ml_RL_71 m_im_X11_lot m_se_X11_lot m_ii_RX11 (by decide +kernel) h1 h2
theorem kV_RL_75 {R : Room} {s : State} {args : Array Value} {d mc ms : Nat} (hts : ∀ w ∈ zT, w.before args s = true) (h1 : d + 1 ≤ R.frames) (h2 : 8 + (8 + 11) + 40 * d ≤ R.locals) : CallW R s args RL RX12 75 yX12_lot cX12_lot 8 (some .int) (zW yX12_lot cX12_lot 8 (some .int)) (zR d mc ms) mc ms 4 := z_cwV hts m_co_X12_lot m_ml_RL_75 m_im_X12_lot m_se_X12_lot m_ii_RX12 (by decide +kernel) h1 h2
theorem kV_RL_76 {R : Room} {s : State} {args : Array Value} {d mc ms : Nat} (hts : ∀ w ∈ zT, w.before args s = true) (h1 : d + 1 ≤ R.frames) (h2 : 8 + (8 + 11) + 40 * d ≤ R.locals) : CallW R s args RL RX11 76 yX11_mean cX11_mean 8 (some .int) (zW yX11_mean cX11_mean 8 (some .int)) (zR d mc ms) mc ms 3 := z_cwV hts m_co_X11_mean m_ml_RL_76 m_im_X11_mean m_se_X11_mean m_ii_RX11 (by decide +kernel) h1 h2
theorem kV_RL_79 {R : Room} {s : State} {args : Array Value} {d mc ms : Nat} (hts : ∀ w ∈ zT, w.before args s = true) (h1 : d + 1 ≤ R.frames) (h2 : 8 + (7 + 11) + 40 * d ≤ R.locals) : CallW R s args RL RX12 79 yX12_mean cX12_mean 7 (some .int) (zW yX12_mean cX12_mean 7 (some .int)) (zR d mc ms) mc ms 3 := z_cwV hts m_co_X12_mean m_ml_RL_79 m_im_X12_mean m_se_X12_mean m_ii_RX12 (by decide +kernel) h1 h2
theorem kV_RL_80 {R : Room} {s : State} {args : Array Value} {d mc ms : Nat} (hts : ∀ w ∈ zT, w.before args s = true) (h1 : d + 1 ≤ R.frames) (h2 : 8 + (4 + 11) + 40 * d ≤ R.locals) : CallW R s args RL RX11 80 yX11_trees cX11_trees 4 (some .int) (zW yX11_trees cX11_trees 4 (some .int)) (zR d mc ms) mc ms 1 := z_cwV hts m_co_X11_trees m_ml_RL_80 m_im_X11_trees m_se_X11_trees m_ii_RX11 (by decide +kernel) h1 h2
theorem kV_RL_83 {R : Room} {s : State} {args : Array Value} {d mc ms : Nat} (hts : ∀ w ∈ zT, w.before args s = true) (h1 : d + 1 ≤ R.frames) (h2 : 8 + (7 + 11) + 40 * d ≤ R.locals) : CallW R s args RL RX12 83 yX12_trees cX12_trees 7 (some .int) (zW yX12_trees cX12_trees 7 (some .int)) (zR d mc ms) mc ms 1 := z_cwV hts m_co_X12_trees m_ml_RL_83 m_im_X12_trees m_se_X12_trees m_ii_RX12 (by decide +kernel) h1 h2
theorem kV_RL_84 {R : Room} {s : State} {args : Array Value} {d mc ms : Nat} (hts : ∀ w ∈ zT, w.before args s = true) (h1 : d + 1 ≤ R.frames) (h2 : 8 + (9 + 11) + 40 * d ≤ R.locals) : CallW R s args RL RX11 84 yX11_game cX11_game 9 (some .int) (zW yX11_game cX11_game 9 (some .int)) (zR d mc ms) mc ms 4 := z_cwV hts m_co_X11_game m_ml_RL_84 m_im_X11_game m_se_X11_game m_ii_RX11 (by decide +kernel) h1 h2
theorem kV_RL_87 {R : Room} {s : State} {args : Array Value} {d mc ms : Nat} (hts : ∀ w ∈ zT, w.before args s = true) (h1 : d + 1 ≤ R.frames) (h2 : 8 + (11 + 11) + 40 * d ≤ R.locals) : CallW R s args RL RX12 87 yX12_game cX12_game 11 (some .int) (zW yX12_game cX12_game 11 (some .int)) (zR d mc ms) mc ms 4 := z_cwV hts m_co_X12_game m_ml_RL_87 m_im_X12_game m_se_X12_game m_ii_RX12 (by decide +kernel) h1 h2
theorem kV_RL_88 {R : Room} {s : State} {args : Array Value} {d mc ms : Nat} (hts : ∀ w ∈ zT, w.before args s = true) (h1 : d + 1 ≤ R.frames) (h2 : 8 + (5 + 11) + 40 * d ≤ R.locals) : CallW R s args RL RX11 88 yX11_fact cX11_fact 5 (some .int) (zW yX11_fact cX11_fact 5 (some .int)) (zR d mc ms) mc ms 3 := z_cwV hts m_co_X11_fact m_ml_RL_88 m_im_X11_fact m_se_X11_fact m_ii_RX11 (by decide +kernel) h1 h2
theorem kV_RL_91 {R : Room} {s : State} {args : Array Value} {d mc ms : Nat} (hts : ∀ w ∈ zT, w.before args s = true) (h1 : d + 1 ≤ R.frames) (h2 : 8 + (4 + 11) + 40 * d ≤ R.locals) : CallW R s args RL RX12 91 yX12_fact cX12_fact 4 (some .int) (zW yX12_fact cX12_fact 4 (some .int)) (zR d mc ms) mc ms 3 := z_cwV hts m_co_X12_fact m_ml_RL_91 m_im_X12_fact m_se_X12_fact m_ii_RX12 (by decide +kernel) h1 h2
theorem kV_RL_92 {R : Room} {s : State} {args : Array Value} {d mc ms : Nat} (hts : ∀ w ∈ zT, w.before args s = true) (h1 : d + 1 ≤ R.frames) (h2 : 8 + (7 + 11) + 40 * d ≤ R.locals) : CallW R s args RL RX11 92 yX11_fits cX11_fits 7 (some .int) (zW yX11_fits cX11_fits 7 (some .int)) (zR d mc ms) mc ms 3 := z_cwV hts m_co_X11_fits m_ml_RL_92 m_im_X11_fits m_se_X11_fits m_ii_RX11 (by decide +kernel) h1 h2
theorem kV_RL_95 {R : Room} {s : State} {args : Array Value} {d mc ms : Nat} (hts : ∀ w ∈ zT, w.before args s = true) (h1 : d + 1 ≤ R.frames) (h2 : 8 + (5 + 11) + 40 * d ≤ R.locals) : CallW R s args RL RX12 95 yX12_fits cX12_fits 5 (some .int) (zW yX12_fits cX12_fits 5 (some .int)) (zR d mc ms) mc ms 3 := z_cwV hts m_co_X12_fits m_ml_RL_95 m_im_X12_fits m_se_X12_fits m_ii_RX12 (by decide +kernel) h1 h2
theorem kV_RL_96 {R : Room} {s : State} {args : Array Value} {d mc ms : Nat} (hts : ∀ w ∈ zT, w.before args s = true) (h1 : d + 1 ≤ R.frames) (h2 : 8 + (6 + 11) + 40 * d ≤ R.locals) : CallW R s args RL RX11 96 yX11_drawn cX11_drawn 6 (some .int) (zW yX11_drawn cX11_drawn 6 (some .int)) (zR d mc ms) mc ms 4 := z_cwV hts m_co_X11_drawn m_ml_RL_96 m_im_X11_drawn m_se_X11_drawn m_ii_RX11 (by decide +kernel) h1 h2
theorem kV_RL_99 {R : Room} {s : State} {args : Array Value} {d mc ms : Nat} (hts : ∀ w ∈ zT, w.before args s = true) (h1 : d + 1 ≤ R.frames) (h2 : 8 + (6 + 11) + 40 * d ≤ R.locals) : CallW R s args RL RX12 99 yX12_drawn cX12_drawn 6 (some .int) (zW yX12_drawn cX12_drawn 6 (some .int)) (zR d mc ms) mc ms 4 := z_cwV hts m_co_X12_drawn m_ml_RL_99 m_im_X12_drawn m_se_X12_drawn m_ii_RX12 (by decide +kernel) h1 h2
theorem kV_RL_100 {R : Room} {s : State} {args : Array Value} {d mc ms : Nat} (hts : ∀ w ∈ zT, w.before args s = true) (h1 : d + 1 ≤ R.frames) (h2 : 8 + (5 + 11) + 40 * d ≤ R.locals) : CallW R s args RL RX11 100 yX11_far cX11_far 5 (some .int) (zW yX11_far cX11_far 5 (some .int)) (zR d mc ms) mc ms 3 := z_cwV hts m_co_X11_far m_ml_RL_100 m_im_X11_far m_se_X11_far m_ii_RX11 (by decide +kernel) h1 h2
theorem kV_RL_103 {R : Room} {s : State} {args : Array Value} {d mc ms : Nat} (hts : ∀ w ∈ zT, w.before args s = true) (h1 : d + 1 ≤ R.frames) (h2 : 8 + (4 + 11) + 40 * d ≤ R.locals) : CallW R s args RL RX12 103 yX12_far cX12_far 4 (some .int) (zW yX12_far cX12_far 4 (some .int)) (zR d mc ms) mc ms 3 := z_cwV hts m_co_X12_far m_ml_RL_103 m_im_X12_far m_se_X12_far m_ii_RX12 (by decide +kernel) h1 h2
theorem kV_RL_104 {R : Room} {s : State} {args : Array Value} {d mc ms : Nat} (hts : ∀ w ∈ zT, w.before args s = true) (h1 : d + 1 ≤ R.frames) (h2 : 8 + (5 + 11) + 40 * d ≤ R.locals) : CallW R s args RL RX11 104 yX11_reach cX11_reach 5 (some .int) (zW yX11_reach cX11_reach 5 (some .int)) (zR d mc ms) mc ms 3 := z_cwV hts m_co_X11_reach m_ml_RL_104 m_im_X11_reach m_se_X11_reach m_ii_RX11 (by decide +kernel) h1 h2
theorem kV_RL_107 {R : Room} {s : State} {args : Array Value} {d mc ms : Nat} (hts : ∀ w ∈ zT, w.before args s = true) (h1 : d + 1 ≤ R.frames) (h2 : 8 + (7 + 11) + 40 * d ≤ R.locals) : CallW R s args RL RX12 107 yX12_reach cX12_reach 7 (some .int) (zW yX12_reach cX12_reach 7 (some .int)) (zR d mc ms) mc ms 3 := z_cwV hts m_co_X12_reach m_ml_RL_107 m_im_X12_reach m_se_X12_reach m_ii_RX12 (by decide +kernel) h1 h2
theorem kV_RL_108 {R : Room} {s : State} {args : Array Value} {d mc ms : Nat} (hts : ∀ w ∈ zT, w.before args s = true) (h1 : d + 1 ≤ R.frames) (h2 : 8 + (4 + 11) + 40 * d ≤ R.locals) : CallW R s args RL RX11 108 yX11_classes cX11_classes 4 (some .int) (zW yX11_classes cX11_classes 4 (some .int)) (zR d mc ms) mc ms 2 := z_cwV hts m_co_X11_classes m_ml_RL_108 m_im_X11_classes m_se_X11_classes m_ii_RX11 (by decide +kernel) h1 h2
theorem kV_RL_111 {R : Room} {s : State} {args : Array Value} {d mc ms : Nat} (hts : ∀ w ∈ zT, w.before args s = true) (h1 : d + 1 ≤ R.frames) (h2 : 8 + (3 + 11) + 40 * d ≤ R.locals) : CallW R s args RL RX12 111 yX12_classes cX12_classes 3 (some .int) (zW yX12_classes cX12_classes 3 (some .int)) (zR d mc ms) mc ms 2 := z_cwV hts m_co_X12_classes m_ml_RL_111 m_im_X12_classes m_se_X12_classes m_ii_RX12 (by decide +kernel) h1 h2
theorem kV_RL_112 {R : Room} {s : State} {args : Array Value} {d mc ms : Nat} (hts : ∀ w ∈ zT, w.before args s = true) (h1 : d + 1 ≤ R.frames) (h2 : 8 + (7 + 11) + 40 * d ≤ R.locals) : CallW R s args RL RX11 112 yX11_led cX11_led 7 (some .int) (zW yX11_led cX11_led 7 (some .int)) (zR d mc ms) mc ms 3 := z_cwV hts m_co_X11_led m_ml_RL_112 m_im_X11_led m_se_X11_led m_ii_RX11 (by decide +kernel) h1 h2
theorem kV_RL_115 {R : Room} {s : State} {args : Array Value} {d mc ms : Nat} (hts : ∀ w ∈ zT, w.before args s = true) (h1 : d + 1 ≤ R.frames) (h2 : 8 + (6 + 11) + 40 * d ≤ R.locals) : CallW R s args RL RX12 115 yX12_led cX12_led 6 (some .int) (zW yX12_led cX12_led 6 (some .int)) (zR d mc ms) mc ms 3 := z_cwV hts m_co_X12_led m_ml_RL_115 m_im_X12_led m_se_X12_led m_ii_RX12 (by decide +kernel) h1 h2
theorem kV_RL_116 {R : Room} {s : State} {args : Array Value} {d mc ms : Nat} (hts : ∀ w ∈ zT, w.before args s = true) (h1 : d + 1 ≤ R.frames) (h2 : 8 + (5 + 11) + 40 * d ≤ R.locals) : CallW R s args RL RX11 116 yX11_cover cX11_cover 5 (some .int) (zW yX11_cover cX11_cover 5 (some .int)) (zR d mc ms) mc ms 3 := z_cwV hts m_co_X11_cover m_ml_RL_116 m_im_X11_cover m_se_X11_cover m_ii_RX11 (by decide +kernel) h1 h2
theorem kV_RL_119 {R : Room} {s : State} {args : Array Value} {d mc ms : Nat} (hts : ∀ w ∈ zT, w.before args s = true) (h1 : d + 1 ≤ R.frames) (h2 : 8 + (4 + 11) + 40 * d ≤ R.locals) : CallW R s args RL RX12 119 yX12_cover cX12_cover 4 (some .int) (zW yX12_cover cX12_cover 4 (some .int)) (zR d mc ms) mc ms 3 := z_cwV hts m_co_X12_cover m_ml_RL_119 m_im_X12_cover m_se_X12_cover m_ii_RX12 (by decide +kernel) h1 h2
theorem kV_RL_120 {R : Room} {s : State} {args : Array Value} {d mc ms : Nat} (hts : ∀ w ∈ zT, w.before args s = true) (h1 : d + 1 ≤ R.frames) (h2 : 8 + (8 + 11) + 40 * d ≤ R.locals) : CallW R s args RL RX11 120 yX11_share cX11_share 8 (some .int) (zW yX11_share cX11_share 8 (some .int)) (zR d mc ms) mc ms 4 := z_cwV hts m_co_X11_share m_ml_RL_120 m_im_X11_share m_se_X11_share m_ii_RX11 (by decide +kernel) h1 h2
theorem kV_RL_123 {R : Room} {s : State} {args : Array Value} {d mc ms : Nat} (hts : ∀ w ∈ zT, w.before args s = true) (h1 : d + 1 ≤ R.frames) (h2 : 8 + (7 + 11) + 40 * d ≤ R.locals) : CallW R s args RL RX12 123 yX12_share cX12_share 7 (some .int) (zW yX12_share cX12_share 7 (some .int)) (zR d mc ms) mc ms 4 := z_cwV hts m_co_X12_share m_ml_RL_123 m_im_X12_share m_se_X12_share m_ii_RX12 (by decide +kernel) h1 h2
theorem kV_RL_124 {R : Room} {s : State} {args : Array Value} {d mc ms : Nat} (hts : ∀ w ∈ zT, w.before args s = true) (h1 : d + 1 ≤ R.frames) (h2 : 8 + (12 + 11) + 40 * d ≤ R.locals) : CallW R s args RL RX11 124 yX11_longest cX11_longest 12 (some .int) (zW yX11_longest cX11_longest 12 (some .int)) (zR d mc ms) mc ms 4 := z_cwV hts m_co_X11_longest m_ml_RL_124 m_im_X11_longest m_se_X11_longest m_ii_RX11 (by decide +kernel) h1 h2
theorem kV_RL_128 {R : Room} {s : State} {args : Array Value} {d mc ms : Nat} (hts : ∀ w ∈ zT, w.before args s = true) (h1 : d + 1 ≤ R.frames) (h2 : 8 + (9 + 11) + 40 * d ≤ R.locals) : CallW R s args RL RX12 128 yX12_longest cX12_longest 9 (some .int) (zW yX12_longest cX12_longest 9 (some .int)) (zR d mc ms) mc ms 4 := z_cwV hts m_co_X12_longest m_ml_RL_128 m_im_X12_longest m_se_X12_longest m_ii_RX12 (by decide +kernel) h1 h2
theorem kV_RL_129 {R : Room} {s : State} {args : Array Value} {d mc ms : Nat} (hts : ∀ w ∈ zT, w.before args s = true) (h1 : d + 1 ≤ R.frames) (h2 : 8 + (8 + 11) + 40 * d ≤ R.locals) : CallW R s args RL RX11 129 yX11_back cX11_back 8 (some .int) (zW yX11_back cX11_back 8 (some .int)) (zR d mc ms) mc ms 2 := z_cwV hts m_co_X11_back m_ml_RL_129 m_im_X11_back m_se_X11_back m_ii_RX11 (by decide +kernel) h1 h2
theorem kV_RL_132 {R : Room} {s : State} {args : Array Value} {d mc ms : Nat} (hts : ∀ w ∈ zT, w.before args s = true) (h1 : d + 1 ≤ R.frames) (h2 : 8 + (6 + 11) + 40 * d ≤ R.locals) : CallW R s args RL RX12 132 yX12_back cX12_back 6 (some .int) (zW yX12_back cX12_back 6 (some .int)) (zR d mc ms) mc ms 2 := z_cwV hts m_co_X12_back m_ml_RL_132 m_im_X12_back m_se_X12_back m_ii_RX12 (by decide +kernel) h1 h2
theorem kV_RL_133 {R : Room} {s : State} {args : Array Value} {d mc ms : Nat} (hts : ∀ w ∈ zT, w.before args s = true) (h1 : d + 1 ≤ R.frames) (h2 : 8 + (9 + 11) + 40 * d ≤ R.locals) : CallW R s args RL RX11 133 yX11_keys cX11_keys 9 (some .int) (zW yX11_keys cX11_keys 9 (some .int)) (zR d mc ms) mc ms 3 := z_cwV hts m_co_X11_keys m_ml_RL_133 m_im_X11_keys m_se_X11_keys m_ii_RX11 (by decide +kernel) h1 h2
theorem kV_RL_136 {R : Room} {s : State} {args : Array Value} {d mc ms : Nat} (hts : ∀ w ∈ zT, w.before args s = true) (h1 : d + 1 ≤ R.frames) (h2 : 8 + (8 + 11) + 40 * d ≤ R.locals) : CallW R s args RL RX12 136 yX12_keys cX12_keys 8 (some .int) (zW yX12_keys cX12_keys 8 (some .int)) (zR d mc ms) mc ms 3 := z_cwV hts m_co_X12_keys m_ml_RL_136 m_im_X12_keys m_se_X12_keys m_ii_RX12 (by decide +kernel) h1 h2
theorem kV_RL_137 {R : Room} {s : State} {args : Array Value} {d mc ms : Nat} (hts : ∀ w ∈ zT, w.before args s = true) (h1 : d + 1 ≤ R.frames) (h2 : 8 + (6 + 11) + 40 * d ≤ R.locals) : CallW R s args RL RX11 137 yX11_after cX11_after 6 (some .int) (zW yX11_after cX11_after 6 (some .int)) (zR d mc ms) mc ms 3 := z_cwV hts m_co_X11_after m_ml_RL_137 m_im_X11_after m_se_X11_after m_ii_RX11 (by decide +kernel) h1 h2
theorem kV_RL_140 {R : Room} {s : State} {args : Array Value} {d mc ms : Nat} (hts : ∀ w ∈ zT, w.before args s = true) (h1 : d + 1 ≤ R.frames) (h2 : 8 + (4 + 11) + 40 * d ≤ R.locals) : CallW R s args RL RX12 140 yX12_after cX12_after 4 (some .int) (zW yX12_after cX12_after 4 (some .int)) (zR d mc ms) mc ms 3 := z_cwV hts m_co_X12_after m_ml_RL_140 m_im_X12_after m_se_X12_after m_ii_RX12 (by decide +kernel) h1 h2
theorem kV_RL_141 {R : Room} {s : State} {args : Array Value} {d mc ms : Nat} (hts : ∀ w ∈ zT, w.before args s = true) (h1 : d + 1 ≤ R.frames) (h2 : 8 + (8 + 11) + 40 * d ≤ R.locals) : CallW R s args RL RX11 141 yX11_odds cX11_odds 8 (some .int) (zW yX11_odds cX11_odds 8 (some .int)) (zR d mc ms) mc ms 5 := z_cwV hts m_co_X11_odds m_ml_RL_141 m_im_X11_odds m_se_X11_odds m_ii_RX11 (by decide +kernel) h1 h2
theorem kV_RL_145 {R : Room} {s : State} {args : Array Value} {d mc ms : Nat} (hts : ∀ w ∈ zT, w.before args s = true) (h1 : d + 1 ≤ R.frames) (h2 : 8 + (6 + 11) + 40 * d ≤ R.locals) : CallW R s args RL RX12 145 yX12_odds cX12_odds 6 (some .int) (zW yX12_odds cX12_odds 6 (some .int)) (zR d mc ms) mc ms 5 := z_cwV hts m_co_X12_odds m_ml_RL_145 m_im_X12_odds m_se_X12_odds m_ii_RX12 (by decide +kernel) h1 h2
theorem kV_RL_146 {R : Room} {s : State} {args : Array Value} {d mc ms : Nat} (hts : ∀ w ∈ zT, w.before args s = true) (h1 : d + 1 ≤ R.frames) (h2 : 8 + (4 + 11) + 40 * d ≤ R.locals) : CallW R s args RL RX11 146 yX11_least cX11_least 4 (some .int) (zW yX11_least cX11_least 4 (some .int)) (zR d mc ms) mc ms 3 := z_cwV hts m_co_X11_least m_ml_RL_146 m_im_X11_least m_se_X11_least m_ii_RX11 (by decide +kernel) h1 h2
theorem kV_RL_149 {R : Room} {s : State} {args : Array Value} {d mc ms : Nat} (hts : ∀ w ∈ zT, w.before args s = true) (h1 : d + 1 ≤ R.frames) (h2 : 8 + (4 + 11) + 40 * d ≤ R.locals) : CallW R s args RL RX12 149 yX12_least cX12_least 4 (some .int) (zW yX12_least cX12_least 4 (some .int)) (zR d mc ms) mc ms 3 := z_cwV hts m_co_X12_least m_ml_RL_149 m_im_X12_least m_se_X12_least m_ii_RX12 (by decide +kernel) h1 h2
theorem kV_RL_150 {R : Room} {s : State} {args : Array Value} {d mc ms : Nat} (hts : ∀ w ∈ zT, w.before args s = true) (h1 : d + 1 ≤ R.frames) (h2 : 8 + (2 + 11) + 40 * d ≤ R.locals) : CallW R s args RL RX11 150 yX11_count cX11_count 2 (some .int) (zW yX11_count cX11_count 2 (some .int)) (zR d mc ms) mc ms 1 := z_cwV hts m_co_X11_count m_ml_RL_150 m_im_X11_count m_se_X11_count m_ii_RX11 (by decide +kernel) h1 h2
theorem kV_RL_153 {R : Room} {s : State} {args : Array Value} {d mc ms : Nat} (hts : ∀ w ∈ zT, w.before args s = true) (h1 : d + 1 ≤ R.frames) (h2 : 8 + (2 + 11) + 40 * d ≤ R.locals) : CallW R s args RL RX12 153 yX12_count cX12_count 2 (some .int) (zW yX12_count cX12_count 2 (some .int)) (zR d mc ms) mc ms 1 := z_cwV hts m_co_X12_count m_ml_RL_153 m_im_X12_count m_se_X12_count m_ii_RX12 (by decide +kernel) h1 h2
theorem kV_RL_154 {R : Room} {s : State} {args : Array Value} {d mc ms : Nat} (hts : ∀ w ∈ zT, w.before args s = true) (h1 : d + 1 ≤ R.frames) (h2 : 8 + (2 + 11) + 40 * d ≤ R.locals) : CallW R s args RL RX11 154 yX11_image cX11_image 2 (some .boolean) (zW yX11_image cX11_image 2 (some .boolean)) (zR d mc ms) mc ms 1 := z_cwV hts m_co_X11_image m_ml_RL_154 m_im_X11_image m_se_X11_image m_ii_RX11 (by decide +kernel) h1 h2
theorem kV_RL_158 {R : Room} {s : State} {args : Array Value} {d mc ms : Nat} (hts : ∀ w ∈ zT, w.before args s = true) (h1 : d + 1 ≤ R.frames) (h2 : 8 + (3 + 11) + 40 * d ≤ R.locals) : CallW R s args RL RX12 158 yX12_image cX12_image 3 (some .boolean) (zW yX12_image cX12_image 3 (some .boolean)) (zR d mc ms) mc ms 1 := z_cwV hts m_co_X12_image m_ml_RL_158 m_im_X12_image m_se_X12_image m_ii_RX12 (by decide +kernel) h1 h2
theorem kV_RL_159 {R : Room} {s : State} {args : Array Value} {d mc ms : Nat} (hts : ∀ w ∈ zT, w.before args s = true) (h1 : d + 1 ≤ R.frames) (h2 : 8 + (2 + 11) + 40 * d ≤ R.locals) : CallW R s args RL RX11 159 yX11_again cX11_again 2 (some .boolean) (zW yX11_again cX11_again 2 (some .boolean)) (zR d mc ms) mc ms 1 := z_cwV hts m_co_X11_again m_ml_RL_159 m_im_X11_again m_se_X11_again m_ii_RX11 (by decide +kernel) h1 h2
theorem kV_RL_162 {R : Room} {s : State} {args : Array Value} {d mc ms : Nat} (hts : ∀ w ∈ zT, w.before args s = true) (h1 : d + 1 ≤ R.frames) (h2 : 8 + (3 + 11) + 40 * d ≤ R.locals) : CallW R s args RL RX12 162 yX12_again cX12_again 3 (some .boolean) (zW yX12_again cX12_again 3 (some .boolean)) (zR d mc ms) mc ms 1 := z_cwV hts m_co_X12_again m_ml_RL_162 m_im_X12_again m_se_X12_again m_ii_RX12 (by decide +kernel) h1 h2
theorem dL_law_0 : decode cL_law 0 = .ok (.new 7, 3) := by decide +kernel
theorem dL_law_3 : decode cL_law 3 = .ok (.dup, 1) := by decide +kernel
theorem dL_law_4 : decode cL_law 4 = .ok (.invokespecial 9, 3) := by decide +kernel
theorem dL_law_7 : decode cL_law 7 = .ok (.astore_n 1, 1) := by decide +kernel
theorem dL_law_8 : decode cL_law 8 = .ok (.new 10, 3) := by decide +kernel
theorem dL_law_11 : decode cL_law 11 = .ok (.dup, 1) := by decide +kernel
theorem dL_law_12 : decode cL_law 12 = .ok (.invokespecial 12, 3) := by decide +kernel
theorem dL_law_15 : decode cL_law 15 = .ok (.astore_n 2, 1) := by decide +kernel
theorem dL_law_16 : decode cL_law 16 = .ok (.iconst 0, 1) := by decide +kernel
theorem dL_law_17 : decode cL_law 17 = .ok (.istore_n 3, 1) := by decide +kernel
theorem dL_law_18 : decode cL_law 18 = .ok (.iload_n 3, 1) := by decide +kernel
theorem dL_law_19 : decode cL_law 19 = .ok (.aload_n 0, 1) := by decide +kernel
theorem dL_law_20 : decode cL_law 20 = .ok (.arraylength, 1) := by decide +kernel
theorem dL_law_21 : decode cL_law 21 = .ok (.bipush 6, 2) := by decide +kernel
theorem dL_law_23 : decode cL_law 23 = .ok (.isub, 1) := by decide +kernel
theorem dL_law_24 : decode cL_law 24 = .ok (.if_icmp .gt 1749, 3) := by decide +kernel
theorem dL_law_27 : decode cL_law 27 = .ok (.aload_n 0, 1) := by decide +kernel
theorem dL_law_28 : decode cL_law 28 = .ok (.iload_n 3, 1) := by decide +kernel
theorem dL_law_29 : decode cL_law 29 = .ok (.iaload, 1) := by decide +kernel
theorem dL_law_30 : decode cL_law 30 = .ok (.bipush 63, 2) := by decide +kernel
theorem dL_law_32 : decode cL_law 32 = .ok (.iand, 1) := by decide +kernel
theorem dL_law_33 : decode cL_law 33 = .ok (.tableswitch 1734 0 34 #[155, 218, 241, 274, 297, 330, 373, 406, 459, 502, 535, 578, 637, 690, 759, 818, 841, 910, 953, 996, 1049, 1092, 1135, 1168, 1211, 1254, 1307, 1392, 1425, 1484, 1527, 1606, 1665, 1688, 1711], 155) := by decide +kernel
theorem dL_law_188 : decode cL_law 188 = .ok (.aload_n 1, 1) := by decide +kernel
theorem dL_law_189 : decode cL_law 189 = .ok (.aload_n 0, 1) := by decide +kernel
theorem dL_law_190 : decode cL_law 190 = .ok (.iload_n 3, 1) := by decide +kernel
theorem dL_law_191 : decode cL_law 191 = .ok (.iconst 1, 1) := by decide +kernel
theorem dL_law_192 : decode cL_law 192 = .ok (.iadd, 1) := by decide +kernel
theorem dL_law_193 : decode cL_law 193 = .ok (.iaload, 1) := by decide +kernel
theorem dL_law_194 : decode cL_law 194 = .ok (.aload_n 0, 1) := by decide +kernel
theorem dL_law_195 : decode cL_law 195 = .ok (.iload_n 3, 1) := by decide +kernel
theorem dL_law_196 : decode cL_law 196 = .ok (.iconst 2, 1) := by decide +kernel
theorem dL_law_197 : decode cL_law 197 = .ok (.iadd, 1) := by decide +kernel
theorem dL_law_198 : decode cL_law 198 = .ok (.iaload, 1) := by decide +kernel
theorem dL_law_199 : decode cL_law 199 = .ok (.aload_n 0, 1) := by decide +kernel
theorem dL_law_200 : decode cL_law 200 = .ok (.iload_n 3, 1) := by decide +kernel
theorem dL_law_201 : decode cL_law 201 = .ok (.iconst 3, 1) := by decide +kernel
theorem dL_law_202 : decode cL_law 202 = .ok (.iadd, 1) := by decide +kernel
theorem dL_law_203 : decode cL_law 203 = .ok (.iaload, 1) := by decide +kernel
theorem dL_law_204 : decode cL_law 204 = .ok (.aload_n 0, 1) := by decide +kernel
theorem dL_law_205 : decode cL_law 205 = .ok (.iload_n 3, 1) := by decide +kernel
theorem dL_law_206 : decode cL_law 206 = .ok (.iconst 4, 1) := by decide +kernel
theorem dL_law_207 : decode cL_law 207 = .ok (.iadd, 1) := by decide +kernel
theorem dL_law_208 : decode cL_law 208 = .ok (.iaload, 1) := by decide +kernel
theorem dL_law_209 : decode cL_law 209 = .ok (.aload_n 0, 1) := by decide +kernel
theorem dL_law_210 : decode cL_law 210 = .ok (.iload_n 3, 1) := by decide +kernel
theorem dL_law_211 : decode cL_law 211 = .ok (.iconst 5, 1) := by decide +kernel
theorem dL_law_212 : decode cL_law 212 = .ok (.iadd, 1) := by decide +kernel
theorem dL_law_213 : decode cL_law 213 = .ok (.iaload, 1) := by decide +kernel
theorem dL_law_214 : decode cL_law 214 = .ok (.invokevirtual 13, 3) := by decide +kernel
theorem dL_law_217 : decode cL_law 217 = .ok (.aload_n 2, 1) := by decide +kernel
theorem dL_law_218 : decode cL_law 218 = .ok (.aload_n 0, 1) := by decide +kernel
theorem dL_law_219 : decode cL_law 219 = .ok (.iload_n 3, 1) := by decide +kernel
theorem dL_law_220 : decode cL_law 220 = .ok (.iconst 1, 1) := by decide +kernel
theorem dL_law_221 : decode cL_law 221 = .ok (.iadd, 1) := by decide +kernel
theorem dL_law_222 : decode cL_law 222 = .ok (.iaload, 1) := by decide +kernel
theorem dL_law_223 : decode cL_law 223 = .ok (.aload_n 0, 1) := by decide +kernel
theorem dL_law_224 : decode cL_law 224 = .ok (.iload_n 3, 1) := by decide +kernel
theorem dL_law_225 : decode cL_law 225 = .ok (.iconst 2, 1) := by decide +kernel
theorem dL_law_226 : decode cL_law 226 = .ok (.iadd, 1) := by decide +kernel
theorem dL_law_227 : decode cL_law 227 = .ok (.iaload, 1) := by decide +kernel
theorem dL_law_228 : decode cL_law 228 = .ok (.aload_n 0, 1) := by decide +kernel
theorem dL_law_229 : decode cL_law 229 = .ok (.iload_n 3, 1) := by decide +kernel
theorem dL_law_230 : decode cL_law 230 = .ok (.iconst 3, 1) := by decide +kernel
theorem dL_law_231 : decode cL_law 231 = .ok (.iadd, 1) := by decide +kernel
theorem dL_law_232 : decode cL_law 232 = .ok (.iaload, 1) := by decide +kernel
theorem dL_law_233 : decode cL_law 233 = .ok (.aload_n 0, 1) := by decide +kernel
theorem dL_law_234 : decode cL_law 234 = .ok (.iload_n 3, 1) := by decide +kernel
theorem dL_law_235 : decode cL_law 235 = .ok (.iconst 4, 1) := by decide +kernel
theorem dL_law_236 : decode cL_law 236 = .ok (.iadd, 1) := by decide +kernel
theorem dL_law_237 : decode cL_law 237 = .ok (.iaload, 1) := by decide +kernel
theorem dL_law_238 : decode cL_law 238 = .ok (.aload_n 0, 1) := by decide +kernel
theorem dL_law_239 : decode cL_law 239 = .ok (.iload_n 3, 1) := by decide +kernel
theorem dL_law_240 : decode cL_law 240 = .ok (.iconst 5, 1) := by decide +kernel
theorem dL_law_241 : decode cL_law 241 = .ok (.iadd, 1) := by decide +kernel
theorem dL_law_242 : decode cL_law 242 = .ok (.iaload, 1) := by decide +kernel
theorem dL_law_243 : decode cL_law 243 = .ok (.invokevirtual 17, 3) := by decide +kernel
theorem dL_law_246 : decode cL_law 246 = .ok (.if_icmp .eq 1521, 3) := by decide +kernel
theorem dL_law_251 : decode cL_law 251 = .ok (.aload_n 1, 1) := by decide +kernel
theorem dL_law_252 : decode cL_law 252 = .ok (.aload_n 0, 1) := by decide +kernel
theorem dL_law_253 : decode cL_law 253 = .ok (.iload_n 3, 1) := by decide +kernel
theorem dL_law_254 : decode cL_law 254 = .ok (.iconst 1, 1) := by decide +kernel
theorem dL_law_255 : decode cL_law 255 = .ok (.iadd, 1) := by decide +kernel
theorem dL_law_256 : decode cL_law 256 = .ok (.iaload, 1) := by decide +kernel
theorem dL_law_257 : decode cL_law 257 = .ok (.invokevirtual 18, 3) := by decide +kernel
theorem dL_law_260 : decode cL_law 260 = .ok (.aload_n 2, 1) := by decide +kernel
theorem dL_law_261 : decode cL_law 261 = .ok (.aload_n 0, 1) := by decide +kernel
theorem dL_law_262 : decode cL_law 262 = .ok (.iload_n 3, 1) := by decide +kernel
theorem dL_law_263 : decode cL_law 263 = .ok (.iconst 1, 1) := by decide +kernel
theorem dL_law_264 : decode cL_law 264 = .ok (.iadd, 1) := by decide +kernel
theorem dL_law_265 : decode cL_law 265 = .ok (.iaload, 1) := by decide +kernel
theorem dL_law_266 : decode cL_law 266 = .ok (.invokevirtual 22, 3) := by decide +kernel
theorem dL_law_269 : decode cL_law 269 = .ok (.if_icmp .eq 1498, 3) := by decide +kernel
theorem dL_law_274 : decode cL_law 274 = .ok (.aload_n 1, 1) := by decide +kernel
theorem dL_law_275 : decode cL_law 275 = .ok (.aload_n 0, 1) := by decide +kernel
theorem dL_law_276 : decode cL_law 276 = .ok (.iload_n 3, 1) := by decide +kernel
theorem dL_law_277 : decode cL_law 277 = .ok (.iconst 1, 1) := by decide +kernel
theorem dL_law_278 : decode cL_law 278 = .ok (.iadd, 1) := by decide +kernel
theorem dL_law_279 : decode cL_law 279 = .ok (.iaload, 1) := by decide +kernel
theorem dL_law_280 : decode cL_law 280 = .ok (.aload_n 0, 1) := by decide +kernel
theorem dL_law_281 : decode cL_law 281 = .ok (.iload_n 3, 1) := by decide +kernel
theorem dL_law_282 : decode cL_law 282 = .ok (.iconst 2, 1) := by decide +kernel
theorem dL_law_283 : decode cL_law 283 = .ok (.iadd, 1) := by decide +kernel
theorem dL_law_284 : decode cL_law 284 = .ok (.iaload, 1) := by decide +kernel
theorem dL_law_285 : decode cL_law 285 = .ok (.invokevirtual 23, 3) := by decide +kernel
theorem dL_law_288 : decode cL_law 288 = .ok (.aload_n 2, 1) := by decide +kernel
theorem dL_law_289 : decode cL_law 289 = .ok (.aload_n 0, 1) := by decide +kernel
theorem dL_law_290 : decode cL_law 290 = .ok (.iload_n 3, 1) := by decide +kernel
theorem dL_law_291 : decode cL_law 291 = .ok (.iconst 1, 1) := by decide +kernel
theorem dL_law_292 : decode cL_law 292 = .ok (.iadd, 1) := by decide +kernel
theorem dL_law_293 : decode cL_law 293 = .ok (.iaload, 1) := by decide +kernel
theorem dL_law_294 : decode cL_law 294 = .ok (.aload_n 0, 1) := by decide +kernel
theorem dL_law_295 : decode cL_law 295 = .ok (.iload_n 3, 1) := by decide +kernel
theorem dL_law_296 : decode cL_law 296 = .ok (.iconst 2, 1) := by decide +kernel
theorem dL_law_297 : decode cL_law 297 = .ok (.iadd, 1) := by decide +kernel
theorem dL_law_298 : decode cL_law 298 = .ok (.iaload, 1) := by decide +kernel
theorem dL_law_299 : decode cL_law 299 = .ok (.invokevirtual 27, 3) := by decide +kernel
theorem dL_law_302 : decode cL_law 302 = .ok (.if_icmp .eq 1465, 3) := by decide +kernel
theorem dL_law_307 : decode cL_law 307 = .ok (.aload_n 1, 1) := by decide +kernel
theorem dL_law_308 : decode cL_law 308 = .ok (.aload_n 0, 1) := by decide +kernel
theorem dL_law_309 : decode cL_law 309 = .ok (.iload_n 3, 1) := by decide +kernel
theorem dL_law_310 : decode cL_law 310 = .ok (.iconst 1, 1) := by decide +kernel
theorem dL_law_311 : decode cL_law 311 = .ok (.iadd, 1) := by decide +kernel
theorem dL_law_312 : decode cL_law 312 = .ok (.iaload, 1) := by decide +kernel
theorem dL_law_313 : decode cL_law 313 = .ok (.invokevirtual 28, 3) := by decide +kernel
theorem dL_law_316 : decode cL_law 316 = .ok (.aload_n 2, 1) := by decide +kernel
theorem dL_law_317 : decode cL_law 317 = .ok (.aload_n 0, 1) := by decide +kernel
theorem dL_law_318 : decode cL_law 318 = .ok (.iload_n 3, 1) := by decide +kernel
theorem dL_law_319 : decode cL_law 319 = .ok (.iconst 1, 1) := by decide +kernel
theorem dL_law_320 : decode cL_law 320 = .ok (.iadd, 1) := by decide +kernel
theorem dL_law_321 : decode cL_law 321 = .ok (.iaload, 1) := by decide +kernel
theorem dL_law_322 : decode cL_law 322 = .ok (.invokevirtual 31, 3) := by decide +kernel
theorem dL_law_325 : decode cL_law 325 = .ok (.if_icmp .eq 1442, 3) := by decide +kernel
theorem dL_law_330 : decode cL_law 330 = .ok (.aload_n 1, 1) := by decide +kernel
theorem dL_law_331 : decode cL_law 331 = .ok (.aload_n 0, 1) := by decide +kernel
theorem dL_law_332 : decode cL_law 332 = .ok (.iload_n 3, 1) := by decide +kernel
theorem dL_law_333 : decode cL_law 333 = .ok (.iconst 1, 1) := by decide +kernel
theorem dL_law_334 : decode cL_law 334 = .ok (.iadd, 1) := by decide +kernel
theorem dL_law_335 : decode cL_law 335 = .ok (.iaload, 1) := by decide +kernel
theorem dL_law_336 : decode cL_law 336 = .ok (.aload_n 0, 1) := by decide +kernel
theorem dL_law_337 : decode cL_law 337 = .ok (.iload_n 3, 1) := by decide +kernel
theorem dL_law_338 : decode cL_law 338 = .ok (.iconst 2, 1) := by decide +kernel
theorem dL_law_339 : decode cL_law 339 = .ok (.iadd, 1) := by decide +kernel
theorem dL_law_340 : decode cL_law 340 = .ok (.iaload, 1) := by decide +kernel
theorem dL_law_341 : decode cL_law 341 = .ok (.invokevirtual 32, 3) := by decide +kernel
theorem dL_law_344 : decode cL_law 344 = .ok (.aload_n 2, 1) := by decide +kernel
theorem dL_law_345 : decode cL_law 345 = .ok (.aload_n 0, 1) := by decide +kernel
theorem dL_law_346 : decode cL_law 346 = .ok (.iload_n 3, 1) := by decide +kernel
theorem dL_law_347 : decode cL_law 347 = .ok (.iconst 1, 1) := by decide +kernel
theorem dL_law_348 : decode cL_law 348 = .ok (.iadd, 1) := by decide +kernel
theorem dL_law_349 : decode cL_law 349 = .ok (.iaload, 1) := by decide +kernel
theorem dL_law_350 : decode cL_law 350 = .ok (.aload_n 0, 1) := by decide +kernel
theorem dL_law_351 : decode cL_law 351 = .ok (.iload_n 3, 1) := by decide +kernel
theorem dL_law_352 : decode cL_law 352 = .ok (.iconst 2, 1) := by decide +kernel
theorem dL_law_353 : decode cL_law 353 = .ok (.iadd, 1) := by decide +kernel
theorem dL_law_354 : decode cL_law 354 = .ok (.iaload, 1) := by decide +kernel
theorem dL_law_355 : decode cL_law 355 = .ok (.invokevirtual 35, 3) := by decide +kernel
theorem dL_law_358 : decode cL_law 358 = .ok (.if_icmp .eq 1409, 3) := by decide +kernel
theorem dL_law_363 : decode cL_law 363 = .ok (.aload_n 1, 1) := by decide +kernel
theorem dL_law_364 : decode cL_law 364 = .ok (.aload_n 0, 1) := by decide +kernel
theorem dL_law_365 : decode cL_law 365 = .ok (.iload_n 3, 1) := by decide +kernel
theorem dL_law_366 : decode cL_law 366 = .ok (.iconst 1, 1) := by decide +kernel
theorem dL_law_367 : decode cL_law 367 = .ok (.iadd, 1) := by decide +kernel
theorem dL_law_368 : decode cL_law 368 = .ok (.iaload, 1) := by decide +kernel
theorem dL_law_369 : decode cL_law 369 = .ok (.aload_n 0, 1) := by decide +kernel
theorem dL_law_370 : decode cL_law 370 = .ok (.iload_n 3, 1) := by decide +kernel
theorem dL_law_371 : decode cL_law 371 = .ok (.iconst 2, 1) := by decide +kernel
theorem dL_law_372 : decode cL_law 372 = .ok (.iadd, 1) := by decide +kernel
theorem dL_law_373 : decode cL_law 373 = .ok (.iaload, 1) := by decide +kernel
theorem dL_law_374 : decode cL_law 374 = .ok (.aload_n 0, 1) := by decide +kernel
theorem dL_law_375 : decode cL_law 375 = .ok (.iload_n 3, 1) := by decide +kernel
theorem dL_law_376 : decode cL_law 376 = .ok (.iconst 3, 1) := by decide +kernel
theorem dL_law_377 : decode cL_law 377 = .ok (.iadd, 1) := by decide +kernel
theorem dL_law_378 : decode cL_law 378 = .ok (.iaload, 1) := by decide +kernel
theorem dL_law_379 : decode cL_law 379 = .ok (.invokevirtual 36, 3) := by decide +kernel
theorem dL_law_382 : decode cL_law 382 = .ok (.aload_n 2, 1) := by decide +kernel
theorem dL_law_383 : decode cL_law 383 = .ok (.aload_n 0, 1) := by decide +kernel
theorem dL_law_384 : decode cL_law 384 = .ok (.iload_n 3, 1) := by decide +kernel
theorem dL_law_385 : decode cL_law 385 = .ok (.iconst 1, 1) := by decide +kernel
theorem dL_law_386 : decode cL_law 386 = .ok (.iadd, 1) := by decide +kernel
theorem dL_law_387 : decode cL_law 387 = .ok (.iaload, 1) := by decide +kernel
theorem dL_law_388 : decode cL_law 388 = .ok (.aload_n 0, 1) := by decide +kernel
theorem dL_law_389 : decode cL_law 389 = .ok (.iload_n 3, 1) := by decide +kernel
theorem dL_law_390 : decode cL_law 390 = .ok (.iconst 2, 1) := by decide +kernel
theorem dL_law_391 : decode cL_law 391 = .ok (.iadd, 1) := by decide +kernel
theorem dL_law_392 : decode cL_law 392 = .ok (.iaload, 1) := by decide +kernel
theorem dL_law_393 : decode cL_law 393 = .ok (.aload_n 0, 1) := by decide +kernel
theorem dL_law_394 : decode cL_law 394 = .ok (.iload_n 3, 1) := by decide +kernel
theorem dL_law_395 : decode cL_law 395 = .ok (.iconst 3, 1) := by decide +kernel
theorem dL_law_396 : decode cL_law 396 = .ok (.iadd, 1) := by decide +kernel
theorem dL_law_397 : decode cL_law 397 = .ok (.iaload, 1) := by decide +kernel
theorem dL_law_398 : decode cL_law 398 = .ok (.invokevirtual 40, 3) := by decide +kernel
theorem dL_law_401 : decode cL_law 401 = .ok (.if_icmp .eq 1366, 3) := by decide +kernel
theorem dL_law_406 : decode cL_law 406 = .ok (.aload_n 1, 1) := by decide +kernel
theorem dL_law_407 : decode cL_law 407 = .ok (.aload_n 0, 1) := by decide +kernel
theorem dL_law_408 : decode cL_law 408 = .ok (.iload_n 3, 1) := by decide +kernel
theorem dL_law_409 : decode cL_law 409 = .ok (.iconst 1, 1) := by decide +kernel
theorem dL_law_410 : decode cL_law 410 = .ok (.iadd, 1) := by decide +kernel
theorem dL_law_411 : decode cL_law 411 = .ok (.iaload, 1) := by decide +kernel
theorem dL_law_412 : decode cL_law 412 = .ok (.aload_n 0, 1) := by decide +kernel
theorem dL_law_413 : decode cL_law 413 = .ok (.iload_n 3, 1) := by decide +kernel
theorem dL_law_414 : decode cL_law 414 = .ok (.iconst 2, 1) := by decide +kernel
theorem dL_law_415 : decode cL_law 415 = .ok (.iadd, 1) := by decide +kernel
theorem dL_law_416 : decode cL_law 416 = .ok (.iaload, 1) := by decide +kernel
theorem dL_law_417 : decode cL_law 417 = .ok (.invokevirtual 41, 3) := by decide +kernel
theorem dL_law_420 : decode cL_law 420 = .ok (.aload_n 2, 1) := by decide +kernel
theorem dL_law_421 : decode cL_law 421 = .ok (.aload_n 0, 1) := by decide +kernel
theorem dL_law_422 : decode cL_law 422 = .ok (.iload_n 3, 1) := by decide +kernel
theorem dL_law_423 : decode cL_law 423 = .ok (.iconst 1, 1) := by decide +kernel
theorem dL_law_424 : decode cL_law 424 = .ok (.iadd, 1) := by decide +kernel
theorem dL_law_425 : decode cL_law 425 = .ok (.iaload, 1) := by decide +kernel
theorem dL_law_426 : decode cL_law 426 = .ok (.aload_n 0, 1) := by decide +kernel
theorem dL_law_427 : decode cL_law 427 = .ok (.iload_n 3, 1) := by decide +kernel
theorem dL_law_428 : decode cL_law 428 = .ok (.iconst 2, 1) := by decide +kernel
theorem dL_law_429 : decode cL_law 429 = .ok (.iadd, 1) := by decide +kernel
theorem dL_law_430 : decode cL_law 430 = .ok (.iaload, 1) := by decide +kernel
theorem dL_law_431 : decode cL_law 431 = .ok (.invokevirtual 44, 3) := by decide +kernel
theorem dL_law_434 : decode cL_law 434 = .ok (.if_icmp .eq 1333, 3) := by decide +kernel
theorem dL_law_439 : decode cL_law 439 = .ok (.aload_n 1, 1) := by decide +kernel
theorem dL_law_440 : decode cL_law 440 = .ok (.aload_n 0, 1) := by decide +kernel
theorem dL_law_441 : decode cL_law 441 = .ok (.iload_n 3, 1) := by decide +kernel
theorem dL_law_442 : decode cL_law 442 = .ok (.iconst 1, 1) := by decide +kernel
theorem dL_law_443 : decode cL_law 443 = .ok (.iadd, 1) := by decide +kernel
theorem dL_law_444 : decode cL_law 444 = .ok (.iaload, 1) := by decide +kernel
theorem dL_law_445 : decode cL_law 445 = .ok (.aload_n 0, 1) := by decide +kernel
theorem dL_law_446 : decode cL_law 446 = .ok (.iload_n 3, 1) := by decide +kernel
theorem dL_law_447 : decode cL_law 447 = .ok (.iconst 2, 1) := by decide +kernel
theorem dL_law_448 : decode cL_law 448 = .ok (.iadd, 1) := by decide +kernel
theorem dL_law_449 : decode cL_law 449 = .ok (.iaload, 1) := by decide +kernel
theorem dL_law_450 : decode cL_law 450 = .ok (.aload_n 0, 1) := by decide +kernel
theorem dL_law_451 : decode cL_law 451 = .ok (.iload_n 3, 1) := by decide +kernel
theorem dL_law_452 : decode cL_law 452 = .ok (.iconst 3, 1) := by decide +kernel
theorem dL_law_453 : decode cL_law 453 = .ok (.iadd, 1) := by decide +kernel
theorem dL_law_454 : decode cL_law 454 = .ok (.iaload, 1) := by decide +kernel
theorem dL_law_455 : decode cL_law 455 = .ok (.aload_n 0, 1) := by decide +kernel
theorem dL_law_456 : decode cL_law 456 = .ok (.iload_n 3, 1) := by decide +kernel
theorem dL_law_457 : decode cL_law 457 = .ok (.iconst 4, 1) := by decide +kernel
theorem dL_law_458 : decode cL_law 458 = .ok (.iadd, 1) := by decide +kernel
theorem dL_law_459 : decode cL_law 459 = .ok (.iaload, 1) := by decide +kernel
theorem dL_law_460 : decode cL_law 460 = .ok (.invokevirtual 45, 3) := by decide +kernel
theorem dL_law_463 : decode cL_law 463 = .ok (.aload_n 2, 1) := by decide +kernel
theorem dL_law_464 : decode cL_law 464 = .ok (.aload_n 0, 1) := by decide +kernel
theorem dL_law_465 : decode cL_law 465 = .ok (.iload_n 3, 1) := by decide +kernel
theorem dL_law_466 : decode cL_law 466 = .ok (.iconst 1, 1) := by decide +kernel
theorem dL_law_467 : decode cL_law 467 = .ok (.iadd, 1) := by decide +kernel
theorem dL_law_468 : decode cL_law 468 = .ok (.iaload, 1) := by decide +kernel
theorem dL_law_469 : decode cL_law 469 = .ok (.aload_n 0, 1) := by decide +kernel
theorem dL_law_470 : decode cL_law 470 = .ok (.iload_n 3, 1) := by decide +kernel
theorem dL_law_471 : decode cL_law 471 = .ok (.iconst 2, 1) := by decide +kernel
theorem dL_law_472 : decode cL_law 472 = .ok (.iadd, 1) := by decide +kernel
theorem dL_law_473 : decode cL_law 473 = .ok (.iaload, 1) := by decide +kernel
theorem dL_law_474 : decode cL_law 474 = .ok (.aload_n 0, 1) := by decide +kernel
theorem dL_law_475 : decode cL_law 475 = .ok (.iload_n 3, 1) := by decide +kernel
theorem dL_law_476 : decode cL_law 476 = .ok (.iconst 3, 1) := by decide +kernel
theorem dL_law_477 : decode cL_law 477 = .ok (.iadd, 1) := by decide +kernel
theorem dL_law_478 : decode cL_law 478 = .ok (.iaload, 1) := by decide +kernel
theorem dL_law_479 : decode cL_law 479 = .ok (.aload_n 0, 1) := by decide +kernel
theorem dL_law_480 : decode cL_law 480 = .ok (.iload_n 3, 1) := by decide +kernel
theorem dL_law_481 : decode cL_law 481 = .ok (.iconst 4, 1) := by decide +kernel
theorem dL_law_482 : decode cL_law 482 = .ok (.iadd, 1) := by decide +kernel
theorem dL_law_483 : decode cL_law 483 = .ok (.iaload, 1) := by decide +kernel
theorem dL_law_484 : decode cL_law 484 = .ok (.invokevirtual 49, 3) := by decide +kernel
theorem dL_law_487 : decode cL_law 487 = .ok (.if_icmp .eq 1280, 3) := by decide +kernel
theorem dL_law_492 : decode cL_law 492 = .ok (.aload_n 1, 1) := by decide +kernel
theorem dL_law_493 : decode cL_law 493 = .ok (.aload_n 0, 1) := by decide +kernel
theorem dL_law_494 : decode cL_law 494 = .ok (.iload_n 3, 1) := by decide +kernel
theorem dL_law_495 : decode cL_law 495 = .ok (.iconst 1, 1) := by decide +kernel
theorem dL_law_496 : decode cL_law 496 = .ok (.iadd, 1) := by decide +kernel
theorem dL_law_497 : decode cL_law 497 = .ok (.iaload, 1) := by decide +kernel
theorem dL_law_498 : decode cL_law 498 = .ok (.aload_n 0, 1) := by decide +kernel
theorem dL_law_499 : decode cL_law 499 = .ok (.iload_n 3, 1) := by decide +kernel
theorem dL_law_500 : decode cL_law 500 = .ok (.iconst 2, 1) := by decide +kernel
theorem dL_law_501 : decode cL_law 501 = .ok (.iadd, 1) := by decide +kernel
theorem dL_law_502 : decode cL_law 502 = .ok (.iaload, 1) := by decide +kernel
theorem dL_law_503 : decode cL_law 503 = .ok (.aload_n 0, 1) := by decide +kernel
theorem dL_law_504 : decode cL_law 504 = .ok (.iload_n 3, 1) := by decide +kernel
theorem dL_law_505 : decode cL_law 505 = .ok (.iconst 3, 1) := by decide +kernel
theorem dL_law_506 : decode cL_law 506 = .ok (.iadd, 1) := by decide +kernel
theorem dL_law_507 : decode cL_law 507 = .ok (.iaload, 1) := by decide +kernel
theorem dL_law_508 : decode cL_law 508 = .ok (.invokevirtual 50, 3) := by decide +kernel
theorem dL_law_511 : decode cL_law 511 = .ok (.aload_n 2, 1) := by decide +kernel
theorem dL_law_512 : decode cL_law 512 = .ok (.aload_n 0, 1) := by decide +kernel
theorem dL_law_513 : decode cL_law 513 = .ok (.iload_n 3, 1) := by decide +kernel
theorem dL_law_514 : decode cL_law 514 = .ok (.iconst 1, 1) := by decide +kernel
theorem dL_law_515 : decode cL_law 515 = .ok (.iadd, 1) := by decide +kernel
theorem dL_law_516 : decode cL_law 516 = .ok (.iaload, 1) := by decide +kernel
theorem dL_law_517 : decode cL_law 517 = .ok (.aload_n 0, 1) := by decide +kernel
theorem dL_law_518 : decode cL_law 518 = .ok (.iload_n 3, 1) := by decide +kernel
theorem dL_law_519 : decode cL_law 519 = .ok (.iconst 2, 1) := by decide +kernel
theorem dL_law_520 : decode cL_law 520 = .ok (.iadd, 1) := by decide +kernel
theorem dL_law_521 : decode cL_law 521 = .ok (.iaload, 1) := by decide +kernel
theorem dL_law_522 : decode cL_law 522 = .ok (.aload_n 0, 1) := by decide +kernel
theorem dL_law_523 : decode cL_law 523 = .ok (.iload_n 3, 1) := by decide +kernel
theorem dL_law_524 : decode cL_law 524 = .ok (.iconst 3, 1) := by decide +kernel
theorem dL_law_525 : decode cL_law 525 = .ok (.iadd, 1) := by decide +kernel
theorem dL_law_526 : decode cL_law 526 = .ok (.iaload, 1) := by decide +kernel
theorem dL_law_527 : decode cL_law 527 = .ok (.invokevirtual 53, 3) := by decide +kernel
theorem dL_law_530 : decode cL_law 530 = .ok (.if_icmp .eq 1237, 3) := by decide +kernel
theorem dL_law_535 : decode cL_law 535 = .ok (.aload_n 1, 1) := by decide +kernel
theorem dL_law_536 : decode cL_law 536 = .ok (.aload_n 0, 1) := by decide +kernel
theorem dL_law_537 : decode cL_law 537 = .ok (.iload_n 3, 1) := by decide +kernel
theorem dL_law_538 : decode cL_law 538 = .ok (.iconst 1, 1) := by decide +kernel
theorem dL_law_539 : decode cL_law 539 = .ok (.iadd, 1) := by decide +kernel
theorem dL_law_540 : decode cL_law 540 = .ok (.iaload, 1) := by decide +kernel
theorem dL_law_541 : decode cL_law 541 = .ok (.aload_n 0, 1) := by decide +kernel
theorem dL_law_542 : decode cL_law 542 = .ok (.iload_n 3, 1) := by decide +kernel
theorem dL_law_543 : decode cL_law 543 = .ok (.iconst 2, 1) := by decide +kernel
theorem dL_law_544 : decode cL_law 544 = .ok (.iadd, 1) := by decide +kernel
theorem dL_law_545 : decode cL_law 545 = .ok (.iaload, 1) := by decide +kernel
theorem dL_law_546 : decode cL_law 546 = .ok (.invokevirtual 54, 3) := by decide +kernel
theorem dL_law_549 : decode cL_law 549 = .ok (.aload_n 2, 1) := by decide +kernel
theorem dL_law_550 : decode cL_law 550 = .ok (.aload_n 0, 1) := by decide +kernel
theorem dL_law_551 : decode cL_law 551 = .ok (.iload_n 3, 1) := by decide +kernel
theorem dL_law_552 : decode cL_law 552 = .ok (.iconst 1, 1) := by decide +kernel
theorem dL_law_553 : decode cL_law 553 = .ok (.iadd, 1) := by decide +kernel
theorem dL_law_554 : decode cL_law 554 = .ok (.iaload, 1) := by decide +kernel
theorem dL_law_555 : decode cL_law 555 = .ok (.aload_n 0, 1) := by decide +kernel
theorem dL_law_556 : decode cL_law 556 = .ok (.iload_n 3, 1) := by decide +kernel
theorem dL_law_557 : decode cL_law 557 = .ok (.iconst 2, 1) := by decide +kernel
theorem dL_law_558 : decode cL_law 558 = .ok (.iadd, 1) := by decide +kernel
theorem dL_law_559 : decode cL_law 559 = .ok (.iaload, 1) := by decide +kernel
theorem dL_law_560 : decode cL_law 560 = .ok (.invokevirtual 57, 3) := by decide +kernel
theorem dL_law_563 : decode cL_law 563 = .ok (.if_icmp .eq 1204, 3) := by decide +kernel
theorem dL_law_568 : decode cL_law 568 = .ok (.aload_n 1, 1) := by decide +kernel
theorem dL_law_569 : decode cL_law 569 = .ok (.aload_n 0, 1) := by decide +kernel
theorem dL_law_570 : decode cL_law 570 = .ok (.iload_n 3, 1) := by decide +kernel
theorem dL_law_571 : decode cL_law 571 = .ok (.iconst 1, 1) := by decide +kernel
theorem dL_law_572 : decode cL_law 572 = .ok (.iadd, 1) := by decide +kernel
theorem dL_law_573 : decode cL_law 573 = .ok (.iaload, 1) := by decide +kernel
theorem dL_law_574 : decode cL_law 574 = .ok (.aload_n 0, 1) := by decide +kernel
theorem dL_law_575 : decode cL_law 575 = .ok (.iload_n 3, 1) := by decide +kernel
theorem dL_law_576 : decode cL_law 576 = .ok (.iconst 2, 1) := by decide +kernel
theorem dL_law_577 : decode cL_law 577 = .ok (.iadd, 1) := by decide +kernel
theorem dL_law_578 : decode cL_law 578 = .ok (.iaload, 1) := by decide +kernel
theorem dL_law_579 : decode cL_law 579 = .ok (.aload_n 0, 1) := by decide +kernel
theorem dL_law_580 : decode cL_law 580 = .ok (.iload_n 3, 1) := by decide +kernel
theorem dL_law_581 : decode cL_law 581 = .ok (.iconst 3, 1) := by decide +kernel
theorem dL_law_582 : decode cL_law 582 = .ok (.iadd, 1) := by decide +kernel
theorem dL_law_583 : decode cL_law 583 = .ok (.iaload, 1) := by decide +kernel
theorem dL_law_584 : decode cL_law 584 = .ok (.invokevirtual 58, 3) := by decide +kernel
theorem dL_law_587 : decode cL_law 587 = .ok (.aload_n 2, 1) := by decide +kernel
theorem dL_law_588 : decode cL_law 588 = .ok (.aload_n 0, 1) := by decide +kernel
theorem dL_law_589 : decode cL_law 589 = .ok (.iload_n 3, 1) := by decide +kernel
theorem dL_law_590 : decode cL_law 590 = .ok (.iconst 1, 1) := by decide +kernel
theorem dL_law_591 : decode cL_law 591 = .ok (.iadd, 1) := by decide +kernel
theorem dL_law_592 : decode cL_law 592 = .ok (.iaload, 1) := by decide +kernel
theorem dL_law_593 : decode cL_law 593 = .ok (.aload_n 0, 1) := by decide +kernel
theorem dL_law_594 : decode cL_law 594 = .ok (.iload_n 3, 1) := by decide +kernel
theorem dL_law_595 : decode cL_law 595 = .ok (.iconst 2, 1) := by decide +kernel
theorem dL_law_596 : decode cL_law 596 = .ok (.iadd, 1) := by decide +kernel
theorem dL_law_597 : decode cL_law 597 = .ok (.iaload, 1) := by decide +kernel
theorem dL_law_598 : decode cL_law 598 = .ok (.aload_n 0, 1) := by decide +kernel
theorem dL_law_599 : decode cL_law 599 = .ok (.iload_n 3, 1) := by decide +kernel
theorem dL_law_600 : decode cL_law 600 = .ok (.iconst 3, 1) := by decide +kernel
theorem dL_law_601 : decode cL_law 601 = .ok (.iadd, 1) := by decide +kernel
theorem dL_law_602 : decode cL_law 602 = .ok (.iaload, 1) := by decide +kernel
theorem dL_law_603 : decode cL_law 603 = .ok (.invokevirtual 61, 3) := by decide +kernel
theorem dL_law_606 : decode cL_law 606 = .ok (.if_icmp .eq 1161, 3) := by decide +kernel
theorem dL_law_611 : decode cL_law 611 = .ok (.aload_n 1, 1) := by decide +kernel
theorem dL_law_612 : decode cL_law 612 = .ok (.aload_n 0, 1) := by decide +kernel
theorem dL_law_613 : decode cL_law 613 = .ok (.iload_n 3, 1) := by decide +kernel
theorem dL_law_614 : decode cL_law 614 = .ok (.iconst 1, 1) := by decide +kernel
theorem dL_law_615 : decode cL_law 615 = .ok (.iadd, 1) := by decide +kernel
theorem dL_law_616 : decode cL_law 616 = .ok (.iaload, 1) := by decide +kernel
theorem dL_law_617 : decode cL_law 617 = .ok (.aload_n 0, 1) := by decide +kernel
theorem dL_law_618 : decode cL_law 618 = .ok (.iload_n 3, 1) := by decide +kernel
theorem dL_law_619 : decode cL_law 619 = .ok (.iconst 2, 1) := by decide +kernel
theorem dL_law_620 : decode cL_law 620 = .ok (.iadd, 1) := by decide +kernel
theorem dL_law_621 : decode cL_law 621 = .ok (.iaload, 1) := by decide +kernel
theorem dL_law_622 : decode cL_law 622 = .ok (.aload_n 0, 1) := by decide +kernel
theorem dL_law_623 : decode cL_law 623 = .ok (.iload_n 3, 1) := by decide +kernel
theorem dL_law_624 : decode cL_law 624 = .ok (.iconst 3, 1) := by decide +kernel
theorem dL_law_625 : decode cL_law 625 = .ok (.iadd, 1) := by decide +kernel
theorem dL_law_626 : decode cL_law 626 = .ok (.iaload, 1) := by decide +kernel
theorem dL_law_627 : decode cL_law 627 = .ok (.ifCond .eq 7, 3) := by decide +kernel
theorem dL_law_630 : decode cL_law 630 = .ok (.iconst 1, 1) := by decide +kernel
theorem dL_law_631 : decode cL_law 631 = .ok (.goto 4, 3) := by decide +kernel
theorem dL_law_634 : decode cL_law 634 = .ok (.iconst 0, 1) := by decide +kernel
theorem dL_law_635 : decode cL_law 635 = .ok (.invokevirtual 62, 3) := by decide +kernel
theorem dL_law_638 : decode cL_law 638 = .ok (.aload_n 2, 1) := by decide +kernel
theorem dL_law_639 : decode cL_law 639 = .ok (.aload_n 0, 1) := by decide +kernel
theorem dL_law_640 : decode cL_law 640 = .ok (.iload_n 3, 1) := by decide +kernel
theorem dL_law_641 : decode cL_law 641 = .ok (.iconst 1, 1) := by decide +kernel
theorem dL_law_642 : decode cL_law 642 = .ok (.iadd, 1) := by decide +kernel
theorem dL_law_643 : decode cL_law 643 = .ok (.iaload, 1) := by decide +kernel
theorem dL_law_644 : decode cL_law 644 = .ok (.aload_n 0, 1) := by decide +kernel
theorem dL_law_645 : decode cL_law 645 = .ok (.iload_n 3, 1) := by decide +kernel
theorem dL_law_646 : decode cL_law 646 = .ok (.iconst 2, 1) := by decide +kernel
theorem dL_law_647 : decode cL_law 647 = .ok (.iadd, 1) := by decide +kernel
theorem dL_law_648 : decode cL_law 648 = .ok (.iaload, 1) := by decide +kernel
theorem dL_law_649 : decode cL_law 649 = .ok (.aload_n 0, 1) := by decide +kernel
theorem dL_law_650 : decode cL_law 650 = .ok (.iload_n 3, 1) := by decide +kernel
theorem dL_law_651 : decode cL_law 651 = .ok (.iconst 3, 1) := by decide +kernel
theorem dL_law_652 : decode cL_law 652 = .ok (.iadd, 1) := by decide +kernel
theorem dL_law_653 : decode cL_law 653 = .ok (.iaload, 1) := by decide +kernel
theorem dL_law_654 : decode cL_law 654 = .ok (.ifCond .eq 7, 3) := by decide +kernel
theorem dL_law_657 : decode cL_law 657 = .ok (.iconst 1, 1) := by decide +kernel
theorem dL_law_658 : decode cL_law 658 = .ok (.goto 4, 3) := by decide +kernel
theorem dL_law_661 : decode cL_law 661 = .ok (.iconst 0, 1) := by decide +kernel
theorem dL_law_662 : decode cL_law 662 = .ok (.invokevirtual 66, 3) := by decide +kernel
theorem dL_law_665 : decode cL_law 665 = .ok (.if_icmp .eq 1102, 3) := by decide +kernel
theorem dL_law_670 : decode cL_law 670 = .ok (.aload_n 1, 1) := by decide +kernel
theorem dL_law_671 : decode cL_law 671 = .ok (.aload_n 0, 1) := by decide +kernel
theorem dL_law_672 : decode cL_law 672 = .ok (.iload_n 3, 1) := by decide +kernel
theorem dL_law_673 : decode cL_law 673 = .ok (.iconst 1, 1) := by decide +kernel
theorem dL_law_674 : decode cL_law 674 = .ok (.iadd, 1) := by decide +kernel
theorem dL_law_675 : decode cL_law 675 = .ok (.iaload, 1) := by decide +kernel
theorem dL_law_676 : decode cL_law 676 = .ok (.aload_n 0, 1) := by decide +kernel
theorem dL_law_677 : decode cL_law 677 = .ok (.iload_n 3, 1) := by decide +kernel
theorem dL_law_678 : decode cL_law 678 = .ok (.iconst 2, 1) := by decide +kernel
theorem dL_law_679 : decode cL_law 679 = .ok (.iadd, 1) := by decide +kernel
theorem dL_law_680 : decode cL_law 680 = .ok (.iaload, 1) := by decide +kernel
theorem dL_law_681 : decode cL_law 681 = .ok (.aload_n 0, 1) := by decide +kernel
theorem dL_law_682 : decode cL_law 682 = .ok (.iload_n 3, 1) := by decide +kernel
theorem dL_law_683 : decode cL_law 683 = .ok (.iconst 3, 1) := by decide +kernel
theorem dL_law_684 : decode cL_law 684 = .ok (.iadd, 1) := by decide +kernel
theorem dL_law_685 : decode cL_law 685 = .ok (.iaload, 1) := by decide +kernel
theorem dL_law_686 : decode cL_law 686 = .ok (.aload_n 0, 1) := by decide +kernel
theorem dL_law_687 : decode cL_law 687 = .ok (.iload_n 3, 1) := by decide +kernel
theorem dL_law_688 : decode cL_law 688 = .ok (.iconst 4, 1) := by decide +kernel
theorem dL_law_689 : decode cL_law 689 = .ok (.iadd, 1) := by decide +kernel
theorem dL_law_690 : decode cL_law 690 = .ok (.iaload, 1) := by decide +kernel
theorem dL_law_691 : decode cL_law 691 = .ok (.invokevirtual 67, 3) := by decide +kernel
theorem dL_law_694 : decode cL_law 694 = .ok (.aload_n 2, 1) := by decide +kernel
theorem dL_law_695 : decode cL_law 695 = .ok (.aload_n 0, 1) := by decide +kernel
theorem dL_law_696 : decode cL_law 696 = .ok (.iload_n 3, 1) := by decide +kernel
theorem dL_law_697 : decode cL_law 697 = .ok (.iconst 1, 1) := by decide +kernel
theorem dL_law_698 : decode cL_law 698 = .ok (.iadd, 1) := by decide +kernel
theorem dL_law_699 : decode cL_law 699 = .ok (.iaload, 1) := by decide +kernel
theorem dL_law_700 : decode cL_law 700 = .ok (.aload_n 0, 1) := by decide +kernel
theorem dL_law_701 : decode cL_law 701 = .ok (.iload_n 3, 1) := by decide +kernel
theorem dL_law_702 : decode cL_law 702 = .ok (.iconst 2, 1) := by decide +kernel
theorem dL_law_703 : decode cL_law 703 = .ok (.iadd, 1) := by decide +kernel
theorem dL_law_704 : decode cL_law 704 = .ok (.iaload, 1) := by decide +kernel
theorem dL_law_705 : decode cL_law 705 = .ok (.aload_n 0, 1) := by decide +kernel
theorem dL_law_706 : decode cL_law 706 = .ok (.iload_n 3, 1) := by decide +kernel
theorem dL_law_707 : decode cL_law 707 = .ok (.iconst 3, 1) := by decide +kernel
theorem dL_law_708 : decode cL_law 708 = .ok (.iadd, 1) := by decide +kernel
theorem dL_law_709 : decode cL_law 709 = .ok (.iaload, 1) := by decide +kernel
theorem dL_law_710 : decode cL_law 710 = .ok (.aload_n 0, 1) := by decide +kernel
theorem dL_law_711 : decode cL_law 711 = .ok (.iload_n 3, 1) := by decide +kernel
theorem dL_law_712 : decode cL_law 712 = .ok (.iconst 4, 1) := by decide +kernel
theorem dL_law_713 : decode cL_law 713 = .ok (.iadd, 1) := by decide +kernel
theorem dL_law_714 : decode cL_law 714 = .ok (.iaload, 1) := by decide +kernel
theorem dL_law_715 : decode cL_law 715 = .ok (.invokevirtual 70, 3) := by decide +kernel
theorem dL_law_718 : decode cL_law 718 = .ok (.if_icmp .eq 1049, 3) := by decide +kernel
theorem dL_law_723 : decode cL_law 723 = .ok (.aload_n 1, 1) := by decide +kernel
theorem dL_law_724 : decode cL_law 724 = .ok (.aload_n 0, 1) := by decide +kernel
theorem dL_law_725 : decode cL_law 725 = .ok (.iload_n 3, 1) := by decide +kernel
theorem dL_law_726 : decode cL_law 726 = .ok (.iconst 1, 1) := by decide +kernel
theorem dL_law_727 : decode cL_law 727 = .ok (.iadd, 1) := by decide +kernel
theorem dL_law_728 : decode cL_law 728 = .ok (.iaload, 1) := by decide +kernel
theorem dL_law_729 : decode cL_law 729 = .ok (.aload_n 0, 1) := by decide +kernel
theorem dL_law_730 : decode cL_law 730 = .ok (.iload_n 3, 1) := by decide +kernel
theorem dL_law_731 : decode cL_law 731 = .ok (.iconst 2, 1) := by decide +kernel
theorem dL_law_732 : decode cL_law 732 = .ok (.iadd, 1) := by decide +kernel
theorem dL_law_733 : decode cL_law 733 = .ok (.iaload, 1) := by decide +kernel
theorem dL_law_734 : decode cL_law 734 = .ok (.aload_n 0, 1) := by decide +kernel
theorem dL_law_735 : decode cL_law 735 = .ok (.iload_n 3, 1) := by decide +kernel
theorem dL_law_736 : decode cL_law 736 = .ok (.iconst 3, 1) := by decide +kernel
theorem dL_law_737 : decode cL_law 737 = .ok (.iadd, 1) := by decide +kernel
theorem dL_law_738 : decode cL_law 738 = .ok (.iaload, 1) := by decide +kernel
theorem dL_law_739 : decode cL_law 739 = .ok (.aload_n 0, 1) := by decide +kernel
theorem dL_law_740 : decode cL_law 740 = .ok (.iload_n 3, 1) := by decide +kernel
theorem dL_law_741 : decode cL_law 741 = .ok (.iconst 4, 1) := by decide +kernel
theorem dL_law_742 : decode cL_law 742 = .ok (.iadd, 1) := by decide +kernel
theorem dL_law_743 : decode cL_law 743 = .ok (.iaload, 1) := by decide +kernel
theorem dL_law_744 : decode cL_law 744 = .ok (.ifCond .eq 7, 3) := by decide +kernel
theorem dL_law_747 : decode cL_law 747 = .ok (.iconst 1, 1) := by decide +kernel
theorem dL_law_748 : decode cL_law 748 = .ok (.goto 4, 3) := by decide +kernel
theorem dL_law_751 : decode cL_law 751 = .ok (.iconst 0, 1) := by decide +kernel
theorem dL_law_752 : decode cL_law 752 = .ok (.invokevirtual 71, 3) := by decide +kernel
theorem dL_law_755 : decode cL_law 755 = .ok (.aload_n 2, 1) := by decide +kernel
theorem dL_law_756 : decode cL_law 756 = .ok (.aload_n 0, 1) := by decide +kernel
theorem dL_law_757 : decode cL_law 757 = .ok (.iload_n 3, 1) := by decide +kernel
theorem dL_law_758 : decode cL_law 758 = .ok (.iconst 1, 1) := by decide +kernel
theorem dL_law_759 : decode cL_law 759 = .ok (.iadd, 1) := by decide +kernel
theorem dL_law_760 : decode cL_law 760 = .ok (.iaload, 1) := by decide +kernel
theorem dL_law_761 : decode cL_law 761 = .ok (.aload_n 0, 1) := by decide +kernel
theorem dL_law_762 : decode cL_law 762 = .ok (.iload_n 3, 1) := by decide +kernel
theorem dL_law_763 : decode cL_law 763 = .ok (.iconst 2, 1) := by decide +kernel
theorem dL_law_764 : decode cL_law 764 = .ok (.iadd, 1) := by decide +kernel
theorem dL_law_765 : decode cL_law 765 = .ok (.iaload, 1) := by decide +kernel
theorem dL_law_766 : decode cL_law 766 = .ok (.aload_n 0, 1) := by decide +kernel
theorem dL_law_767 : decode cL_law 767 = .ok (.iload_n 3, 1) := by decide +kernel
theorem dL_law_768 : decode cL_law 768 = .ok (.iconst 3, 1) := by decide +kernel
theorem dL_law_769 : decode cL_law 769 = .ok (.iadd, 1) := by decide +kernel
theorem dL_law_770 : decode cL_law 770 = .ok (.iaload, 1) := by decide +kernel
theorem dL_law_771 : decode cL_law 771 = .ok (.aload_n 0, 1) := by decide +kernel
theorem dL_law_772 : decode cL_law 772 = .ok (.iload_n 3, 1) := by decide +kernel
theorem dL_law_773 : decode cL_law 773 = .ok (.iconst 4, 1) := by decide +kernel
theorem dL_law_774 : decode cL_law 774 = .ok (.iadd, 1) := by decide +kernel
theorem dL_law_775 : decode cL_law 775 = .ok (.iaload, 1) := by decide +kernel
theorem dL_law_776 : decode cL_law 776 = .ok (.ifCond .eq 7, 3) := by decide +kernel
theorem dL_law_779 : decode cL_law 779 = .ok (.iconst 1, 1) := by decide +kernel
theorem dL_law_780 : decode cL_law 780 = .ok (.goto 4, 3) := by decide +kernel
theorem dL_law_783 : decode cL_law 783 = .ok (.iconst 0, 1) := by decide +kernel
theorem dL_law_784 : decode cL_law 784 = .ok (.invokevirtual 75, 3) := by decide +kernel
theorem dL_law_787 : decode cL_law 787 = .ok (.if_icmp .eq 980, 3) := by decide +kernel
theorem dL_law_792 : decode cL_law 792 = .ok (.aload_n 1, 1) := by decide +kernel
theorem dL_law_793 : decode cL_law 793 = .ok (.aload_n 0, 1) := by decide +kernel
theorem dL_law_794 : decode cL_law 794 = .ok (.iload_n 3, 1) := by decide +kernel
theorem dL_law_795 : decode cL_law 795 = .ok (.iconst 1, 1) := by decide +kernel
theorem dL_law_796 : decode cL_law 796 = .ok (.iadd, 1) := by decide +kernel
theorem dL_law_797 : decode cL_law 797 = .ok (.iaload, 1) := by decide +kernel
theorem dL_law_798 : decode cL_law 798 = .ok (.aload_n 0, 1) := by decide +kernel
theorem dL_law_799 : decode cL_law 799 = .ok (.iload_n 3, 1) := by decide +kernel
theorem dL_law_800 : decode cL_law 800 = .ok (.iconst 2, 1) := by decide +kernel
theorem dL_law_801 : decode cL_law 801 = .ok (.iadd, 1) := by decide +kernel
theorem dL_law_802 : decode cL_law 802 = .ok (.iaload, 1) := by decide +kernel
theorem dL_law_803 : decode cL_law 803 = .ok (.aload_n 0, 1) := by decide +kernel
theorem dL_law_804 : decode cL_law 804 = .ok (.iload_n 3, 1) := by decide +kernel
theorem dL_law_805 : decode cL_law 805 = .ok (.iconst 3, 1) := by decide +kernel
theorem dL_law_806 : decode cL_law 806 = .ok (.iadd, 1) := by decide +kernel
theorem dL_law_807 : decode cL_law 807 = .ok (.iaload, 1) := by decide +kernel
theorem dL_law_808 : decode cL_law 808 = .ok (.ifCond .eq 7, 3) := by decide +kernel
theorem dL_law_811 : decode cL_law 811 = .ok (.iconst 1, 1) := by decide +kernel
theorem dL_law_812 : decode cL_law 812 = .ok (.goto 4, 3) := by decide +kernel
theorem dL_law_815 : decode cL_law 815 = .ok (.iconst 0, 1) := by decide +kernel
theorem dL_law_816 : decode cL_law 816 = .ok (.invokevirtual 76, 3) := by decide +kernel
theorem dL_law_819 : decode cL_law 819 = .ok (.aload_n 2, 1) := by decide +kernel
theorem dL_law_820 : decode cL_law 820 = .ok (.aload_n 0, 1) := by decide +kernel
theorem dL_law_821 : decode cL_law 821 = .ok (.iload_n 3, 1) := by decide +kernel
theorem dL_law_822 : decode cL_law 822 = .ok (.iconst 1, 1) := by decide +kernel
theorem dL_law_823 : decode cL_law 823 = .ok (.iadd, 1) := by decide +kernel
theorem dL_law_824 : decode cL_law 824 = .ok (.iaload, 1) := by decide +kernel
theorem dL_law_825 : decode cL_law 825 = .ok (.aload_n 0, 1) := by decide +kernel
theorem dL_law_826 : decode cL_law 826 = .ok (.iload_n 3, 1) := by decide +kernel
theorem dL_law_827 : decode cL_law 827 = .ok (.iconst 2, 1) := by decide +kernel
theorem dL_law_828 : decode cL_law 828 = .ok (.iadd, 1) := by decide +kernel
theorem dL_law_829 : decode cL_law 829 = .ok (.iaload, 1) := by decide +kernel
theorem dL_law_830 : decode cL_law 830 = .ok (.aload_n 0, 1) := by decide +kernel
theorem dL_law_831 : decode cL_law 831 = .ok (.iload_n 3, 1) := by decide +kernel
theorem dL_law_832 : decode cL_law 832 = .ok (.iconst 3, 1) := by decide +kernel
theorem dL_law_833 : decode cL_law 833 = .ok (.iadd, 1) := by decide +kernel
theorem dL_law_834 : decode cL_law 834 = .ok (.iaload, 1) := by decide +kernel
theorem dL_law_835 : decode cL_law 835 = .ok (.ifCond .eq 7, 3) := by decide +kernel
theorem dL_law_838 : decode cL_law 838 = .ok (.iconst 1, 1) := by decide +kernel
theorem dL_law_839 : decode cL_law 839 = .ok (.goto 4, 3) := by decide +kernel
theorem dL_law_842 : decode cL_law 842 = .ok (.iconst 0, 1) := by decide +kernel
theorem dL_law_843 : decode cL_law 843 = .ok (.invokevirtual 79, 3) := by decide +kernel
theorem dL_law_846 : decode cL_law 846 = .ok (.if_icmp .eq 921, 3) := by decide +kernel
theorem dL_law_851 : decode cL_law 851 = .ok (.aload_n 1, 1) := by decide +kernel
theorem dL_law_852 : decode cL_law 852 = .ok (.aload_n 0, 1) := by decide +kernel
theorem dL_law_853 : decode cL_law 853 = .ok (.iload_n 3, 1) := by decide +kernel
theorem dL_law_854 : decode cL_law 854 = .ok (.iconst 1, 1) := by decide +kernel
theorem dL_law_855 : decode cL_law 855 = .ok (.iadd, 1) := by decide +kernel
theorem dL_law_856 : decode cL_law 856 = .ok (.iaload, 1) := by decide +kernel
theorem dL_law_857 : decode cL_law 857 = .ok (.invokevirtual 80, 3) := by decide +kernel
theorem dL_law_860 : decode cL_law 860 = .ok (.aload_n 2, 1) := by decide +kernel
theorem dL_law_861 : decode cL_law 861 = .ok (.aload_n 0, 1) := by decide +kernel
theorem dL_law_862 : decode cL_law 862 = .ok (.iload_n 3, 1) := by decide +kernel
theorem dL_law_863 : decode cL_law 863 = .ok (.iconst 1, 1) := by decide +kernel
theorem dL_law_864 : decode cL_law 864 = .ok (.iadd, 1) := by decide +kernel
theorem dL_law_865 : decode cL_law 865 = .ok (.iaload, 1) := by decide +kernel
theorem dL_law_866 : decode cL_law 866 = .ok (.invokevirtual 83, 3) := by decide +kernel
theorem dL_law_869 : decode cL_law 869 = .ok (.if_icmp .eq 898, 3) := by decide +kernel
theorem dL_law_874 : decode cL_law 874 = .ok (.aload_n 1, 1) := by decide +kernel
theorem dL_law_875 : decode cL_law 875 = .ok (.aload_n 0, 1) := by decide +kernel
theorem dL_law_876 : decode cL_law 876 = .ok (.iload_n 3, 1) := by decide +kernel
theorem dL_law_877 : decode cL_law 877 = .ok (.iconst 1, 1) := by decide +kernel
theorem dL_law_878 : decode cL_law 878 = .ok (.iadd, 1) := by decide +kernel
theorem dL_law_879 : decode cL_law 879 = .ok (.iaload, 1) := by decide +kernel
theorem dL_law_880 : decode cL_law 880 = .ok (.aload_n 0, 1) := by decide +kernel
theorem dL_law_881 : decode cL_law 881 = .ok (.iload_n 3, 1) := by decide +kernel
theorem dL_law_882 : decode cL_law 882 = .ok (.iconst 2, 1) := by decide +kernel
theorem dL_law_883 : decode cL_law 883 = .ok (.iadd, 1) := by decide +kernel
theorem dL_law_884 : decode cL_law 884 = .ok (.iaload, 1) := by decide +kernel
theorem dL_law_885 : decode cL_law 885 = .ok (.aload_n 0, 1) := by decide +kernel
theorem dL_law_886 : decode cL_law 886 = .ok (.iload_n 3, 1) := by decide +kernel
theorem dL_law_887 : decode cL_law 887 = .ok (.iconst 3, 1) := by decide +kernel
theorem dL_law_888 : decode cL_law 888 = .ok (.iadd, 1) := by decide +kernel
theorem dL_law_889 : decode cL_law 889 = .ok (.iaload, 1) := by decide +kernel
theorem dL_law_890 : decode cL_law 890 = .ok (.aload_n 0, 1) := by decide +kernel
theorem dL_law_891 : decode cL_law 891 = .ok (.iload_n 3, 1) := by decide +kernel
theorem dL_law_892 : decode cL_law 892 = .ok (.iconst 4, 1) := by decide +kernel
theorem dL_law_893 : decode cL_law 893 = .ok (.iadd, 1) := by decide +kernel
theorem dL_law_894 : decode cL_law 894 = .ok (.iaload, 1) := by decide +kernel
theorem dL_law_895 : decode cL_law 895 = .ok (.ifCond .eq 7, 3) := by decide +kernel
theorem dL_law_898 : decode cL_law 898 = .ok (.iconst 1, 1) := by decide +kernel
theorem dL_law_899 : decode cL_law 899 = .ok (.goto 4, 3) := by decide +kernel
theorem dL_law_902 : decode cL_law 902 = .ok (.iconst 0, 1) := by decide +kernel
theorem dL_law_903 : decode cL_law 903 = .ok (.invokevirtual 84, 3) := by decide +kernel
theorem dL_law_906 : decode cL_law 906 = .ok (.aload_n 2, 1) := by decide +kernel
theorem dL_law_907 : decode cL_law 907 = .ok (.aload_n 0, 1) := by decide +kernel
theorem dL_law_908 : decode cL_law 908 = .ok (.iload_n 3, 1) := by decide +kernel
theorem dL_law_909 : decode cL_law 909 = .ok (.iconst 1, 1) := by decide +kernel
theorem dL_law_910 : decode cL_law 910 = .ok (.iadd, 1) := by decide +kernel
theorem dL_law_911 : decode cL_law 911 = .ok (.iaload, 1) := by decide +kernel
theorem dL_law_912 : decode cL_law 912 = .ok (.aload_n 0, 1) := by decide +kernel
theorem dL_law_913 : decode cL_law 913 = .ok (.iload_n 3, 1) := by decide +kernel
theorem dL_law_914 : decode cL_law 914 = .ok (.iconst 2, 1) := by decide +kernel
theorem dL_law_915 : decode cL_law 915 = .ok (.iadd, 1) := by decide +kernel
theorem dL_law_916 : decode cL_law 916 = .ok (.iaload, 1) := by decide +kernel
theorem dL_law_917 : decode cL_law 917 = .ok (.aload_n 0, 1) := by decide +kernel
theorem dL_law_918 : decode cL_law 918 = .ok (.iload_n 3, 1) := by decide +kernel
theorem dL_law_919 : decode cL_law 919 = .ok (.iconst 3, 1) := by decide +kernel
theorem dL_law_920 : decode cL_law 920 = .ok (.iadd, 1) := by decide +kernel
theorem dL_law_921 : decode cL_law 921 = .ok (.iaload, 1) := by decide +kernel
theorem dL_law_922 : decode cL_law 922 = .ok (.aload_n 0, 1) := by decide +kernel
theorem dL_law_923 : decode cL_law 923 = .ok (.iload_n 3, 1) := by decide +kernel
theorem dL_law_924 : decode cL_law 924 = .ok (.iconst 4, 1) := by decide +kernel
theorem dL_law_925 : decode cL_law 925 = .ok (.iadd, 1) := by decide +kernel
theorem dL_law_926 : decode cL_law 926 = .ok (.iaload, 1) := by decide +kernel
theorem dL_law_927 : decode cL_law 927 = .ok (.ifCond .eq 7, 3) := by decide +kernel
theorem dL_law_930 : decode cL_law 930 = .ok (.iconst 1, 1) := by decide +kernel
theorem dL_law_931 : decode cL_law 931 = .ok (.goto 4, 3) := by decide +kernel
theorem dL_law_934 : decode cL_law 934 = .ok (.iconst 0, 1) := by decide +kernel
theorem dL_law_935 : decode cL_law 935 = .ok (.invokevirtual 87, 3) := by decide +kernel
theorem dL_law_938 : decode cL_law 938 = .ok (.if_icmp .eq 829, 3) := by decide +kernel
theorem dL_law_943 : decode cL_law 943 = .ok (.aload_n 1, 1) := by decide +kernel
theorem dL_law_944 : decode cL_law 944 = .ok (.aload_n 0, 1) := by decide +kernel
theorem dL_law_945 : decode cL_law 945 = .ok (.iload_n 3, 1) := by decide +kernel
theorem dL_law_946 : decode cL_law 946 = .ok (.iconst 1, 1) := by decide +kernel
theorem dL_law_947 : decode cL_law 947 = .ok (.iadd, 1) := by decide +kernel
theorem dL_law_948 : decode cL_law 948 = .ok (.iaload, 1) := by decide +kernel
theorem dL_law_949 : decode cL_law 949 = .ok (.aload_n 0, 1) := by decide +kernel
theorem dL_law_950 : decode cL_law 950 = .ok (.iload_n 3, 1) := by decide +kernel
theorem dL_law_951 : decode cL_law 951 = .ok (.iconst 2, 1) := by decide +kernel
theorem dL_law_952 : decode cL_law 952 = .ok (.iadd, 1) := by decide +kernel
theorem dL_law_953 : decode cL_law 953 = .ok (.iaload, 1) := by decide +kernel
theorem dL_law_954 : decode cL_law 954 = .ok (.aload_n 0, 1) := by decide +kernel
theorem dL_law_955 : decode cL_law 955 = .ok (.iload_n 3, 1) := by decide +kernel
theorem dL_law_956 : decode cL_law 956 = .ok (.iconst 3, 1) := by decide +kernel
theorem dL_law_957 : decode cL_law 957 = .ok (.iadd, 1) := by decide +kernel
theorem dL_law_958 : decode cL_law 958 = .ok (.iaload, 1) := by decide +kernel
theorem dL_law_959 : decode cL_law 959 = .ok (.invokevirtual 88, 3) := by decide +kernel
theorem dL_law_962 : decode cL_law 962 = .ok (.aload_n 2, 1) := by decide +kernel
theorem dL_law_963 : decode cL_law 963 = .ok (.aload_n 0, 1) := by decide +kernel
theorem dL_law_964 : decode cL_law 964 = .ok (.iload_n 3, 1) := by decide +kernel
theorem dL_law_965 : decode cL_law 965 = .ok (.iconst 1, 1) := by decide +kernel
theorem dL_law_966 : decode cL_law 966 = .ok (.iadd, 1) := by decide +kernel
theorem dL_law_967 : decode cL_law 967 = .ok (.iaload, 1) := by decide +kernel
theorem dL_law_968 : decode cL_law 968 = .ok (.aload_n 0, 1) := by decide +kernel
theorem dL_law_969 : decode cL_law 969 = .ok (.iload_n 3, 1) := by decide +kernel
theorem dL_law_970 : decode cL_law 970 = .ok (.iconst 2, 1) := by decide +kernel
theorem dL_law_971 : decode cL_law 971 = .ok (.iadd, 1) := by decide +kernel
theorem dL_law_972 : decode cL_law 972 = .ok (.iaload, 1) := by decide +kernel
theorem dL_law_973 : decode cL_law 973 = .ok (.aload_n 0, 1) := by decide +kernel
theorem dL_law_974 : decode cL_law 974 = .ok (.iload_n 3, 1) := by decide +kernel
theorem dL_law_975 : decode cL_law 975 = .ok (.iconst 3, 1) := by decide +kernel
theorem dL_law_976 : decode cL_law 976 = .ok (.iadd, 1) := by decide +kernel
theorem dL_law_977 : decode cL_law 977 = .ok (.iaload, 1) := by decide +kernel
theorem dL_law_978 : decode cL_law 978 = .ok (.invokevirtual 91, 3) := by decide +kernel
theorem dL_law_981 : decode cL_law 981 = .ok (.if_icmp .eq 786, 3) := by decide +kernel
theorem dL_law_986 : decode cL_law 986 = .ok (.aload_n 1, 1) := by decide +kernel
theorem dL_law_987 : decode cL_law 987 = .ok (.aload_n 0, 1) := by decide +kernel
theorem dL_law_988 : decode cL_law 988 = .ok (.iload_n 3, 1) := by decide +kernel
theorem dL_law_989 : decode cL_law 989 = .ok (.iconst 1, 1) := by decide +kernel
theorem dL_law_990 : decode cL_law 990 = .ok (.iadd, 1) := by decide +kernel
theorem dL_law_991 : decode cL_law 991 = .ok (.iaload, 1) := by decide +kernel
theorem dL_law_992 : decode cL_law 992 = .ok (.aload_n 0, 1) := by decide +kernel
theorem dL_law_993 : decode cL_law 993 = .ok (.iload_n 3, 1) := by decide +kernel
theorem dL_law_994 : decode cL_law 994 = .ok (.iconst 2, 1) := by decide +kernel
theorem dL_law_995 : decode cL_law 995 = .ok (.iadd, 1) := by decide +kernel
theorem dL_law_996 : decode cL_law 996 = .ok (.iaload, 1) := by decide +kernel
theorem dL_law_997 : decode cL_law 997 = .ok (.aload_n 0, 1) := by decide +kernel
theorem dL_law_998 : decode cL_law 998 = .ok (.iload_n 3, 1) := by decide +kernel
theorem dL_law_999 : decode cL_law 999 = .ok (.iconst 3, 1) := by decide +kernel
theorem dL_law_1000 : decode cL_law 1000 = .ok (.iadd, 1) := by decide +kernel
theorem dL_law_1001 : decode cL_law 1001 = .ok (.iaload, 1) := by decide +kernel
theorem dL_law_1002 : decode cL_law 1002 = .ok (.invokevirtual 92, 3) := by decide +kernel
theorem dL_law_1005 : decode cL_law 1005 = .ok (.aload_n 2, 1) := by decide +kernel
theorem dL_law_1006 : decode cL_law 1006 = .ok (.aload_n 0, 1) := by decide +kernel
theorem dL_law_1007 : decode cL_law 1007 = .ok (.iload_n 3, 1) := by decide +kernel
theorem dL_law_1008 : decode cL_law 1008 = .ok (.iconst 1, 1) := by decide +kernel
theorem dL_law_1009 : decode cL_law 1009 = .ok (.iadd, 1) := by decide +kernel
theorem dL_law_1010 : decode cL_law 1010 = .ok (.iaload, 1) := by decide +kernel
theorem dL_law_1011 : decode cL_law 1011 = .ok (.aload_n 0, 1) := by decide +kernel
theorem dL_law_1012 : decode cL_law 1012 = .ok (.iload_n 3, 1) := by decide +kernel
theorem dL_law_1013 : decode cL_law 1013 = .ok (.iconst 2, 1) := by decide +kernel
theorem dL_law_1014 : decode cL_law 1014 = .ok (.iadd, 1) := by decide +kernel
theorem dL_law_1015 : decode cL_law 1015 = .ok (.iaload, 1) := by decide +kernel
theorem dL_law_1016 : decode cL_law 1016 = .ok (.aload_n 0, 1) := by decide +kernel
theorem dL_law_1017 : decode cL_law 1017 = .ok (.iload_n 3, 1) := by decide +kernel
theorem dL_law_1018 : decode cL_law 1018 = .ok (.iconst 3, 1) := by decide +kernel
theorem dL_law_1019 : decode cL_law 1019 = .ok (.iadd, 1) := by decide +kernel
theorem dL_law_1020 : decode cL_law 1020 = .ok (.iaload, 1) := by decide +kernel
theorem dL_law_1021 : decode cL_law 1021 = .ok (.invokevirtual 95, 3) := by decide +kernel
theorem dL_law_1024 : decode cL_law 1024 = .ok (.if_icmp .eq 743, 3) := by decide +kernel
theorem dL_law_1029 : decode cL_law 1029 = .ok (.aload_n 1, 1) := by decide +kernel
theorem dL_law_1030 : decode cL_law 1030 = .ok (.aload_n 0, 1) := by decide +kernel
theorem dL_law_1031 : decode cL_law 1031 = .ok (.iload_n 3, 1) := by decide +kernel
theorem dL_law_1032 : decode cL_law 1032 = .ok (.iconst 1, 1) := by decide +kernel
theorem dL_law_1033 : decode cL_law 1033 = .ok (.iadd, 1) := by decide +kernel
theorem dL_law_1034 : decode cL_law 1034 = .ok (.iaload, 1) := by decide +kernel
theorem dL_law_1035 : decode cL_law 1035 = .ok (.aload_n 0, 1) := by decide +kernel
theorem dL_law_1036 : decode cL_law 1036 = .ok (.iload_n 3, 1) := by decide +kernel
theorem dL_law_1037 : decode cL_law 1037 = .ok (.iconst 2, 1) := by decide +kernel
theorem dL_law_1038 : decode cL_law 1038 = .ok (.iadd, 1) := by decide +kernel
theorem dL_law_1039 : decode cL_law 1039 = .ok (.iaload, 1) := by decide +kernel
theorem dL_law_1040 : decode cL_law 1040 = .ok (.aload_n 0, 1) := by decide +kernel
theorem dL_law_1041 : decode cL_law 1041 = .ok (.iload_n 3, 1) := by decide +kernel
theorem dL_law_1042 : decode cL_law 1042 = .ok (.iconst 3, 1) := by decide +kernel
theorem dL_law_1043 : decode cL_law 1043 = .ok (.iadd, 1) := by decide +kernel
theorem dL_law_1044 : decode cL_law 1044 = .ok (.iaload, 1) := by decide +kernel
theorem dL_law_1045 : decode cL_law 1045 = .ok (.aload_n 0, 1) := by decide +kernel
theorem dL_law_1046 : decode cL_law 1046 = .ok (.iload_n 3, 1) := by decide +kernel
theorem dL_law_1047 : decode cL_law 1047 = .ok (.iconst 4, 1) := by decide +kernel
theorem dL_law_1048 : decode cL_law 1048 = .ok (.iadd, 1) := by decide +kernel
theorem dL_law_1049 : decode cL_law 1049 = .ok (.iaload, 1) := by decide +kernel
theorem dL_law_1050 : decode cL_law 1050 = .ok (.invokevirtual 96, 3) := by decide +kernel
theorem dL_law_1053 : decode cL_law 1053 = .ok (.aload_n 2, 1) := by decide +kernel
theorem dL_law_1054 : decode cL_law 1054 = .ok (.aload_n 0, 1) := by decide +kernel
theorem dL_law_1055 : decode cL_law 1055 = .ok (.iload_n 3, 1) := by decide +kernel
theorem dL_law_1056 : decode cL_law 1056 = .ok (.iconst 1, 1) := by decide +kernel
theorem dL_law_1057 : decode cL_law 1057 = .ok (.iadd, 1) := by decide +kernel
theorem dL_law_1058 : decode cL_law 1058 = .ok (.iaload, 1) := by decide +kernel
theorem dL_law_1059 : decode cL_law 1059 = .ok (.aload_n 0, 1) := by decide +kernel
theorem dL_law_1060 : decode cL_law 1060 = .ok (.iload_n 3, 1) := by decide +kernel
theorem dL_law_1061 : decode cL_law 1061 = .ok (.iconst 2, 1) := by decide +kernel
theorem dL_law_1062 : decode cL_law 1062 = .ok (.iadd, 1) := by decide +kernel
theorem dL_law_1063 : decode cL_law 1063 = .ok (.iaload, 1) := by decide +kernel
theorem dL_law_1064 : decode cL_law 1064 = .ok (.aload_n 0, 1) := by decide +kernel
theorem dL_law_1065 : decode cL_law 1065 = .ok (.iload_n 3, 1) := by decide +kernel
theorem dL_law_1066 : decode cL_law 1066 = .ok (.iconst 3, 1) := by decide +kernel
theorem dL_law_1067 : decode cL_law 1067 = .ok (.iadd, 1) := by decide +kernel
theorem dL_law_1068 : decode cL_law 1068 = .ok (.iaload, 1) := by decide +kernel
theorem dL_law_1069 : decode cL_law 1069 = .ok (.aload_n 0, 1) := by decide +kernel
theorem dL_law_1070 : decode cL_law 1070 = .ok (.iload_n 3, 1) := by decide +kernel
theorem dL_law_1071 : decode cL_law 1071 = .ok (.iconst 4, 1) := by decide +kernel
theorem dL_law_1072 : decode cL_law 1072 = .ok (.iadd, 1) := by decide +kernel
theorem dL_law_1073 : decode cL_law 1073 = .ok (.iaload, 1) := by decide +kernel
theorem dL_law_1074 : decode cL_law 1074 = .ok (.invokevirtual 99, 3) := by decide +kernel
theorem dL_law_1077 : decode cL_law 1077 = .ok (.if_icmp .eq 690, 3) := by decide +kernel
theorem dL_law_1082 : decode cL_law 1082 = .ok (.aload_n 1, 1) := by decide +kernel
theorem dL_law_1083 : decode cL_law 1083 = .ok (.aload_n 0, 1) := by decide +kernel
theorem dL_law_1084 : decode cL_law 1084 = .ok (.iload_n 3, 1) := by decide +kernel
theorem dL_law_1085 : decode cL_law 1085 = .ok (.iconst 1, 1) := by decide +kernel
theorem dL_law_1086 : decode cL_law 1086 = .ok (.iadd, 1) := by decide +kernel
theorem dL_law_1087 : decode cL_law 1087 = .ok (.iaload, 1) := by decide +kernel
theorem dL_law_1088 : decode cL_law 1088 = .ok (.aload_n 0, 1) := by decide +kernel
theorem dL_law_1089 : decode cL_law 1089 = .ok (.iload_n 3, 1) := by decide +kernel
theorem dL_law_1090 : decode cL_law 1090 = .ok (.iconst 2, 1) := by decide +kernel
theorem dL_law_1091 : decode cL_law 1091 = .ok (.iadd, 1) := by decide +kernel
theorem dL_law_1092 : decode cL_law 1092 = .ok (.iaload, 1) := by decide +kernel
theorem dL_law_1093 : decode cL_law 1093 = .ok (.aload_n 0, 1) := by decide +kernel
theorem dL_law_1094 : decode cL_law 1094 = .ok (.iload_n 3, 1) := by decide +kernel
theorem dL_law_1095 : decode cL_law 1095 = .ok (.iconst 3, 1) := by decide +kernel
theorem dL_law_1096 : decode cL_law 1096 = .ok (.iadd, 1) := by decide +kernel
theorem dL_law_1097 : decode cL_law 1097 = .ok (.iaload, 1) := by decide +kernel
theorem dL_law_1098 : decode cL_law 1098 = .ok (.invokevirtual 100, 3) := by decide +kernel
theorem dL_law_1101 : decode cL_law 1101 = .ok (.aload_n 2, 1) := by decide +kernel
theorem dL_law_1102 : decode cL_law 1102 = .ok (.aload_n 0, 1) := by decide +kernel
theorem dL_law_1103 : decode cL_law 1103 = .ok (.iload_n 3, 1) := by decide +kernel
theorem dL_law_1104 : decode cL_law 1104 = .ok (.iconst 1, 1) := by decide +kernel
theorem dL_law_1105 : decode cL_law 1105 = .ok (.iadd, 1) := by decide +kernel
theorem dL_law_1106 : decode cL_law 1106 = .ok (.iaload, 1) := by decide +kernel
theorem dL_law_1107 : decode cL_law 1107 = .ok (.aload_n 0, 1) := by decide +kernel
theorem dL_law_1108 : decode cL_law 1108 = .ok (.iload_n 3, 1) := by decide +kernel
theorem dL_law_1109 : decode cL_law 1109 = .ok (.iconst 2, 1) := by decide +kernel
theorem dL_law_1110 : decode cL_law 1110 = .ok (.iadd, 1) := by decide +kernel
theorem dL_law_1111 : decode cL_law 1111 = .ok (.iaload, 1) := by decide +kernel
theorem dL_law_1112 : decode cL_law 1112 = .ok (.aload_n 0, 1) := by decide +kernel
theorem dL_law_1113 : decode cL_law 1113 = .ok (.iload_n 3, 1) := by decide +kernel
theorem dL_law_1114 : decode cL_law 1114 = .ok (.iconst 3, 1) := by decide +kernel
theorem dL_law_1115 : decode cL_law 1115 = .ok (.iadd, 1) := by decide +kernel
theorem dL_law_1116 : decode cL_law 1116 = .ok (.iaload, 1) := by decide +kernel
theorem dL_law_1117 : decode cL_law 1117 = .ok (.invokevirtual 103, 3) := by decide +kernel
theorem dL_law_1120 : decode cL_law 1120 = .ok (.if_icmp .eq 647, 3) := by decide +kernel
theorem dL_law_1125 : decode cL_law 1125 = .ok (.aload_n 1, 1) := by decide +kernel
theorem dL_law_1126 : decode cL_law 1126 = .ok (.aload_n 0, 1) := by decide +kernel
theorem dL_law_1127 : decode cL_law 1127 = .ok (.iload_n 3, 1) := by decide +kernel
theorem dL_law_1128 : decode cL_law 1128 = .ok (.iconst 1, 1) := by decide +kernel
theorem dL_law_1129 : decode cL_law 1129 = .ok (.iadd, 1) := by decide +kernel
theorem dL_law_1130 : decode cL_law 1130 = .ok (.iaload, 1) := by decide +kernel
theorem dL_law_1131 : decode cL_law 1131 = .ok (.aload_n 0, 1) := by decide +kernel
theorem dL_law_1132 : decode cL_law 1132 = .ok (.iload_n 3, 1) := by decide +kernel
theorem dL_law_1133 : decode cL_law 1133 = .ok (.iconst 2, 1) := by decide +kernel
theorem dL_law_1134 : decode cL_law 1134 = .ok (.iadd, 1) := by decide +kernel
theorem dL_law_1135 : decode cL_law 1135 = .ok (.iaload, 1) := by decide +kernel
theorem dL_law_1136 : decode cL_law 1136 = .ok (.aload_n 0, 1) := by decide +kernel
theorem dL_law_1137 : decode cL_law 1137 = .ok (.iload_n 3, 1) := by decide +kernel
theorem dL_law_1138 : decode cL_law 1138 = .ok (.iconst 3, 1) := by decide +kernel
theorem dL_law_1139 : decode cL_law 1139 = .ok (.iadd, 1) := by decide +kernel
theorem dL_law_1140 : decode cL_law 1140 = .ok (.iaload, 1) := by decide +kernel
theorem dL_law_1141 : decode cL_law 1141 = .ok (.invokevirtual 104, 3) := by decide +kernel
theorem dL_law_1144 : decode cL_law 1144 = .ok (.aload_n 2, 1) := by decide +kernel
theorem dL_law_1145 : decode cL_law 1145 = .ok (.aload_n 0, 1) := by decide +kernel
theorem dL_law_1146 : decode cL_law 1146 = .ok (.iload_n 3, 1) := by decide +kernel
theorem dL_law_1147 : decode cL_law 1147 = .ok (.iconst 1, 1) := by decide +kernel
theorem dL_law_1148 : decode cL_law 1148 = .ok (.iadd, 1) := by decide +kernel
theorem dL_law_1149 : decode cL_law 1149 = .ok (.iaload, 1) := by decide +kernel
theorem dL_law_1150 : decode cL_law 1150 = .ok (.aload_n 0, 1) := by decide +kernel
theorem dL_law_1151 : decode cL_law 1151 = .ok (.iload_n 3, 1) := by decide +kernel
theorem dL_law_1152 : decode cL_law 1152 = .ok (.iconst 2, 1) := by decide +kernel
theorem dL_law_1153 : decode cL_law 1153 = .ok (.iadd, 1) := by decide +kernel
theorem dL_law_1154 : decode cL_law 1154 = .ok (.iaload, 1) := by decide +kernel
theorem dL_law_1155 : decode cL_law 1155 = .ok (.aload_n 0, 1) := by decide +kernel
theorem dL_law_1156 : decode cL_law 1156 = .ok (.iload_n 3, 1) := by decide +kernel
theorem dL_law_1157 : decode cL_law 1157 = .ok (.iconst 3, 1) := by decide +kernel
theorem dL_law_1158 : decode cL_law 1158 = .ok (.iadd, 1) := by decide +kernel
theorem dL_law_1159 : decode cL_law 1159 = .ok (.iaload, 1) := by decide +kernel
theorem dL_law_1160 : decode cL_law 1160 = .ok (.invokevirtual 107, 3) := by decide +kernel
theorem dL_law_1163 : decode cL_law 1163 = .ok (.if_icmp .eq 604, 3) := by decide +kernel
theorem dL_law_1168 : decode cL_law 1168 = .ok (.aload_n 1, 1) := by decide +kernel
theorem dL_law_1169 : decode cL_law 1169 = .ok (.aload_n 0, 1) := by decide +kernel
theorem dL_law_1170 : decode cL_law 1170 = .ok (.iload_n 3, 1) := by decide +kernel
theorem dL_law_1171 : decode cL_law 1171 = .ok (.iconst 1, 1) := by decide +kernel
theorem dL_law_1172 : decode cL_law 1172 = .ok (.iadd, 1) := by decide +kernel
theorem dL_law_1173 : decode cL_law 1173 = .ok (.iaload, 1) := by decide +kernel
theorem dL_law_1174 : decode cL_law 1174 = .ok (.aload_n 0, 1) := by decide +kernel
theorem dL_law_1175 : decode cL_law 1175 = .ok (.iload_n 3, 1) := by decide +kernel
theorem dL_law_1176 : decode cL_law 1176 = .ok (.iconst 2, 1) := by decide +kernel
theorem dL_law_1177 : decode cL_law 1177 = .ok (.iadd, 1) := by decide +kernel
theorem dL_law_1178 : decode cL_law 1178 = .ok (.iaload, 1) := by decide +kernel
theorem dL_law_1179 : decode cL_law 1179 = .ok (.invokevirtual 108, 3) := by decide +kernel
theorem dL_law_1182 : decode cL_law 1182 = .ok (.aload_n 2, 1) := by decide +kernel
theorem dL_law_1183 : decode cL_law 1183 = .ok (.aload_n 0, 1) := by decide +kernel
theorem dL_law_1184 : decode cL_law 1184 = .ok (.iload_n 3, 1) := by decide +kernel
theorem dL_law_1185 : decode cL_law 1185 = .ok (.iconst 1, 1) := by decide +kernel
theorem dL_law_1186 : decode cL_law 1186 = .ok (.iadd, 1) := by decide +kernel
theorem dL_law_1187 : decode cL_law 1187 = .ok (.iaload, 1) := by decide +kernel
theorem dL_law_1188 : decode cL_law 1188 = .ok (.aload_n 0, 1) := by decide +kernel
theorem dL_law_1189 : decode cL_law 1189 = .ok (.iload_n 3, 1) := by decide +kernel
theorem dL_law_1190 : decode cL_law 1190 = .ok (.iconst 2, 1) := by decide +kernel
theorem dL_law_1191 : decode cL_law 1191 = .ok (.iadd, 1) := by decide +kernel
theorem dL_law_1192 : decode cL_law 1192 = .ok (.iaload, 1) := by decide +kernel
theorem dL_law_1193 : decode cL_law 1193 = .ok (.invokevirtual 111, 3) := by decide +kernel
theorem dL_law_1196 : decode cL_law 1196 = .ok (.if_icmp .eq 571, 3) := by decide +kernel
theorem dL_law_1201 : decode cL_law 1201 = .ok (.aload_n 1, 1) := by decide +kernel
theorem dL_law_1202 : decode cL_law 1202 = .ok (.aload_n 0, 1) := by decide +kernel
theorem dL_law_1203 : decode cL_law 1203 = .ok (.iload_n 3, 1) := by decide +kernel
theorem dL_law_1204 : decode cL_law 1204 = .ok (.iconst 1, 1) := by decide +kernel
theorem dL_law_1205 : decode cL_law 1205 = .ok (.iadd, 1) := by decide +kernel
theorem dL_law_1206 : decode cL_law 1206 = .ok (.iaload, 1) := by decide +kernel
theorem dL_law_1207 : decode cL_law 1207 = .ok (.aload_n 0, 1) := by decide +kernel
theorem dL_law_1208 : decode cL_law 1208 = .ok (.iload_n 3, 1) := by decide +kernel
theorem dL_law_1209 : decode cL_law 1209 = .ok (.iconst 2, 1) := by decide +kernel
theorem dL_law_1210 : decode cL_law 1210 = .ok (.iadd, 1) := by decide +kernel
theorem dL_law_1211 : decode cL_law 1211 = .ok (.iaload, 1) := by decide +kernel
theorem dL_law_1212 : decode cL_law 1212 = .ok (.aload_n 0, 1) := by decide +kernel
theorem dL_law_1213 : decode cL_law 1213 = .ok (.iload_n 3, 1) := by decide +kernel
theorem dL_law_1214 : decode cL_law 1214 = .ok (.iconst 3, 1) := by decide +kernel
theorem dL_law_1215 : decode cL_law 1215 = .ok (.iadd, 1) := by decide +kernel
theorem dL_law_1216 : decode cL_law 1216 = .ok (.iaload, 1) := by decide +kernel
theorem dL_law_1217 : decode cL_law 1217 = .ok (.invokevirtual 112, 3) := by decide +kernel
theorem dL_law_1220 : decode cL_law 1220 = .ok (.aload_n 2, 1) := by decide +kernel
theorem dL_law_1221 : decode cL_law 1221 = .ok (.aload_n 0, 1) := by decide +kernel
theorem dL_law_1222 : decode cL_law 1222 = .ok (.iload_n 3, 1) := by decide +kernel
theorem dL_law_1223 : decode cL_law 1223 = .ok (.iconst 1, 1) := by decide +kernel
theorem dL_law_1224 : decode cL_law 1224 = .ok (.iadd, 1) := by decide +kernel
theorem dL_law_1225 : decode cL_law 1225 = .ok (.iaload, 1) := by decide +kernel
theorem dL_law_1226 : decode cL_law 1226 = .ok (.aload_n 0, 1) := by decide +kernel
theorem dL_law_1227 : decode cL_law 1227 = .ok (.iload_n 3, 1) := by decide +kernel
theorem dL_law_1228 : decode cL_law 1228 = .ok (.iconst 2, 1) := by decide +kernel
theorem dL_law_1229 : decode cL_law 1229 = .ok (.iadd, 1) := by decide +kernel
theorem dL_law_1230 : decode cL_law 1230 = .ok (.iaload, 1) := by decide +kernel
theorem dL_law_1231 : decode cL_law 1231 = .ok (.aload_n 0, 1) := by decide +kernel
theorem dL_law_1232 : decode cL_law 1232 = .ok (.iload_n 3, 1) := by decide +kernel
theorem dL_law_1233 : decode cL_law 1233 = .ok (.iconst 3, 1) := by decide +kernel
theorem dL_law_1234 : decode cL_law 1234 = .ok (.iadd, 1) := by decide +kernel
theorem dL_law_1235 : decode cL_law 1235 = .ok (.iaload, 1) := by decide +kernel
theorem dL_law_1236 : decode cL_law 1236 = .ok (.invokevirtual 115, 3) := by decide +kernel
theorem dL_law_1239 : decode cL_law 1239 = .ok (.if_icmp .eq 528, 3) := by decide +kernel
theorem dL_law_1244 : decode cL_law 1244 = .ok (.aload_n 1, 1) := by decide +kernel
theorem dL_law_1245 : decode cL_law 1245 = .ok (.aload_n 0, 1) := by decide +kernel
theorem dL_law_1246 : decode cL_law 1246 = .ok (.iload_n 3, 1) := by decide +kernel
theorem dL_law_1247 : decode cL_law 1247 = .ok (.iconst 1, 1) := by decide +kernel
theorem dL_law_1248 : decode cL_law 1248 = .ok (.iadd, 1) := by decide +kernel
theorem dL_law_1249 : decode cL_law 1249 = .ok (.iaload, 1) := by decide +kernel
theorem dL_law_1250 : decode cL_law 1250 = .ok (.aload_n 0, 1) := by decide +kernel
theorem dL_law_1251 : decode cL_law 1251 = .ok (.iload_n 3, 1) := by decide +kernel
theorem dL_law_1252 : decode cL_law 1252 = .ok (.iconst 2, 1) := by decide +kernel
theorem dL_law_1253 : decode cL_law 1253 = .ok (.iadd, 1) := by decide +kernel
theorem dL_law_1254 : decode cL_law 1254 = .ok (.iaload, 1) := by decide +kernel
theorem dL_law_1255 : decode cL_law 1255 = .ok (.aload_n 0, 1) := by decide +kernel
theorem dL_law_1256 : decode cL_law 1256 = .ok (.iload_n 3, 1) := by decide +kernel
theorem dL_law_1257 : decode cL_law 1257 = .ok (.iconst 3, 1) := by decide +kernel
theorem dL_law_1258 : decode cL_law 1258 = .ok (.iadd, 1) := by decide +kernel
theorem dL_law_1259 : decode cL_law 1259 = .ok (.iaload, 1) := by decide +kernel
theorem dL_law_1260 : decode cL_law 1260 = .ok (.invokevirtual 116, 3) := by decide +kernel
theorem dL_law_1263 : decode cL_law 1263 = .ok (.aload_n 2, 1) := by decide +kernel
theorem dL_law_1264 : decode cL_law 1264 = .ok (.aload_n 0, 1) := by decide +kernel
theorem dL_law_1265 : decode cL_law 1265 = .ok (.iload_n 3, 1) := by decide +kernel
theorem dL_law_1266 : decode cL_law 1266 = .ok (.iconst 1, 1) := by decide +kernel
theorem dL_law_1267 : decode cL_law 1267 = .ok (.iadd, 1) := by decide +kernel
theorem dL_law_1268 : decode cL_law 1268 = .ok (.iaload, 1) := by decide +kernel
theorem dL_law_1269 : decode cL_law 1269 = .ok (.aload_n 0, 1) := by decide +kernel
theorem dL_law_1270 : decode cL_law 1270 = .ok (.iload_n 3, 1) := by decide +kernel
theorem dL_law_1271 : decode cL_law 1271 = .ok (.iconst 2, 1) := by decide +kernel
theorem dL_law_1272 : decode cL_law 1272 = .ok (.iadd, 1) := by decide +kernel
theorem dL_law_1273 : decode cL_law 1273 = .ok (.iaload, 1) := by decide +kernel
theorem dL_law_1274 : decode cL_law 1274 = .ok (.aload_n 0, 1) := by decide +kernel
theorem dL_law_1275 : decode cL_law 1275 = .ok (.iload_n 3, 1) := by decide +kernel
theorem dL_law_1276 : decode cL_law 1276 = .ok (.iconst 3, 1) := by decide +kernel
theorem dL_law_1277 : decode cL_law 1277 = .ok (.iadd, 1) := by decide +kernel
theorem dL_law_1278 : decode cL_law 1278 = .ok (.iaload, 1) := by decide +kernel
theorem dL_law_1279 : decode cL_law 1279 = .ok (.invokevirtual 119, 3) := by decide +kernel
theorem dL_law_1282 : decode cL_law 1282 = .ok (.if_icmp .eq 485, 3) := by decide +kernel
theorem dL_law_1287 : decode cL_law 1287 = .ok (.aload_n 1, 1) := by decide +kernel
theorem dL_law_1288 : decode cL_law 1288 = .ok (.aload_n 0, 1) := by decide +kernel
theorem dL_law_1289 : decode cL_law 1289 = .ok (.iload_n 3, 1) := by decide +kernel
theorem dL_law_1290 : decode cL_law 1290 = .ok (.iconst 1, 1) := by decide +kernel
theorem dL_law_1291 : decode cL_law 1291 = .ok (.iadd, 1) := by decide +kernel
theorem dL_law_1292 : decode cL_law 1292 = .ok (.iaload, 1) := by decide +kernel
theorem dL_law_1293 : decode cL_law 1293 = .ok (.aload_n 0, 1) := by decide +kernel
theorem dL_law_1294 : decode cL_law 1294 = .ok (.iload_n 3, 1) := by decide +kernel
theorem dL_law_1295 : decode cL_law 1295 = .ok (.iconst 2, 1) := by decide +kernel
theorem dL_law_1296 : decode cL_law 1296 = .ok (.iadd, 1) := by decide +kernel
theorem dL_law_1297 : decode cL_law 1297 = .ok (.iaload, 1) := by decide +kernel
theorem dL_law_1298 : decode cL_law 1298 = .ok (.aload_n 0, 1) := by decide +kernel
theorem dL_law_1299 : decode cL_law 1299 = .ok (.iload_n 3, 1) := by decide +kernel
theorem dL_law_1300 : decode cL_law 1300 = .ok (.iconst 3, 1) := by decide +kernel
theorem dL_law_1301 : decode cL_law 1301 = .ok (.iadd, 1) := by decide +kernel
theorem dL_law_1302 : decode cL_law 1302 = .ok (.iaload, 1) := by decide +kernel
theorem dL_law_1303 : decode cL_law 1303 = .ok (.aload_n 0, 1) := by decide +kernel
theorem dL_law_1304 : decode cL_law 1304 = .ok (.iload_n 3, 1) := by decide +kernel
theorem dL_law_1305 : decode cL_law 1305 = .ok (.iconst 4, 1) := by decide +kernel
theorem dL_law_1306 : decode cL_law 1306 = .ok (.iadd, 1) := by decide +kernel
theorem dL_law_1307 : decode cL_law 1307 = .ok (.iaload, 1) := by decide +kernel
theorem dL_law_1308 : decode cL_law 1308 = .ok (.invokevirtual 120, 3) := by decide +kernel
theorem dL_law_1311 : decode cL_law 1311 = .ok (.aload_n 2, 1) := by decide +kernel
theorem dL_law_1312 : decode cL_law 1312 = .ok (.aload_n 0, 1) := by decide +kernel
theorem dL_law_1313 : decode cL_law 1313 = .ok (.iload_n 3, 1) := by decide +kernel
theorem dL_law_1314 : decode cL_law 1314 = .ok (.iconst 1, 1) := by decide +kernel
theorem dL_law_1315 : decode cL_law 1315 = .ok (.iadd, 1) := by decide +kernel
theorem dL_law_1316 : decode cL_law 1316 = .ok (.iaload, 1) := by decide +kernel
theorem dL_law_1317 : decode cL_law 1317 = .ok (.aload_n 0, 1) := by decide +kernel
theorem dL_law_1318 : decode cL_law 1318 = .ok (.iload_n 3, 1) := by decide +kernel
theorem dL_law_1319 : decode cL_law 1319 = .ok (.iconst 2, 1) := by decide +kernel
theorem dL_law_1320 : decode cL_law 1320 = .ok (.iadd, 1) := by decide +kernel
theorem dL_law_1321 : decode cL_law 1321 = .ok (.iaload, 1) := by decide +kernel
theorem dL_law_1322 : decode cL_law 1322 = .ok (.aload_n 0, 1) := by decide +kernel
theorem dL_law_1323 : decode cL_law 1323 = .ok (.iload_n 3, 1) := by decide +kernel
theorem dL_law_1324 : decode cL_law 1324 = .ok (.iconst 3, 1) := by decide +kernel
theorem dL_law_1325 : decode cL_law 1325 = .ok (.iadd, 1) := by decide +kernel
theorem dL_law_1326 : decode cL_law 1326 = .ok (.iaload, 1) := by decide +kernel
theorem dL_law_1327 : decode cL_law 1327 = .ok (.aload_n 0, 1) := by decide +kernel
theorem dL_law_1328 : decode cL_law 1328 = .ok (.iload_n 3, 1) := by decide +kernel
theorem dL_law_1329 : decode cL_law 1329 = .ok (.iconst 4, 1) := by decide +kernel
theorem dL_law_1330 : decode cL_law 1330 = .ok (.iadd, 1) := by decide +kernel
theorem dL_law_1331 : decode cL_law 1331 = .ok (.iaload, 1) := by decide +kernel
theorem dL_law_1332 : decode cL_law 1332 = .ok (.invokevirtual 123, 3) := by decide +kernel
theorem dL_law_1335 : decode cL_law 1335 = .ok (.if_icmp .eq 432, 3) := by decide +kernel
theorem dL_law_1340 : decode cL_law 1340 = .ok (.aload_n 1, 1) := by decide +kernel
theorem dL_law_1341 : decode cL_law 1341 = .ok (.aload_n 0, 1) := by decide +kernel
theorem dL_law_1342 : decode cL_law 1342 = .ok (.iload_n 3, 1) := by decide +kernel
theorem dL_law_1343 : decode cL_law 1343 = .ok (.iconst 1, 1) := by decide +kernel
theorem dL_law_1344 : decode cL_law 1344 = .ok (.iadd, 1) := by decide +kernel
theorem dL_law_1345 : decode cL_law 1345 = .ok (.iaload, 1) := by decide +kernel
theorem dL_law_1346 : decode cL_law 1346 = .ok (.aload_n 0, 1) := by decide +kernel
theorem dL_law_1347 : decode cL_law 1347 = .ok (.iload_n 3, 1) := by decide +kernel
theorem dL_law_1348 : decode cL_law 1348 = .ok (.iconst 2, 1) := by decide +kernel
theorem dL_law_1349 : decode cL_law 1349 = .ok (.iadd, 1) := by decide +kernel
theorem dL_law_1350 : decode cL_law 1350 = .ok (.iaload, 1) := by decide +kernel
theorem dL_law_1351 : decode cL_law 1351 = .ok (.aload_n 0, 1) := by decide +kernel
theorem dL_law_1352 : decode cL_law 1352 = .ok (.iload_n 3, 1) := by decide +kernel
theorem dL_law_1353 : decode cL_law 1353 = .ok (.iconst 3, 1) := by decide +kernel
theorem dL_law_1354 : decode cL_law 1354 = .ok (.iadd, 1) := by decide +kernel
theorem dL_law_1355 : decode cL_law 1355 = .ok (.iaload, 1) := by decide +kernel
theorem dL_law_1356 : decode cL_law 1356 = .ok (.ifCond .eq 7, 3) := by decide +kernel
theorem dL_law_1359 : decode cL_law 1359 = .ok (.iconst 1, 1) := by decide +kernel
theorem dL_law_1360 : decode cL_law 1360 = .ok (.goto 4, 3) := by decide +kernel
theorem dL_law_1363 : decode cL_law 1363 = .ok (.iconst 0, 1) := by decide +kernel
theorem dL_law_1364 : decode cL_law 1364 = .ok (.aload_n 0, 1) := by decide +kernel
theorem dL_law_1365 : decode cL_law 1365 = .ok (.iload_n 3, 1) := by decide +kernel
theorem dL_law_1366 : decode cL_law 1366 = .ok (.iconst 4, 1) := by decide +kernel
theorem dL_law_1367 : decode cL_law 1367 = .ok (.iadd, 1) := by decide +kernel
theorem dL_law_1368 : decode cL_law 1368 = .ok (.iaload, 1) := by decide +kernel
theorem dL_law_1369 : decode cL_law 1369 = .ok (.ifCond .eq 7, 3) := by decide +kernel
theorem dL_law_1372 : decode cL_law 1372 = .ok (.iconst 1, 1) := by decide +kernel
theorem dL_law_1373 : decode cL_law 1373 = .ok (.goto 4, 3) := by decide +kernel
theorem dL_law_1376 : decode cL_law 1376 = .ok (.iconst 0, 1) := by decide +kernel
theorem dL_law_1377 : decode cL_law 1377 = .ok (.invokevirtual 124, 3) := by decide +kernel
theorem dL_law_1380 : decode cL_law 1380 = .ok (.aload_n 2, 1) := by decide +kernel
theorem dL_law_1381 : decode cL_law 1381 = .ok (.aload_n 0, 1) := by decide +kernel
theorem dL_law_1382 : decode cL_law 1382 = .ok (.iload_n 3, 1) := by decide +kernel
theorem dL_law_1383 : decode cL_law 1383 = .ok (.iconst 1, 1) := by decide +kernel
theorem dL_law_1384 : decode cL_law 1384 = .ok (.iadd, 1) := by decide +kernel
theorem dL_law_1385 : decode cL_law 1385 = .ok (.iaload, 1) := by decide +kernel
theorem dL_law_1386 : decode cL_law 1386 = .ok (.aload_n 0, 1) := by decide +kernel
theorem dL_law_1387 : decode cL_law 1387 = .ok (.iload_n 3, 1) := by decide +kernel
theorem dL_law_1388 : decode cL_law 1388 = .ok (.iconst 2, 1) := by decide +kernel
theorem dL_law_1389 : decode cL_law 1389 = .ok (.iadd, 1) := by decide +kernel
theorem dL_law_1390 : decode cL_law 1390 = .ok (.iaload, 1) := by decide +kernel
theorem dL_law_1391 : decode cL_law 1391 = .ok (.aload_n 0, 1) := by decide +kernel
theorem dL_law_1392 : decode cL_law 1392 = .ok (.iload_n 3, 1) := by decide +kernel
theorem dL_law_1393 : decode cL_law 1393 = .ok (.iconst 3, 1) := by decide +kernel
theorem dL_law_1394 : decode cL_law 1394 = .ok (.iadd, 1) := by decide +kernel
theorem dL_law_1395 : decode cL_law 1395 = .ok (.iaload, 1) := by decide +kernel
theorem dL_law_1396 : decode cL_law 1396 = .ok (.ifCond .eq 7, 3) := by decide +kernel
theorem dL_law_1399 : decode cL_law 1399 = .ok (.iconst 1, 1) := by decide +kernel
theorem dL_law_1400 : decode cL_law 1400 = .ok (.goto 4, 3) := by decide +kernel
theorem dL_law_1403 : decode cL_law 1403 = .ok (.iconst 0, 1) := by decide +kernel
theorem dL_law_1404 : decode cL_law 1404 = .ok (.aload_n 0, 1) := by decide +kernel
theorem dL_law_1405 : decode cL_law 1405 = .ok (.iload_n 3, 1) := by decide +kernel
theorem dL_law_1406 : decode cL_law 1406 = .ok (.iconst 4, 1) := by decide +kernel
theorem dL_law_1407 : decode cL_law 1407 = .ok (.iadd, 1) := by decide +kernel
theorem dL_law_1408 : decode cL_law 1408 = .ok (.iaload, 1) := by decide +kernel
theorem dL_law_1409 : decode cL_law 1409 = .ok (.ifCond .eq 7, 3) := by decide +kernel
theorem dL_law_1412 : decode cL_law 1412 = .ok (.iconst 1, 1) := by decide +kernel
theorem dL_law_1413 : decode cL_law 1413 = .ok (.goto 4, 3) := by decide +kernel
theorem dL_law_1416 : decode cL_law 1416 = .ok (.iconst 0, 1) := by decide +kernel
theorem dL_law_1417 : decode cL_law 1417 = .ok (.invokevirtual 128, 3) := by decide +kernel
theorem dL_law_1420 : decode cL_law 1420 = .ok (.if_icmp .eq 347, 3) := by decide +kernel
theorem dL_law_1425 : decode cL_law 1425 = .ok (.aload_n 1, 1) := by decide +kernel
theorem dL_law_1426 : decode cL_law 1426 = .ok (.aload_n 0, 1) := by decide +kernel
theorem dL_law_1427 : decode cL_law 1427 = .ok (.iload_n 3, 1) := by decide +kernel
theorem dL_law_1428 : decode cL_law 1428 = .ok (.iconst 1, 1) := by decide +kernel
theorem dL_law_1429 : decode cL_law 1429 = .ok (.iadd, 1) := by decide +kernel
theorem dL_law_1430 : decode cL_law 1430 = .ok (.iaload, 1) := by decide +kernel
theorem dL_law_1431 : decode cL_law 1431 = .ok (.aload_n 0, 1) := by decide +kernel
theorem dL_law_1432 : decode cL_law 1432 = .ok (.iload_n 3, 1) := by decide +kernel
theorem dL_law_1433 : decode cL_law 1433 = .ok (.iconst 2, 1) := by decide +kernel
theorem dL_law_1434 : decode cL_law 1434 = .ok (.iadd, 1) := by decide +kernel
theorem dL_law_1435 : decode cL_law 1435 = .ok (.iaload, 1) := by decide +kernel
theorem dL_law_1436 : decode cL_law 1436 = .ok (.invokevirtual 129, 3) := by decide +kernel
theorem dL_law_1439 : decode cL_law 1439 = .ok (.aload_n 2, 1) := by decide +kernel
theorem dL_law_1440 : decode cL_law 1440 = .ok (.aload_n 0, 1) := by decide +kernel
theorem dL_law_1441 : decode cL_law 1441 = .ok (.iload_n 3, 1) := by decide +kernel
theorem dL_law_1442 : decode cL_law 1442 = .ok (.iconst 1, 1) := by decide +kernel
theorem dL_law_1443 : decode cL_law 1443 = .ok (.iadd, 1) := by decide +kernel
theorem dL_law_1444 : decode cL_law 1444 = .ok (.iaload, 1) := by decide +kernel
theorem dL_law_1445 : decode cL_law 1445 = .ok (.aload_n 0, 1) := by decide +kernel
theorem dL_law_1446 : decode cL_law 1446 = .ok (.iload_n 3, 1) := by decide +kernel
theorem dL_law_1447 : decode cL_law 1447 = .ok (.iconst 2, 1) := by decide +kernel
theorem dL_law_1448 : decode cL_law 1448 = .ok (.iadd, 1) := by decide +kernel
theorem dL_law_1449 : decode cL_law 1449 = .ok (.iaload, 1) := by decide +kernel
theorem dL_law_1450 : decode cL_law 1450 = .ok (.invokevirtual 132, 3) := by decide +kernel
theorem dL_law_1453 : decode cL_law 1453 = .ok (.if_icmp .eq 314, 3) := by decide +kernel
theorem dL_law_1458 : decode cL_law 1458 = .ok (.aload_n 1, 1) := by decide +kernel
theorem dL_law_1459 : decode cL_law 1459 = .ok (.aload_n 0, 1) := by decide +kernel
theorem dL_law_1460 : decode cL_law 1460 = .ok (.iload_n 3, 1) := by decide +kernel
theorem dL_law_1461 : decode cL_law 1461 = .ok (.iconst 1, 1) := by decide +kernel
theorem dL_law_1462 : decode cL_law 1462 = .ok (.iadd, 1) := by decide +kernel
theorem dL_law_1463 : decode cL_law 1463 = .ok (.iaload, 1) := by decide +kernel
theorem dL_law_1464 : decode cL_law 1464 = .ok (.aload_n 0, 1) := by decide +kernel
theorem dL_law_1465 : decode cL_law 1465 = .ok (.iload_n 3, 1) := by decide +kernel
theorem dL_law_1466 : decode cL_law 1466 = .ok (.iconst 2, 1) := by decide +kernel
theorem dL_law_1467 : decode cL_law 1467 = .ok (.iadd, 1) := by decide +kernel
theorem dL_law_1468 : decode cL_law 1468 = .ok (.iaload, 1) := by decide +kernel
theorem dL_law_1469 : decode cL_law 1469 = .ok (.aload_n 0, 1) := by decide +kernel
theorem dL_law_1470 : decode cL_law 1470 = .ok (.iload_n 3, 1) := by decide +kernel
theorem dL_law_1471 : decode cL_law 1471 = .ok (.iconst 3, 1) := by decide +kernel
theorem dL_law_1472 : decode cL_law 1472 = .ok (.iadd, 1) := by decide +kernel
theorem dL_law_1473 : decode cL_law 1473 = .ok (.iaload, 1) := by decide +kernel
theorem dL_law_1474 : decode cL_law 1474 = .ok (.ifCond .eq 7, 3) := by decide +kernel
theorem dL_law_1477 : decode cL_law 1477 = .ok (.iconst 1, 1) := by decide +kernel
theorem dL_law_1478 : decode cL_law 1478 = .ok (.goto 4, 3) := by decide +kernel
theorem dL_law_1481 : decode cL_law 1481 = .ok (.iconst 0, 1) := by decide +kernel
theorem dL_law_1482 : decode cL_law 1482 = .ok (.invokevirtual 133, 3) := by decide +kernel
theorem dL_law_1485 : decode cL_law 1485 = .ok (.aload_n 2, 1) := by decide +kernel
theorem dL_law_1486 : decode cL_law 1486 = .ok (.aload_n 0, 1) := by decide +kernel
theorem dL_law_1487 : decode cL_law 1487 = .ok (.iload_n 3, 1) := by decide +kernel
theorem dL_law_1488 : decode cL_law 1488 = .ok (.iconst 1, 1) := by decide +kernel
theorem dL_law_1489 : decode cL_law 1489 = .ok (.iadd, 1) := by decide +kernel
theorem dL_law_1490 : decode cL_law 1490 = .ok (.iaload, 1) := by decide +kernel
theorem dL_law_1491 : decode cL_law 1491 = .ok (.aload_n 0, 1) := by decide +kernel
theorem dL_law_1492 : decode cL_law 1492 = .ok (.iload_n 3, 1) := by decide +kernel
theorem dL_law_1493 : decode cL_law 1493 = .ok (.iconst 2, 1) := by decide +kernel
theorem dL_law_1494 : decode cL_law 1494 = .ok (.iadd, 1) := by decide +kernel
theorem dL_law_1495 : decode cL_law 1495 = .ok (.iaload, 1) := by decide +kernel
theorem dL_law_1496 : decode cL_law 1496 = .ok (.aload_n 0, 1) := by decide +kernel
theorem dL_law_1497 : decode cL_law 1497 = .ok (.iload_n 3, 1) := by decide +kernel
theorem dL_law_1498 : decode cL_law 1498 = .ok (.iconst 3, 1) := by decide +kernel
theorem dL_law_1499 : decode cL_law 1499 = .ok (.iadd, 1) := by decide +kernel
theorem dL_law_1500 : decode cL_law 1500 = .ok (.iaload, 1) := by decide +kernel
theorem dL_law_1501 : decode cL_law 1501 = .ok (.ifCond .eq 7, 3) := by decide +kernel
theorem dL_law_1504 : decode cL_law 1504 = .ok (.iconst 1, 1) := by decide +kernel
theorem dL_law_1505 : decode cL_law 1505 = .ok (.goto 4, 3) := by decide +kernel
theorem dL_law_1508 : decode cL_law 1508 = .ok (.iconst 0, 1) := by decide +kernel
theorem dL_law_1509 : decode cL_law 1509 = .ok (.invokevirtual 136, 3) := by decide +kernel
theorem dL_law_1512 : decode cL_law 1512 = .ok (.if_icmp .eq 255, 3) := by decide +kernel
theorem dL_law_1517 : decode cL_law 1517 = .ok (.aload_n 1, 1) := by decide +kernel
theorem dL_law_1518 : decode cL_law 1518 = .ok (.aload_n 0, 1) := by decide +kernel
theorem dL_law_1519 : decode cL_law 1519 = .ok (.iload_n 3, 1) := by decide +kernel
theorem dL_law_1520 : decode cL_law 1520 = .ok (.iconst 1, 1) := by decide +kernel
theorem dL_law_1521 : decode cL_law 1521 = .ok (.iadd, 1) := by decide +kernel
theorem dL_law_1522 : decode cL_law 1522 = .ok (.iaload, 1) := by decide +kernel
theorem dL_law_1523 : decode cL_law 1523 = .ok (.aload_n 0, 1) := by decide +kernel
theorem dL_law_1524 : decode cL_law 1524 = .ok (.iload_n 3, 1) := by decide +kernel
theorem dL_law_1525 : decode cL_law 1525 = .ok (.iconst 2, 1) := by decide +kernel
theorem dL_law_1526 : decode cL_law 1526 = .ok (.iadd, 1) := by decide +kernel
theorem dL_law_1527 : decode cL_law 1527 = .ok (.iaload, 1) := by decide +kernel
theorem dL_law_1528 : decode cL_law 1528 = .ok (.aload_n 0, 1) := by decide +kernel
theorem dL_law_1529 : decode cL_law 1529 = .ok (.iload_n 3, 1) := by decide +kernel
theorem dL_law_1530 : decode cL_law 1530 = .ok (.iconst 3, 1) := by decide +kernel
theorem dL_law_1531 : decode cL_law 1531 = .ok (.iadd, 1) := by decide +kernel
theorem dL_law_1532 : decode cL_law 1532 = .ok (.iaload, 1) := by decide +kernel
theorem dL_law_1533 : decode cL_law 1533 = .ok (.invokevirtual 137, 3) := by decide +kernel
theorem dL_law_1536 : decode cL_law 1536 = .ok (.aload_n 2, 1) := by decide +kernel
theorem dL_law_1537 : decode cL_law 1537 = .ok (.aload_n 0, 1) := by decide +kernel
theorem dL_law_1538 : decode cL_law 1538 = .ok (.iload_n 3, 1) := by decide +kernel
theorem dL_law_1539 : decode cL_law 1539 = .ok (.iconst 1, 1) := by decide +kernel
theorem dL_law_1540 : decode cL_law 1540 = .ok (.iadd, 1) := by decide +kernel
theorem dL_law_1541 : decode cL_law 1541 = .ok (.iaload, 1) := by decide +kernel
theorem dL_law_1542 : decode cL_law 1542 = .ok (.aload_n 0, 1) := by decide +kernel
theorem dL_law_1543 : decode cL_law 1543 = .ok (.iload_n 3, 1) := by decide +kernel
theorem dL_law_1544 : decode cL_law 1544 = .ok (.iconst 2, 1) := by decide +kernel
theorem dL_law_1545 : decode cL_law 1545 = .ok (.iadd, 1) := by decide +kernel
theorem dL_law_1546 : decode cL_law 1546 = .ok (.iaload, 1) := by decide +kernel
theorem dL_law_1547 : decode cL_law 1547 = .ok (.aload_n 0, 1) := by decide +kernel
theorem dL_law_1548 : decode cL_law 1548 = .ok (.iload_n 3, 1) := by decide +kernel
theorem dL_law_1549 : decode cL_law 1549 = .ok (.iconst 3, 1) := by decide +kernel
theorem dL_law_1550 : decode cL_law 1550 = .ok (.iadd, 1) := by decide +kernel
theorem dL_law_1551 : decode cL_law 1551 = .ok (.iaload, 1) := by decide +kernel
theorem dL_law_1552 : decode cL_law 1552 = .ok (.invokevirtual 140, 3) := by decide +kernel
theorem dL_law_1555 : decode cL_law 1555 = .ok (.if_icmp .eq 212, 3) := by decide +kernel
theorem dL_law_1560 : decode cL_law 1560 = .ok (.aload_n 1, 1) := by decide +kernel
theorem dL_law_1561 : decode cL_law 1561 = .ok (.aload_n 0, 1) := by decide +kernel
theorem dL_law_1562 : decode cL_law 1562 = .ok (.iload_n 3, 1) := by decide +kernel
theorem dL_law_1563 : decode cL_law 1563 = .ok (.iconst 1, 1) := by decide +kernel
theorem dL_law_1564 : decode cL_law 1564 = .ok (.iadd, 1) := by decide +kernel
theorem dL_law_1565 : decode cL_law 1565 = .ok (.iaload, 1) := by decide +kernel
theorem dL_law_1566 : decode cL_law 1566 = .ok (.aload_n 0, 1) := by decide +kernel
theorem dL_law_1567 : decode cL_law 1567 = .ok (.iload_n 3, 1) := by decide +kernel
theorem dL_law_1568 : decode cL_law 1568 = .ok (.iconst 2, 1) := by decide +kernel
theorem dL_law_1569 : decode cL_law 1569 = .ok (.iadd, 1) := by decide +kernel
theorem dL_law_1570 : decode cL_law 1570 = .ok (.iaload, 1) := by decide +kernel
theorem dL_law_1571 : decode cL_law 1571 = .ok (.aload_n 0, 1) := by decide +kernel
theorem dL_law_1572 : decode cL_law 1572 = .ok (.iload_n 3, 1) := by decide +kernel
theorem dL_law_1573 : decode cL_law 1573 = .ok (.iconst 3, 1) := by decide +kernel
theorem dL_law_1574 : decode cL_law 1574 = .ok (.iadd, 1) := by decide +kernel
theorem dL_law_1575 : decode cL_law 1575 = .ok (.iaload, 1) := by decide +kernel
theorem dL_law_1576 : decode cL_law 1576 = .ok (.aload_n 0, 1) := by decide +kernel
theorem dL_law_1577 : decode cL_law 1577 = .ok (.iload_n 3, 1) := by decide +kernel
theorem dL_law_1578 : decode cL_law 1578 = .ok (.iconst 4, 1) := by decide +kernel
theorem dL_law_1579 : decode cL_law 1579 = .ok (.iadd, 1) := by decide +kernel
theorem dL_law_1580 : decode cL_law 1580 = .ok (.iaload, 1) := by decide +kernel
theorem dL_law_1581 : decode cL_law 1581 = .ok (.aload_n 0, 1) := by decide +kernel
theorem dL_law_1582 : decode cL_law 1582 = .ok (.iload_n 3, 1) := by decide +kernel
theorem dL_law_1583 : decode cL_law 1583 = .ok (.iconst 5, 1) := by decide +kernel
theorem dL_law_1584 : decode cL_law 1584 = .ok (.iadd, 1) := by decide +kernel
theorem dL_law_1585 : decode cL_law 1585 = .ok (.iaload, 1) := by decide +kernel
theorem dL_law_1586 : decode cL_law 1586 = .ok (.ifCond .eq 7, 3) := by decide +kernel
theorem dL_law_1589 : decode cL_law 1589 = .ok (.iconst 1, 1) := by decide +kernel
theorem dL_law_1590 : decode cL_law 1590 = .ok (.goto 4, 3) := by decide +kernel
theorem dL_law_1593 : decode cL_law 1593 = .ok (.iconst 0, 1) := by decide +kernel
theorem dL_law_1594 : decode cL_law 1594 = .ok (.invokevirtual 141, 3) := by decide +kernel
theorem dL_law_1597 : decode cL_law 1597 = .ok (.aload_n 2, 1) := by decide +kernel
theorem dL_law_1598 : decode cL_law 1598 = .ok (.aload_n 0, 1) := by decide +kernel
theorem dL_law_1599 : decode cL_law 1599 = .ok (.iload_n 3, 1) := by decide +kernel
theorem dL_law_1600 : decode cL_law 1600 = .ok (.iconst 1, 1) := by decide +kernel
theorem dL_law_1601 : decode cL_law 1601 = .ok (.iadd, 1) := by decide +kernel
theorem dL_law_1602 : decode cL_law 1602 = .ok (.iaload, 1) := by decide +kernel
theorem dL_law_1603 : decode cL_law 1603 = .ok (.aload_n 0, 1) := by decide +kernel
theorem dL_law_1604 : decode cL_law 1604 = .ok (.iload_n 3, 1) := by decide +kernel
theorem dL_law_1605 : decode cL_law 1605 = .ok (.iconst 2, 1) := by decide +kernel
theorem dL_law_1606 : decode cL_law 1606 = .ok (.iadd, 1) := by decide +kernel
theorem dL_law_1607 : decode cL_law 1607 = .ok (.iaload, 1) := by decide +kernel
theorem dL_law_1608 : decode cL_law 1608 = .ok (.aload_n 0, 1) := by decide +kernel
theorem dL_law_1609 : decode cL_law 1609 = .ok (.iload_n 3, 1) := by decide +kernel
theorem dL_law_1610 : decode cL_law 1610 = .ok (.iconst 3, 1) := by decide +kernel
theorem dL_law_1611 : decode cL_law 1611 = .ok (.iadd, 1) := by decide +kernel
theorem dL_law_1612 : decode cL_law 1612 = .ok (.iaload, 1) := by decide +kernel
theorem dL_law_1613 : decode cL_law 1613 = .ok (.aload_n 0, 1) := by decide +kernel
theorem dL_law_1614 : decode cL_law 1614 = .ok (.iload_n 3, 1) := by decide +kernel
theorem dL_law_1615 : decode cL_law 1615 = .ok (.iconst 4, 1) := by decide +kernel
theorem dL_law_1616 : decode cL_law 1616 = .ok (.iadd, 1) := by decide +kernel
theorem dL_law_1617 : decode cL_law 1617 = .ok (.iaload, 1) := by decide +kernel
theorem dL_law_1618 : decode cL_law 1618 = .ok (.aload_n 0, 1) := by decide +kernel
theorem dL_law_1619 : decode cL_law 1619 = .ok (.iload_n 3, 1) := by decide +kernel
theorem dL_law_1620 : decode cL_law 1620 = .ok (.iconst 5, 1) := by decide +kernel
theorem dL_law_1621 : decode cL_law 1621 = .ok (.iadd, 1) := by decide +kernel
theorem dL_law_1622 : decode cL_law 1622 = .ok (.iaload, 1) := by decide +kernel
theorem dL_law_1623 : decode cL_law 1623 = .ok (.ifCond .eq 7, 3) := by decide +kernel
theorem dL_law_1626 : decode cL_law 1626 = .ok (.iconst 1, 1) := by decide +kernel
theorem dL_law_1627 : decode cL_law 1627 = .ok (.goto 4, 3) := by decide +kernel
theorem dL_law_1630 : decode cL_law 1630 = .ok (.iconst 0, 1) := by decide +kernel
theorem dL_law_1631 : decode cL_law 1631 = .ok (.invokevirtual 145, 3) := by decide +kernel
theorem dL_law_1634 : decode cL_law 1634 = .ok (.if_icmp .eq 133, 3) := by decide +kernel
theorem dL_law_1639 : decode cL_law 1639 = .ok (.aload_n 1, 1) := by decide +kernel
theorem dL_law_1640 : decode cL_law 1640 = .ok (.aload_n 0, 1) := by decide +kernel
theorem dL_law_1641 : decode cL_law 1641 = .ok (.iload_n 3, 1) := by decide +kernel
theorem dL_law_1642 : decode cL_law 1642 = .ok (.iconst 1, 1) := by decide +kernel
theorem dL_law_1643 : decode cL_law 1643 = .ok (.iadd, 1) := by decide +kernel
theorem dL_law_1644 : decode cL_law 1644 = .ok (.iaload, 1) := by decide +kernel
theorem dL_law_1645 : decode cL_law 1645 = .ok (.aload_n 0, 1) := by decide +kernel
theorem dL_law_1646 : decode cL_law 1646 = .ok (.iload_n 3, 1) := by decide +kernel
theorem dL_law_1647 : decode cL_law 1647 = .ok (.iconst 2, 1) := by decide +kernel
theorem dL_law_1648 : decode cL_law 1648 = .ok (.iadd, 1) := by decide +kernel
theorem dL_law_1649 : decode cL_law 1649 = .ok (.iaload, 1) := by decide +kernel
theorem dL_law_1650 : decode cL_law 1650 = .ok (.aload_n 0, 1) := by decide +kernel
theorem dL_law_1651 : decode cL_law 1651 = .ok (.iload_n 3, 1) := by decide +kernel
theorem dL_law_1652 : decode cL_law 1652 = .ok (.iconst 3, 1) := by decide +kernel
theorem dL_law_1653 : decode cL_law 1653 = .ok (.iadd, 1) := by decide +kernel
theorem dL_law_1654 : decode cL_law 1654 = .ok (.iaload, 1) := by decide +kernel
theorem dL_law_1655 : decode cL_law 1655 = .ok (.ifCond .eq 7, 3) := by decide +kernel
theorem dL_law_1658 : decode cL_law 1658 = .ok (.iconst 1, 1) := by decide +kernel
theorem dL_law_1659 : decode cL_law 1659 = .ok (.goto 4, 3) := by decide +kernel
theorem dL_law_1662 : decode cL_law 1662 = .ok (.iconst 0, 1) := by decide +kernel
theorem dL_law_1663 : decode cL_law 1663 = .ok (.invokevirtual 146, 3) := by decide +kernel
theorem dL_law_1666 : decode cL_law 1666 = .ok (.aload_n 2, 1) := by decide +kernel
theorem dL_law_1667 : decode cL_law 1667 = .ok (.aload_n 0, 1) := by decide +kernel
theorem dL_law_1668 : decode cL_law 1668 = .ok (.iload_n 3, 1) := by decide +kernel
theorem dL_law_1669 : decode cL_law 1669 = .ok (.iconst 1, 1) := by decide +kernel
theorem dL_law_1670 : decode cL_law 1670 = .ok (.iadd, 1) := by decide +kernel
theorem dL_law_1671 : decode cL_law 1671 = .ok (.iaload, 1) := by decide +kernel
theorem dL_law_1672 : decode cL_law 1672 = .ok (.aload_n 0, 1) := by decide +kernel
theorem dL_law_1673 : decode cL_law 1673 = .ok (.iload_n 3, 1) := by decide +kernel
theorem dL_law_1674 : decode cL_law 1674 = .ok (.iconst 2, 1) := by decide +kernel
theorem dL_law_1675 : decode cL_law 1675 = .ok (.iadd, 1) := by decide +kernel
theorem dL_law_1676 : decode cL_law 1676 = .ok (.iaload, 1) := by decide +kernel
theorem dL_law_1677 : decode cL_law 1677 = .ok (.aload_n 0, 1) := by decide +kernel
theorem dL_law_1678 : decode cL_law 1678 = .ok (.iload_n 3, 1) := by decide +kernel
theorem dL_law_1679 : decode cL_law 1679 = .ok (.iconst 3, 1) := by decide +kernel
theorem dL_law_1680 : decode cL_law 1680 = .ok (.iadd, 1) := by decide +kernel
theorem dL_law_1681 : decode cL_law 1681 = .ok (.iaload, 1) := by decide +kernel
theorem dL_law_1682 : decode cL_law 1682 = .ok (.ifCond .eq 7, 3) := by decide +kernel
theorem dL_law_1685 : decode cL_law 1685 = .ok (.iconst 1, 1) := by decide +kernel
theorem dL_law_1686 : decode cL_law 1686 = .ok (.goto 4, 3) := by decide +kernel
theorem dL_law_1689 : decode cL_law 1689 = .ok (.iconst 0, 1) := by decide +kernel
theorem dL_law_1690 : decode cL_law 1690 = .ok (.invokevirtual 149, 3) := by decide +kernel
theorem dL_law_1693 : decode cL_law 1693 = .ok (.if_icmp .eq 74, 3) := by decide +kernel
theorem dL_law_1698 : decode cL_law 1698 = .ok (.aload_n 1, 1) := by decide +kernel
theorem dL_law_1699 : decode cL_law 1699 = .ok (.aload_n 0, 1) := by decide +kernel
theorem dL_law_1700 : decode cL_law 1700 = .ok (.iload_n 3, 1) := by decide +kernel
theorem dL_law_1701 : decode cL_law 1701 = .ok (.iconst 1, 1) := by decide +kernel
theorem dL_law_1702 : decode cL_law 1702 = .ok (.iadd, 1) := by decide +kernel
theorem dL_law_1703 : decode cL_law 1703 = .ok (.iaload, 1) := by decide +kernel
theorem dL_law_1704 : decode cL_law 1704 = .ok (.invokevirtual 150, 3) := by decide +kernel
theorem dL_law_1707 : decode cL_law 1707 = .ok (.aload_n 2, 1) := by decide +kernel
theorem dL_law_1708 : decode cL_law 1708 = .ok (.aload_n 0, 1) := by decide +kernel
theorem dL_law_1709 : decode cL_law 1709 = .ok (.iload_n 3, 1) := by decide +kernel
theorem dL_law_1710 : decode cL_law 1710 = .ok (.iconst 1, 1) := by decide +kernel
theorem dL_law_1711 : decode cL_law 1711 = .ok (.iadd, 1) := by decide +kernel
theorem dL_law_1712 : decode cL_law 1712 = .ok (.iaload, 1) := by decide +kernel
theorem dL_law_1713 : decode cL_law 1713 = .ok (.invokevirtual 153, 3) := by decide +kernel
theorem dL_law_1716 : decode cL_law 1716 = .ok (.if_icmp .eq 51, 3) := by decide +kernel
theorem dL_law_1721 : decode cL_law 1721 = .ok (.aload_n 1, 1) := by decide +kernel
theorem dL_law_1722 : decode cL_law 1722 = .ok (.aload_n 0, 1) := by decide +kernel
theorem dL_law_1723 : decode cL_law 1723 = .ok (.iload_n 3, 1) := by decide +kernel
theorem dL_law_1724 : decode cL_law 1724 = .ok (.iconst 1, 1) := by decide +kernel
theorem dL_law_1725 : decode cL_law 1725 = .ok (.iadd, 1) := by decide +kernel
theorem dL_law_1726 : decode cL_law 1726 = .ok (.iaload, 1) := by decide +kernel
theorem dL_law_1727 : decode cL_law 1727 = .ok (.invokevirtual 154, 3) := by decide +kernel
theorem dL_law_1730 : decode cL_law 1730 = .ok (.aload_n 2, 1) := by decide +kernel
theorem dL_law_1731 : decode cL_law 1731 = .ok (.aload_n 0, 1) := by decide +kernel
theorem dL_law_1732 : decode cL_law 1732 = .ok (.iload_n 3, 1) := by decide +kernel
theorem dL_law_1733 : decode cL_law 1733 = .ok (.iconst 1, 1) := by decide +kernel
theorem dL_law_1734 : decode cL_law 1734 = .ok (.iadd, 1) := by decide +kernel
theorem dL_law_1735 : decode cL_law 1735 = .ok (.iaload, 1) := by decide +kernel
theorem dL_law_1736 : decode cL_law 1736 = .ok (.invokevirtual 158, 3) := by decide +kernel
theorem dL_law_1739 : decode cL_law 1739 = .ok (.if_icmp .eq 28, 3) := by decide +kernel
theorem dL_law_1744 : decode cL_law 1744 = .ok (.aload_n 1, 1) := by decide +kernel
theorem dL_law_1745 : decode cL_law 1745 = .ok (.aload_n 0, 1) := by decide +kernel
theorem dL_law_1746 : decode cL_law 1746 = .ok (.iload_n 3, 1) := by decide +kernel
theorem dL_law_1747 : decode cL_law 1747 = .ok (.iconst 1, 1) := by decide +kernel
theorem dL_law_1748 : decode cL_law 1748 = .ok (.iadd, 1) := by decide +kernel
theorem dL_law_1749 : decode cL_law 1749 = .ok (.iaload, 1) := by decide +kernel
theorem dL_law_1750 : decode cL_law 1750 = .ok (.invokevirtual 159, 3) := by decide +kernel
theorem dL_law_1753 : decode cL_law 1753 = .ok (.aload_n 2, 1) := by decide +kernel
theorem dL_law_1754 : decode cL_law 1754 = .ok (.aload_n 0, 1) := by decide +kernel
theorem dL_law_1755 : decode cL_law 1755 = .ok (.iload_n 3, 1) := by decide +kernel
theorem dL_law_1756 : decode cL_law 1756 = .ok (.iconst 1, 1) := by decide +kernel
theorem dL_law_1757 : decode cL_law 1757 = .ok (.iadd, 1) := by decide +kernel
theorem dL_law_1758 : decode cL_law 1758 = .ok (.iaload, 1) := by decide +kernel
theorem dL_law_1759 : decode cL_law 1759 = .ok (.invokevirtual 162, 3) := by decide +kernel
theorem dL_law_1762 : decode cL_law 1762 = .ok (.if_icmp .eq 5, 3) := by decide +kernel
theorem dL_law_1767 : decode cL_law 1767 = .ok (.iinc 3 6, 3) := by decide +kernel
theorem dL_law_1770 : decode cL_law 1770 = .ok (.goto (-1752), 3) := by decide +kernel
theorem dL_law_1773 : decode cL_law 1773 = .ok (.iconst 1, 1) := by decide +kernel
theorem dL_law_1774 : decode cL_law 1774 = .ok (.ireturn, 1) := by decide +kernel

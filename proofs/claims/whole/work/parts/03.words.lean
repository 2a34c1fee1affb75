/-! the words' places in the tables; each once, by its row -/
theorem tb_1 : ∀ w ∈ tables_1_1, w ∈ lw_tbl := fun w h => List.mem_append_right _ (show w ∈ tables_1 from List.mem_append_left _ h)
theorem tb_2 : ∀ w ∈ tables_1_2, w ∈ lw_tbl := fun w h => List.mem_append_right _ (show w ∈ tables_1 from List.mem_append_right _ (List.mem_append_left _ h))
theorem tb_3 : ∀ w ∈ tables_1_3, w ∈ lw_tbl := fun w h => List.mem_append_right _ (show w ∈ tables_1 from List.mem_append_right _ (List.mem_append_right _ (List.mem_append_left _ h)))
theorem tb_4 : ∀ w ∈ tables_1_4, w ∈ lw_tbl := fun w h => List.mem_append_right _ (show w ∈ tables_1 from List.mem_append_right _ (List.mem_append_right _ (List.mem_append_right _ (List.mem_append_left _ h))))
theorem tb_5 : ∀ w ∈ tables_1_5, w ∈ lw_tbl := fun w h => List.mem_append_right _ (show w ∈ tables_1 from List.mem_append_right _ (List.mem_append_right _ (List.mem_append_right _ (List.mem_append_right _ (List.mem_append_left _ h)))))
theorem tb_6 : ∀ w ∈ tables_1_6, w ∈ lw_tbl := fun w h => List.mem_append_right _ (show w ∈ tables_1 from List.mem_append_right _ (List.mem_append_right _ (List.mem_append_right _ (List.mem_append_right _ (List.mem_append_right _ (List.mem_append_left _ h))))))
theorem tb_7 : ∀ w ∈ tables_1_7, w ∈ lw_tbl := fun w h => List.mem_append_right _ (show w ∈ tables_1 from List.mem_append_right _ (List.mem_append_right _ (List.mem_append_right _ (List.mem_append_right _ (List.mem_append_right _ (List.mem_append_right _ (List.mem_append_left _ h)))))))
theorem tb_8 : ∀ w ∈ tables_1_8, w ∈ lw_tbl := fun w h => List.mem_append_right _ (show w ∈ tables_1 from List.mem_append_right _ (List.mem_append_right _ (List.mem_append_right _ (List.mem_append_right _ (List.mem_append_right _ (List.mem_append_right _ (List.mem_append_right _ (List.mem_append_left _ h))))))))
theorem tb_9 : ∀ w ∈ tables_1_9, w ∈ lw_tbl := fun w h => List.mem_append_right _ (show w ∈ tables_1 from List.mem_append_right _ (List.mem_append_right _ (List.mem_append_right _ (List.mem_append_right _ (List.mem_append_right _ (List.mem_append_right _ (List.mem_append_right _ (List.mem_append_right _ (h)))))))))
def lw_x : List Cond := [Cond.selects RX8 yX4_wordNumber yX4_wordNumber, Cond.selects RX8 yX4_readSign yX4_readSign, Cond.selects RX2 yX4_wordNumber yX4_wordNumber, Cond.selects RX2 yX4_readSign yX4_readSign]
def lw_g : List Cond := lw_x ++ lw_tbl.filter goodWord
theorem lw_m {w : Cond} (h : w ∈ lw_tbl) (hg : goodWord w = true) : w ∈ lw_g := List.mem_append_right _ (List.mem_filter.mpr ⟨h, hg⟩)
theorem lw_good : ∀ w ∈ lw_g, (w.onTables && w.keeps) = true ∨ ∃ ty, w = .arrayClass ty := fun w h => (List.mem_append.mp h).elim (fun h => good_of_word ((by decide : ∀ w ∈ lw_x, goodWord w = true) w h)) (fun h => good_of_word (List.mem_filter.mp h).2)
theorem wn_L : Cond.initialized RL ∈ lw_g := lw_m (tb_1 _ (List.mem_of_getElem? (i := 0) rfl)) rfl
theorem wn_X11 : Cond.initialized RX11 ∈ lw_g := lw_m (tb_1 _ (List.mem_of_getElem? (i := 1) rfl)) rfl
theorem wn_X9 : Cond.initialized RX9 ∈ lw_g := lw_m (tb_1 _ (List.mem_of_getElem? (i := 2) rfl)) rfl
theorem wn_X4 : Cond.initialized RX4 ∈ lw_g := lw_m (tb_1 _ (List.mem_of_getElem? (i := 3) rfl)) rfl
theorem wn_X8 : Cond.initialized RX8 ∈ lw_g := lw_m (tb_1 _ (List.mem_of_getElem? (i := 4) rfl)) rfl
theorem wn_X2 : Cond.initialized RX2 ∈ lw_g := lw_m (tb_1 _ (List.mem_of_getElem? (i := 5) rfl)) rfl
theorem wn_X6 : Cond.initialized RX6 ∈ lw_g := lw_m (tb_1 _ (List.mem_of_getElem? (i := 6) rfl)) rfl
theorem wn_X7 : Cond.initialized RX7 ∈ lw_g := lw_m (tb_1 _ (List.mem_of_getElem? (i := 7) rfl)) rfl
theorem wn_X1 : Cond.initialized RX1 ∈ lw_g := lw_m (tb_1 _ (List.mem_of_getElem? (i := 8) rfl)) rfl
theorem wn_X0 : Cond.initialized RX0 ∈ lw_g := lw_m (tb_1 _ (List.mem_of_getElem? (i := 9) rfl)) rfl
theorem wn_X10 : Cond.initialized RX10 ∈ lw_g := lw_m (tb_1 _ (List.mem_of_getElem? (i := 10) rfl)) rfl
theorem wn_X3 : Cond.initialized RX3 ∈ lw_g := lw_m (tb_1 _ (List.mem_of_getElem? (i := 11) rfl)) rfl
theorem wn_X5 : Cond.initialized RX5 ∈ lw_g := lw_m (tb_1 _ (List.mem_of_getElem? (i := 12) rfl)) rfl
theorem wn_X12 : Cond.initialized RX12 ∈ lw_g := lw_m (tb_1 _ (List.mem_of_getElem? (i := 13) rfl)) rfl
theorem wn_J10 : Cond.initialized RJ10 ∈ lw_g := lw_m (tb_1 _ (List.mem_of_getElem? (i := 14) rfl)) rfl
theorem wn_J9 : Cond.initialized RJ9 ∈ lw_g := lw_m (tb_1 _ (List.mem_of_getElem? (i := 15) rfl)) rfl
theorem wn_J0 : Cond.initialized RJ0 ∈ lw_g := lw_m (tb_1 _ (List.mem_of_getElem? (i := 16) rfl)) rfl
theorem wn_J1 : Cond.initialized RJ1 ∈ lw_g := lw_m (tb_1 _ (List.mem_of_getElem? (i := 17) rfl)) rfl
theorem wn_J3 : Cond.initialized RJ3 ∈ lw_g := lw_m (tb_1 _ (List.mem_of_getElem? (i := 18) rfl)) rfl
theorem wn_J2 : Cond.initialized RJ2 ∈ lw_g := lw_m (tb_1 _ (List.mem_of_getElem? (i := 19) rfl)) rfl
theorem wn_J6 : Cond.initialized RJ6 ∈ lw_g := lw_m (tb_1 _ (List.mem_of_getElem? (i := 20) rfl)) rfl
theorem wl_L_9 : Cond.methodLink RL 9 yX11_init ∈ lw_g := lw_m (tb_1 _ (List.mem_of_getElem? (i := 23) rfl)) rfl
theorem wi_X11_init : Cond.instanceMethod yX11_init ∈ lw_g := lw_m (tb_1 _ (List.mem_of_getElem? (i := 24) rfl)) rfl
theorem wc_X11_init : Cond.code yX11_init cX11_init 2 none ∈ lw_g := lw_m (tb_1 _ (List.mem_of_getElem? (i := 25) rfl)) rfl
theorem wi_X9_init : Cond.instanceMethod yX9_init ∈ lw_g := lw_m (tb_1 _ (List.mem_of_getElem? (i := 33) rfl)) rfl
theorem wc_X9_init : Cond.code yX9_init cX9_init 1 none ∈ lw_g := lw_m (tb_1 _ (List.mem_of_getElem? (i := 34) rfl)) rfl
theorem wf_X9_11 : Cond.fieldLink RX9 11 "TalkChutes$Tray" "numbers" "[J" ∈ lw_g := lw_m (tb_1 _ (List.mem_of_getElem? (i := 36) rfl)) rfl
theorem wf_X11_125 : Cond.fieldLink RX11 125 "TalkChutes$Tray" "numbers" "[J" ∈ lw_g := lw_m (tb_1 _ (List.mem_of_getElem? (i := 37) rfl)) rfl
theorem wf_X9_19 : Cond.fieldLink RX9 19 "TalkChutes$Tray" "sort" "I" ∈ lw_g := lw_m (tb_1 _ (List.mem_of_getElem? (i := 38) rfl)) rfl
theorem wf_X11_132 : Cond.fieldLink RX11 132 "TalkChutes$Tray" "sort" "I" ∈ lw_g := lw_m (tb_1 _ (List.mem_of_getElem? (i := 39) rfl)) rfl
theorem wf_X9_15 : Cond.fieldLink RX9 15 "TalkChutes$Tray" "length" "I" ∈ lw_g := lw_m (tb_1 _ (List.mem_of_getElem? (i := 40) rfl)) rfl
theorem wf_X11_265 : Cond.fieldLink RX11 265 "TalkChutes$Tray" "length" "I" ∈ lw_g := lw_m (tb_1 _ (List.mem_of_getElem? (i := 41) rfl)) rfl
theorem wl_X11_22 : Cond.methodLink RX11 22 yX8_init ∈ lw_g := lw_m (tb_1 _ (List.mem_of_getElem? (i := 52) rfl)) rfl
theorem wi_X8_init : Cond.instanceMethod yX8_init ∈ lw_g := lw_m (tb_1 _ (List.mem_of_getElem? (i := 53) rfl)) rfl
theorem wc_X8_init : Cond.code yX8_init cX8_init 2 none ∈ lw_g := lw_m (tb_1 _ (List.mem_of_getElem? (i := 54) rfl)) rfl
theorem wl_X8_3 : Cond.methodLink RX8 3 yX4_init ∈ lw_g := lw_m (tb_1 _ (List.mem_of_getElem? (i := 55) rfl)) rfl
theorem wi_X4_init : Cond.instanceMethod yX4_init ∈ lw_g := lw_m (tb_1 _ (List.mem_of_getElem? (i := 56) rfl)) rfl
theorem wc_X4_init : Cond.code yX4_init cX4_init 2 none ∈ lw_g := lw_m (tb_1 _ (List.mem_of_getElem? (i := 57) rfl)) rfl
theorem wf_X8_9 : Cond.fieldLink RX8 9 "TalkChutes$TableReader" "into" "LTalkChutes$Table;" ∈ lw_g := lw_m (tb_1 _ (List.mem_of_getElem? (i := 59) rfl)) rfl
theorem wf_X8_21 : Cond.fieldLink RX8 21 "TalkChutes$TableReader" "oddsTold" "Z" ∈ lw_g := lw_m (tb_1 _ (List.mem_of_getElem? (i := 60) rfl)) rfl
theorem wf_X4_9 : Cond.fieldLink RX4 9 "TalkChutes$Reader" "text" "[B" ∈ lw_g := lw_m (tb_1 _ (List.mem_of_getElem? (i := 61) rfl)) rfl
theorem wf_X4_24 : Cond.fieldLink RX4 24 "TalkChutes$Reader" "length" "I" ∈ lw_g := lw_m (tb_1 _ (List.mem_of_getElem? (i := 62) rfl)) rfl
theorem wf_X4_28 : Cond.fieldLink RX4 28 "TalkChutes$Reader" "next" "I" ∈ lw_g := lw_m (tb_1 _ (List.mem_of_getElem? (i := 63) rfl)) rfl
theorem wf_X4_40 : Cond.fieldLink RX4 40 "TalkChutes$Reader" "start" "I" ∈ lw_g := lw_m (tb_1 _ (List.mem_of_getElem? (i := 64) rfl)) rfl
theorem wf_X8_29 : Cond.fieldLink RX8 29 "TalkChutes$TableReader" "kind" "I" ∈ lw_g := lw_m (tb_1 _ (List.mem_of_getElem? (i := 65) rfl)) rfl
theorem wf_X2_37 : Cond.fieldLink RX2 37 "TalkChutes$EveningsReader" "kind" "I" ∈ lw_g := lw_m (tb_1 _ (List.mem_of_getElem? (i := 67) rfl)) rfl
theorem wf_X4_55 : Cond.fieldLink RX4 55 "TalkChutes$Reader" "kind" "I" ∈ lw_g := lw_m (tb_1 _ (List.mem_of_getElem? (i := 69) rfl)) rfl
theorem wf_X8_66 : Cond.fieldLink RX8 66 "TalkChutes$TableReader" "number" "I" ∈ lw_g := lw_m (tb_1 _ (List.mem_of_getElem? (i := 70) rfl)) rfl
theorem wf_X4_43 : Cond.fieldLink RX4 43 "TalkChutes$Reader" "number" "I" ∈ lw_g := lw_m (tb_1 _ (List.mem_of_getElem? (i := 72) rfl)) rfl
theorem wf_X2_106 : Cond.fieldLink RX2 106 "TalkChutes$EveningsReader" "number" "I" ∈ lw_g := lw_m (tb_1 _ (List.mem_of_getElem? (i := 73) rfl)) rfl
theorem wf_X4_65 : Cond.fieldLink RX4 65 "TalkChutes$Reader" "sign" "I" ∈ lw_g := lw_m (tb_1 _ (List.mem_of_getElem? (i := 75) rfl)) rfl
theorem wf_X2_112 : Cond.fieldLink RX2 112 "TalkChutes$EveningsReader" "sign" "I" ∈ lw_g := lw_m (tb_1 _ (List.mem_of_getElem? (i := 76) rfl)) rfl
theorem wf_X8_33 : Cond.fieldLink RX8 33 "TalkChutes$TableReader" "word" "I" ∈ lw_g := lw_m (tb_1 _ (List.mem_of_getElem? (i := 78) rfl)) rfl
theorem wf_X2_40 : Cond.fieldLink RX2 40 "TalkChutes$EveningsReader" "word" "I" ∈ lw_g := lw_m (tb_1 _ (List.mem_of_getElem? (i := 80) rfl)) rfl
theorem wf_X4_46 : Cond.fieldLink RX4 46 "TalkChutes$Reader" "word" "I" ∈ lw_g := lw_m (tb_1 _ (List.mem_of_getElem? (i := 82) rfl)) rfl
theorem wf_X4_49 : Cond.fieldLink RX4 49 "TalkChutes$Reader" "name" "J" ∈ lw_g := lw_m (tb_1 _ (List.mem_of_getElem? (i := 83) rfl)) rfl
theorem wf_X8_79 : Cond.fieldLink RX8 79 "TalkChutes$TableReader" "name" "J" ∈ lw_g := lw_m (tb_1 _ (List.mem_of_getElem? (i := 84) rfl)) rfl
theorem wf_X4_31 : Cond.fieldLink RX4 31 "TalkChutes$Reader" "fault" "I" ∈ lw_g := lw_m (tb_1 _ (List.mem_of_getElem? (i := 86) rfl)) rfl
theorem wf_X11_423 : Cond.fieldLink RX11 423 "TalkChutes$Reader" "fault" "I" ∈ lw_g := lw_m (tb_1 _ (List.mem_of_getElem? (i := 87) rfl)) rfl
theorem wf_X4_34 : Cond.fieldLink RX4 34 "TalkChutes$Reader" "faultPlace" "I" ∈ lw_g := lw_m (tb_1 _ (List.mem_of_getElem? (i := 88) rfl)) rfl
theorem wf_X11_428 : Cond.fieldLink RX11 428 "TalkChutes$Reader" "faultPlace" "I" ∈ lw_g := lw_m (tb_1 _ (List.mem_of_getElem? (i := 89) rfl)) rfl
theorem wl_X11_31 : Cond.methodLink RX11 31 yX2_init ∈ lw_g := lw_m (tb_1 _ (List.mem_of_getElem? (i := 120) rfl)) rfl
theorem wi_X2_init : Cond.instanceMethod yX2_init ∈ lw_g := lw_m (tb_1 _ (List.mem_of_getElem? (i := 121) rfl)) rfl
theorem wc_X2_init : Cond.code yX2_init cX2_init 2 none ∈ lw_g := lw_m (tb_1 _ (List.mem_of_getElem? (i := 122) rfl)) rfl
theorem wl_X2_3 : Cond.methodLink RX2 3 yX4_init ∈ lw_g := lw_m (tb_1 _ (List.mem_of_getElem? (i := 123) rfl)) rfl
theorem wf_X2_17 : Cond.fieldLink RX2 17 "TalkChutes$EveningsReader" "table" "LTalkChutes$Table;" ∈ lw_g := lw_m (tb_1 _ (List.mem_of_getElem? (i := 124) rfl)) rfl
theorem wf_X2_21 : Cond.fieldLink RX2 21 "TalkChutes$EveningsReader" "into" "LTalkChutes$Evenings;" ∈ lw_g := lw_m (tb_1 _ (List.mem_of_getElem? (i := 125) rfl)) rfl
theorem wf_X2_29 : Cond.fieldLink RX2 29 "TalkChutes$EveningsReader" "nested" "I" ∈ lw_g := lw_m (tb_1 _ (List.mem_of_getElem? (i := 126) rfl)) rfl
theorem wf_X2_11 : Cond.fieldLink RX2 11 "TalkChutes$EveningsReader" "begun" "[I" ∈ lw_g := lw_m (tb_1 _ (List.mem_of_getElem? (i := 127) rfl)) rfl
theorem wi_X6_init : Cond.instanceMethod yX6_init ∈ lw_g := lw_m (tb_1 _ (List.mem_of_getElem? (i := 152) rfl)) rfl
theorem wc_X6_init : Cond.code yX6_init cX6_init 1 none ∈ lw_g := lw_m (tb_1 _ (List.mem_of_getElem? (i := 153) rfl)) rfl
theorem wi_X7_init : Cond.instanceMethod yX7_init ∈ lw_g := lw_m (tb_1 _ (List.mem_of_getElem? (i := 158) rfl)) rfl
theorem wc_X7_init : Cond.code yX7_init cX7_init 1 none ∈ lw_g := lw_m (tb_1 _ (List.mem_of_getElem? (i := 159) rfl)) rfl
theorem wf_X7_11 : Cond.fieldLink RX7 11 "TalkChutes$Table" "odds" "I" ∈ lw_g := lw_m (tb_1 _ (List.mem_of_getElem? (i := 161) rfl)) rfl
theorem wf_X5_39 : Cond.fieldLink RX5 39 "TalkChutes$Table" "odds" "I" ∈ lw_g := lw_m (tb_1 _ (List.mem_of_getElem? (i := 162) rfl)) rfl
theorem wf_X8_69 : Cond.fieldLink RX8 69 "TalkChutes$Table" "odds" "I" ∈ lw_g := lw_m (tb_1 _ (List.mem_of_getElem? (i := 163) rfl)) rfl
theorem wf_X11_203 : Cond.fieldLink RX11 203 "TalkChutes$Table" "odds" "I" ∈ lw_g := lw_m (tb_1 _ (List.mem_of_getElem? (i := 164) rfl)) rfl
theorem wf_X7_47 : Cond.fieldLink RX7 47 "TalkChutes$Table" "topics" "I" ∈ lw_g := lw_m (tb_1 _ (List.mem_of_getElem? (i := 165) rfl)) rfl
theorem wf_X5_24 : Cond.fieldLink RX5 24 "TalkChutes$Table" "topics" "I" ∈ lw_g := lw_m (tb_1 _ (List.mem_of_getElem? (i := 166) rfl)) rfl
theorem wf_X10_51 : Cond.fieldLink RX10 51 "TalkChutes$Table" "topics" "I" ∈ lw_g := lw_m (tb_1 _ (List.mem_of_getElem? (i := 167) rfl)) rfl
theorem wf_X8_87 : Cond.fieldLink RX8 87 "TalkChutes$Table" "topics" "I" ∈ lw_g := lw_m (tb_1 _ (List.mem_of_getElem? (i := 168) rfl)) rfl
theorem wf_X4_92 : Cond.fieldLink RX4 92 "TalkChutes$Table" "topics" "I" ∈ lw_g := lw_m (tb_1 _ (List.mem_of_getElem? (i := 169) rfl)) rfl
theorem wf_X11_195 : Cond.fieldLink RX11 195 "TalkChutes$Table" "topics" "I" ∈ lw_g := lw_m (tb_1 _ (List.mem_of_getElem? (i := 170) rfl)) rfl
theorem wf_X7_15 : Cond.fieldLink RX7 15 "TalkChutes$Table" "worth" "[I" ∈ lw_g := lw_m (tb_1 _ (List.mem_of_getElem? (i := 171) rfl)) rfl
theorem wf_X8_96 : Cond.fieldLink RX8 96 "TalkChutes$Table" "worth" "[I" ∈ lw_g := lw_m (tb_1 _ (List.mem_of_getElem? (i := 172) rfl)) rfl
theorem wf_X11_225 : Cond.fieldLink RX11 225 "TalkChutes$Table" "worth" "[I" ∈ lw_g := lw_m (tb_1 _ (List.mem_of_getElem? (i := 173) rfl)) rfl
theorem wf_X7_19 : Cond.fieldLink RX7 19 "TalkChutes$Table" "drift" "[I" ∈ lw_g := lw_m (tb_1 _ (List.mem_of_getElem? (i := 174) rfl)) rfl
theorem wf_X8_100 : Cond.fieldLink RX8 100 "TalkChutes$Table" "drift" "[I" ∈ lw_g := lw_m (tb_1 _ (List.mem_of_getElem? (i := 175) rfl)) rfl
theorem wf_X11_229 : Cond.fieldLink RX11 229 "TalkChutes$Table" "drift" "[I" ∈ lw_g := lw_m (tb_1 _ (List.mem_of_getElem? (i := 176) rfl)) rfl
theorem wf_X7_50 : Cond.fieldLink RX7 50 "TalkChutes$Table" "claims" "I" ∈ lw_g := lw_m (tb_1 _ (List.mem_of_getElem? (i := 177) rfl)) rfl
theorem wf_X10_31 : Cond.fieldLink RX10 31 "TalkChutes$Table" "claims" "I" ∈ lw_g := lw_m (tb_1 _ (List.mem_of_getElem? (i := 178) rfl)) rfl
theorem wf_X8_103 : Cond.fieldLink RX8 103 "TalkChutes$Table" "claims" "I" ∈ lw_g := lw_m (tb_1 _ (List.mem_of_getElem? (i := 179) rfl)) rfl
theorem wf_X0_127 : Cond.fieldLink RX0 127 "TalkChutes$Table" "claims" "I" ∈ lw_g := lw_m (tb_1 _ (List.mem_of_getElem? (i := 180) rfl)) rfl
theorem wf_X4_99 : Cond.fieldLink RX4 99 "TalkChutes$Table" "claims" "I" ∈ lw_g := lw_m (tb_1 _ (List.mem_of_getElem? (i := 181) rfl)) rfl
theorem wf_X11_198 : Cond.fieldLink RX11 198 "TalkChutes$Table" "claims" "I" ∈ lw_g := lw_m (tb_1 _ (List.mem_of_getElem? (i := 182) rfl)) rfl
theorem wf_X7_22 : Cond.fieldLink RX7 22 "TalkChutes$Table" "topicOf" "[I" ∈ lw_g := lw_m (tb_1 _ (List.mem_of_getElem? (i := 183) rfl)) rfl
theorem wf_X11_238 : Cond.fieldLink RX11 238 "TalkChutes$Table" "topicOf" "[I" ∈ lw_g := lw_m (tb_1 _ (List.mem_of_getElem? (i := 184) rfl)) rfl
theorem wf_X7_25 : Cond.fieldLink RX7 25 "TalkChutes$Table" "needs" "[I" ∈ lw_g := lw_m (tb_1 _ (List.mem_of_getElem? (i := 185) rfl)) rfl
theorem wf_X11_241 : Cond.fieldLink RX11 241 "TalkChutes$Table" "needs" "[I" ∈ lw_g := lw_m (tb_1 _ (List.mem_of_getElem? (i := 186) rfl)) rfl
theorem wf_X7_53 : Cond.fieldLink RX7 53 "TalkChutes$Table" "propped" "I" ∈ lw_g := lw_m (tb_1 _ (List.mem_of_getElem? (i := 187) rfl)) rfl
theorem wf_X8_114 : Cond.fieldLink RX8 114 "TalkChutes$Table" "propped" "I" ∈ lw_g := lw_m (tb_1 _ (List.mem_of_getElem? (i := 188) rfl)) rfl
theorem wf_X0_121 : Cond.fieldLink RX0 121 "TalkChutes$Table" "propped" "I" ∈ lw_g := lw_m (tb_1 _ (List.mem_of_getElem? (i := 189) rfl)) rfl
theorem wf_X11_213 : Cond.fieldLink RX11 213 "TalkChutes$Table" "propped" "I" ∈ lw_g := lw_m (tb_1 _ (List.mem_of_getElem? (i := 190) rfl)) rfl
theorem wf_X7_56 : Cond.fieldLink RX7 56 "TalkChutes$Table" "talkers" "I" ∈ lw_g := lw_m (tb_1 _ (List.mem_of_getElem? (i := 191) rfl)) rfl
theorem wf_X3_35 : Cond.fieldLink RX3 35 "TalkChutes$Table" "talkers" "I" ∈ lw_g := lw_m (tb_1 _ (List.mem_of_getElem? (i := 192) rfl)) rfl
theorem wf_X5_50 : Cond.fieldLink RX5 50 "TalkChutes$Table" "talkers" "I" ∈ lw_g := lw_m (tb_1 _ (List.mem_of_getElem? (i := 193) rfl)) rfl
theorem wf_X8_124 : Cond.fieldLink RX8 124 "TalkChutes$Table" "talkers" "I" ∈ lw_g := lw_m (tb_1 _ (List.mem_of_getElem? (i := 194) rfl)) rfl
theorem wf_X11_179 : Cond.fieldLink RX11 179 "TalkChutes$Table" "talkers" "I" ∈ lw_g := lw_m (tb_1 _ (List.mem_of_getElem? (i := 195) rfl)) rfl
theorem wf_X0_124 : Cond.fieldLink RX0 124 "TalkChutes$Table" "talkers" "I" ∈ lw_g := lw_m (tb_1 _ (List.mem_of_getElem? (i := 196) rfl)) rfl
theorem wf_X4_102 : Cond.fieldLink RX4 102 "TalkChutes$Table" "talkers" "I" ∈ lw_g := lw_m (tb_1 _ (List.mem_of_getElem? (i := 197) rfl)) rfl
theorem wf_X7_28 : Cond.fieldLink RX7 28 "TalkChutes$Table" "seat" "[I" ∈ lw_g := lw_m (tb_1 _ (List.mem_of_getElem? (i := 198) rfl)) rfl
theorem wf_X8_130 : Cond.fieldLink RX8 130 "TalkChutes$Table" "seat" "[I" ∈ lw_g := lw_m (tb_1 _ (List.mem_of_getElem? (i := 199) rfl)) rfl
theorem wf_X11_247 : Cond.fieldLink RX11 247 "TalkChutes$Table" "seat" "[I" ∈ lw_g := lw_m (tb_1 _ (List.mem_of_getElem? (i := 200) rfl)) rfl
theorem wf_X7_31 : Cond.fieldLink RX7 31 "TalkChutes$Table" "height" "[I" ∈ lw_g := lw_m (tb_1 _ (List.mem_of_getElem? (i := 201) rfl)) rfl
theorem wf_X8_133 : Cond.fieldLink RX8 133 "TalkChutes$Table" "height" "[I" ∈ lw_g := lw_m (tb_1 _ (List.mem_of_getElem? (i := 202) rfl)) rfl
theorem wf_X10_70 : Cond.fieldLink RX10 70 "TalkChutes$Table" "height" "[I" ∈ lw_g := lw_m (tb_1 _ (List.mem_of_getElem? (i := 203) rfl)) rfl
theorem wf_X0_137 : Cond.fieldLink RX0 137 "TalkChutes$Table" "height" "[I" ∈ lw_g := lw_m (tb_1 _ (List.mem_of_getElem? (i := 204) rfl)) rfl
theorem wf_X11_250 : Cond.fieldLink RX11 250 "TalkChutes$Table" "height" "[I" ∈ lw_g := lw_m (tb_1 _ (List.mem_of_getElem? (i := 205) rfl)) rfl
theorem wf_X7_34 : Cond.fieldLink RX7 34 "TalkChutes$Table" "fails" "[I" ∈ lw_g := lw_m (tb_1 _ (List.mem_of_getElem? (i := 206) rfl)) rfl
theorem wf_X5_35 : Cond.fieldLink RX5 35 "TalkChutes$Table" "fails" "[I" ∈ lw_g := lw_m (tb_1 _ (List.mem_of_getElem? (i := 207) rfl)) rfl
theorem wf_X0_111 : Cond.fieldLink RX0 111 "TalkChutes$Table" "fails" "[I" ∈ lw_g := lw_m (tb_1 _ (List.mem_of_getElem? (i := 208) rfl)) rfl
theorem wf_X8_136 : Cond.fieldLink RX8 136 "TalkChutes$Table" "fails" "[I" ∈ lw_g := lw_m (tb_1 _ (List.mem_of_getElem? (i := 209) rfl)) rfl
theorem wf_X11_253 : Cond.fieldLink RX11 253 "TalkChutes$Table" "fails" "[I" ∈ lw_g := lw_m (tb_1 _ (List.mem_of_getElem? (i := 210) rfl)) rfl
theorem wf_X7_59 : Cond.fieldLink RX7 59 "TalkChutes$Table" "falling" "I" ∈ lw_g := lw_m (tb_1 _ (List.mem_of_getElem? (i := 211) rfl)) rfl
theorem wf_X11_216 : Cond.fieldLink RX11 216 "TalkChutes$Table" "falling" "I" ∈ lw_g := lw_m (tb_1 _ (List.mem_of_getElem? (i := 212) rfl)) rfl
theorem wf_X7_62 : Cond.fieldLink RX7 62 "TalkChutes$Table" "feuds" "I" ∈ lw_g := lw_m (tb_1 _ (List.mem_of_getElem? (i := 213) rfl)) rfl
theorem wf_X3_25 : Cond.fieldLink RX3 25 "TalkChutes$Table" "feuds" "I" ∈ lw_g := lw_m (tb_1 _ (List.mem_of_getElem? (i := 214) rfl)) rfl
theorem wf_X8_142 : Cond.fieldLink RX8 142 "TalkChutes$Table" "feuds" "I" ∈ lw_g := lw_m (tb_1 _ (List.mem_of_getElem? (i := 215) rfl)) rfl
theorem wf_X11_201 : Cond.fieldLink RX11 201 "TalkChutes$Table" "feuds" "I" ∈ lw_g := lw_m (tb_1 _ (List.mem_of_getElem? (i := 216) rfl)) rfl
theorem wf_X7_37 : Cond.fieldLink RX7 37 "TalkChutes$Table" "one" "[I" ∈ lw_g := lw_m (tb_1 _ (List.mem_of_getElem? (i := 217) rfl)) rfl
theorem wf_X3_29 : Cond.fieldLink RX3 29 "TalkChutes$Table" "one" "[I" ∈ lw_g := lw_m (tb_1 _ (List.mem_of_getElem? (i := 218) rfl)) rfl
theorem wf_X11_259 : Cond.fieldLink RX11 259 "TalkChutes$Table" "one" "[I" ∈ lw_g := lw_m (tb_1 _ (List.mem_of_getElem? (i := 219) rfl)) rfl
theorem wf_X7_40 : Cond.fieldLink RX7 40 "TalkChutes$Table" "other" "[I" ∈ lw_g := lw_m (tb_1 _ (List.mem_of_getElem? (i := 220) rfl)) rfl
theorem wf_X3_32 : Cond.fieldLink RX3 32 "TalkChutes$Table" "other" "[I" ∈ lw_g := lw_m (tb_1 _ (List.mem_of_getElem? (i := 221) rfl)) rfl
theorem wf_X11_262 : Cond.fieldLink RX11 262 "TalkChutes$Table" "other" "[I" ∈ lw_g := lw_m (tb_1 _ (List.mem_of_getElem? (i := 222) rfl)) rfl
theorem wf_X7_65 : Cond.fieldLink RX7 65 "TalkChutes$Table" "said" "I" ∈ lw_g := lw_m (tb_1 _ (List.mem_of_getElem? (i := 223) rfl)) rfl
theorem wf_X11_206 : Cond.fieldLink RX11 206 "TalkChutes$Table" "said" "I" ∈ lw_g := lw_m (tb_1 _ (List.mem_of_getElem? (i := 224) rfl)) rfl
theorem wf_X7_43 : Cond.fieldLink RX7 43 "TalkChutes$Table" "names" "[J" ∈ lw_g := lw_m (tb_1 _ (List.mem_of_getElem? (i := 225) rfl)) rfl
theorem wf_X8_75 : Cond.fieldLink RX8 75 "TalkChutes$Table" "names" "[J" ∈ lw_g := lw_m (tb_1 _ (List.mem_of_getElem? (i := 226) rfl)) rfl
theorem wi_X1_init : Cond.instanceMethod yX1_init ∈ lw_g := lw_m (tb_2 _ (List.mem_of_getElem? (i := 27) rfl)) rfl
theorem wc_X1_init : Cond.code yX1_init cX1_init 1 none ∈ lw_g := lw_m (tb_2 _ (List.mem_of_getElem? (i := 28) rfl)) rfl
theorem wf_X1_25 : Cond.fieldLink RX1 25 "TalkChutes$Evenings" "there" "Z" ∈ lw_g := lw_m (tb_2 _ (List.mem_of_getElem? (i := 30) rfl)) rfl
theorem wf_X2_57 : Cond.fieldLink RX2 57 "TalkChutes$Evenings" "there" "Z" ∈ lw_g := lw_m (tb_2 _ (List.mem_of_getElem? (i := 31) rfl)) rfl
theorem wf_X11_385 : Cond.fieldLink RX11 385 "TalkChutes$Evenings" "there" "Z" ∈ lw_g := lw_m (tb_2 _ (List.mem_of_getElem? (i := 32) rfl)) rfl
theorem wf_X1_29 : Cond.fieldLink RX1 29 "TalkChutes$Evenings" "steps" "I" ∈ lw_g := lw_m (tb_2 _ (List.mem_of_getElem? (i := 33) rfl)) rfl
theorem wf_X2_73 : Cond.fieldLink RX2 73 "TalkChutes$Evenings" "steps" "I" ∈ lw_g := lw_m (tb_2 _ (List.mem_of_getElem? (i := 34) rfl)) rfl
theorem wf_X11_192 : Cond.fieldLink RX11 192 "TalkChutes$Evenings" "steps" "I" ∈ lw_g := lw_m (tb_2 _ (List.mem_of_getElem? (i := 35) rfl)) rfl
theorem wf_X1_33 : Cond.fieldLink RX1 33 "TalkChutes$Evenings" "length" "I" ∈ lw_g := lw_m (tb_2 _ (List.mem_of_getElem? (i := 36) rfl)) rfl
theorem wf_X0_45 : Cond.fieldLink RX0 45 "TalkChutes$Evenings" "length" "I" ∈ lw_g := lw_m (tb_2 _ (List.mem_of_getElem? (i := 37) rfl)) rfl
theorem wf_X2_64 : Cond.fieldLink RX2 64 "TalkChutes$Evenings" "length" "I" ∈ lw_g := lw_m (tb_2 _ (List.mem_of_getElem? (i := 38) rfl)) rfl
theorem wf_X1_9 : Cond.fieldLink RX1 9 "TalkChutes$Evenings" "act" "[I" ∈ lw_g := lw_m (tb_2 _ (List.mem_of_getElem? (i := 39) rfl)) rfl
theorem wf_X0_48 : Cond.fieldLink RX0 48 "TalkChutes$Evenings" "act" "[I" ∈ lw_g := lw_m (tb_2 _ (List.mem_of_getElem? (i := 40) rfl)) rfl
theorem wf_X2_61 : Cond.fieldLink RX2 61 "TalkChutes$Evenings" "act" "[I" ∈ lw_g := lw_m (tb_2 _ (List.mem_of_getElem? (i := 41) rfl)) rfl
theorem wf_X1_13 : Cond.fieldLink RX1 13 "TalkChutes$Evenings" "one" "[I" ∈ lw_g := lw_m (tb_2 _ (List.mem_of_getElem? (i := 42) rfl)) rfl
theorem wf_X0_63 : Cond.fieldLink RX0 63 "TalkChutes$Evenings" "one" "[I" ∈ lw_g := lw_m (tb_2 _ (List.mem_of_getElem? (i := 43) rfl)) rfl
theorem wf_X2_90 : Cond.fieldLink RX2 90 "TalkChutes$Evenings" "one" "[I" ∈ lw_g := lw_m (tb_2 _ (List.mem_of_getElem? (i := 44) rfl)) rfl
theorem wf_X1_16 : Cond.fieldLink RX1 16 "TalkChutes$Evenings" "two" "[I" ∈ lw_g := lw_m (tb_2 _ (List.mem_of_getElem? (i := 45) rfl)) rfl
theorem wf_X0_66 : Cond.fieldLink RX0 66 "TalkChutes$Evenings" "two" "[I" ∈ lw_g := lw_m (tb_2 _ (List.mem_of_getElem? (i := 46) rfl)) rfl
theorem wf_X2_79 : Cond.fieldLink RX2 79 "TalkChutes$Evenings" "two" "[I" ∈ lw_g := lw_m (tb_2 _ (List.mem_of_getElem? (i := 47) rfl)) rfl
theorem wf_X1_19 : Cond.fieldLink RX1 19 "TalkChutes$Evenings" "test" "[I" ∈ lw_g := lw_m (tb_2 _ (List.mem_of_getElem? (i := 48) rfl)) rfl
theorem wf_X2_109 : Cond.fieldLink RX2 109 "TalkChutes$Evenings" "test" "[I" ∈ lw_g := lw_m (tb_2 _ (List.mem_of_getElem? (i := 49) rfl)) rfl
theorem wf_X0_130 : Cond.fieldLink RX0 130 "TalkChutes$Evenings" "test" "[I" ∈ lw_g := lw_m (tb_2 _ (List.mem_of_getElem? (i := 50) rfl)) rfl
theorem wf_X1_22 : Cond.fieldLink RX1 22 "TalkChutes$Evenings" "partner" "[I" ∈ lw_g := lw_m (tb_2 _ (List.mem_of_getElem? (i := 51) rfl)) rfl
theorem wf_X0_60 : Cond.fieldLink RX0 60 "TalkChutes$Evenings" "partner" "[I" ∈ lw_g := lw_m (tb_2 _ (List.mem_of_getElem? (i := 52) rfl)) rfl
theorem wf_X2_67 : Cond.fieldLink RX2 67 "TalkChutes$Evenings" "partner" "[I" ∈ lw_g := lw_m (tb_2 _ (List.mem_of_getElem? (i := 53) rfl)) rfl
theorem wf_X6_10 : Cond.fieldLink RX6 10 "TalkChutes$State" "table" "LTalkChutes$Table;" ∈ lw_g := lw_m (tb_2 _ (List.mem_of_getElem? (i := 71) rfl)) rfl
theorem wf_X11_152 : Cond.fieldLink RX11 152 "TalkChutes$State" "table" "LTalkChutes$Table;" ∈ lw_g := lw_m (tb_2 _ (List.mem_of_getElem? (i := 72) rfl)) rfl
theorem wf_X6_19 : Cond.fieldLink RX6 19 "TalkChutes$State" "evenings" "LTalkChutes$Evenings;" ∈ lw_g := lw_m (tb_2 _ (List.mem_of_getElem? (i := 73) rfl)) rfl
theorem wf_X11_170 : Cond.fieldLink RX11 170 "TalkChutes$State" "evenings" "LTalkChutes$Evenings;" ∈ lw_g := lw_m (tb_2 _ (List.mem_of_getElem? (i := 74) rfl)) rfl
theorem wi_X0_init : Cond.instanceMethod yX0_init ∈ lw_g := lw_m (tb_2 _ (List.mem_of_getElem? (i := 84) rfl)) rfl
theorem wc_X0_init : Cond.code yX0_init cX0_init 1 none ∈ lw_g := lw_m (tb_2 _ (List.mem_of_getElem? (i := 85) rfl)) rfl
theorem wf_X0_15 : Cond.fieldLink RX0 15 "TalkChutes$Evening" "table" "LTalkChutes$Table;" ∈ lw_g := lw_m (tb_2 _ (List.mem_of_getElem? (i := 87) rfl)) rfl
theorem wf_X0_19 : Cond.fieldLink RX0 19 "TalkChutes$Evening" "evenings" "LTalkChutes$Evenings;" ∈ lw_g := lw_m (tb_2 _ (List.mem_of_getElem? (i := 88) rfl)) rfl
theorem wf_X0_23 : Cond.fieldLink RX0 23 "TalkChutes$Evening" "seed" "I" ∈ lw_g := lw_m (tb_2 _ (List.mem_of_getElem? (i := 89) rfl)) rfl
theorem wf_X0_9 : Cond.fieldLink RX0 9 "TalkChutes$Evening" "roundsLeft" "[I" ∈ lw_g := lw_m (tb_2 _ (List.mem_of_getElem? (i := 90) rfl)) rfl
theorem wf_X0_27 : Cond.fieldLink RX0 27 "TalkChutes$Evening" "steps" "I" ∈ lw_g := lw_m (tb_2 _ (List.mem_of_getElem? (i := 91) rfl)) rfl
theorem wf_X11_396 : Cond.fieldLink RX11 396 "TalkChutes$Evening" "steps" "I" ∈ lw_g := lw_m (tb_2 _ (List.mem_of_getElem? (i := 92) rfl)) rfl
theorem wf_X0_30 : Cond.fieldLink RX0 30 "TalkChutes$Evening" "missed" "I" ∈ lw_g := lw_m (tb_2 _ (List.mem_of_getElem? (i := 93) rfl)) rfl
theorem wf_X11_397 : Cond.fieldLink RX11 397 "TalkChutes$Evening" "missed" "I" ∈ lw_g := lw_m (tb_2 _ (List.mem_of_getElem? (i := 94) rfl)) rfl
theorem wf_X0_33 : Cond.fieldLink RX0 33 "TalkChutes$Evening" "said" "I" ∈ lw_g := lw_m (tb_2 _ (List.mem_of_getElem? (i := 95) rfl)) rfl
theorem wf_X11_400 : Cond.fieldLink RX11 400 "TalkChutes$Evening" "said" "I" ∈ lw_g := lw_m (tb_2 _ (List.mem_of_getElem? (i := 96) rfl)) rfl
theorem wf_X0_36 : Cond.fieldLink RX0 36 "TalkChutes$Evening" "fell" "I" ∈ lw_g := lw_m (tb_2 _ (List.mem_of_getElem? (i := 97) rfl)) rfl
theorem wf_X11_401 : Cond.fieldLink RX11 401 "TalkChutes$Evening" "fell" "I" ∈ lw_g := lw_m (tb_2 _ (List.mem_of_getElem? (i := 98) rfl)) rfl
theorem wf_X0_39 : Cond.fieldLink RX0 39 "TalkChutes$Evening" "pulls" "I" ∈ lw_g := lw_m (tb_2 _ (List.mem_of_getElem? (i := 99) rfl)) rfl
theorem wf_X11_404 : Cond.fieldLink RX11 404 "TalkChutes$Evening" "pulls" "I" ∈ lw_g := lw_m (tb_2 _ (List.mem_of_getElem? (i := 100) rfl)) rfl
theorem wf_X0_42 : Cond.fieldLink RX0 42 "TalkChutes$Evening" "left" "I" ∈ lw_g := lw_m (tb_2 _ (List.mem_of_getElem? (i := 101) rfl)) rfl
theorem wf_X11_407 : Cond.fieldLink RX11 407 "TalkChutes$Evening" "left" "I" ∈ lw_g := lw_m (tb_2 _ (List.mem_of_getElem? (i := 102) rfl)) rfl
theorem wi_X10_init : Cond.instanceMethod yX10_init ∈ lw_g := lw_m (tb_2 _ (List.mem_of_getElem? (i := 127) rfl)) rfl
theorem wc_X10_init : Cond.code yX10_init cX10_init 1 none ∈ lw_g := lw_m (tb_2 _ (List.mem_of_getElem? (i := 128) rfl)) rfl
theorem wf_X10_20 : Cond.fieldLink RX10 20 "TalkChutes$Ways" "table" "LTalkChutes$Table;" ∈ lw_g := lw_m (tb_2 _ (List.mem_of_getElem? (i := 130) rfl)) rfl
theorem wf_X10_28 : Cond.fieldLink RX10 28 "TalkChutes$Ways" "standing" "I" ∈ lw_g := lw_m (tb_2 _ (List.mem_of_getElem? (i := 131) rfl)) rfl
theorem wf_X10_13 : Cond.fieldLink RX10 13 "TalkChutes$Ways" "ends" "[I" ∈ lw_g := lw_m (tb_2 _ (List.mem_of_getElem? (i := 132) rfl)) rfl
theorem wf_X10_17 : Cond.fieldLink RX10 17 "TalkChutes$Ways" "sayingsLeft" "[I" ∈ lw_g := lw_m (tb_2 _ (List.mem_of_getElem? (i := 133) rfl)) rfl
theorem wi_X3_init : Cond.instanceMethod yX3_init ∈ lw_g := lw_m (tb_2 _ (List.mem_of_getElem? (i := 146) rfl)) rfl
theorem wc_X3_init : Cond.code yX3_init cX3_init 1 none ∈ lw_g := lw_m (tb_2 _ (List.mem_of_getElem? (i := 147) rfl)) rfl
theorem wf_X3_21 : Cond.fieldLink RX3 21 "TalkChutes$Feuds" "table" "LTalkChutes$Table;" ∈ lw_g := lw_m (tb_2 _ (List.mem_of_getElem? (i := 149) rfl)) rfl
theorem wf_X3_42 : Cond.fieldLink RX3 42 "TalkChutes$Feuds" "topics" "I" ∈ lw_g := lw_m (tb_2 _ (List.mem_of_getElem? (i := 150) rfl)) rfl
theorem wf_X3_45 : Cond.fieldLink RX3 45 "TalkChutes$Feuds" "fewest" "I" ∈ lw_g := lw_m (tb_2 _ (List.mem_of_getElem? (i := 151) rfl)) rfl
theorem wf_X3_9 : Cond.fieldLink RX3 9 "TalkChutes$Feuds" "foes" "[I" ∈ lw_g := lw_m (tb_2 _ (List.mem_of_getElem? (i := 152) rfl)) rfl
theorem wf_X3_15 : Cond.fieldLink RX3 15 "TalkChutes$Feuds" "row" "[I" ∈ lw_g := lw_m (tb_2 _ (List.mem_of_getElem? (i := 153) rfl)) rfl
theorem wf_X3_18 : Cond.fieldLink RX3 18 "TalkChutes$Feuds" "bestRow" "[I" ∈ lw_g := lw_m (tb_2 _ (List.mem_of_getElem? (i := 154) rfl)) rfl
theorem wf_X11_363 : Cond.fieldLink RX11 363 "TalkChutes$Feuds" "bestRow" "[I" ∈ lw_g := lw_m (tb_2 _ (List.mem_of_getElem? (i := 155) rfl)) rfl
theorem wi_X5_init : Cond.instanceMethod yX5_init ∈ lw_g := lw_m (tb_2 _ (List.mem_of_getElem? (i := 172) rfl)) rfl
theorem wc_X5_init : Cond.code yX5_init cX5_init 1 none ∈ lw_g := lw_m (tb_2 _ (List.mem_of_getElem? (i := 173) rfl)) rfl
theorem wf_X5_9 : Cond.fieldLink RX5 9 "TalkChutes$Reckoner" "pulling" "[J" ∈ lw_g := lw_m (tb_2 _ (List.mem_of_getElem? (i := 175) rfl)) rfl
theorem wf_X5_15 : Cond.fieldLink RX5 15 "TalkChutes$Reckoner" "waiting" "[J" ∈ lw_g := lw_m (tb_2 _ (List.mem_of_getElem? (i := 176) rfl)) rfl
theorem wf_X5_18 : Cond.fieldLink RX5 18 "TalkChutes$Reckoner" "most" "[J" ∈ lw_g := lw_m (tb_2 _ (List.mem_of_getElem? (i := 177) rfl)) rfl
theorem wf_X11_349 : Cond.fieldLink RX11 349 "TalkChutes$Reckoner" "most" "[J" ∈ lw_g := lw_m (tb_2 _ (List.mem_of_getElem? (i := 178) rfl)) rfl
theorem wf_X5_21 : Cond.fieldLink RX5 21 "TalkChutes$Reckoner" "held" "[J" ∈ lw_g := lw_m (tb_2 _ (List.mem_of_getElem? (i := 179) rfl)) rfl
theorem wf_X11_92 : Cond.fieldLink RX11 92 "TalkChutes" "status" "I" ∈ lw_g := lw_m (tb_2 _ (List.mem_of_getElem? (i := 189) rfl)) rfl
theorem wf_X11_95 : Cond.fieldLink RX11 95 "TalkChutes" "fractionTop" "J" ∈ lw_g := lw_m (tb_2 _ (List.mem_of_getElem? (i := 190) rfl)) rfl
theorem wf_X11_81 : Cond.fieldLink RX11 81 "TalkChutes" "fractionBottom" "J" ∈ lw_g := lw_m (tb_2 _ (List.mem_of_getElem? (i := 191) rfl)) rfl
theorem wf_X11_11 : Cond.fieldLink RX11 11 "TalkChutes" "trays" "[LTalkChutes$Tray;" ∈ lw_g := lw_m (tb_2 _ (List.mem_of_getElem? (i := 192) rfl)) rfl
theorem wf_X11_16 : Cond.fieldLink RX11 16 "TalkChutes" "tape" "[B" ∈ lw_g := lw_m (tb_2 _ (List.mem_of_getElem? (i := 193) rfl)) rfl
theorem wf_X11_145 : Cond.fieldLink RX11 145 "TalkChutes" "taped" "I" ∈ lw_g := lw_m (tb_2 _ (List.mem_of_getElem? (i := 194) rfl)) rfl
theorem wf_X11_25 : Cond.fieldLink RX11 25 "TalkChutes" "tableReader" "LTalkChutes$TableReader;" ∈ lw_g := lw_m (tb_2 _ (List.mem_of_getElem? (i := 195) rfl)) rfl
theorem wf_X11_32 : Cond.fieldLink RX11 32 "TalkChutes" "eveningsReader" "LTalkChutes$EveningsReader;" ∈ lw_g := lw_m (tb_2 _ (List.mem_of_getElem? (i := 196) rfl)) rfl
theorem wf_X11_85 : Cond.fieldLink RX11 85 "TalkChutes" "faultKind" "I" ∈ lw_g := lw_m (tb_2 _ (List.mem_of_getElem? (i := 197) rfl)) rfl
theorem wf_X11_89 : Cond.fieldLink RX11 89 "TalkChutes" "faultPlace" "I" ∈ lw_g := lw_m (tb_2 _ (List.mem_of_getElem? (i := 198) rfl)) rfl
theorem wf_X11_39 : Cond.fieldLink RX11 39 "TalkChutes" "now" "LTalkChutes$State;" ∈ lw_g := lw_m (tb_2 _ (List.mem_of_getElem? (i := 199) rfl)) rfl
theorem wf_X11_43 : Cond.fieldLink RX11 43 "TalkChutes" "spare" "LTalkChutes$State;" ∈ lw_g := lw_m (tb_2 _ (List.mem_of_getElem? (i := 200) rfl)) rfl
theorem wf_X11_46 : Cond.fieldLink RX11 46 "TalkChutes" "marks" "[LTalkChutes$State;" ∈ lw_g := lw_m (tb_2 _ (List.mem_of_getElem? (i := 201) rfl)) rfl
theorem wf_X11_413 : Cond.fieldLink RX11 413 "TalkChutes" "marked" "I" ∈ lw_g := lw_m (tb_2 _ (List.mem_of_getElem? (i := 202) rfl)) rfl
theorem wf_X11_53 : Cond.fieldLink RX11 53 "TalkChutes" "latest" "LTalkChutes$Evening;" ∈ lw_g := lw_m (tb_2 _ (List.mem_of_getElem? (i := 203) rfl)) rfl
theorem wf_X11_57 : Cond.fieldLink RX11 57 "TalkChutes" "trial" "LTalkChutes$Evening;" ∈ lw_g := lw_m (tb_2 _ (List.mem_of_getElem? (i := 204) rfl)) rfl
theorem wf_X11_393 : Cond.fieldLink RX11 393 "TalkChutes" "anyLived" "Z" ∈ lw_g := lw_m (tb_2 _ (List.mem_of_getElem? (i := 205) rfl)) rfl
theorem wf_X11_63 : Cond.fieldLink RX11 63 "TalkChutes" "ways" "LTalkChutes$Ways;" ∈ lw_g := lw_m (tb_2 _ (List.mem_of_getElem? (i := 206) rfl)) rfl
theorem wf_X11_70 : Cond.fieldLink RX11 70 "TalkChutes" "feuds" "LTalkChutes$Feuds;" ∈ lw_g := lw_m (tb_2 _ (List.mem_of_getElem? (i := 207) rfl)) rfl
theorem wf_X11_77 : Cond.fieldLink RX11 77 "TalkChutes" "reckoner" "LTalkChutes$Reckoner;" ∈ lw_g := lw_m (tb_2 _ (List.mem_of_getElem? (i := 208) rfl)) rfl
theorem wl_L_13 : Cond.methodLink RL 13 yX11_status ∈ lw_g := lw_m (tb_3 _ (List.mem_of_getElem? (i := 10) rfl)) rfl
theorem wi_X11_status : Cond.instanceMethod yX11_status ∈ lw_g := lw_m (tb_3 _ (List.mem_of_getElem? (i := 11) rfl)) rfl
theorem ws_X11_X11_status_X11_status : Cond.selects RX11 yX11_status yX11_status ∈ lw_g := lw_m (tb_3 _ (List.mem_of_getElem? (i := 12) rfl)) rfl
theorem wc_X11_status : Cond.code yX11_status cX11_status 1 (some .int) ∈ lw_g := lw_m (tb_3 _ (List.mem_of_getElem? (i := 13) rfl)) rfl
theorem wl_L_18 : Cond.methodLink RL 18 yX11_top ∈ lw_g := lw_m (tb_3 _ (List.mem_of_getElem? (i := 14) rfl)) rfl
theorem wi_X11_top : Cond.instanceMethod yX11_top ∈ lw_g := lw_m (tb_3 _ (List.mem_of_getElem? (i := 15) rfl)) rfl
theorem ws_X11_X11_top_X11_top : Cond.selects RX11 yX11_top yX11_top ∈ lw_g := lw_m (tb_3 _ (List.mem_of_getElem? (i := 16) rfl)) rfl
theorem wc_X11_top : Cond.code yX11_top cX11_top 1 (some .long) ∈ lw_g := lw_m (tb_3 _ (List.mem_of_getElem? (i := 17) rfl)) rfl
theorem wl_L_23 : Cond.methodLink RL 23 yX11_bottom ∈ lw_g := lw_m (tb_3 _ (List.mem_of_getElem? (i := 18) rfl)) rfl
theorem wi_X11_bottom : Cond.instanceMethod yX11_bottom ∈ lw_g := lw_m (tb_3 _ (List.mem_of_getElem? (i := 19) rfl)) rfl
theorem ws_X11_X11_bottom_X11_bottom : Cond.selects RX11 yX11_bottom yX11_bottom ∈ lw_g := lw_m (tb_3 _ (List.mem_of_getElem? (i := 20) rfl)) rfl
theorem wc_X11_bottom : Cond.code yX11_bottom cX11_bottom 1 (some .long) ∈ lw_g := lw_m (tb_3 _ (List.mem_of_getElem? (i := 21) rfl)) rfl
theorem wl_L_27 : Cond.methodLink RL 27 yX11_tray ∈ lw_g := lw_m (tb_3 _ (List.mem_of_getElem? (i := 22) rfl)) rfl
theorem wi_X11_tray : Cond.instanceMethod yX11_tray ∈ lw_g := lw_m (tb_3 _ (List.mem_of_getElem? (i := 23) rfl)) rfl
theorem ws_X11_X11_tray_X11_tray : Cond.selects RX11 yX11_tray yX11_tray ∈ lw_g := lw_m (tb_3 _ (List.mem_of_getElem? (i := 24) rfl)) rfl
theorem wc_X11_tray : Cond.code yX11_tray cX11_tray 4 (some .boolean) ∈ lw_g := lw_m (tb_3 _ (List.mem_of_getElem? (i := 25) rfl)) rfl
theorem wl_X11_98 : Cond.methodLink RX11 98 yX11_isTray ∈ lw_g := lw_m (tb_3 _ (List.mem_of_getElem? (i := 26) rfl)) rfl
theorem wt_X11_isTray : Cond.static yX11_isTray ∈ lw_g := lw_m (tb_3 _ (List.mem_of_getElem? (i := 27) rfl)) rfl
theorem wc_X11_isTray : Cond.code yX11_isTray cX11_isTray 1 (some .boolean) ∈ lw_g := lw_m (tb_3 _ (List.mem_of_getElem? (i := 28) rfl)) rfl
theorem wl_X11_102 : Cond.methodLink RX11 102 yX11_deny ∈ lw_g := lw_m (tb_3 _ (List.mem_of_getElem? (i := 29) rfl)) rfl
theorem wi_X11_deny : Cond.instanceMethod yX11_deny ∈ lw_g := lw_m (tb_3 _ (List.mem_of_getElem? (i := 31) rfl)) rfl
theorem wc_X11_deny : Cond.code yX11_deny cX11_deny 2 (some .boolean) ∈ lw_g := lw_m (tb_3 _ (List.mem_of_getElem? (i := 32) rfl)) rfl
theorem wl_X11_105 : Cond.methodLink RX11 105 yX9_begin ∈ lw_g := lw_m (tb_3 _ (List.mem_of_getElem? (i := 33) rfl)) rfl
theorem wi_X9_begin : Cond.instanceMethod yX9_begin ∈ lw_g := lw_m (tb_3 _ (List.mem_of_getElem? (i := 34) rfl)) rfl
theorem ws_X9_X9_begin_X9_begin : Cond.selects RX9 yX9_begin yX9_begin ∈ lw_g := lw_m (tb_3 _ (List.mem_of_getElem? (i := 35) rfl)) rfl
theorem wc_X9_begin : Cond.code yX9_begin cX9_begin 4 none ∈ lw_g := lw_m (tb_3 _ (List.mem_of_getElem? (i := 36) rfl)) rfl
theorem wl_X11_109 : Cond.methodLink RX11 109 yX11_grant ∈ lw_g := lw_m (tb_3 _ (List.mem_of_getElem? (i := 37) rfl)) rfl
theorem wi_X11_grant : Cond.instanceMethod yX11_grant ∈ lw_g := lw_m (tb_3 _ (List.mem_of_getElem? (i := 39) rfl)) rfl
theorem wc_X11_grant : Cond.code yX11_grant cX11_grant 1 (some .boolean) ∈ lw_g := lw_m (tb_3 _ (List.mem_of_getElem? (i := 40) rfl)) rfl
theorem wl_L_34 : Cond.methodLink RL 34 yX11_write ∈ lw_g := lw_m (tb_3 _ (List.mem_of_getElem? (i := 41) rfl)) rfl
theorem wi_X11_write : Cond.instanceMethod yX11_write ∈ lw_g := lw_m (tb_3 _ (List.mem_of_getElem? (i := 42) rfl)) rfl
theorem ws_X11_X11_write_X11_write : Cond.selects RX11 yX11_write yX11_write ∈ lw_g := lw_m (tb_3 _ (List.mem_of_getElem? (i := 43) rfl)) rfl
theorem wc_X11_write : Cond.code yX11_write cX11_write 6 (some .boolean) ∈ lw_g := lw_m (tb_3 _ (List.mem_of_getElem? (i := 44) rfl)) rfl
theorem wl_X11_113 : Cond.methodLink RX11 113 yX11_placeStatus ∈ lw_g := lw_m (tb_3 _ (List.mem_of_getElem? (i := 45) rfl)) rfl
theorem wi_X11_placeStatus : Cond.instanceMethod yX11_placeStatus ∈ lw_g := lw_m (tb_3 _ (List.mem_of_getElem? (i := 47) rfl)) rfl
theorem wc_X11_placeStatus : Cond.code yX11_placeStatus cX11_placeStatus 3 (some .int) ∈ lw_g := lw_m (tb_3 _ (List.mem_of_getElem? (i := 48) rfl)) rfl
theorem wl_X11_129 : Cond.methodLink RX11 129 yX9_isMissing ∈ lw_g := lw_m (tb_3 _ (List.mem_of_getElem? (i := 49) rfl)) rfl
theorem wi_X9_isMissing : Cond.instanceMethod yX9_isMissing ∈ lw_g := lw_m (tb_3 _ (List.mem_of_getElem? (i := 50) rfl)) rfl
theorem ws_X9_X9_isMissing_X9_isMissing : Cond.selects RX9 yX9_isMissing yX9_isMissing ∈ lw_g := lw_m (tb_3 _ (List.mem_of_getElem? (i := 51) rfl)) rfl
theorem wc_X9_isMissing : Cond.code yX9_isMissing cX9_isMissing 1 (some .boolean) ∈ lw_g := lw_m (tb_3 _ (List.mem_of_getElem? (i := 52) rfl)) rfl
theorem wl_X11_135 : Cond.methodLink RX11 135 yX9_holds ∈ lw_g := lw_m (tb_3 _ (List.mem_of_getElem? (i := 53) rfl)) rfl
theorem wi_X9_holds : Cond.instanceMethod yX9_holds ∈ lw_g := lw_m (tb_3 _ (List.mem_of_getElem? (i := 54) rfl)) rfl
theorem ws_X9_X9_holds_X9_holds : Cond.selects RX9 yX9_holds yX9_holds ∈ lw_g := lw_m (tb_3 _ (List.mem_of_getElem? (i := 55) rfl)) rfl
theorem wc_X9_holds : Cond.code yX9_holds cX9_holds 3 (some .boolean) ∈ lw_g := lw_m (tb_3 _ (List.mem_of_getElem? (i := 56) rfl)) rfl
theorem wl_X11_117 : Cond.methodLink RX11 117 yX9_put ∈ lw_g := lw_m (tb_3 _ (List.mem_of_getElem? (i := 57) rfl)) rfl
theorem wi_X9_put : Cond.instanceMethod yX9_put ∈ lw_g := lw_m (tb_3 _ (List.mem_of_getElem? (i := 58) rfl)) rfl
theorem ws_X9_X9_put_X9_put : Cond.selects RX9 yX9_put yX9_put ∈ lw_g := lw_m (tb_3 _ (List.mem_of_getElem? (i := 59) rfl)) rfl
theorem wc_X9_put : Cond.code yX9_put cX9_put 4 none ∈ lw_g := lw_m (tb_3 _ (List.mem_of_getElem? (i := 60) rfl)) rfl
theorem wl_L_39 : Cond.methodLink RL 39 yX11_read ∈ lw_g := lw_m (tb_3 _ (List.mem_of_getElem? (i := 61) rfl)) rfl
theorem wi_X11_read : Cond.instanceMethod yX11_read ∈ lw_g := lw_m (tb_3 _ (List.mem_of_getElem? (i := 62) rfl)) rfl
theorem ws_X11_X11_read_X11_read : Cond.selects RX11 yX11_read yX11_read ∈ lw_g := lw_m (tb_3 _ (List.mem_of_getElem? (i := 63) rfl)) rfl
theorem wc_X11_read : Cond.code yX11_read cX11_read 4 (some .long) ∈ lw_g := lw_m (tb_3 _ (List.mem_of_getElem? (i := 64) rfl)) rfl
theorem wl_X11_121 : Cond.methodLink RX11 121 yX11_refuse ∈ lw_g := lw_m (tb_3 _ (List.mem_of_getElem? (i := 65) rfl)) rfl
theorem wi_X11_refuse : Cond.instanceMethod yX11_refuse ∈ lw_g := lw_m (tb_3 _ (List.mem_of_getElem? (i := 67) rfl)) rfl
theorem wc_X11_refuse : Cond.code yX11_refuse cX11_refuse 2 (some .int) ∈ lw_g := lw_m (tb_3 _ (List.mem_of_getElem? (i := 68) rfl)) rfl
theorem wl_L_44 : Cond.methodLink RL 44 yX11_pour ∈ lw_g := lw_m (tb_3 _ (List.mem_of_getElem? (i := 69) rfl)) rfl
theorem wi_X11_pour : Cond.instanceMethod yX11_pour ∈ lw_g := lw_m (tb_3 _ (List.mem_of_getElem? (i := 70) rfl)) rfl
theorem ws_X11_X11_pour_X11_pour : Cond.selects RX11 yX11_pour yX11_pour ∈ lw_g := lw_m (tb_3 _ (List.mem_of_getElem? (i := 71) rfl)) rfl
theorem wc_X11_pour : Cond.code yX11_pour cX11_pour 8 (some .boolean) ∈ lw_g := lw_m (tb_3 _ (List.mem_of_getElem? (i := 72) rfl)) rfl
theorem wl_L_49 : Cond.methodLink RL 49 yX11_feed ∈ lw_g := lw_m (tb_3 _ (List.mem_of_getElem? (i := 76) rfl)) rfl
theorem wi_X11_feed : Cond.instanceMethod yX11_feed ∈ lw_g := lw_m (tb_3 _ (List.mem_of_getElem? (i := 77) rfl)) rfl
theorem ws_X11_X11_feed_X11_feed : Cond.selects RX11 yX11_feed yX11_feed ∈ lw_g := lw_m (tb_3 _ (List.mem_of_getElem? (i := 78) rfl)) rfl
theorem wc_X11_feed : Cond.code yX11_feed cX11_feed 6 (some .int) ∈ lw_g := lw_m (tb_3 _ (List.mem_of_getElem? (i := 79) rfl)) rfl
theorem wl_X11_148 : Cond.methodLink RX11 148 yX11_putOnTape ∈ lw_g := lw_m (tb_3 _ (List.mem_of_getElem? (i := 80) rfl)) rfl
theorem wi_X11_putOnTape : Cond.instanceMethod yX11_putOnTape ∈ lw_g := lw_m (tb_3 _ (List.mem_of_getElem? (i := 82) rfl)) rfl
theorem wc_X11_putOnTape : Cond.code yX11_putOnTape cX11_putOnTape 3 none ∈ lw_g := lw_m (tb_3 _ (List.mem_of_getElem? (i := 83) rfl)) rfl
theorem wl_L_54 : Cond.methodLink RL 54 yX11_table ∈ lw_g := lw_m (tb_3 _ (List.mem_of_getElem? (i := 84) rfl)) rfl
theorem wi_X11_table : Cond.instanceMethod yX11_table ∈ lw_g := lw_m (tb_3 _ (List.mem_of_getElem? (i := 85) rfl)) rfl
theorem ws_X11_X11_table_X11_table : Cond.selects RX11 yX11_table yX11_table ∈ lw_g := lw_m (tb_3 _ (List.mem_of_getElem? (i := 86) rfl)) rfl
theorem wc_X11_table : Cond.code yX11_table cX11_table 3 (some .int) ∈ lw_g := lw_m (tb_3 _ (List.mem_of_getElem? (i := 87) rfl)) rfl
theorem wl_X11_156 : Cond.methodLink RX11 156 yX8_readTable ∈ lw_g := lw_m (tb_3 _ (List.mem_of_getElem? (i := 88) rfl)) rfl
theorem wi_X8_readTable : Cond.instanceMethod yX8_readTable ∈ lw_g := lw_m (tb_3 _ (List.mem_of_getElem? (i := 89) rfl)) rfl
theorem ws_X8_X8_readTable_X8_readTable : Cond.selects RX8 yX8_readTable yX8_readTable ∈ lw_g := lw_m (tb_3 _ (List.mem_of_getElem? (i := 90) rfl)) rfl
theorem wc_X8_readTable : Cond.code yX8_readTable cX8_readTable 5 (some .boolean) ∈ lw_g := lw_m (tb_3 _ (List.mem_of_getElem? (i := 91) rfl)) rfl
theorem wl_X8_15 : Cond.methodLink RX8 15 yX7_clear ∈ lw_g := lw_m (tb_3 _ (List.mem_of_getElem? (i := 92) rfl)) rfl
theorem wi_X7_clear : Cond.instanceMethod yX7_clear ∈ lw_g := lw_m (tb_3 _ (List.mem_of_getElem? (i := 93) rfl)) rfl
theorem ws_X7_X7_clear_X7_clear : Cond.selects RX7 yX7_clear yX7_clear ∈ lw_g := lw_m (tb_3 _ (List.mem_of_getElem? (i := 94) rfl)) rfl
theorem wc_X7_clear : Cond.code yX7_clear cX7_clear 2 none ∈ lw_g := lw_m (tb_3 _ (List.mem_of_getElem? (i := 95) rfl)) rfl
theorem wi_X4_begin : Cond.instanceMethod yX4_begin ∈ lw_g := lw_m (tb_3 _ (List.mem_of_getElem? (i := 100) rfl)) rfl
theorem wc_X4_begin : Cond.code yX4_begin cX4_begin 2 none ∈ lw_g := lw_m (tb_3 _ (List.mem_of_getElem? (i := 101) rfl)) rfl
theorem wl_X4_15 : Cond.methodLink RX4 15 yJ9_min_7cf53 ∈ lw_g := lw_m (tb_3 _ (List.mem_of_getElem? (i := 102) rfl)) rfl
theorem wt_J9_min_7cf53 : Cond.static yJ9_min_7cf53 ∈ lw_g := lw_m (tb_3 _ (List.mem_of_getElem? (i := 103) rfl)) rfl
theorem wc_J9_min_7cf53 : Cond.code yJ9_min_7cf53 cJ9_min_7cf53 2 (some .int) ∈ lw_g := lw_m (tb_3 _ (List.mem_of_getElem? (i := 104) rfl)) rfl
theorem wl_X4_21 : Cond.methodLink RX4 21 yJ9_max_7cf53 ∈ lw_g := lw_m (tb_3 _ (List.mem_of_getElem? (i := 105) rfl)) rfl
theorem wt_J9_max_7cf53 : Cond.static yJ9_max_7cf53 ∈ lw_g := lw_m (tb_3 _ (List.mem_of_getElem? (i := 106) rfl)) rfl
theorem wc_J9_max_7cf53 : Cond.code yJ9_max_7cf53 cJ9_max_7cf53 2 (some .int) ∈ lw_g := lw_m (tb_3 _ (List.mem_of_getElem? (i := 107) rfl)) rfl
theorem wl_X4_37 : Cond.methodLink RX4 37 yX4_advance ∈ lw_g := lw_m (tb_3 _ (List.mem_of_getElem? (i := 108) rfl)) rfl
theorem wi_X4_advance : Cond.instanceMethod yX4_advance ∈ lw_g := lw_m (tb_3 _ (List.mem_of_getElem? (i := 109) rfl)) rfl
theorem ws_X2_X4_advance_X4_advance : Cond.selects RX2 yX4_advance yX4_advance ∈ lw_g := lw_m (tb_3 _ (List.mem_of_getElem? (i := 111) rfl)) rfl
theorem ws_X8_X4_advance_X4_advance : Cond.selects RX8 yX4_advance yX4_advance ∈ lw_g := lw_m (tb_3 _ (List.mem_of_getElem? (i := 112) rfl)) rfl
theorem wc_X4_advance : Cond.code yX4_advance cX4_advance 1 none ∈ lw_g := lw_m (tb_3 _ (List.mem_of_getElem? (i := 113) rfl)) rfl
theorem wk_X4_53 : Cond.constantLong RX4 53 (32) ∈ lw_g := lw_m (tb_3 _ (List.mem_of_getElem? (i := 114) rfl)) rfl
theorem wl_X4_58 : Cond.methodLink RX4 58 yX4_wordNumber ∈ lw_g := lw_m (tb_3 _ (List.mem_of_getElem? (i := 115) rfl)) rfl
theorem wi_X4_wordNumber : Cond.instanceMethod yX4_wordNumber ∈ lw_g := lw_m (tb_3 _ (List.mem_of_getElem? (i := 117) rfl)) rfl
theorem wc_X4_wordNumber : Cond.code yX4_wordNumber cX4_wordNumber 6 (some .int) ∈ lw_g := lw_m (tb_3 _ (List.mem_of_getElem? (i := 118) rfl)) rfl
theorem wl_X4_70 : Cond.methodLink RX4 70 yJ0_length_8abf5 ∈ lw_g := lw_m (tb_3 _ (List.mem_of_getElem? (i := 120) rfl)) rfl
theorem wi_J0_length_8abf5 : Cond.instanceMethod yJ0_length_8abf5 ∈ lw_g := lw_m (tb_3 _ (List.mem_of_getElem? (i := 121) rfl)) rfl
theorem ws_J0_J0_length_8abf5_J0_length_8abf5 : Cond.selects RJ0 yJ0_length_8abf5 yJ0_length_8abf5 ∈ lw_g := lw_m (tb_3 _ (List.mem_of_getElem? (i := 122) rfl)) rfl
theorem wc_J0_length_8abf5 : Cond.code yJ0_length_8abf5 cJ0_length_8abf5 1 (some .int) ∈ lw_g := lw_m (tb_3 _ (List.mem_of_getElem? (i := 123) rfl)) rfl
theorem wl_J0_335 : Cond.methodLink RJ0 335 yJ0_coder_7d493 ∈ lw_g := lw_m (tb_3 _ (List.mem_of_getElem? (i := 124) rfl)) rfl
theorem wi_J0_coder_7d493 : Cond.instanceMethod yJ0_coder_7d493 ∈ lw_g := lw_m (tb_3 _ (List.mem_of_getElem? (i := 125) rfl)) rfl
theorem ws_J0_J0_coder_7d493_J0_coder_7d493 : Cond.selects RJ0 yJ0_coder_7d493 yJ0_coder_7d493 ∈ lw_g := lw_m (tb_3 _ (List.mem_of_getElem? (i := 126) rfl)) rfl
theorem wc_J0_coder_7d493 : Cond.code yJ0_coder_7d493 cJ0_coder_7d493 1 (some .byte) ∈ lw_g := lw_m (tb_3 _ (List.mem_of_getElem? (i := 127) rfl)) rfl
theorem wl_X4_74 : Cond.methodLink RX4 74 yJ0_charAt_5068e ∈ lw_g := lw_m (tb_3 _ (List.mem_of_getElem? (i := 130) rfl)) rfl
theorem wi_J0_charAt_5068e : Cond.instanceMethod yJ0_charAt_5068e ∈ lw_g := lw_m (tb_3 _ (List.mem_of_getElem? (i := 131) rfl)) rfl
theorem ws_J0_J0_charAt_5068e_J0_charAt_5068e : Cond.selects RJ0 yJ0_charAt_5068e yJ0_charAt_5068e ∈ lw_g := lw_m (tb_3 _ (List.mem_of_getElem? (i := 132) rfl)) rfl
theorem wc_J0_charAt_5068e : Cond.code yJ0_charAt_5068e cJ0_charAt_5068e 2 (some .char) ∈ lw_g := lw_m (tb_3 _ (List.mem_of_getElem? (i := 133) rfl)) rfl
theorem wl_J0_492 : Cond.methodLink RJ0 492 yJ0_isLatin1_aae02 ∈ lw_g := lw_m (tb_3 _ (List.mem_of_getElem? (i := 134) rfl)) rfl
theorem wi_J0_isLatin1_aae02 : Cond.instanceMethod yJ0_isLatin1_aae02 ∈ lw_g := lw_m (tb_3 _ (List.mem_of_getElem? (i := 135) rfl)) rfl
theorem ws_J0_J0_isLatin1_aae02_J0_isLatin1_aae02 : Cond.selects RJ0 yJ0_isLatin1_aae02 yJ0_isLatin1_aae02 ∈ lw_g := lw_m (tb_3 _ (List.mem_of_getElem? (i := 136) rfl)) rfl
theorem wc_J0_isLatin1_aae02 : Cond.code yJ0_isLatin1_aae02 cJ0_isLatin1_aae02 1 (some .boolean) ∈ lw_g := lw_m (tb_3 _ (List.mem_of_getElem? (i := 137) rfl)) rfl
theorem wl_J0_495 : Cond.methodLink RJ0 495 yJ1_charAt_3b067 ∈ lw_g := lw_m (tb_3 _ (List.mem_of_getElem? (i := 138) rfl)) rfl
theorem wt_J1_charAt_3b067 : Cond.static yJ1_charAt_3b067 ∈ lw_g := lw_m (tb_3 _ (List.mem_of_getElem? (i := 139) rfl)) rfl
theorem wc_J1_charAt_3b067 : Cond.code yJ1_charAt_3b067 cJ1_charAt_3b067 2 (some .char) ∈ lw_g := lw_m (tb_3 _ (List.mem_of_getElem? (i := 140) rfl)) rfl
theorem wl_J1_9 : Cond.methodLink RJ1 9 yJ0_checkIndex_df160 ∈ lw_g := lw_m (tb_3 _ (List.mem_of_getElem? (i := 141) rfl)) rfl
theorem wt_J0_checkIndex_df160 : Cond.static yJ0_checkIndex_df160 ∈ lw_g := lw_m (tb_3 _ (List.mem_of_getElem? (i := 142) rfl)) rfl
theorem wc_J0_checkIndex_df160 : Cond.code yJ0_checkIndex_df160 cJ0_checkIndex_df160 2 none ∈ lw_g := lw_m (tb_3 _ (List.mem_of_getElem? (i := 143) rfl)) rfl
theorem wl_J0_1059 : Cond.methodLink RJ0 1059 yJ3_checkIndex_8e157 ∈ lw_g := lw_m (tb_3 _ (List.mem_of_getElem? (i := 146) rfl)) rfl
theorem wt_J3_checkIndex_8e157 : Cond.static yJ3_checkIndex_8e157 ∈ lw_g := lw_m (tb_3 _ (List.mem_of_getElem? (i := 147) rfl)) rfl
theorem wc_J3_checkIndex_8e157 : Cond.code yJ3_checkIndex_8e157 cJ3_checkIndex_8e157 3 (some .int) ∈ lw_g := lw_m (tb_3 _ (List.mem_of_getElem? (i := 148) rfl)) rfl
theorem wl_J0_498 : Cond.methodLink RJ0 498 yJ2_charAt_3b067 ∈ lw_g := lw_m (tb_3 _ (List.mem_of_getElem? (i := 149) rfl)) rfl
theorem wt_J2_charAt_3b067 : Cond.static yJ2_charAt_3b067 ∈ lw_g := lw_m (tb_3 _ (List.mem_of_getElem? (i := 150) rfl)) rfl
theorem wc_J2_charAt_3b067 : Cond.code yJ2_charAt_3b067 cJ2_charAt_3b067 2 (some .char) ∈ lw_g := lw_m (tb_3 _ (List.mem_of_getElem? (i := 151) rfl)) rfl
theorem wl_J2_67 : Cond.methodLink RJ2 67 yJ2_checkIndex_2214a ∈ lw_g := lw_m (tb_3 _ (List.mem_of_getElem? (i := 152) rfl)) rfl
theorem wt_J2_checkIndex_2214a : Cond.static yJ2_checkIndex_2214a ∈ lw_g := lw_m (tb_3 _ (List.mem_of_getElem? (i := 153) rfl)) rfl
theorem wc_J2_checkIndex_2214a : Cond.code yJ2_checkIndex_2214a cJ2_checkIndex_2214a 2 none ∈ lw_g := lw_m (tb_3 _ (List.mem_of_getElem? (i := 154) rfl)) rfl
theorem wl_J2_48 : Cond.methodLink RJ2 48 yJ2_length_9d52b ∈ lw_g := lw_m (tb_3 _ (List.mem_of_getElem? (i := 155) rfl)) rfl
theorem wt_J2_length_9d52b : Cond.static yJ2_length_9d52b ∈ lw_g := lw_m (tb_3 _ (List.mem_of_getElem? (i := 156) rfl)) rfl
theorem wc_J2_length_9d52b : Cond.code yJ2_length_9d52b cJ2_length_9d52b 1 (some .int) ∈ lw_g := lw_m (tb_3 _ (List.mem_of_getElem? (i := 157) rfl)) rfl
theorem wl_J2_414 : Cond.methodLink RJ2 414 yJ0_checkIndex_df160 ∈ lw_g := lw_m (tb_3 _ (List.mem_of_getElem? (i := 158) rfl)) rfl
theorem wl_J2_71 : Cond.methodLink RJ2 71 yJ2_getChar_3b067 ∈ lw_g := lw_m (tb_3 _ (List.mem_of_getElem? (i := 159) rfl)) rfl
theorem wt_J2_getChar_3b067 : Cond.static yJ2_getChar_3b067 ∈ lw_g := lw_m (tb_3 _ (List.mem_of_getElem? (i := 160) rfl)) rfl
theorem wc_J2_getChar_3b067 : Cond.code yJ2_getChar_3b067 cJ2_getChar_3b067 2 (some .char) ∈ lw_g := lw_m (tb_3 _ (List.mem_of_getElem? (i := 161) rfl)) rfl
theorem wl_X4_62 : Cond.methodLink RX4 62 yX4_readSign ∈ lw_g := lw_m (tb_3 _ (List.mem_of_getElem? (i := 168) rfl)) rfl
theorem wi_X4_readSign : Cond.instanceMethod yX4_readSign ∈ lw_g := lw_m (tb_3 _ (List.mem_of_getElem? (i := 170) rfl)) rfl
theorem wc_X4_readSign : Cond.code yX4_readSign cX4_readSign 1 none ∈ lw_g := lw_m (tb_3 _ (List.mem_of_getElem? (i := 171) rfl)) rfl
theorem wl_X8_36 : Cond.methodLink RX8 36 yX8_readOdds ∈ lw_g := lw_m (tb_3 _ (List.mem_of_getElem? (i := 172) rfl)) rfl
theorem wi_X8_readOdds : Cond.instanceMethod yX8_readOdds ∈ lw_g := lw_m (tb_3 _ (List.mem_of_getElem? (i := 174) rfl)) rfl
theorem wc_X8_readOdds : Cond.code yX8_readOdds cX8_readOdds 1 (some .boolean) ∈ lw_g := lw_m (tb_3 _ (List.mem_of_getElem? (i := 175) rfl)) rfl
theorem wi_X4_refuseHere : Cond.instanceMethod yX4_refuseHere ∈ lw_g := lw_m (tb_3 _ (List.mem_of_getElem? (i := 180) rfl)) rfl
theorem wc_X4_refuseHere : Cond.code yX4_refuseHere cX4_refuseHere 2 (some .boolean) ∈ lw_g := lw_m (tb_3 _ (List.mem_of_getElem? (i := 181) rfl)) rfl
theorem wi_X4_isNumberHere : Cond.instanceMethod yX4_isNumberHere ∈ lw_g := lw_m (tb_3 _ (List.mem_of_getElem? (i := 190) rfl)) rfl
theorem wc_X4_isNumberHere : Cond.code yX4_isNumberHere cX4_isNumberHere 3 (some .boolean) ∈ lw_g := lw_m (tb_3 _ (List.mem_of_getElem? (i := 191) rfl)) rfl
theorem wl_X4_78 : Cond.methodLink RX4 78 yX4_refuseHere ∈ lw_g := lw_m (tb_3 _ (List.mem_of_getElem? (i := 192) rfl)) rfl
theorem wl_X8_40 : Cond.methodLink RX8 40 yX8_readTopic ∈ lw_g := lw_m (tb_3 _ (List.mem_of_getElem? (i := 193) rfl)) rfl
theorem wi_X8_readTopic : Cond.instanceMethod yX8_readTopic ∈ lw_g := lw_m (tb_3 _ (List.mem_of_getElem? (i := 195) rfl)) rfl
theorem wc_X8_readTopic : Cond.code yX8_readTopic cX8_readTopic 1 (some .boolean) ∈ lw_g := lw_m (tb_3 _ (List.mem_of_getElem? (i := 196) rfl)) rfl
theorem wl_X8_90 : Cond.methodLink RX8 90 yX8_isNewNameHere ∈ lw_g := lw_m (tb_3 _ (List.mem_of_getElem? (i := 197) rfl)) rfl
theorem wi_X8_isNewNameHere : Cond.instanceMethod yX8_isNewNameHere ∈ lw_g := lw_m (tb_3 _ (List.mem_of_getElem? (i := 199) rfl)) rfl
theorem wc_X8_isNewNameHere : Cond.code yX8_isNewNameHere cX8_isNewNameHere 2 (some .boolean) ∈ lw_g := lw_m (tb_3 _ (List.mem_of_getElem? (i := 200) rfl)) rfl
theorem wi_X4_isName : Cond.instanceMethod yX4_isName ∈ lw_g := lw_m (tb_3 _ (List.mem_of_getElem? (i := 205) rfl)) rfl
theorem wc_X4_isName : Cond.code yX4_isName cX4_isName 1 (some .boolean) ∈ lw_g := lw_m (tb_3 _ (List.mem_of_getElem? (i := 206) rfl)) rfl
theorem wl_X8_83 : Cond.methodLink RX8 83 yX7_findName ∈ lw_g := lw_m (tb_3 _ (List.mem_of_getElem? (i := 207) rfl)) rfl
theorem wi_X7_findName : Cond.instanceMethod yX7_findName ∈ lw_g := lw_m (tb_3 _ (List.mem_of_getElem? (i := 208) rfl)) rfl
theorem ws_X7_X7_findName_X7_findName : Cond.selects RX7 yX7_findName yX7_findName ∈ lw_g := lw_m (tb_3 _ (List.mem_of_getElem? (i := 209) rfl)) rfl
theorem wc_X7_findName : Cond.code yX7_findName cX7_findName 6 (some .int) ∈ lw_g := lw_m (tb_3 _ (List.mem_of_getElem? (i := 210) rfl)) rfl
theorem wi_X4_passWord : Cond.instanceMethod yX4_passWord ∈ lw_g := lw_m (tb_3 _ (List.mem_of_getElem? (i := 215) rfl)) rfl
theorem wc_X4_passWord : Cond.code yX4_passWord cX4_passWord 2 (some .boolean) ∈ lw_g := lw_m (tb_3 _ (List.mem_of_getElem? (i := 216) rfl)) rfl
theorem wl_X8_43 : Cond.methodLink RX8 43 yX8_readClaim ∈ lw_g := lw_m (tb_3 _ (List.mem_of_getElem? (i := 217) rfl)) rfl
theorem wi_X8_readClaim : Cond.instanceMethod yX8_readClaim ∈ lw_g := lw_m (tb_3 _ (List.mem_of_getElem? (i := 219) rfl)) rfl
theorem wc_X8_readClaim : Cond.code yX8_readClaim cX8_readClaim 6 (some .boolean) ∈ lw_g := lw_m (tb_3 _ (List.mem_of_getElem? (i := 220) rfl)) rfl
theorem wi_X4_topicNamed : Cond.instanceMethod yX4_topicNamed ∈ lw_g := lw_m (tb_3 _ (List.mem_of_getElem? (i := 225) rfl)) rfl
theorem wc_X4_topicNamed : Cond.code yX4_topicNamed cX4_topicNamed 2 (some .int) ∈ lw_g := lw_m (tb_3 _ (List.mem_of_getElem? (i := 226) rfl)) rfl
theorem wl_X4_95 : Cond.methodLink RX4 95 yX4_numberNamed ∈ lw_g := lw_m (tb_3 _ (List.mem_of_getElem? (i := 227) rfl)) rfl
theorem wi_X4_numberNamed : Cond.instanceMethod yX4_numberNamed ∈ lw_g := lw_m (tb_3 _ (List.mem_of_getElem? (i := 228) rfl)) rfl
theorem ws_X2_X4_numberNamed_X4_numberNamed : Cond.selects RX2 yX4_numberNamed yX4_numberNamed ∈ lw_g := lw_m (tb_3 _ (List.mem_of_getElem? (i := 230) rfl)) rfl
theorem ws_X8_X4_numberNamed_X4_numberNamed : Cond.selects RX8 yX4_numberNamed yX4_numberNamed ∈ lw_g := lw_m (tb_3 _ (List.mem_of_getElem? (i := 231) rfl)) rfl
theorem wc_X4_numberNamed : Cond.code yX4_numberNamed cX4_numberNamed 5 (some .int) ∈ lw_g := lw_m (tb_3 _ (List.mem_of_getElem? (i := 232) rfl)) rfl
theorem wl_X4_82 : Cond.methodLink RX4 82 yX4_isName ∈ lw_g := lw_m (tb_3 _ (List.mem_of_getElem? (i := 233) rfl)) rfl
theorem wl_X4_86 : Cond.methodLink RX4 86 yX7_findName ∈ lw_g := lw_m (tb_3 _ (List.mem_of_getElem? (i := 234) rfl)) rfl
theorem wl_X8_110 : Cond.methodLink RX8 110 yX8_readNeeds ∈ lw_g := lw_m (tb_3 _ (List.mem_of_getElem? (i := 235) rfl)) rfl
theorem wi_X8_readNeeds : Cond.instanceMethod yX8_readNeeds ∈ lw_g := lw_m (tb_3 _ (List.mem_of_getElem? (i := 237) rfl)) rfl
theorem wc_X8_readNeeds : Cond.code yX8_readNeeds cX8_readNeeds 4 (some .int) ∈ lw_g := lw_m (tb_3 _ (List.mem_of_getElem? (i := 238) rfl)) rfl
theorem wi_X4_claimNamed : Cond.instanceMethod yX4_claimNamed ∈ lw_g := lw_m (tb_4 _ (List.mem_of_getElem? (i := 3) rfl)) rfl
theorem wc_X4_claimNamed : Cond.code yX4_claimNamed cX4_claimNamed 2 (some .int) ∈ lw_g := lw_m (tb_4 _ (List.mem_of_getElem? (i := 4) rfl)) rfl
theorem wl_X8_117 : Cond.methodLink RX8 117 yX7_addClaim ∈ lw_g := lw_m (tb_4 _ (List.mem_of_getElem? (i := 5) rfl)) rfl
theorem wi_X7_addClaim : Cond.instanceMethod yX7_addClaim ∈ lw_g := lw_m (tb_4 _ (List.mem_of_getElem? (i := 6) rfl)) rfl
theorem ws_X7_X7_addClaim_X7_addClaim : Cond.selects RX7 yX7_addClaim yX7_addClaim ∈ lw_g := lw_m (tb_4 _ (List.mem_of_getElem? (i := 7) rfl)) rfl
theorem wc_X7_addClaim : Cond.code yX7_addClaim cX7_addClaim 5 none ∈ lw_g := lw_m (tb_4 _ (List.mem_of_getElem? (i := 8) rfl)) rfl
theorem wl_X8_46 : Cond.methodLink RX8 46 yX8_readTalker ∈ lw_g := lw_m (tb_4 _ (List.mem_of_getElem? (i := 9) rfl)) rfl
theorem wi_X8_readTalker : Cond.instanceMethod yX8_readTalker ∈ lw_g := lw_m (tb_4 _ (List.mem_of_getElem? (i := 11) rfl)) rfl
theorem wc_X8_readTalker : Cond.code yX8_readTalker cX8_readTalker 3 (some .boolean) ∈ lw_g := lw_m (tb_4 _ (List.mem_of_getElem? (i := 12) rfl)) rfl
theorem wl_X8_127 : Cond.methodLink RX8 127 yX8_isFreeSeatHere ∈ lw_g := lw_m (tb_4 _ (List.mem_of_getElem? (i := 13) rfl)) rfl
theorem wi_X8_isFreeSeatHere : Cond.instanceMethod yX8_isFreeSeatHere ∈ lw_g := lw_m (tb_4 _ (List.mem_of_getElem? (i := 15) rfl)) rfl
theorem wc_X8_isFreeSeatHere : Cond.code yX8_isFreeSeatHere cX8_isFreeSeatHere 2 (some .boolean) ∈ lw_g := lw_m (tb_4 _ (List.mem_of_getElem? (i := 16) rfl)) rfl
theorem wl_X8_139 : Cond.methodLink RX8 139 yX8_readFails ∈ lw_g := lw_m (tb_4 _ (List.mem_of_getElem? (i := 17) rfl)) rfl
theorem wi_X8_readFails : Cond.instanceMethod yX8_readFails ∈ lw_g := lw_m (tb_4 _ (List.mem_of_getElem? (i := 19) rfl)) rfl
theorem wc_X8_readFails : Cond.code yX8_readFails cX8_readFails 2 (some .boolean) ∈ lw_g := lw_m (tb_4 _ (List.mem_of_getElem? (i := 20) rfl)) rfl
theorem wl_X8_49 : Cond.methodLink RX8 49 yX8_readFeud ∈ lw_g := lw_m (tb_4 _ (List.mem_of_getElem? (i := 21) rfl)) rfl
theorem wi_X8_readFeud : Cond.instanceMethod yX8_readFeud ∈ lw_g := lw_m (tb_4 _ (List.mem_of_getElem? (i := 23) rfl)) rfl
theorem wc_X8_readFeud : Cond.code yX8_readFeud cX8_readFeud 3 (some .boolean) ∈ lw_g := lw_m (tb_4 _ (List.mem_of_getElem? (i := 24) rfl)) rfl
theorem wi_X4_talkerNamed : Cond.instanceMethod yX4_talkerNamed ∈ lw_g := lw_m (tb_4 _ (List.mem_of_getElem? (i := 29) rfl)) rfl
theorem wc_X4_talkerNamed : Cond.code yX4_talkerNamed cX4_talkerNamed 2 (some .int) ∈ lw_g := lw_m (tb_4 _ (List.mem_of_getElem? (i := 30) rfl)) rfl
theorem wl_X8_148 : Cond.methodLink RX8 148 yX7_isFeud ∈ lw_g := lw_m (tb_4 _ (List.mem_of_getElem? (i := 31) rfl)) rfl
theorem wi_X7_isFeud : Cond.instanceMethod yX7_isFeud ∈ lw_g := lw_m (tb_4 _ (List.mem_of_getElem? (i := 32) rfl)) rfl
theorem ws_X7_X7_isFeud_X7_isFeud : Cond.selects RX7 yX7_isFeud yX7_isFeud ∈ lw_g := lw_m (tb_4 _ (List.mem_of_getElem? (i := 33) rfl)) rfl
theorem wc_X7_isFeud : Cond.code yX7_isFeud cX7_isFeud 4 (some .boolean) ∈ lw_g := lw_m (tb_4 _ (List.mem_of_getElem? (i := 34) rfl)) rfl
theorem wl_X8_151 : Cond.methodLink RX8 151 yX7_addFeud ∈ lw_g := lw_m (tb_4 _ (List.mem_of_getElem? (i := 35) rfl)) rfl
theorem wi_X7_addFeud : Cond.instanceMethod yX7_addFeud ∈ lw_g := lw_m (tb_4 _ (List.mem_of_getElem? (i := 36) rfl)) rfl
theorem ws_X7_X7_addFeud_X7_addFeud : Cond.selects RX7 yX7_addFeud yX7_addFeud ∈ lw_g := lw_m (tb_4 _ (List.mem_of_getElem? (i := 37) rfl)) rfl
theorem wc_X7_addFeud : Cond.code yX7_addFeud cX7_addFeud 3 none ∈ lw_g := lw_m (tb_4 _ (List.mem_of_getElem? (i := 38) rfl)) rfl
theorem wi_X4_passSemicolon : Cond.instanceMethod yX4_passSemicolon ∈ lw_g := lw_m (tb_4 _ (List.mem_of_getElem? (i := 43) rfl)) rfl
theorem wc_X4_passSemicolon : Cond.code yX4_passSemicolon cX4_passSemicolon 1 (some .boolean) ∈ lw_g := lw_m (tb_4 _ (List.mem_of_getElem? (i := 44) rfl)) rfl
theorem wl_X11_160 : Cond.methodLink RX11 160 yX11_keepFault ∈ lw_g := lw_m (tb_4 _ (List.mem_of_getElem? (i := 45) rfl)) rfl
theorem wi_X11_keepFault : Cond.instanceMethod yX11_keepFault ∈ lw_g := lw_m (tb_4 _ (List.mem_of_getElem? (i := 47) rfl)) rfl
theorem wc_X11_keepFault : Cond.code yX11_keepFault cX11_keepFault 2 none ∈ lw_g := lw_m (tb_4 _ (List.mem_of_getElem? (i := 48) rfl)) rfl
theorem wl_X11_164 : Cond.methodLink RX11 164 yX7_copyFrom ∈ lw_g := lw_m (tb_4 _ (List.mem_of_getElem? (i := 49) rfl)) rfl
theorem wi_X7_copyFrom : Cond.instanceMethod yX7_copyFrom ∈ lw_g := lw_m (tb_4 _ (List.mem_of_getElem? (i := 50) rfl)) rfl
theorem ws_X7_X7_copyFrom_X7_copyFrom : Cond.selects RX7 yX7_copyFrom yX7_copyFrom ∈ lw_g := lw_m (tb_4 _ (List.mem_of_getElem? (i := 51) rfl)) rfl
theorem wc_X7_copyFrom : Cond.code yX7_copyFrom cX7_copyFrom 2 none ∈ lw_g := lw_m (tb_4 _ (List.mem_of_getElem? (i := 52) rfl)) rfl
theorem wl_X11_174 : Cond.methodLink RX11 174 yX1_clear ∈ lw_g := lw_m (tb_4 _ (List.mem_of_getElem? (i := 54) rfl)) rfl
theorem wi_X1_clear : Cond.instanceMethod yX1_clear ∈ lw_g := lw_m (tb_4 _ (List.mem_of_getElem? (i := 55) rfl)) rfl
theorem ws_X1_X1_clear_X1_clear : Cond.selects RX1 yX1_clear yX1_clear ∈ lw_g := lw_m (tb_4 _ (List.mem_of_getElem? (i := 56) rfl)) rfl
theorem wc_X1_clear : Cond.code yX1_clear cX1_clear 1 none ∈ lw_g := lw_m (tb_4 _ (List.mem_of_getElem? (i := 57) rfl)) rfl
theorem wl_X11_182 : Cond.methodLink RX11 182 yX11_answer ∈ lw_g := lw_m (tb_4 _ (List.mem_of_getElem? (i := 58) rfl)) rfl
theorem wi_X11_answer : Cond.instanceMethod yX11_answer ∈ lw_g := lw_m (tb_4 _ (List.mem_of_getElem? (i := 60) rfl)) rfl
theorem wc_X11_answer : Cond.code yX11_answer cX11_answer 2 (some .int) ∈ lw_g := lw_m (tb_4 _ (List.mem_of_getElem? (i := 61) rfl)) rfl
theorem wl_L_59 : Cond.methodLink RL 59 yX11_evenings ∈ lw_g := lw_m (tb_4 _ (List.mem_of_getElem? (i := 62) rfl)) rfl
theorem wi_X11_evenings : Cond.instanceMethod yX11_evenings ∈ lw_g := lw_m (tb_4 _ (List.mem_of_getElem? (i := 63) rfl)) rfl
theorem ws_X11_X11_evenings_X11_evenings : Cond.selects RX11 yX11_evenings yX11_evenings ∈ lw_g := lw_m (tb_4 _ (List.mem_of_getElem? (i := 64) rfl)) rfl
theorem wc_X11_evenings : Cond.code yX11_evenings cX11_evenings 3 (some .int) ∈ lw_g := lw_m (tb_4 _ (List.mem_of_getElem? (i := 65) rfl)) rfl
theorem wl_X11_185 : Cond.methodLink RX11 185 yX2_readEvenings ∈ lw_g := lw_m (tb_4 _ (List.mem_of_getElem? (i := 66) rfl)) rfl
theorem wi_X2_readEvenings : Cond.instanceMethod yX2_readEvenings ∈ lw_g := lw_m (tb_4 _ (List.mem_of_getElem? (i := 67) rfl)) rfl
theorem ws_X2_X2_readEvenings_X2_readEvenings : Cond.selects RX2 yX2_readEvenings yX2_readEvenings ∈ lw_g := lw_m (tb_4 _ (List.mem_of_getElem? (i := 68) rfl)) rfl
theorem wc_X2_readEvenings : Cond.code yX2_readEvenings cX2_readEvenings 6 (some .boolean) ∈ lw_g := lw_m (tb_4 _ (List.mem_of_getElem? (i := 69) rfl)) rfl
theorem wl_X2_25 : Cond.methodLink RX2 25 yX1_clear ∈ lw_g := lw_m (tb_4 _ (List.mem_of_getElem? (i := 70) rfl)) rfl
theorem wl_X2_43 : Cond.methodLink RX2 43 yX2_readEnd ∈ lw_g := lw_m (tb_4 _ (List.mem_of_getElem? (i := 74) rfl)) rfl
theorem wi_X2_readEnd : Cond.instanceMethod yX2_readEnd ∈ lw_g := lw_m (tb_4 _ (List.mem_of_getElem? (i := 76) rfl)) rfl
theorem wc_X2_readEnd : Cond.code yX2_readEnd cX2_readEnd 2 (some .boolean) ∈ lw_g := lw_m (tb_4 _ (List.mem_of_getElem? (i := 77) rfl)) rfl
theorem wl_X2_47 : Cond.methodLink RX2 47 yX2_readStep ∈ lw_g := lw_m (tb_4 _ (List.mem_of_getElem? (i := 84) rfl)) rfl
theorem wi_X2_readStep : Cond.instanceMethod yX2_readStep ∈ lw_g := lw_m (tb_4 _ (List.mem_of_getElem? (i := 86) rfl)) rfl
theorem wc_X2_readStep : Cond.code yX2_readStep cX2_readStep 4 (some .boolean) ∈ lw_g := lw_m (tb_4 _ (List.mem_of_getElem? (i := 87) rfl)) rfl
theorem wl_X2_76 : Cond.methodLink RX2 76 yX2_readTalkerHere ∈ lw_g := lw_m (tb_4 _ (List.mem_of_getElem? (i := 88) rfl)) rfl
theorem wi_X2_readTalkerHere : Cond.instanceMethod yX2_readTalkerHere ∈ lw_g := lw_m (tb_4 _ (List.mem_of_getElem? (i := 90) rfl)) rfl
theorem wc_X2_readTalkerHere : Cond.code yX2_readTalkerHere cX2_readTalkerHere 2 (some .boolean) ∈ lw_g := lw_m (tb_4 _ (List.mem_of_getElem? (i := 91) rfl)) rfl
theorem wl_X2_82 : Cond.methodLink RX2 82 yX2_readClaimHere ∈ lw_g := lw_m (tb_4 _ (List.mem_of_getElem? (i := 95) rfl)) rfl
theorem wi_X2_readClaimHere : Cond.instanceMethod yX2_readClaimHere ∈ lw_g := lw_m (tb_4 _ (List.mem_of_getElem? (i := 97) rfl)) rfl
theorem wc_X2_readClaimHere : Cond.code yX2_readClaimHere cX2_readClaimHere 3 (some .boolean) ∈ lw_g := lw_m (tb_4 _ (List.mem_of_getElem? (i := 98) rfl)) rfl
theorem wl_X2_86 : Cond.methodLink RX2 86 yX2_readNumberHere ∈ lw_g := lw_m (tb_4 _ (List.mem_of_getElem? (i := 102) rfl)) rfl
theorem wi_X2_readNumberHere : Cond.instanceMethod yX2_readNumberHere ∈ lw_g := lw_m (tb_4 _ (List.mem_of_getElem? (i := 104) rfl)) rfl
theorem wc_X2_readNumberHere : Cond.code yX2_readNumberHere cX2_readNumberHere 3 (some .boolean) ∈ lw_g := lw_m (tb_4 _ (List.mem_of_getElem? (i := 105) rfl)) rfl
theorem wl_X2_93 : Cond.methodLink RX2 93 yX2_readTest ∈ lw_g := lw_m (tb_4 _ (List.mem_of_getElem? (i := 109) rfl)) rfl
theorem wi_X2_readTest : Cond.instanceMethod yX2_readTest ∈ lw_g := lw_m (tb_4 _ (List.mem_of_getElem? (i := 111) rfl)) rfl
theorem wc_X2_readTest : Cond.code yX2_readTest cX2_readTest 2 (some .boolean) ∈ lw_g := lw_m (tb_4 _ (List.mem_of_getElem? (i := 112) rfl)) rfl
theorem wl_X11_189 : Cond.methodLink RX11 189 yX1_copyFrom ∈ lw_g := lw_m (tb_4 _ (List.mem_of_getElem? (i := 116) rfl)) rfl
theorem wi_X1_copyFrom : Cond.instanceMethod yX1_copyFrom ∈ lw_g := lw_m (tb_4 _ (List.mem_of_getElem? (i := 117) rfl)) rfl
theorem ws_X1_X1_copyFrom_X1_copyFrom : Cond.selects RX1 yX1_copyFrom yX1_copyFrom ∈ lw_g := lw_m (tb_4 _ (List.mem_of_getElem? (i := 118) rfl)) rfl
theorem wc_X1_copyFrom : Cond.code yX1_copyFrom cX1_copyFrom 2 none ∈ lw_g := lw_m (tb_4 _ (List.mem_of_getElem? (i := 119) rfl)) rfl
theorem wl_L_63 : Cond.methodLink RL 63 yX11_fault ∈ lw_g := lw_m (tb_4 _ (List.mem_of_getElem? (i := 121) rfl)) rfl
theorem wi_X11_fault : Cond.instanceMethod yX11_fault ∈ lw_g := lw_m (tb_4 _ (List.mem_of_getElem? (i := 122) rfl)) rfl
theorem ws_X11_X11_fault_X11_fault : Cond.selects RX11 yX11_fault yX11_fault ∈ lw_g := lw_m (tb_4 _ (List.mem_of_getElem? (i := 123) rfl)) rfl
theorem wc_X11_fault : Cond.code yX11_fault cX11_fault 2 (some .int) ∈ lw_g := lw_m (tb_4 _ (List.mem_of_getElem? (i := 124) rfl)) rfl
theorem wl_L_67 : Cond.methodLink RL 67 yX11_many ∈ lw_g := lw_m (tb_4 _ (List.mem_of_getElem? (i := 125) rfl)) rfl
theorem wi_X11_many : Cond.instanceMethod yX11_many ∈ lw_g := lw_m (tb_4 _ (List.mem_of_getElem? (i := 126) rfl)) rfl
theorem ws_X11_X11_many_X11_many : Cond.selects RX11 yX11_many yX11_many ∈ lw_g := lw_m (tb_4 _ (List.mem_of_getElem? (i := 127) rfl)) rfl
theorem wc_X11_many : Cond.code yX11_many cX11_many 3 (some .int) ∈ lw_g := lw_m (tb_4 _ (List.mem_of_getElem? (i := 128) rfl)) rfl
theorem wl_X11_209 : Cond.methodLink RX11 209 yX7_standing ∈ lw_g := lw_m (tb_4 _ (List.mem_of_getElem? (i := 129) rfl)) rfl
theorem wi_X7_standing : Cond.instanceMethod yX7_standing ∈ lw_g := lw_m (tb_4 _ (List.mem_of_getElem? (i := 130) rfl)) rfl
theorem ws_X7_X7_standing_X7_standing : Cond.selects RX7 yX7_standing yX7_standing ∈ lw_g := lw_m (tb_4 _ (List.mem_of_getElem? (i := 131) rfl)) rfl
theorem wc_X7_standing : Cond.code yX7_standing cX7_standing 1 (some .int) ∈ lw_g := lw_m (tb_4 _ (List.mem_of_getElem? (i := 132) rfl)) rfl
theorem wl_X7_80 : Cond.methodLink RX7 80 yX7_standingBy ∈ lw_g := lw_m (tb_4 _ (List.mem_of_getElem? (i := 133) rfl)) rfl
theorem wi_X7_standingBy : Cond.instanceMethod yX7_standingBy ∈ lw_g := lw_m (tb_4 _ (List.mem_of_getElem? (i := 134) rfl)) rfl
theorem ws_X7_X7_standingBy_X7_standingBy : Cond.selects RX7 yX7_standingBy yX7_standingBy ∈ lw_g := lw_m (tb_4 _ (List.mem_of_getElem? (i := 135) rfl)) rfl
theorem wc_X7_standingBy : Cond.code yX7_standingBy cX7_standingBy 6 (some .int) ∈ lw_g := lw_m (tb_4 _ (List.mem_of_getElem? (i := 136) rfl)) rfl
theorem wl_X11_219 : Cond.methodLink RX11 219 yX7_talkersAt ∈ lw_g := lw_m (tb_4 _ (List.mem_of_getElem? (i := 137) rfl)) rfl
theorem wi_X7_talkersAt : Cond.instanceMethod yX7_talkersAt ∈ lw_g := lw_m (tb_4 _ (List.mem_of_getElem? (i := 138) rfl)) rfl
theorem ws_X7_X7_talkersAt_X7_talkersAt : Cond.selects RX7 yX7_talkersAt yX7_talkersAt ∈ lw_g := lw_m (tb_4 _ (List.mem_of_getElem? (i := 139) rfl)) rfl
theorem wc_X7_talkersAt : Cond.code yX7_talkersAt cX7_talkersAt 4 (some .int) ∈ lw_g := lw_m (tb_4 _ (List.mem_of_getElem? (i := 140) rfl)) rfl
theorem wl_L_71 : Cond.methodLink RL 71 yX11_topic ∈ lw_g := lw_m (tb_4 _ (List.mem_of_getElem? (i := 141) rfl)) rfl
theorem wi_X11_topic : Cond.instanceMethod yX11_topic ∈ lw_g := lw_m (tb_4 _ (List.mem_of_getElem? (i := 142) rfl)) rfl
theorem ws_X11_X11_topic_X11_topic : Cond.selects RX11 yX11_topic yX11_topic ∈ lw_g := lw_m (tb_4 _ (List.mem_of_getElem? (i := 143) rfl)) rfl
theorem wc_X11_topic : Cond.code yX11_topic cX11_topic 4 (some .int) ∈ lw_g := lw_m (tb_4 _ (List.mem_of_getElem? (i := 144) rfl)) rfl
theorem wl_X11_222 : Cond.methodLink RX11 222 yX7_isTopic ∈ lw_g := lw_m (tb_4 _ (List.mem_of_getElem? (i := 145) rfl)) rfl
theorem wi_X7_isTopic : Cond.instanceMethod yX7_isTopic ∈ lw_g := lw_m (tb_4 _ (List.mem_of_getElem? (i := 146) rfl)) rfl
theorem ws_X7_X7_isTopic_X7_isTopic : Cond.selects RX7 yX7_isTopic yX7_isTopic ∈ lw_g := lw_m (tb_4 _ (List.mem_of_getElem? (i := 147) rfl)) rfl
theorem wc_X7_isTopic : Cond.code yX7_isTopic cX7_isTopic 2 (some .boolean) ∈ lw_g := lw_m (tb_4 _ (List.mem_of_getElem? (i := 148) rfl)) rfl
theorem wl_X11_232 : Cond.methodLink RX11 232 yX7_claimsAt ∈ lw_g := lw_m (tb_4 _ (List.mem_of_getElem? (i := 149) rfl)) rfl
theorem wi_X7_claimsAt : Cond.instanceMethod yX7_claimsAt ∈ lw_g := lw_m (tb_4 _ (List.mem_of_getElem? (i := 150) rfl)) rfl
theorem ws_X7_X7_claimsAt_X7_claimsAt : Cond.selects RX7 yX7_claimsAt yX7_claimsAt ∈ lw_g := lw_m (tb_4 _ (List.mem_of_getElem? (i := 151) rfl)) rfl
theorem wc_X7_claimsAt : Cond.code yX7_claimsAt cX7_claimsAt 4 (some .int) ∈ lw_g := lw_m (tb_4 _ (List.mem_of_getElem? (i := 152) rfl)) rfl
theorem wl_L_76 : Cond.methodLink RL 76 yX11_claim ∈ lw_g := lw_m (tb_4 _ (List.mem_of_getElem? (i := 153) rfl)) rfl
theorem wi_X11_claim : Cond.instanceMethod yX11_claim ∈ lw_g := lw_m (tb_4 _ (List.mem_of_getElem? (i := 154) rfl)) rfl
theorem ws_X11_X11_claim_X11_claim : Cond.selects RX11 yX11_claim yX11_claim ∈ lw_g := lw_m (tb_4 _ (List.mem_of_getElem? (i := 155) rfl)) rfl
theorem wc_X11_claim : Cond.code yX11_claim cX11_claim 4 (some .int) ∈ lw_g := lw_m (tb_4 _ (List.mem_of_getElem? (i := 156) rfl)) rfl
theorem wl_X11_235 : Cond.methodLink RX11 235 yX7_isClaim ∈ lw_g := lw_m (tb_4 _ (List.mem_of_getElem? (i := 157) rfl)) rfl
theorem wi_X7_isClaim : Cond.instanceMethod yX7_isClaim ∈ lw_g := lw_m (tb_4 _ (List.mem_of_getElem? (i := 158) rfl)) rfl
theorem ws_X7_X7_isClaim_X7_isClaim : Cond.selects RX7 yX7_isClaim yX7_isClaim ∈ lw_g := lw_m (tb_4 _ (List.mem_of_getElem? (i := 159) rfl)) rfl
theorem wc_X7_isClaim : Cond.code yX7_isClaim cX7_isClaim 2 (some .boolean) ∈ lw_g := lw_m (tb_4 _ (List.mem_of_getElem? (i := 160) rfl)) rfl
theorem wl_L_80 : Cond.methodLink RL 80 yX11_talker ∈ lw_g := lw_m (tb_4 _ (List.mem_of_getElem? (i := 161) rfl)) rfl
theorem wi_X11_talker : Cond.instanceMethod yX11_talker ∈ lw_g := lw_m (tb_4 _ (List.mem_of_getElem? (i := 162) rfl)) rfl
theorem ws_X11_X11_talker_X11_talker : Cond.selects RX11 yX11_talker yX11_talker ∈ lw_g := lw_m (tb_4 _ (List.mem_of_getElem? (i := 163) rfl)) rfl
theorem wc_X11_talker : Cond.code yX11_talker cX11_talker 4 (some .int) ∈ lw_g := lw_m (tb_4 _ (List.mem_of_getElem? (i := 164) rfl)) rfl
theorem wl_X11_244 : Cond.methodLink RX11 244 yX7_isTalker ∈ lw_g := lw_m (tb_4 _ (List.mem_of_getElem? (i := 165) rfl)) rfl
theorem wi_X7_isTalker : Cond.instanceMethod yX7_isTalker ∈ lw_g := lw_m (tb_4 _ (List.mem_of_getElem? (i := 166) rfl)) rfl
theorem ws_X7_X7_isTalker_X7_isTalker : Cond.selects RX7 yX7_isTalker yX7_isTalker ∈ lw_g := lw_m (tb_4 _ (List.mem_of_getElem? (i := 167) rfl)) rfl
theorem wc_X7_isTalker : Cond.code yX7_isTalker cX7_isTalker 2 (some .boolean) ∈ lw_g := lw_m (tb_4 _ (List.mem_of_getElem? (i := 168) rfl)) rfl
theorem wl_X11_256 : Cond.methodLink RX11 256 yX7_sayable ∈ lw_g := lw_m (tb_4 _ (List.mem_of_getElem? (i := 169) rfl)) rfl
theorem wi_X7_sayable : Cond.instanceMethod yX7_sayable ∈ lw_g := lw_m (tb_4 _ (List.mem_of_getElem? (i := 170) rfl)) rfl
theorem ws_X7_X7_sayable_X7_sayable : Cond.selects RX7 yX7_sayable yX7_sayable ∈ lw_g := lw_m (tb_4 _ (List.mem_of_getElem? (i := 171) rfl)) rfl
theorem wc_X7_sayable : Cond.code yX7_sayable cX7_sayable 4 (some .int) ∈ lw_g := lw_m (tb_4 _ (List.mem_of_getElem? (i := 172) rfl)) rfl
theorem wl_X7_94 : Cond.methodLink RX7 94 yX7_isFalling ∈ lw_g := lw_m (tb_4 _ (List.mem_of_getElem? (i := 173) rfl)) rfl
theorem wi_X7_isFalling : Cond.instanceMethod yX7_isFalling ∈ lw_g := lw_m (tb_4 _ (List.mem_of_getElem? (i := 174) rfl)) rfl
theorem ws_X7_X7_isFalling_X7_isFalling : Cond.selects RX7 yX7_isFalling yX7_isFalling ∈ lw_g := lw_m (tb_4 _ (List.mem_of_getElem? (i := 175) rfl)) rfl
theorem wc_X7_isFalling : Cond.code yX7_isFalling cX7_isFalling 2 (some .boolean) ∈ lw_g := lw_m (tb_4 _ (List.mem_of_getElem? (i := 176) rfl)) rfl
theorem wl_X7_98 : Cond.methodLink RX7 98 yX7_isNear ∈ lw_g := lw_m (tb_4 _ (List.mem_of_getElem? (i := 177) rfl)) rfl
theorem wi_X7_isNear : Cond.instanceMethod yX7_isNear ∈ lw_g := lw_m (tb_4 _ (List.mem_of_getElem? (i := 178) rfl)) rfl
theorem ws_X7_X7_isNear_X7_isNear : Cond.selects RX7 yX7_isNear yX7_isNear ∈ lw_g := lw_m (tb_4 _ (List.mem_of_getElem? (i := 179) rfl)) rfl
theorem wc_X7_isNear : Cond.code yX7_isNear cX7_isNear 3 (some .boolean) ∈ lw_g := lw_m (tb_4 _ (List.mem_of_getElem? (i := 180) rfl)) rfl
theorem wl_X7_87 : Cond.methodLink RX7 87 yX7_heightOf ∈ lw_g := lw_m (tb_4 _ (List.mem_of_getElem? (i := 181) rfl)) rfl
theorem wi_X7_heightOf : Cond.instanceMethod yX7_heightOf ∈ lw_g := lw_m (tb_4 _ (List.mem_of_getElem? (i := 182) rfl)) rfl
theorem ws_X7_X7_heightOf_X7_heightOf : Cond.selects RX7 yX7_heightOf yX7_heightOf ∈ lw_g := lw_m (tb_4 _ (List.mem_of_getElem? (i := 183) rfl)) rfl
theorem wc_X7_heightOf : Cond.code yX7_heightOf cX7_heightOf 2 (some .int) ∈ lw_g := lw_m (tb_4 _ (List.mem_of_getElem? (i := 184) rfl)) rfl
theorem wl_X7_91 : Cond.methodLink RX7 91 yJ9_abs_0f7a4 ∈ lw_g := lw_m (tb_4 _ (List.mem_of_getElem? (i := 185) rfl)) rfl
theorem wt_J9_abs_0f7a4 : Cond.static yJ9_abs_0f7a4 ∈ lw_g := lw_m (tb_4 _ (List.mem_of_getElem? (i := 186) rfl)) rfl
theorem wc_J9_abs_0f7a4 : Cond.code yJ9_abs_0f7a4 cJ9_abs_0f7a4 1 (some .int) ∈ lw_g := lw_m (tb_4 _ (List.mem_of_getElem? (i := 187) rfl)) rfl
theorem wl_L_84 : Cond.methodLink RL 84 yX11_feud ∈ lw_g := lw_m (tb_4 _ (List.mem_of_getElem? (i := 188) rfl)) rfl
theorem wi_X11_feud : Cond.instanceMethod yX11_feud ∈ lw_g := lw_m (tb_4 _ (List.mem_of_getElem? (i := 189) rfl)) rfl
theorem ws_X11_X11_feud_X11_feud : Cond.selects RX11 yX11_feud yX11_feud ∈ lw_g := lw_m (tb_4 _ (List.mem_of_getElem? (i := 190) rfl)) rfl
theorem wc_X11_feud : Cond.code yX11_feud cX11_feud 4 (some .int) ∈ lw_g := lw_m (tb_4 _ (List.mem_of_getElem? (i := 191) rfl)) rfl
theorem wl_L_88 : Cond.methodLink RL 88 yX11_copyHeights ∈ lw_g := lw_m (tb_4 _ (List.mem_of_getElem? (i := 192) rfl)) rfl
theorem wi_X11_copyHeights : Cond.instanceMethod yX11_copyHeights ∈ lw_g := lw_m (tb_4 _ (List.mem_of_getElem? (i := 193) rfl)) rfl
theorem ws_X11_X11_copyHeights_X11_copyHeights : Cond.selects RX11 yX11_copyHeights yX11_copyHeights ∈ lw_g := lw_m (tb_4 _ (List.mem_of_getElem? (i := 194) rfl)) rfl
theorem wc_X11_copyHeights : Cond.code yX11_copyHeights cX11_copyHeights 5 (some .int) ∈ lw_g := lw_m (tb_4 _ (List.mem_of_getElem? (i := 195) rfl)) rfl
theorem wl_L_92 : Cond.methodLink RL 92 yX11_say ∈ lw_g := lw_m (tb_4 _ (List.mem_of_getElem? (i := 196) rfl)) rfl
theorem wi_X11_say : Cond.instanceMethod yX11_say ∈ lw_g := lw_m (tb_4 _ (List.mem_of_getElem? (i := 197) rfl)) rfl
theorem ws_X11_X11_say_X11_say : Cond.selects RX11 yX11_say yX11_say ∈ lw_g := lw_m (tb_4 _ (List.mem_of_getElem? (i := 198) rfl)) rfl
theorem wc_X11_say : Cond.code yX11_say cX11_say 4 (some .int) ∈ lw_g := lw_m (tb_4 _ (List.mem_of_getElem? (i := 199) rfl)) rfl
theorem wl_X11_268 : Cond.methodLink RX11 268 yX7_letSay ∈ lw_g := lw_m (tb_4 _ (List.mem_of_getElem? (i := 200) rfl)) rfl
theorem wi_X7_letSay : Cond.instanceMethod yX7_letSay ∈ lw_g := lw_m (tb_4 _ (List.mem_of_getElem? (i := 201) rfl)) rfl
theorem ws_X7_X7_letSay_X7_letSay : Cond.selects RX7 yX7_letSay yX7_letSay ∈ lw_g := lw_m (tb_4 _ (List.mem_of_getElem? (i := 202) rfl)) rfl
theorem wc_X7_letSay : Cond.code yX7_letSay cX7_letSay 3 none ∈ lw_g := lw_m (tb_4 _ (List.mem_of_getElem? (i := 203) rfl)) rfl
theorem wl_X7_83 : Cond.methodLink RX7 83 yX7_standing ∈ lw_g := lw_m (tb_4 _ (List.mem_of_getElem? (i := 204) rfl)) rfl
theorem wl_L_96 : Cond.methodLink RL 96 yX11_drop ∈ lw_g := lw_m (tb_4 _ (List.mem_of_getElem? (i := 205) rfl)) rfl
theorem wi_X11_drop : Cond.instanceMethod yX11_drop ∈ lw_g := lw_m (tb_4 _ (List.mem_of_getElem? (i := 206) rfl)) rfl
theorem ws_X11_X11_drop_X11_drop : Cond.selects RX11 yX11_drop yX11_drop ∈ lw_g := lw_m (tb_4 _ (List.mem_of_getElem? (i := 207) rfl)) rfl
theorem wc_X11_drop : Cond.code yX11_drop cX11_drop 4 (some .int) ∈ lw_g := lw_m (tb_4 _ (List.mem_of_getElem? (i := 208) rfl)) rfl
theorem wl_X11_271 : Cond.methodLink RX11 271 yX7_isFalling ∈ lw_g := lw_m (tb_4 _ (List.mem_of_getElem? (i := 209) rfl)) rfl
theorem wl_X11_274 : Cond.methodLink RX11 274 yX7_letDrop ∈ lw_g := lw_m (tb_4 _ (List.mem_of_getElem? (i := 210) rfl)) rfl
theorem wi_X7_letDrop : Cond.instanceMethod yX7_letDrop ∈ lw_g := lw_m (tb_4 _ (List.mem_of_getElem? (i := 211) rfl)) rfl
theorem ws_X7_X7_letDrop_X7_letDrop : Cond.selects RX7 yX7_letDrop yX7_letDrop ∈ lw_g := lw_m (tb_4 _ (List.mem_of_getElem? (i := 212) rfl)) rfl
theorem wc_X7_letDrop : Cond.code yX7_letDrop cX7_letDrop 3 none ∈ lw_g := lw_m (tb_4 _ (List.mem_of_getElem? (i := 213) rfl)) rfl
theorem wl_X7_74 : Cond.methodLink RX7 74 yJ9_max_7cf53 ∈ lw_g := lw_m (tb_4 _ (List.mem_of_getElem? (i := 214) rfl)) rfl
theorem wl_L_100 : Cond.methodLink RL 100 yX11_pull ∈ lw_g := lw_m (tb_4 _ (List.mem_of_getElem? (i := 215) rfl)) rfl
theorem wi_X11_pull : Cond.instanceMethod yX11_pull ∈ lw_g := lw_m (tb_4 _ (List.mem_of_getElem? (i := 216) rfl)) rfl
theorem ws_X11_X11_pull_X11_pull : Cond.selects RX11 yX11_pull yX11_pull ∈ lw_g := lw_m (tb_4 _ (List.mem_of_getElem? (i := 217) rfl)) rfl
theorem wc_X11_pull : Cond.code yX11_pull cX11_pull 4 (some .int) ∈ lw_g := lw_m (tb_4 _ (List.mem_of_getElem? (i := 218) rfl)) rfl
theorem wl_X11_277 : Cond.methodLink RX11 277 yX7_letPull ∈ lw_g := lw_m (tb_4 _ (List.mem_of_getElem? (i := 219) rfl)) rfl
theorem wi_X7_letPull : Cond.instanceMethod yX7_letPull ∈ lw_g := lw_m (tb_4 _ (List.mem_of_getElem? (i := 220) rfl)) rfl
theorem ws_X7_X7_letPull_X7_letPull : Cond.selects RX7 yX7_letPull yX7_letPull ∈ lw_g := lw_m (tb_4 _ (List.mem_of_getElem? (i := 221) rfl)) rfl
theorem wc_X7_letPull : Cond.code yX7_letPull cX7_letPull 3 none ∈ lw_g := lw_m (tb_4 _ (List.mem_of_getElem? (i := 222) rfl)) rfl
theorem wl_X7_102 : Cond.methodLink RX7 102 yX7_landing ∈ lw_g := lw_m (tb_4 _ (List.mem_of_getElem? (i := 223) rfl)) rfl
theorem wi_X7_landing : Cond.instanceMethod yX7_landing ∈ lw_g := lw_m (tb_4 _ (List.mem_of_getElem? (i := 224) rfl)) rfl
theorem ws_X7_X7_landing_X7_landing : Cond.selects RX7 yX7_landing yX7_landing ∈ lw_g := lw_m (tb_4 _ (List.mem_of_getElem? (i := 225) rfl)) rfl
theorem wc_X7_landing : Cond.code yX7_landing cX7_landing 2 (some .int) ∈ lw_g := lw_m (tb_4 _ (List.mem_of_getElem? (i := 226) rfl)) rfl
theorem wl_L_105 : Cond.methodLink RL 105 yX11_prop ∈ lw_g := lw_m (tb_4 _ (List.mem_of_getElem? (i := 227) rfl)) rfl
theorem wi_X11_prop : Cond.instanceMethod yX11_prop ∈ lw_g := lw_m (tb_4 _ (List.mem_of_getElem? (i := 228) rfl)) rfl
theorem ws_X11_X11_prop_X11_prop : Cond.selects RX11 yX11_prop yX11_prop ∈ lw_g := lw_m (tb_4 _ (List.mem_of_getElem? (i := 229) rfl)) rfl
theorem wc_X11_prop : Cond.code yX11_prop cX11_prop 3 (some .int) ∈ lw_g := lw_m (tb_4 _ (List.mem_of_getElem? (i := 230) rfl)) rfl
theorem wl_X11_281 : Cond.methodLink RX11 281 yX7_isPropped ∈ lw_g := lw_m (tb_4 _ (List.mem_of_getElem? (i := 231) rfl)) rfl
theorem wi_X7_isPropped : Cond.instanceMethod yX7_isPropped ∈ lw_g := lw_m (tb_4 _ (List.mem_of_getElem? (i := 232) rfl)) rfl
theorem ws_X7_X7_isPropped_X7_isPropped : Cond.selects RX7 yX7_isPropped yX7_isPropped ∈ lw_g := lw_m (tb_4 _ (List.mem_of_getElem? (i := 233) rfl)) rfl
theorem wc_X7_isPropped : Cond.code yX7_isPropped cX7_isPropped 2 (some .boolean) ∈ lw_g := lw_m (tb_4 _ (List.mem_of_getElem? (i := 234) rfl)) rfl
theorem wl_X11_284 : Cond.methodLink RX11 284 yJ6_bitCount_0f7a4 ∈ lw_g := lw_m (tb_4 _ (List.mem_of_getElem? (i := 235) rfl)) rfl
theorem wt_J6_bitCount_0f7a4 : Cond.static yJ6_bitCount_0f7a4 ∈ lw_g := lw_m (tb_4 _ (List.mem_of_getElem? (i := 236) rfl)) rfl
theorem wc_J6_bitCount_0f7a4 : Cond.code yJ6_bitCount_0f7a4 cJ6_bitCount_0f7a4 1 (some .int) ∈ lw_g := lw_m (tb_4 _ (List.mem_of_getElem? (i := 237) rfl)) rfl
theorem wk_J6_265 : Cond.constant RJ6 265 (1431655765) ∈ lw_g := lw_m (tb_4 _ (List.mem_of_getElem? (i := 238) rfl)) rfl
theorem wk_J6_266 : Cond.constant RJ6 266 (858993459) ∈ lw_g := lw_m (tb_4 _ (List.mem_of_getElem? (i := 239) rfl)) rfl
theorem wk_J6_267 : Cond.constant RJ6 267 (252645135) ∈ lw_g := lw_m (tb_5 _ (List.mem_of_getElem? (i := 0) rfl)) rfl
theorem wl_L_109 : Cond.methodLink RL 109 yX11_cut ∈ lw_g := lw_m (tb_5 _ (List.mem_of_getElem? (i := 1) rfl)) rfl
theorem wi_X11_cut : Cond.instanceMethod yX11_cut ∈ lw_g := lw_m (tb_5 _ (List.mem_of_getElem? (i := 2) rfl)) rfl
theorem ws_X11_X11_cut_X11_cut : Cond.selects RX11 yX11_cut yX11_cut ∈ lw_g := lw_m (tb_5 _ (List.mem_of_getElem? (i := 3) rfl)) rfl
theorem wc_X11_cut : Cond.code yX11_cut cX11_cut 3 (some .int) ∈ lw_g := lw_m (tb_5 _ (List.mem_of_getElem? (i := 4) rfl)) rfl
theorem wl_L_113 : Cond.methodLink RL 113 yX11_lift ∈ lw_g := lw_m (tb_5 _ (List.mem_of_getElem? (i := 5) rfl)) rfl
theorem wi_X11_lift : Cond.instanceMethod yX11_lift ∈ lw_g := lw_m (tb_5 _ (List.mem_of_getElem? (i := 6) rfl)) rfl
theorem ws_X11_X11_lift_X11_lift : Cond.selects RX11 yX11_lift yX11_lift ∈ lw_g := lw_m (tb_5 _ (List.mem_of_getElem? (i := 7) rfl)) rfl
theorem wc_X11_lift : Cond.code yX11_lift cX11_lift 5 (some .int) ∈ lw_g := lw_m (tb_5 _ (List.mem_of_getElem? (i := 8) rfl)) rfl
theorem wl_X11_289 : Cond.methodLink RX11 289 yX7_isHeight ∈ lw_g := lw_m (tb_5 _ (List.mem_of_getElem? (i := 9) rfl)) rfl
theorem wi_X7_isHeight : Cond.instanceMethod yX7_isHeight ∈ lw_g := lw_m (tb_5 _ (List.mem_of_getElem? (i := 10) rfl)) rfl
theorem ws_X7_X7_isHeight_X7_isHeight : Cond.selects RX7 yX7_isHeight yX7_isHeight ∈ lw_g := lw_m (tb_5 _ (List.mem_of_getElem? (i := 11) rfl)) rfl
theorem wc_X7_isHeight : Cond.code yX7_isHeight cX7_isHeight 2 (some .boolean) ∈ lw_g := lw_m (tb_5 _ (List.mem_of_getElem? (i := 12) rfl)) rfl
theorem wl_L_117 : Cond.methodLink RL 117 yX11_rewrite ∈ lw_g := lw_m (tb_5 _ (List.mem_of_getElem? (i := 13) rfl)) rfl
theorem wi_X11_rewrite : Cond.instanceMethod yX11_rewrite ∈ lw_g := lw_m (tb_5 _ (List.mem_of_getElem? (i := 14) rfl)) rfl
theorem ws_X11_X11_rewrite_X11_rewrite : Cond.selects RX11 yX11_rewrite yX11_rewrite ∈ lw_g := lw_m (tb_5 _ (List.mem_of_getElem? (i := 15) rfl)) rfl
theorem wc_X11_rewrite : Cond.code yX11_rewrite cX11_rewrite 7 (some .int) ∈ lw_g := lw_m (tb_5 _ (List.mem_of_getElem? (i := 16) rfl)) rfl
theorem wl_L_122 : Cond.methodLink RL 122 yX11_think ∈ lw_g := lw_m (tb_5 _ (List.mem_of_getElem? (i := 17) rfl)) rfl
theorem wi_X11_think : Cond.instanceMethod yX11_think ∈ lw_g := lw_m (tb_5 _ (List.mem_of_getElem? (i := 18) rfl)) rfl
theorem ws_X11_X11_think_X11_think : Cond.selects RX11 yX11_think yX11_think ∈ lw_g := lw_m (tb_5 _ (List.mem_of_getElem? (i := 19) rfl)) rfl
theorem wc_X11_think : Cond.code yX11_think cX11_think 4 (some .int) ∈ lw_g := lw_m (tb_5 _ (List.mem_of_getElem? (i := 20) rfl)) rfl
theorem wl_X11_292 : Cond.methodLink RX11 292 yX7_addClaim ∈ lw_g := lw_m (tb_5 _ (List.mem_of_getElem? (i := 21) rfl)) rfl
theorem wl_L_126 : Cond.methodLink RL 126 yX11_anger ∈ lw_g := lw_m (tb_5 _ (List.mem_of_getElem? (i := 22) rfl)) rfl
theorem wi_X11_anger : Cond.instanceMethod yX11_anger ∈ lw_g := lw_m (tb_5 _ (List.mem_of_getElem? (i := 23) rfl)) rfl
theorem ws_X11_X11_anger_X11_anger : Cond.selects RX11 yX11_anger yX11_anger ∈ lw_g := lw_m (tb_5 _ (List.mem_of_getElem? (i := 24) rfl)) rfl
theorem wc_X11_anger : Cond.code yX11_anger cX11_anger 4 (some .int) ∈ lw_g := lw_m (tb_5 _ (List.mem_of_getElem? (i := 25) rfl)) rfl
theorem wl_X11_296 : Cond.methodLink RX11 296 yX7_isFeud ∈ lw_g := lw_m (tb_5 _ (List.mem_of_getElem? (i := 26) rfl)) rfl
theorem wl_X11_299 : Cond.methodLink RX11 299 yX7_addFeud ∈ lw_g := lw_m (tb_5 _ (List.mem_of_getElem? (i := 27) rfl)) rfl
theorem wl_L_130 : Cond.methodLink RL 130 yX11_rule ∈ lw_g := lw_m (tb_5 _ (List.mem_of_getElem? (i := 28) rfl)) rfl
theorem wi_X11_rule : Cond.instanceMethod yX11_rule ∈ lw_g := lw_m (tb_5 _ (List.mem_of_getElem? (i := 29) rfl)) rfl
theorem ws_X11_X11_rule_X11_rule : Cond.selects RX11 yX11_rule yX11_rule ∈ lw_g := lw_m (tb_5 _ (List.mem_of_getElem? (i := 30) rfl)) rfl
theorem wc_X11_rule : Cond.code yX11_rule cX11_rule 2 (some .boolean) ∈ lw_g := lw_m (tb_5 _ (List.mem_of_getElem? (i := 31) rfl)) rfl
theorem wl_L_135 : Cond.methodLink RL 135 yX11_holdsUp ∈ lw_g := lw_m (tb_5 _ (List.mem_of_getElem? (i := 32) rfl)) rfl
theorem wi_X11_holdsUp : Cond.instanceMethod yX11_holdsUp ∈ lw_g := lw_m (tb_5 _ (List.mem_of_getElem? (i := 33) rfl)) rfl
theorem ws_X11_X11_holdsUp_X11_holdsUp : Cond.selects RX11 yX11_holdsUp yX11_holdsUp ∈ lw_g := lw_m (tb_5 _ (List.mem_of_getElem? (i := 34) rfl)) rfl
theorem wc_X11_holdsUp : Cond.code yX11_holdsUp cX11_holdsUp 2 (some .int) ∈ lw_g := lw_m (tb_5 _ (List.mem_of_getElem? (i := 35) rfl)) rfl
theorem wl_X11_302 : Cond.methodLink RX11 302 yX7_fewestProps ∈ lw_g := lw_m (tb_5 _ (List.mem_of_getElem? (i := 36) rfl)) rfl
theorem wi_X7_fewestProps : Cond.instanceMethod yX7_fewestProps ∈ lw_g := lw_m (tb_5 _ (List.mem_of_getElem? (i := 37) rfl)) rfl
theorem ws_X7_X7_fewestProps_X7_fewestProps : Cond.selects RX7 yX7_fewestProps yX7_fewestProps ∈ lw_g := lw_m (tb_5 _ (List.mem_of_getElem? (i := 38) rfl)) rfl
theorem wc_X7_fewestProps : Cond.code yX7_fewestProps cX7_fewestProps 3 (some .int) ∈ lw_g := lw_m (tb_5 _ (List.mem_of_getElem? (i := 39) rfl)) rfl
theorem wl_L_139 : Cond.methodLink RL 139 yX11_holdsUpSet ∈ lw_g := lw_m (tb_5 _ (List.mem_of_getElem? (i := 40) rfl)) rfl
theorem wi_X11_holdsUpSet : Cond.instanceMethod yX11_holdsUpSet ∈ lw_g := lw_m (tb_5 _ (List.mem_of_getElem? (i := 41) rfl)) rfl
theorem ws_X11_X11_holdsUpSet_X11_holdsUpSet : Cond.selects RX11 yX11_holdsUpSet yX11_holdsUpSet ∈ lw_g := lw_m (tb_5 _ (List.mem_of_getElem? (i := 42) rfl)) rfl
theorem wc_X11_holdsUpSet : Cond.code yX11_holdsUpSet cX11_holdsUpSet 2 (some .int) ∈ lw_g := lw_m (tb_5 _ (List.mem_of_getElem? (i := 43) rfl)) rfl
theorem wl_L_143 : Cond.methodLink RL 143 yX11_bringsDown ∈ lw_g := lw_m (tb_5 _ (List.mem_of_getElem? (i := 44) rfl)) rfl
theorem wi_X11_bringsDown : Cond.instanceMethod yX11_bringsDown ∈ lw_g := lw_m (tb_5 _ (List.mem_of_getElem? (i := 45) rfl)) rfl
theorem ws_X11_X11_bringsDown_X11_bringsDown : Cond.selects RX11 yX11_bringsDown yX11_bringsDown ∈ lw_g := lw_m (tb_5 _ (List.mem_of_getElem? (i := 46) rfl)) rfl
theorem wc_X11_bringsDown : Cond.code yX11_bringsDown cX11_bringsDown 4 (some .int) ∈ lw_g := lw_m (tb_5 _ (List.mem_of_getElem? (i := 47) rfl)) rfl
theorem wl_X11_305 : Cond.methodLink RX11 305 yX7_standingBy ∈ lw_g := lw_m (tb_5 _ (List.mem_of_getElem? (i := 48) rfl)) rfl
theorem wl_L_147 : Cond.methodLink RL 147 yX11_way ∈ lw_g := lw_m (tb_5 _ (List.mem_of_getElem? (i := 49) rfl)) rfl
theorem wi_X11_way : Cond.instanceMethod yX11_way ∈ lw_g := lw_m (tb_5 _ (List.mem_of_getElem? (i := 50) rfl)) rfl
theorem ws_X11_X11_way_X11_way : Cond.selects RX11 yX11_way yX11_way ∈ lw_g := lw_m (tb_5 _ (List.mem_of_getElem? (i := 51) rfl)) rfl
theorem wc_X11_way : Cond.code yX11_way cX11_way 5 (some .int) ∈ lw_g := lw_m (tb_5 _ (List.mem_of_getElem? (i := 52) rfl)) rfl
theorem wl_X11_308 : Cond.methodLink RX11 308 yX11_wayStatus ∈ lw_g := lw_m (tb_5 _ (List.mem_of_getElem? (i := 53) rfl)) rfl
theorem wi_X11_wayStatus : Cond.instanceMethod yX11_wayStatus ∈ lw_g := lw_m (tb_5 _ (List.mem_of_getElem? (i := 55) rfl)) rfl
theorem wc_X11_wayStatus : Cond.code yX11_wayStatus cX11_wayStatus 3 (some .int) ∈ lw_g := lw_m (tb_5 _ (List.mem_of_getElem? (i := 56) rfl)) rfl
theorem wl_X11_311 : Cond.methodLink RX11 311 yX10_sayingsTo ∈ lw_g := lw_m (tb_5 _ (List.mem_of_getElem? (i := 57) rfl)) rfl
theorem wi_X10_sayingsTo : Cond.instanceMethod yX10_sayingsTo ∈ lw_g := lw_m (tb_5 _ (List.mem_of_getElem? (i := 58) rfl)) rfl
theorem ws_X10_X10_sayingsTo_X10_sayingsTo : Cond.selects RX10 yX10_sayingsTo yX10_sayingsTo ∈ lw_g := lw_m (tb_5 _ (List.mem_of_getElem? (i := 59) rfl)) rfl
theorem wc_X10_sayingsTo : Cond.code yX10_sayingsTo cX10_sayingsTo 6 (some .int) ∈ lw_g := lw_m (tb_5 _ (List.mem_of_getElem? (i := 60) rfl)) rfl
theorem wl_X10_47 : Cond.methodLink RX10 47 yX10_findEnds ∈ lw_g := lw_m (tb_5 _ (List.mem_of_getElem? (i := 61) rfl)) rfl
theorem wi_X10_findEnds : Cond.instanceMethod yX10_findEnds ∈ lw_g := lw_m (tb_5 _ (List.mem_of_getElem? (i := 62) rfl)) rfl
theorem ws_X10_X10_findEnds_X10_findEnds : Cond.selects RX10 yX10_findEnds yX10_findEnds ∈ lw_g := lw_m (tb_5 _ (List.mem_of_getElem? (i := 63) rfl)) rfl
theorem wc_X10_findEnds : Cond.code yX10_findEnds cX10_findEnds 7 none ∈ lw_g := lw_m (tb_5 _ (List.mem_of_getElem? (i := 64) rfl)) rfl
theorem wl_X10_24 : Cond.methodLink RX10 24 yX7_standing ∈ lw_g := lw_m (tb_5 _ (List.mem_of_getElem? (i := 65) rfl)) rfl
theorem wl_X10_34 : Cond.methodLink RX10 34 yX7_heightOf ∈ lw_g := lw_m (tb_5 _ (List.mem_of_getElem? (i := 66) rfl)) rfl
theorem wl_X10_38 : Cond.methodLink RX10 38 yJ9_max_7cf53 ∈ lw_g := lw_m (tb_5 _ (List.mem_of_getElem? (i := 67) rfl)) rfl
theorem wl_X10_44 : Cond.methodLink RX10 44 yX7_landing ∈ lw_g := lw_m (tb_5 _ (List.mem_of_getElem? (i := 68) rfl)) rfl
theorem wl_X10_54 : Cond.methodLink RX10 54 yX10_shortestBy ∈ lw_g := lw_m (tb_5 _ (List.mem_of_getElem? (i := 69) rfl)) rfl
theorem wi_X10_shortestBy : Cond.instanceMethod yX10_shortestBy ∈ lw_g := lw_m (tb_5 _ (List.mem_of_getElem? (i := 71) rfl)) rfl
theorem wc_X10_shortestBy : Cond.code yX10_shortestBy cX10_shortestBy 4 (some .int) ∈ lw_g := lw_m (tb_5 _ (List.mem_of_getElem? (i := 72) rfl)) rfl
theorem wl_X10_60 : Cond.methodLink RX10 60 yX7_isNear ∈ lw_g := lw_m (tb_5 _ (List.mem_of_getElem? (i := 73) rfl)) rfl
theorem wl_X10_57 : Cond.methodLink RX10 57 yJ9_min_7cf53 ∈ lw_g := lw_m (tb_5 _ (List.mem_of_getElem? (i := 74) rfl)) rfl
theorem wl_L_151 : Cond.methodLink RL 151 yX11_wayAt ∈ lw_g := lw_m (tb_5 _ (List.mem_of_getElem? (i := 75) rfl)) rfl
theorem wi_X11_wayAt : Cond.instanceMethod yX11_wayAt ∈ lw_g := lw_m (tb_5 _ (List.mem_of_getElem? (i := 76) rfl)) rfl
theorem ws_X11_X11_wayAt_X11_wayAt : Cond.selects RX11 yX11_wayAt yX11_wayAt ∈ lw_g := lw_m (tb_5 _ (List.mem_of_getElem? (i := 77) rfl)) rfl
theorem wc_X11_wayAt : Cond.code yX11_wayAt cX11_wayAt 7 (some .int) ∈ lw_g := lw_m (tb_5 _ (List.mem_of_getElem? (i := 78) rfl)) rfl
theorem wl_X11_315 : Cond.methodLink RX11 315 yX10_tellSaying ∈ lw_g := lw_m (tb_5 _ (List.mem_of_getElem? (i := 79) rfl)) rfl
theorem wi_X10_tellSaying : Cond.instanceMethod yX10_tellSaying ∈ lw_g := lw_m (tb_5 _ (List.mem_of_getElem? (i := 80) rfl)) rfl
theorem ws_X10_X10_tellSaying_X10_tellSaying : Cond.selects RX10 yX10_tellSaying yX10_tellSaying ∈ lw_g := lw_m (tb_5 _ (List.mem_of_getElem? (i := 81) rfl)) rfl
theorem wc_X10_tellSaying : Cond.code yX10_tellSaying cX10_tellSaying 6 (some .int) ∈ lw_g := lw_m (tb_5 _ (List.mem_of_getElem? (i := 82) rfl)) rfl
theorem wl_X10_64 : Cond.methodLink RX10 64 yX10_nextSaying ∈ lw_g := lw_m (tb_5 _ (List.mem_of_getElem? (i := 83) rfl)) rfl
theorem wi_X10_nextSaying : Cond.instanceMethod yX10_nextSaying ∈ lw_g := lw_m (tb_5 _ (List.mem_of_getElem? (i := 85) rfl)) rfl
theorem wc_X10_nextSaying : Cond.code yX10_nextSaying cX10_nextSaying 4 (some .int) ∈ lw_g := lw_m (tb_5 _ (List.mem_of_getElem? (i := 86) rfl)) rfl
theorem wl_L_156 : Cond.methodLink RL 156 yX11_from ∈ lw_g := lw_m (tb_5 _ (List.mem_of_getElem? (i := 87) rfl)) rfl
theorem wi_X11_from : Cond.instanceMethod yX11_from ∈ lw_g := lw_m (tb_5 _ (List.mem_of_getElem? (i := 88) rfl)) rfl
theorem ws_X11_X11_from_X11_from : Cond.selects RX11 yX11_from yX11_from ∈ lw_g := lw_m (tb_5 _ (List.mem_of_getElem? (i := 89) rfl)) rfl
theorem wc_X11_from : Cond.code yX11_from cX11_from 2 (some .int) ∈ lw_g := lw_m (tb_5 _ (List.mem_of_getElem? (i := 90) rfl)) rfl
theorem wl_X11_319 : Cond.methodLink RX11 319 yX10_findEnds ∈ lw_g := lw_m (tb_5 _ (List.mem_of_getElem? (i := 91) rfl)) rfl
theorem wl_X11_322 : Cond.methodLink RX11 322 yX10_couples ∈ lw_g := lw_m (tb_5 _ (List.mem_of_getElem? (i := 92) rfl)) rfl
theorem wi_X10_couples : Cond.instanceMethod yX10_couples ∈ lw_g := lw_m (tb_5 _ (List.mem_of_getElem? (i := 93) rfl)) rfl
theorem ws_X10_X10_couples_X10_couples : Cond.selects RX10 yX10_couples yX10_couples ∈ lw_g := lw_m (tb_5 _ (List.mem_of_getElem? (i := 94) rfl)) rfl
theorem wc_X10_couples : Cond.code yX10_couples cX10_couples 4 (some .int) ∈ lw_g := lw_m (tb_5 _ (List.mem_of_getElem? (i := 95) rfl)) rfl
theorem wl_X10_67 : Cond.methodLink RX10 67 yX10_couplesOf ∈ lw_g := lw_m (tb_5 _ (List.mem_of_getElem? (i := 96) rfl)) rfl
theorem wi_X10_couplesOf : Cond.instanceMethod yX10_couplesOf ∈ lw_g := lw_m (tb_5 _ (List.mem_of_getElem? (i := 97) rfl)) rfl
theorem ws_X10_X10_couplesOf_X10_couplesOf : Cond.selects RX10 yX10_couplesOf yX10_couplesOf ∈ lw_g := lw_m (tb_5 _ (List.mem_of_getElem? (i := 98) rfl)) rfl
theorem wc_X10_couplesOf : Cond.code yX10_couplesOf cX10_couplesOf 6 (some .int) ∈ lw_g := lw_m (tb_5 _ (List.mem_of_getElem? (i := 99) rfl)) rfl
theorem wl_L_160 : Cond.methodLink RL 160 yX11_oddsThat ∈ lw_g := lw_m (tb_5 _ (List.mem_of_getElem? (i := 100) rfl)) rfl
theorem wi_X11_oddsThat : Cond.instanceMethod yX11_oddsThat ∈ lw_g := lw_m (tb_5 _ (List.mem_of_getElem? (i := 101) rfl)) rfl
theorem ws_X11_X11_oddsThat_X11_oddsThat : Cond.selects RX11 yX11_oddsThat yX11_oddsThat ∈ lw_g := lw_m (tb_5 _ (List.mem_of_getElem? (i := 102) rfl)) rfl
theorem wc_X11_oddsThat : Cond.code yX11_oddsThat cX11_oddsThat 4 (some .boolean) ∈ lw_g := lw_m (tb_5 _ (List.mem_of_getElem? (i := 103) rfl)) rfl
theorem wl_X11_325 : Cond.methodLink RX11 325 yX10_couplesOf ∈ lw_g := lw_m (tb_5 _ (List.mem_of_getElem? (i := 104) rfl)) rfl
theorem wl_X11_328 : Cond.methodLink RX11 328 yX11_tell ∈ lw_g := lw_m (tb_5 _ (List.mem_of_getElem? (i := 105) rfl)) rfl
theorem wi_X11_tell : Cond.instanceMethod yX11_tell ∈ lw_g := lw_m (tb_5 _ (List.mem_of_getElem? (i := 107) rfl)) rfl
theorem wc_X11_tell : Cond.code yX11_tell cX11_tell 7 (some .boolean) ∈ lw_g := lw_m (tb_5 _ (List.mem_of_getElem? (i := 108) rfl)) rfl
theorem wl_X11_419 : Cond.methodLink RX11 419 yX11_commonDivisor ∈ lw_g := lw_m (tb_5 _ (List.mem_of_getElem? (i := 109) rfl)) rfl
theorem wt_X11_commonDivisor : Cond.static yX11_commonDivisor ∈ lw_g := lw_m (tb_5 _ (List.mem_of_getElem? (i := 110) rfl)) rfl
theorem wc_X11_commonDivisor : Cond.code yX11_commonDivisor cX11_commonDivisor 11 (some .long) ∈ lw_g := lw_m (tb_5 _ (List.mem_of_getElem? (i := 111) rfl)) rfl
theorem wl_L_165 : Cond.methodLink RL 165 yX11_laws ∈ lw_g := lw_m (tb_5 _ (List.mem_of_getElem? (i := 112) rfl)) rfl
theorem wi_X11_laws : Cond.instanceMethod yX11_laws ∈ lw_g := lw_m (tb_5 _ (List.mem_of_getElem? (i := 113) rfl)) rfl
theorem ws_X11_X11_laws_X11_laws : Cond.selects RX11 yX11_laws yX11_laws ∈ lw_g := lw_m (tb_5 _ (List.mem_of_getElem? (i := 114) rfl)) rfl
theorem wc_X11_laws : Cond.code yX11_laws cX11_laws 4 (some .int) ∈ lw_g := lw_m (tb_5 _ (List.mem_of_getElem? (i := 115) rfl)) rfl
theorem wl_X11_332 : Cond.methodLink RX11 332 yX11_lawStatus ∈ lw_g := lw_m (tb_5 _ (List.mem_of_getElem? (i := 116) rfl)) rfl
theorem wi_X11_lawStatus : Cond.instanceMethod yX11_lawStatus ∈ lw_g := lw_m (tb_5 _ (List.mem_of_getElem? (i := 118) rfl)) rfl
theorem wc_X11_lawStatus : Cond.code yX11_lawStatus cX11_lawStatus 9 (some .int) ∈ lw_g := lw_m (tb_5 _ (List.mem_of_getElem? (i := 119) rfl)) rfl
theorem wk_X11_429 : Cond.constantLong RX11 429 (9) ∈ lw_g := lw_m (tb_5 _ (List.mem_of_getElem? (i := 120) rfl)) rfl
theorem wl_X11_335 : Cond.methodLink RX11 335 yX11_fittingLaws ∈ lw_g := lw_m (tb_5 _ (List.mem_of_getElem? (i := 121) rfl)) rfl
theorem wt_X11_fittingLaws : Cond.static yX11_fittingLaws ∈ lw_g := lw_m (tb_5 _ (List.mem_of_getElem? (i := 122) rfl)) rfl
theorem wc_X11_fittingLaws : Cond.code yX11_fittingLaws cX11_fittingLaws 6 (some .int) ∈ lw_g := lw_m (tb_5 _ (List.mem_of_getElem? (i := 123) rfl)) rfl
theorem wl_X11_431 : Cond.methodLink RX11 431 yX11_landsBy ∈ lw_g := lw_m (tb_5 _ (List.mem_of_getElem? (i := 124) rfl)) rfl
theorem wt_X11_landsBy : Cond.static yX11_landsBy ∈ lw_g := lw_m (tb_5 _ (List.mem_of_getElem? (i := 125) rfl)) rfl
theorem wc_X11_landsBy : Cond.code yX11_landsBy cX11_landsBy 3 (some .int) ∈ lw_g := lw_m (tb_5 _ (List.mem_of_getElem? (i := 126) rfl)) rfl
theorem wl_X11_434 : Cond.methodLink RX11 434 yJ9_max_7cf53 ∈ lw_g := lw_m (tb_5 _ (List.mem_of_getElem? (i := 127) rfl)) rfl
theorem wl_L_169 : Cond.methodLink RL 169 yX11_lawOf ∈ lw_g := lw_m (tb_5 _ (List.mem_of_getElem? (i := 128) rfl)) rfl
theorem wi_X11_lawOf : Cond.instanceMethod yX11_lawOf ∈ lw_g := lw_m (tb_5 _ (List.mem_of_getElem? (i := 129) rfl)) rfl
theorem ws_X11_X11_lawOf_X11_lawOf : Cond.selects RX11 yX11_lawOf yX11_lawOf ∈ lw_g := lw_m (tb_5 _ (List.mem_of_getElem? (i := 130) rfl)) rfl
theorem wc_X11_lawOf : Cond.code yX11_lawOf cX11_lawOf 7 (some .int) ∈ lw_g := lw_m (tb_5 _ (List.mem_of_getElem? (i := 131) rfl)) rfl
theorem wl_L_173 : Cond.methodLink RL 173 yX11_ask ∈ lw_g := lw_m (tb_5 _ (List.mem_of_getElem? (i := 132) rfl)) rfl
theorem wi_X11_ask : Cond.instanceMethod yX11_ask ∈ lw_g := lw_m (tb_5 _ (List.mem_of_getElem? (i := 133) rfl)) rfl
theorem ws_X11_X11_ask_X11_ask : Cond.selects RX11 yX11_ask yX11_ask ∈ lw_g := lw_m (tb_5 _ (List.mem_of_getElem? (i := 134) rfl)) rfl
theorem wc_X11_ask : Cond.code yX11_ask cX11_ask 9 (some .int) ∈ lw_g := lw_m (tb_5 _ (List.mem_of_getElem? (i := 135) rfl)) rfl
theorem wl_X11_339 : Cond.methodLink RX11 339 yX11_mostAtOne ∈ lw_g := lw_m (tb_5 _ (List.mem_of_getElem? (i := 136) rfl)) rfl
theorem wt_X11_mostAtOne : Cond.static yX11_mostAtOne ∈ lw_g := lw_m (tb_5 _ (List.mem_of_getElem? (i := 137) rfl)) rfl
theorem wc_X11_mostAtOne : Cond.code yX11_mostAtOne cX11_mostAtOne 6 (some .int) ∈ lw_g := lw_m (tb_5 _ (List.mem_of_getElem? (i := 138) rfl)) rfl
theorem wl_L_177 : Cond.methodLink RL 177 yX11_best ∈ lw_g := lw_m (tb_5 _ (List.mem_of_getElem? (i := 139) rfl)) rfl
theorem wi_X11_best : Cond.instanceMethod yX11_best ∈ lw_g := lw_m (tb_5 _ (List.mem_of_getElem? (i := 140) rfl)) rfl
theorem ws_X11_X11_best_X11_best : Cond.selects RX11 yX11_best yX11_best ∈ lw_g := lw_m (tb_5 _ (List.mem_of_getElem? (i := 141) rfl)) rfl
theorem wc_X11_best : Cond.code yX11_best cX11_best 4 (some .boolean) ∈ lw_g := lw_m (tb_5 _ (List.mem_of_getElem? (i := 142) rfl)) rfl
theorem wl_X11_342 : Cond.methodLink RX11 342 yX11_fallStatus ∈ lw_g := lw_m (tb_5 _ (List.mem_of_getElem? (i := 143) rfl)) rfl
theorem wi_X11_fallStatus : Cond.instanceMethod yX11_fallStatus ∈ lw_g := lw_m (tb_5 _ (List.mem_of_getElem? (i := 145) rfl)) rfl
theorem wc_X11_fallStatus : Cond.code yX11_fallStatus cX11_fallStatus 3 (some .int) ∈ lw_g := lw_m (tb_5 _ (List.mem_of_getElem? (i := 146) rfl)) rfl
theorem wl_X11_345 : Cond.methodLink RX11 345 yX5_weigh ∈ lw_g := lw_m (tb_5 _ (List.mem_of_getElem? (i := 147) rfl)) rfl
theorem wi_X5_weigh : Cond.instanceMethod yX5_weigh ∈ lw_g := lw_m (tb_5 _ (List.mem_of_getElem? (i := 148) rfl)) rfl
theorem ws_X5_X5_weigh_X5_weigh : Cond.selects RX5 yX5_weigh yX5_weigh ∈ lw_g := lw_m (tb_5 _ (List.mem_of_getElem? (i := 149) rfl)) rfl
theorem wc_X5_weigh : Cond.code yX5_weigh cX5_weigh 7 none ∈ lw_g := lw_m (tb_5 _ (List.mem_of_getElem? (i := 150) rfl)) rfl
theorem wl_X5_28 : Cond.methodLink RX5 28 yX7_landing ∈ lw_g := lw_m (tb_5 _ (List.mem_of_getElem? (i := 151) rfl)) rfl
theorem wl_X5_32 : Cond.methodLink RX5 32 yX7_worthAt ∈ lw_g := lw_m (tb_5 _ (List.mem_of_getElem? (i := 152) rfl)) rfl
theorem wi_X7_worthAt : Cond.instanceMethod yX7_worthAt ∈ lw_g := lw_m (tb_5 _ (List.mem_of_getElem? (i := 153) rfl)) rfl
theorem ws_X7_X7_worthAt_X7_worthAt : Cond.selects RX7 yX7_worthAt yX7_worthAt ∈ lw_g := lw_m (tb_5 _ (List.mem_of_getElem? (i := 154) rfl)) rfl
theorem wc_X7_worthAt : Cond.code yX7_worthAt cX7_worthAt 2 (some .int) ∈ lw_g := lw_m (tb_5 _ (List.mem_of_getElem? (i := 155) rfl)) rfl
theorem wl_X5_42 : Cond.methodLink RX5 42 yJ9_max_f86c9 ∈ lw_g := lw_m (tb_5 _ (List.mem_of_getElem? (i := 156) rfl)) rfl
theorem wt_J9_max_f86c9 : Cond.static yJ9_max_f86c9 ∈ lw_g := lw_m (tb_5 _ (List.mem_of_getElem? (i := 157) rfl)) rfl
theorem wc_J9_max_f86c9 : Cond.code yJ9_max_f86c9 cJ9_max_f86c9 4 (some .long) ∈ lw_g := lw_m (tb_5 _ (List.mem_of_getElem? (i := 158) rfl)) rfl
theorem wk_X5_48 : Cond.constantLong RX5 48 (16) ∈ lw_g := lw_m (tb_5 _ (List.mem_of_getElem? (i := 159) rfl)) rfl
theorem wl_L_181 : Cond.methodLink RL 181 yX11_bestAt ∈ lw_g := lw_m (tb_5 _ (List.mem_of_getElem? (i := 160) rfl)) rfl
theorem wi_X11_bestAt : Cond.instanceMethod yX11_bestAt ∈ lw_g := lw_m (tb_5 _ (List.mem_of_getElem? (i := 161) rfl)) rfl
theorem ws_X11_X11_bestAt_X11_bestAt : Cond.selects RX11 yX11_bestAt yX11_bestAt ∈ lw_g := lw_m (tb_5 _ (List.mem_of_getElem? (i := 162) rfl)) rfl
theorem wc_X11_bestAt : Cond.code yX11_bestAt cX11_bestAt 4 (some .int) ∈ lw_g := lw_m (tb_5 _ (List.mem_of_getElem? (i := 163) rfl)) rfl
theorem wl_X11_352 : Cond.methodLink RX11 352 yX5_firstPull ∈ lw_g := lw_m (tb_5 _ (List.mem_of_getElem? (i := 164) rfl)) rfl
theorem wi_X5_firstPull : Cond.instanceMethod yX5_firstPull ∈ lw_g := lw_m (tb_5 _ (List.mem_of_getElem? (i := 165) rfl)) rfl
theorem ws_X5_X5_firstPull_X5_firstPull : Cond.selects RX5 yX5_firstPull yX5_firstPull ∈ lw_g := lw_m (tb_5 _ (List.mem_of_getElem? (i := 166) rfl)) rfl
theorem wc_X5_firstPull : Cond.code yX5_firstPull cX5_firstPull 3 (some .int) ∈ lw_g := lw_m (tb_5 _ (List.mem_of_getElem? (i := 167) rfl)) rfl
theorem wl_L_185 : Cond.methodLink RL 185 yX11_peace ∈ lw_g := lw_m (tb_5 _ (List.mem_of_getElem? (i := 168) rfl)) rfl
theorem wi_X11_peace : Cond.instanceMethod yX11_peace ∈ lw_g := lw_m (tb_5 _ (List.mem_of_getElem? (i := 169) rfl)) rfl
theorem ws_X11_X11_peace_X11_peace : Cond.selects RX11 yX11_peace yX11_peace ∈ lw_g := lw_m (tb_5 _ (List.mem_of_getElem? (i := 170) rfl)) rfl
theorem wc_X11_peace : Cond.code yX11_peace cX11_peace 1 (some .int) ∈ lw_g := lw_m (tb_5 _ (List.mem_of_getElem? (i := 171) rfl)) rfl
theorem wl_X11_355 : Cond.methodLink RX11 355 yX3_begin ∈ lw_g := lw_m (tb_5 _ (List.mem_of_getElem? (i := 172) rfl)) rfl
theorem wi_X3_begin : Cond.instanceMethod yX3_begin ∈ lw_g := lw_m (tb_5 _ (List.mem_of_getElem? (i := 173) rfl)) rfl
theorem ws_X3_X3_begin_X3_begin : Cond.selects RX3 yX3_begin yX3_begin ∈ lw_g := lw_m (tb_5 _ (List.mem_of_getElem? (i := 174) rfl)) rfl
theorem wc_X3_begin : Cond.code yX3_begin cX3_begin 3 none ∈ lw_g := lw_m (tb_5 _ (List.mem_of_getElem? (i := 175) rfl)) rfl
theorem wl_X11_357 : Cond.methodLink RX11 357 yX3_topicsForPeace ∈ lw_g := lw_m (tb_5 _ (List.mem_of_getElem? (i := 176) rfl)) rfl
theorem wi_X3_topicsForPeace : Cond.instanceMethod yX3_topicsForPeace ∈ lw_g := lw_m (tb_5 _ (List.mem_of_getElem? (i := 177) rfl)) rfl
theorem ws_X3_X3_topicsForPeace_X3_topicsForPeace : Cond.selects RX3 yX3_topicsForPeace yX3_topicsForPeace ∈ lw_g := lw_m (tb_5 _ (List.mem_of_getElem? (i := 178) rfl)) rfl
theorem wc_X3_topicsForPeace : Cond.code yX3_topicsForPeace cX3_topicsForPeace 2 (some .int) ∈ lw_g := lw_m (tb_5 _ (List.mem_of_getElem? (i := 179) rfl)) rfl
theorem wl_X3_38 : Cond.methodLink RX3 38 yX3_fewestOn ∈ lw_g := lw_m (tb_5 _ (List.mem_of_getElem? (i := 180) rfl)) rfl
theorem wi_X3_fewestOn : Cond.instanceMethod yX3_fewestOn ∈ lw_g := lw_m (tb_5 _ (List.mem_of_getElem? (i := 181) rfl)) rfl
theorem ws_X3_X3_fewestOn_X3_fewestOn : Cond.selects RX3 yX3_fewestOn yX3_fewestOn ∈ lw_g := lw_m (tb_5 _ (List.mem_of_getElem? (i := 182) rfl)) rfl
theorem wc_X3_fewestOn : Cond.code yX3_fewestOn cX3_fewestOn 2 (some .int) ∈ lw_g := lw_m (tb_5 _ (List.mem_of_getElem? (i := 183) rfl)) rfl
theorem wl_X3_48 : Cond.methodLink RX3 48 yX3_putOnTopic ∈ lw_g := lw_m (tb_5 _ (List.mem_of_getElem? (i := 184) rfl)) rfl
theorem wi_X3_putOnTopic : Cond.instanceMethod yX3_putOnTopic ∈ lw_g := lw_m (tb_5 _ (List.mem_of_getElem? (i := 186) rfl)) rfl
theorem wc_X3_putOnTopic : Cond.code yX3_putOnTopic cX3_putOnTopic 6 none ∈ lw_g := lw_m (tb_5 _ (List.mem_of_getElem? (i := 187) rfl)) rfl
theorem wl_X3_52 : Cond.methodLink RX3 52 yX3_keepRow ∈ lw_g := lw_m (tb_5 _ (List.mem_of_getElem? (i := 188) rfl)) rfl
theorem wi_X3_keepRow : Cond.instanceMethod yX3_keepRow ∈ lw_g := lw_m (tb_5 _ (List.mem_of_getElem? (i := 190) rfl)) rfl
theorem wc_X3_keepRow : Cond.code yX3_keepRow cX3_keepRow 3 none ∈ lw_g := lw_m (tb_5 _ (List.mem_of_getElem? (i := 191) rfl)) rfl
theorem wl_X3_56 : Cond.methodLink RX3 56 yX3_quarrelsWithEarlier ∈ lw_g := lw_m (tb_5 _ (List.mem_of_getElem? (i := 192) rfl)) rfl
theorem wi_X3_quarrelsWithEarlier : Cond.instanceMethod yX3_quarrelsWithEarlier ∈ lw_g := lw_m (tb_5 _ (List.mem_of_getElem? (i := 194) rfl)) rfl
theorem wc_X3_quarrelsWithEarlier : Cond.code yX3_quarrelsWithEarlier cX3_quarrelsWithEarlier 4 (some .int) ∈ lw_g := lw_m (tb_5 _ (List.mem_of_getElem? (i := 195) rfl)) rfl
theorem wl_X3_59 : Cond.methodLink RX3 59 yJ9_max_7cf53 ∈ lw_g := lw_m (tb_5 _ (List.mem_of_getElem? (i := 196) rfl)) rfl
theorem wl_L_189 : Cond.methodLink RL 189 yX11_quarrels ∈ lw_g := lw_m (tb_5 _ (List.mem_of_getElem? (i := 197) rfl)) rfl
theorem wi_X11_quarrels : Cond.instanceMethod yX11_quarrels ∈ lw_g := lw_m (tb_5 _ (List.mem_of_getElem? (i := 198) rfl)) rfl
theorem ws_X11_X11_quarrels_X11_quarrels : Cond.selects RX11 yX11_quarrels yX11_quarrels ∈ lw_g := lw_m (tb_5 _ (List.mem_of_getElem? (i := 199) rfl)) rfl
theorem wc_X11_quarrels : Cond.code yX11_quarrels cX11_quarrels 2 (some .int) ∈ lw_g := lw_m (tb_5 _ (List.mem_of_getElem? (i := 200) rfl)) rfl
theorem wl_X11_360 : Cond.methodLink RX11 360 yX3_fewestOn ∈ lw_g := lw_m (tb_5 _ (List.mem_of_getElem? (i := 201) rfl)) rfl
theorem wl_L_193 : Cond.methodLink RL 193 yX11_spread ∈ lw_g := lw_m (tb_5 _ (List.mem_of_getElem? (i := 202) rfl)) rfl
theorem wi_X11_spread : Cond.instanceMethod yX11_spread ∈ lw_g := lw_m (tb_5 _ (List.mem_of_getElem? (i := 203) rfl)) rfl
theorem ws_X11_X11_spread_X11_spread : Cond.selects RX11 yX11_spread yX11_spread ∈ lw_g := lw_m (tb_5 _ (List.mem_of_getElem? (i := 204) rfl)) rfl
theorem wc_X11_spread : Cond.code yX11_spread cX11_spread 3 (some .int) ∈ lw_g := lw_m (tb_5 _ (List.mem_of_getElem? (i := 205) rfl)) rfl
theorem wl_L_197 : Cond.methodLink RL 197 yX11_seating ∈ lw_g := lw_m (tb_5 _ (List.mem_of_getElem? (i := 206) rfl)) rfl
theorem wi_X11_seating : Cond.instanceMethod yX11_seating ∈ lw_g := lw_m (tb_5 _ (List.mem_of_getElem? (i := 207) rfl)) rfl
theorem ws_X11_X11_seating_X11_seating : Cond.selects RX11 yX11_seating yX11_seating ∈ lw_g := lw_m (tb_5 _ (List.mem_of_getElem? (i := 208) rfl)) rfl
theorem wc_X11_seating : Cond.code yX11_seating cX11_seating 1 (some .int) ∈ lw_g := lw_m (tb_5 _ (List.mem_of_getElem? (i := 209) rfl)) rfl
theorem wl_X11_366 : Cond.methodLink RX11 366 yX3_fewestBeside ∈ lw_g := lw_m (tb_5 _ (List.mem_of_getElem? (i := 210) rfl)) rfl
theorem wi_X3_fewestBeside : Cond.instanceMethod yX3_fewestBeside ∈ lw_g := lw_m (tb_5 _ (List.mem_of_getElem? (i := 211) rfl)) rfl
theorem ws_X3_X3_fewestBeside_X3_fewestBeside : Cond.selects RX3 yX3_fewestBeside yX3_fewestBeside ∈ lw_g := lw_m (tb_5 _ (List.mem_of_getElem? (i := 212) rfl)) rfl
theorem wc_X3_fewestBeside : Cond.code yX3_fewestBeside cX3_fewestBeside 1 (some .int) ∈ lw_g := lw_m (tb_5 _ (List.mem_of_getElem? (i := 213) rfl)) rfl
theorem wl_X3_65 : Cond.methodLink RX3 65 yX3_putOnSeat ∈ lw_g := lw_m (tb_5 _ (List.mem_of_getElem? (i := 214) rfl)) rfl
theorem wi_X3_putOnSeat : Cond.instanceMethod yX3_putOnSeat ∈ lw_g := lw_m (tb_5 _ (List.mem_of_getElem? (i := 216) rfl)) rfl
theorem wc_X3_putOnSeat : Cond.code yX3_putOnSeat cX3_putOnSeat 6 none ∈ lw_g := lw_m (tb_5 _ (List.mem_of_getElem? (i := 217) rfl)) rfl
theorem wl_L_201 : Cond.methodLink RL 201 yX11_seatOf ∈ lw_g := lw_m (tb_5 _ (List.mem_of_getElem? (i := 218) rfl)) rfl
theorem wi_X11_seatOf : Cond.instanceMethod yX11_seatOf ∈ lw_g := lw_m (tb_5 _ (List.mem_of_getElem? (i := 219) rfl)) rfl
theorem ws_X11_X11_seatOf_X11_seatOf : Cond.selects RX11 yX11_seatOf yX11_seatOf ∈ lw_g := lw_m (tb_5 _ (List.mem_of_getElem? (i := 220) rfl)) rfl
theorem wc_X11_seatOf : Cond.code yX11_seatOf cX11_seatOf 2 (some .int) ∈ lw_g := lw_m (tb_5 _ (List.mem_of_getElem? (i := 221) rfl)) rfl
theorem wl_L_205 : Cond.methodLink RL 205 yX11_game ∈ lw_g := lw_m (tb_5 _ (List.mem_of_getElem? (i := 222) rfl)) rfl
theorem wi_X11_game : Cond.instanceMethod yX11_game ∈ lw_g := lw_m (tb_5 _ (List.mem_of_getElem? (i := 223) rfl)) rfl
theorem ws_X11_X11_game_X11_game : Cond.selects RX11 yX11_game yX11_game ∈ lw_g := lw_m (tb_5 _ (List.mem_of_getElem? (i := 224) rfl)) rfl
theorem wc_X11_game : Cond.code yX11_game cX11_game 6 (some .int) ∈ lw_g := lw_m (tb_5 _ (List.mem_of_getElem? (i := 225) rfl)) rfl
theorem wl_X11_369 : Cond.methodLink RX11 369 yX11_gameStatus ∈ lw_g := lw_m (tb_5 _ (List.mem_of_getElem? (i := 226) rfl)) rfl
theorem wi_X11_gameStatus : Cond.instanceMethod yX11_gameStatus ∈ lw_g := lw_m (tb_5 _ (List.mem_of_getElem? (i := 228) rfl)) rfl
theorem wc_X11_gameStatus : Cond.code yX11_gameStatus cX11_gameStatus 4 (some .int) ∈ lw_g := lw_m (tb_5 _ (List.mem_of_getElem? (i := 229) rfl)) rfl
theorem wl_X11_372 : Cond.methodLink RX11 372 yX10_beginGame ∈ lw_g := lw_m (tb_5 _ (List.mem_of_getElem? (i := 230) rfl)) rfl
theorem wi_X10_beginGame : Cond.instanceMethod yX10_beginGame ∈ lw_g := lw_m (tb_5 _ (List.mem_of_getElem? (i := 231) rfl)) rfl
theorem ws_X10_X10_beginGame_X10_beginGame : Cond.selects RX10 yX10_beginGame yX10_beginGame ∈ lw_g := lw_m (tb_5 _ (List.mem_of_getElem? (i := 232) rfl)) rfl
theorem wc_X10_beginGame : Cond.code yX10_beginGame cX10_beginGame 2 none ∈ lw_g := lw_m (tb_5 _ (List.mem_of_getElem? (i := 233) rfl)) rfl
theorem wl_X11_375 : Cond.methodLink RX11 375 yX10_mostWorth ∈ lw_g := lw_m (tb_5 _ (List.mem_of_getElem? (i := 234) rfl)) rfl
theorem wi_X10_mostWorth : Cond.instanceMethod yX10_mostWorth ∈ lw_g := lw_m (tb_5 _ (List.mem_of_getElem? (i := 235) rfl)) rfl
theorem ws_X10_X10_mostWorth_X10_mostWorth : Cond.selects RX10 yX10_mostWorth yX10_mostWorth ∈ lw_g := lw_m (tb_5 _ (List.mem_of_getElem? (i := 236) rfl)) rfl
theorem wc_X10_mostWorth : Cond.code yX10_mostWorth cX10_mostWorth 5 (some .int) ∈ lw_g := lw_m (tb_5 _ (List.mem_of_getElem? (i := 237) rfl)) rfl
theorem wl_X10_73 : Cond.methodLink RX10 73 yX7_sayable ∈ lw_g := lw_m (tb_5 _ (List.mem_of_getElem? (i := 238) rfl)) rfl
theorem wl_X10_76 : Cond.methodLink RX10 76 yX10_mostWorthFrom ∈ lw_g := lw_m (tb_5 _ (List.mem_of_getElem? (i := 239) rfl)) rfl
theorem wi_X10_mostWorthFrom : Cond.instanceMethod yX10_mostWorthFrom ∈ lw_g := lw_m (tb_6 _ (List.mem_of_getElem? (i := 1) rfl)) rfl
theorem wc_X10_mostWorthFrom : Cond.code yX10_mostWorthFrom cX10_mostWorthFrom 5 (some .int) ∈ lw_g := lw_m (tb_6 _ (List.mem_of_getElem? (i := 2) rfl)) rfl
theorem wl_X10_79 : Cond.methodLink RX10 79 yX7_worthAt ∈ lw_g := lw_m (tb_6 _ (List.mem_of_getElem? (i := 3) rfl)) rfl
theorem wl_L_209 : Cond.methodLink RL 209 yX11_moveOf ∈ lw_g := lw_m (tb_6 _ (List.mem_of_getElem? (i := 4) rfl)) rfl
theorem wi_X11_moveOf : Cond.instanceMethod yX11_moveOf ∈ lw_g := lw_m (tb_6 _ (List.mem_of_getElem? (i := 5) rfl)) rfl
theorem ws_X11_X11_moveOf_X11_moveOf : Cond.selects RX11 yX11_moveOf yX11_moveOf ∈ lw_g := lw_m (tb_6 _ (List.mem_of_getElem? (i := 6) rfl)) rfl
theorem wc_X11_moveOf : Cond.code yX11_moveOf cX11_moveOf 6 (some .int) ∈ lw_g := lw_m (tb_6 _ (List.mem_of_getElem? (i := 7) rfl)) rfl
theorem wl_X11_378 : Cond.methodLink RX11 378 yX10_firstMove ∈ lw_g := lw_m (tb_6 _ (List.mem_of_getElem? (i := 8) rfl)) rfl
theorem wi_X10_firstMove : Cond.instanceMethod yX10_firstMove ∈ lw_g := lw_m (tb_6 _ (List.mem_of_getElem? (i := 9) rfl)) rfl
theorem ws_X10_X10_firstMove_X10_firstMove : Cond.selects RX10 yX10_firstMove yX10_firstMove ∈ lw_g := lw_m (tb_6 _ (List.mem_of_getElem? (i := 10) rfl)) rfl
theorem wc_X10_firstMove : Cond.code yX10_firstMove cX10_firstMove 7 (some .int) ∈ lw_g := lw_m (tb_6 _ (List.mem_of_getElem? (i := 11) rfl)) rfl
theorem wl_X10_82 : Cond.methodLink RX10 82 yX10_mostWorth ∈ lw_g := lw_m (tb_6 _ (List.mem_of_getElem? (i := 12) rfl)) rfl
theorem wl_L_213 : Cond.methodLink RL 213 yX11_chutes ∈ lw_g := lw_m (tb_6 _ (List.mem_of_getElem? (i := 13) rfl)) rfl
theorem wi_X11_chutes : Cond.instanceMethod yX11_chutes ∈ lw_g := lw_m (tb_6 _ (List.mem_of_getElem? (i := 14) rfl)) rfl
theorem ws_X11_X11_chutes_X11_chutes : Cond.selects RX11 yX11_chutes yX11_chutes ∈ lw_g := lw_m (tb_6 _ (List.mem_of_getElem? (i := 15) rfl)) rfl
theorem wc_X11_chutes : Cond.code yX11_chutes cX11_chutes 2 (some .boolean) ∈ lw_g := lw_m (tb_6 _ (List.mem_of_getElem? (i := 16) rfl)) rfl
theorem wl_X11_381 : Cond.methodLink RX11 381 yX5_holding ∈ lw_g := lw_m (tb_6 _ (List.mem_of_getElem? (i := 17) rfl)) rfl
theorem wi_X5_holding : Cond.instanceMethod yX5_holding ∈ lw_g := lw_m (tb_6 _ (List.mem_of_getElem? (i := 18) rfl)) rfl
theorem ws_X5_X5_holding_X5_holding : Cond.selects RX5 yX5_holding yX5_holding ∈ lw_g := lw_m (tb_6 _ (List.mem_of_getElem? (i := 19) rfl)) rfl
theorem wc_X5_holding : Cond.code yX5_holding cX5_holding 6 (some .long) ∈ lw_g := lw_m (tb_6 _ (List.mem_of_getElem? (i := 20) rfl)) rfl
theorem wl_L_217 : Cond.methodLink RL 217 yX11_live ∈ lw_g := lw_m (tb_6 _ (List.mem_of_getElem? (i := 21) rfl)) rfl
theorem wi_X11_live : Cond.instanceMethod yX11_live ∈ lw_g := lw_m (tb_6 _ (List.mem_of_getElem? (i := 22) rfl)) rfl
theorem ws_X11_X11_live_X11_live : Cond.selects RX11 yX11_live yX11_live ∈ lw_g := lw_m (tb_6 _ (List.mem_of_getElem? (i := 23) rfl)) rfl
theorem wc_X11_live : Cond.code yX11_live cX11_live 2 (some .int) ∈ lw_g := lw_m (tb_6 _ (List.mem_of_getElem? (i := 24) rfl)) rfl
theorem wl_X11_389 : Cond.methodLink RX11 389 yX0_run ∈ lw_g := lw_m (tb_6 _ (List.mem_of_getElem? (i := 25) rfl)) rfl
theorem wi_X0_run : Cond.instanceMethod yX0_run ∈ lw_g := lw_m (tb_6 _ (List.mem_of_getElem? (i := 26) rfl)) rfl
theorem ws_X0_X0_run_X0_run : Cond.selects RX0 yX0_run yX0_run ∈ lw_g := lw_m (tb_6 _ (List.mem_of_getElem? (i := 27) rfl)) rfl
theorem wc_X0_run : Cond.code yX0_run cX0_run 6 none ∈ lw_g := lw_m (tb_6 _ (List.mem_of_getElem? (i := 28) rfl)) rfl
theorem wl_X0_53 : Cond.methodLink RX0 53 yX0_behindEnd ∈ lw_g := lw_m (tb_6 _ (List.mem_of_getElem? (i := 29) rfl)) rfl
theorem wi_X0_behindEnd : Cond.instanceMethod yX0_behindEnd ∈ lw_g := lw_m (tb_6 _ (List.mem_of_getElem? (i := 31) rfl)) rfl
theorem wc_X0_behindEnd : Cond.code yX0_behindEnd cX0_behindEnd 3 (some .int) ∈ lw_g := lw_m (tb_6 _ (List.mem_of_getElem? (i := 32) rfl)) rfl
theorem wl_X0_57 : Cond.methodLink RX0 57 yX0_behindStep ∈ lw_g := lw_m (tb_6 _ (List.mem_of_getElem? (i := 33) rfl)) rfl
theorem wi_X0_behindStep : Cond.instanceMethod yX0_behindStep ∈ lw_g := lw_m (tb_6 _ (List.mem_of_getElem? (i := 35) rfl)) rfl
theorem wc_X0_behindStep : Cond.code yX0_behindStep cX0_behindStep 4 (some .int) ∈ lw_g := lw_m (tb_6 _ (List.mem_of_getElem? (i := 36) rfl)) rfl
theorem wl_X0_69 : Cond.methodLink RX0 69 yX0_doSay ∈ lw_g := lw_m (tb_6 _ (List.mem_of_getElem? (i := 37) rfl)) rfl
theorem wi_X0_doSay : Cond.instanceMethod yX0_doSay ∈ lw_g := lw_m (tb_6 _ (List.mem_of_getElem? (i := 39) rfl)) rfl
theorem wc_X0_doSay : Cond.code yX0_doSay cX0_doSay 3 none ∈ lw_g := lw_m (tb_6 _ (List.mem_of_getElem? (i := 40) rfl)) rfl
theorem wl_X0_94 : Cond.methodLink RX0 94 yX7_sayable ∈ lw_g := lw_m (tb_6 _ (List.mem_of_getElem? (i := 41) rfl)) rfl
theorem wl_X0_99 : Cond.methodLink RX0 99 yX7_letSay ∈ lw_g := lw_m (tb_6 _ (List.mem_of_getElem? (i := 42) rfl)) rfl
theorem wl_X0_102 : Cond.methodLink RX0 102 yX7_isFalling ∈ lw_g := lw_m (tb_6 _ (List.mem_of_getElem? (i := 43) rfl)) rfl
theorem wl_X0_73 : Cond.methodLink RX0 73 yX0_doDrop ∈ lw_g := lw_m (tb_6 _ (List.mem_of_getElem? (i := 44) rfl)) rfl
theorem wi_X0_doDrop : Cond.instanceMethod yX0_doDrop ∈ lw_g := lw_m (tb_6 _ (List.mem_of_getElem? (i := 46) rfl)) rfl
theorem wc_X0_doDrop : Cond.code yX0_doDrop cX0_doDrop 3 none ∈ lw_g := lw_m (tb_6 _ (List.mem_of_getElem? (i := 47) rfl)) rfl
theorem wl_X0_105 : Cond.methodLink RX0 105 yX7_letDrop ∈ lw_g := lw_m (tb_6 _ (List.mem_of_getElem? (i := 48) rfl)) rfl
theorem wl_X0_76 : Cond.methodLink RX0 76 yX0_doPull ∈ lw_g := lw_m (tb_6 _ (List.mem_of_getElem? (i := 49) rfl)) rfl
theorem wi_X0_doPull : Cond.instanceMethod yX0_doPull ∈ lw_g := lw_m (tb_6 _ (List.mem_of_getElem? (i := 51) rfl)) rfl
theorem wc_X0_doPull : Cond.code yX0_doPull cX0_doPull 2 none ∈ lw_g := lw_m (tb_6 _ (List.mem_of_getElem? (i := 52) rfl)) rfl
theorem wl_X0_108 : Cond.methodLink RX0 108 yX0_draw ∈ lw_g := lw_m (tb_6 _ (List.mem_of_getElem? (i := 53) rfl)) rfl
theorem wi_X0_draw : Cond.instanceMethod yX0_draw ∈ lw_g := lw_m (tb_6 _ (List.mem_of_getElem? (i := 55) rfl)) rfl
theorem wc_X0_draw : Cond.code yX0_draw cX0_draw 2 (some .int) ∈ lw_g := lw_m (tb_6 _ (List.mem_of_getElem? (i := 56) rfl)) rfl
theorem wk_X0_93 : Cond.constant RX0 93 (65536) ∈ lw_g := lw_m (tb_6 _ (List.mem_of_getElem? (i := 57) rfl)) rfl
theorem wl_X0_114 : Cond.methodLink RX0 114 yX7_letPull ∈ lw_g := lw_m (tb_6 _ (List.mem_of_getElem? (i := 58) rfl)) rfl
theorem wl_X0_80 : Cond.methodLink RX0 80 yX0_doProp ∈ lw_g := lw_m (tb_6 _ (List.mem_of_getElem? (i := 59) rfl)) rfl
theorem wi_X0_doProp : Cond.instanceMethod yX0_doProp ∈ lw_g := lw_m (tb_6 _ (List.mem_of_getElem? (i := 61) rfl)) rfl
theorem wc_X0_doProp : Cond.code yX0_doProp cX0_doProp 2 none ∈ lw_g := lw_m (tb_6 _ (List.mem_of_getElem? (i := 62) rfl)) rfl
theorem wl_X0_118 : Cond.methodLink RX0 118 yX7_isPropped ∈ lw_g := lw_m (tb_6 _ (List.mem_of_getElem? (i := 63) rfl)) rfl
theorem wl_X0_83 : Cond.methodLink RX0 83 yX0_doCut ∈ lw_g := lw_m (tb_6 _ (List.mem_of_getElem? (i := 64) rfl)) rfl
theorem wi_X0_doCut : Cond.instanceMethod yX0_doCut ∈ lw_g := lw_m (tb_6 _ (List.mem_of_getElem? (i := 66) rfl)) rfl
theorem wc_X0_doCut : Cond.code yX0_doCut cX0_doCut 2 none ∈ lw_g := lw_m (tb_6 _ (List.mem_of_getElem? (i := 67) rfl)) rfl
theorem wl_X0_86 : Cond.methodLink RX0 86 yX0_doAny ∈ lw_g := lw_m (tb_6 _ (List.mem_of_getElem? (i := 68) rfl)) rfl
theorem wi_X0_doAny : Cond.instanceMethod yX0_doAny ∈ lw_g := lw_m (tb_6 _ (List.mem_of_getElem? (i := 70) rfl)) rfl
theorem wc_X0_doAny : Cond.code yX0_doAny cX0_doAny 3 none ∈ lw_g := lw_m (tb_6 _ (List.mem_of_getElem? (i := 71) rfl)) rfl
theorem wl_X0_89 : Cond.methodLink RX0 89 yX0_holdsHere ∈ lw_g := lw_m (tb_6 _ (List.mem_of_getElem? (i := 72) rfl)) rfl
theorem wi_X0_holdsHere : Cond.instanceMethod yX0_holdsHere ∈ lw_g := lw_m (tb_6 _ (List.mem_of_getElem? (i := 74) rfl)) rfl
theorem wc_X0_holdsHere : Cond.code yX0_holdsHere cX0_holdsHere 3 (some .boolean) ∈ lw_g := lw_m (tb_6 _ (List.mem_of_getElem? (i := 75) rfl)) rfl
theorem wl_X0_133 : Cond.methodLink RX0 133 yX7_standing ∈ lw_g := lw_m (tb_6 _ (List.mem_of_getElem? (i := 76) rfl)) rfl
theorem wl_L_221 : Cond.methodLink RL 221 yX11_lived ∈ lw_g := lw_m (tb_6 _ (List.mem_of_getElem? (i := 77) rfl)) rfl
theorem wi_X11_lived : Cond.instanceMethod yX11_lived ∈ lw_g := lw_m (tb_6 _ (List.mem_of_getElem? (i := 78) rfl)) rfl
theorem ws_X11_X11_lived_X11_lived : Cond.selects RX11 yX11_lived yX11_lived ∈ lw_g := lw_m (tb_6 _ (List.mem_of_getElem? (i := 79) rfl)) rfl
theorem wc_X11_lived : Cond.code yX11_lived cX11_lived 2 (some .int) ∈ lw_g := lw_m (tb_6 _ (List.mem_of_getElem? (i := 80) rfl)) rfl
theorem wl_L_225 : Cond.methodLink RL 225 yX11_mean ∈ lw_g := lw_m (tb_6 _ (List.mem_of_getElem? (i := 81) rfl)) rfl
theorem wi_X11_mean : Cond.instanceMethod yX11_mean ∈ lw_g := lw_m (tb_6 _ (List.mem_of_getElem? (i := 82) rfl)) rfl
theorem ws_X11_X11_mean_X11_mean : Cond.selects RX11 yX11_mean yX11_mean ∈ lw_g := lw_m (tb_6 _ (List.mem_of_getElem? (i := 83) rfl)) rfl
theorem wc_X11_mean : Cond.code yX11_mean cX11_mean 5 (some .boolean) ∈ lw_g := lw_m (tb_6 _ (List.mem_of_getElem? (i := 84) rfl)) rfl
theorem wl_X11_410 : Cond.methodLink RX11 410 yX7_allHeights ∈ lw_g := lw_m (tb_6 _ (List.mem_of_getElem? (i := 85) rfl)) rfl
theorem wi_X7_allHeights : Cond.instanceMethod yX7_allHeights ∈ lw_g := lw_m (tb_6 _ (List.mem_of_getElem? (i := 86) rfl)) rfl
theorem ws_X7_X7_allHeights_X7_allHeights : Cond.selects RX7 yX7_allHeights yX7_allHeights ∈ lw_g := lw_m (tb_6 _ (List.mem_of_getElem? (i := 87) rfl)) rfl
theorem wc_X7_allHeights : Cond.code yX7_allHeights cX7_allHeights 3 (some .int) ∈ lw_g := lw_m (tb_6 _ (List.mem_of_getElem? (i := 88) rfl)) rfl
theorem wl_L_229 : Cond.methodLink RL 229 yX11_mark ∈ lw_g := lw_m (tb_6 _ (List.mem_of_getElem? (i := 89) rfl)) rfl
theorem wi_X11_mark : Cond.instanceMethod yX11_mark ∈ lw_g := lw_m (tb_6 _ (List.mem_of_getElem? (i := 90) rfl)) rfl
theorem ws_X11_X11_mark_X11_mark : Cond.selects RX11 yX11_mark yX11_mark ∈ lw_g := lw_m (tb_6 _ (List.mem_of_getElem? (i := 91) rfl)) rfl
theorem wc_X11_mark : Cond.code yX11_mark cX11_mark 1 (some .int) ∈ lw_g := lw_m (tb_6 _ (List.mem_of_getElem? (i := 92) rfl)) rfl
theorem wl_X11_416 : Cond.methodLink RX11 416 yX6_copyFrom ∈ lw_g := lw_m (tb_6 _ (List.mem_of_getElem? (i := 93) rfl)) rfl
theorem wi_X6_copyFrom : Cond.instanceMethod yX6_copyFrom ∈ lw_g := lw_m (tb_6 _ (List.mem_of_getElem? (i := 94) rfl)) rfl
theorem ws_X6_X6_copyFrom_X6_copyFrom : Cond.selects RX6 yX6_copyFrom yX6_copyFrom ∈ lw_g := lw_m (tb_6 _ (List.mem_of_getElem? (i := 95) rfl)) rfl
theorem wc_X6_copyFrom : Cond.code yX6_copyFrom cX6_copyFrom 2 none ∈ lw_g := lw_m (tb_6 _ (List.mem_of_getElem? (i := 96) rfl)) rfl
theorem wl_X6_23 : Cond.methodLink RX6 23 yX7_copyFrom ∈ lw_g := lw_m (tb_6 _ (List.mem_of_getElem? (i := 97) rfl)) rfl
theorem wl_X6_27 : Cond.methodLink RX6 27 yX1_copyFrom ∈ lw_g := lw_m (tb_6 _ (List.mem_of_getElem? (i := 98) rfl)) rfl
theorem wl_L_233 : Cond.methodLink RL 233 yX11_back ∈ lw_g := lw_m (tb_6 _ (List.mem_of_getElem? (i := 99) rfl)) rfl
theorem wi_X11_back : Cond.instanceMethod yX11_back ∈ lw_g := lw_m (tb_6 _ (List.mem_of_getElem? (i := 100) rfl)) rfl
theorem ws_X11_X11_back_X11_back : Cond.selects RX11 yX11_back yX11_back ∈ lw_g := lw_m (tb_6 _ (List.mem_of_getElem? (i := 101) rfl)) rfl
theorem wc_X11_back : Cond.code yX11_back cX11_back 1 (some .int) ∈ lw_g := lw_m (tb_6 _ (List.mem_of_getElem? (i := 102) rfl)) rfl
theorem wl_L_12 : Cond.methodLink RL 12 yX12_init ∈ lw_g := lw_m (tb_6 _ (List.mem_of_getElem? (i := 105) rfl)) rfl
theorem wi_X12_init : Cond.instanceMethod yX12_init ∈ lw_g := lw_m (tb_6 _ (List.mem_of_getElem? (i := 106) rfl)) rfl
theorem wc_X12_init : Cond.code yX12_init cX12_init 2 none ∈ lw_g := lw_m (tb_6 _ (List.mem_of_getElem? (i := 107) rfl)) rfl
theorem wl_X12_59 : Cond.methodLink RX12 59 yX12_empties ∈ lw_g := lw_m (tb_6 _ (List.mem_of_getElem? (i := 109) rfl)) rfl
theorem wi_X12_empties : Cond.instanceMethod yX12_empties ∈ lw_g := lw_m (tb_6 _ (List.mem_of_getElem? (i := 111) rfl)) rfl
theorem wc_X12_empties : Cond.code yX12_empties cX12_empties 3 none ∈ lw_g := lw_m (tb_6 _ (List.mem_of_getElem? (i := 112) rfl)) rfl
theorem wf_X12_66 : Cond.fieldLink RX12 66 "TalkChutesModel" "status" "I" ∈ lw_g := lw_m (tb_6 _ (List.mem_of_getElem? (i := 113) rfl)) rfl
theorem wf_X12_63 : Cond.fieldLink RX12 63 "TalkChutesModel" "thrown" "I" ∈ lw_g := lw_m (tb_6 _ (List.mem_of_getElem? (i := 114) rfl)) rfl
theorem wf_X12_69 : Cond.fieldLink RX12 69 "TalkChutesModel" "above" "J" ∈ lw_g := lw_m (tb_6 _ (List.mem_of_getElem? (i := 115) rfl)) rfl
theorem wf_X12_7 : Cond.fieldLink RX12 7 "TalkChutesModel" "under" "J" ∈ lw_g := lw_m (tb_6 _ (List.mem_of_getElem? (i := 116) rfl)) rfl
theorem wf_X12_13 : Cond.fieldLink RX12 13 "TalkChutesModel" "traySort" "[I" ∈ lw_g := lw_m (tb_6 _ (List.mem_of_getElem? (i := 117) rfl)) rfl
theorem wf_X12_17 : Cond.fieldLink RX12 17 "TalkChutesModel" "trayMany" "[I" ∈ lw_g := lw_m (tb_6 _ (List.mem_of_getElem? (i := 118) rfl)) rfl
theorem wf_X12_20 : Cond.fieldLink RX12 20 "TalkChutesModel" "numbers" "[J" ∈ lw_g := lw_m (tb_6 _ (List.mem_of_getElem? (i := 119) rfl)) rfl
theorem wf_X12_24 : Cond.fieldLink RX12 24 "TalkChutesModel" "tape" "[B" ∈ lw_g := lw_m (tb_6 _ (List.mem_of_getElem? (i := 120) rfl)) rfl
theorem wf_X12_232 : Cond.fieldLink RX12 232 "TalkChutesModel" "taped" "I" ∈ lw_g := lw_m (tb_6 _ (List.mem_of_getElem? (i := 121) rfl)) rfl
theorem wf_X12_106 : Cond.fieldLink RX12 106 "TalkChutesModel" "textEnd" "I" ∈ lw_g := lw_m (tb_6 _ (List.mem_of_getElem? (i := 122) rfl)) rfl
theorem wf_X12_28 : Cond.fieldLink RX12 28 "TalkChutesModel" "faultKind" "I" ∈ lw_g := lw_m (tb_6 _ (List.mem_of_getElem? (i := 123) rfl)) rfl
theorem wf_X12_32 : Cond.fieldLink RX12 32 "TalkChutesModel" "faultAt" "I" ∈ lw_g := lw_m (tb_6 _ (List.mem_of_getElem? (i := 124) rfl)) rfl
theorem wf_X12_206 : Cond.fieldLink RX12 206 "TalkChutesModel" "bad" "I" ∈ lw_g := lw_m (tb_6 _ (List.mem_of_getElem? (i := 125) rfl)) rfl
theorem wf_X12_209 : Cond.fieldLink RX12 209 "TalkChutesModel" "badAt" "I" ∈ lw_g := lw_m (tb_6 _ (List.mem_of_getElem? (i := 126) rfl)) rfl
theorem wf_X12_118 : Cond.fieldLink RX12 118 "TalkChutesModel" "token" "I" ∈ lw_g := lw_m (tb_6 _ (List.mem_of_getElem? (i := 127) rfl)) rfl
theorem wf_X12_112 : Cond.fieldLink RX12 112 "TalkChutesModel" "at" "I" ∈ lw_g := lw_m (tb_6 _ (List.mem_of_getElem? (i := 128) rfl)) rfl
theorem wf_X12_109 : Cond.fieldLink RX12 109 "TalkChutesModel" "behind" "I" ∈ lw_g := lw_m (tb_6 _ (List.mem_of_getElem? (i := 129) rfl)) rfl
theorem wf_X12_137 : Cond.fieldLink RX12 137 "TalkChutesModel" "number" "I" ∈ lw_g := lw_m (tb_6 _ (List.mem_of_getElem? (i := 130) rfl)) rfl
theorem wf_X12_131 : Cond.fieldLink RX12 131 "TalkChutesModel" "letters" "I" ∈ lw_g := lw_m (tb_6 _ (List.mem_of_getElem? (i := 131) rfl)) rfl
theorem wf_X12_124 : Cond.fieldLink RX12 124 "TalkChutesModel" "word" "J" ∈ lw_g := lw_m (tb_6 _ (List.mem_of_getElem? (i := 132) rfl)) rfl
theorem wf_X12_35 : Cond.fieldLink RX12 35 "TalkChutesModel" "c" "[I" ∈ lw_g := lw_m (tb_6 _ (List.mem_of_getElem? (i := 133) rfl)) rfl
theorem wf_X12_38 : Cond.fieldLink RX12 38 "TalkChutesModel" "before" "[I" ∈ lw_g := lw_m (tb_6 _ (List.mem_of_getElem? (i := 134) rfl)) rfl
theorem wf_X12_41 : Cond.fieldLink RX12 41 "TalkChutesModel" "words" "[J" ∈ lw_g := lw_m (tb_6 _ (List.mem_of_getElem? (i := 135) rfl)) rfl
theorem wf_X12_572 : Cond.fieldLink RX12 572 "TalkChutesModel" "markMany" "I" ∈ lw_g := lw_m (tb_6 _ (List.mem_of_getElem? (i := 136) rfl)) rfl
theorem wf_X12_253 : Cond.fieldLink RX12 253 "TalkChutesModel" "toldOdds" "Z" ∈ lw_g := lw_m (tb_6 _ (List.mem_of_getElem? (i := 137) rfl)) rfl
theorem wf_X12_319 : Cond.fieldLink RX12 319 "TalkChutesModel" "newSteps" "I" ∈ lw_g := lw_m (tb_6 _ (List.mem_of_getElem? (i := 138) rfl)) rfl
theorem wf_X12_44 : Cond.fieldLink RX12 44 "TalkChutesModel" "waysTo" "[I" ∈ lw_g := lw_m (tb_6 _ (List.mem_of_getElem? (i := 139) rfl)) rfl
theorem wf_X12_437 : Cond.fieldLink RX12 437 "TalkChutesModel" "lawMany" "I" ∈ lw_g := lw_m (tb_6 _ (List.mem_of_getElem? (i := 140) rfl)) rfl
theorem wf_X12_440 : Cond.fieldLink RX12 440 "TalkChutesModel" "lawSet" "I" ∈ lw_g := lw_m (tb_6 _ (List.mem_of_getElem? (i := 141) rfl)) rfl
theorem wf_X12_455 : Cond.fieldLink RX12 455 "TalkChutesModel" "worthTop" "J" ∈ lw_g := lw_m (tb_6 _ (List.mem_of_getElem? (i := 142) rfl)) rfl
theorem wf_X12_458 : Cond.fieldLink RX12 458 "TalkChutesModel" "worthBottom" "J" ∈ lw_g := lw_m (tb_6 _ (List.mem_of_getElem? (i := 143) rfl)) rfl
theorem wf_X12_467 : Cond.fieldLink RX12 467 "TalkChutesModel" "pullAt" "I" ∈ lw_g := lw_m (tb_6 _ (List.mem_of_getElem? (i := 144) rfl)) rfl
theorem wf_X12_47 : Cond.fieldLink RX12 47 "TalkChutesModel" "onTopic" "[I" ∈ lw_g := lw_m (tb_6 _ (List.mem_of_getElem? (i := 145) rfl)) rfl
theorem wf_X12_476 : Cond.fieldLink RX12 476 "TalkChutesModel" "quarrelLeast" "I" ∈ lw_g := lw_m (tb_6 _ (List.mem_of_getElem? (i := 146) rfl)) rfl
theorem wf_X12_482 : Cond.fieldLink RX12 482 "TalkChutesModel" "spreadFirst" "I" ∈ lw_g := lw_m (tb_6 _ (List.mem_of_getElem? (i := 147) rfl)) rfl
theorem wf_X12_50 : Cond.fieldLink RX12 50 "TalkChutesModel" "row" "[I" ∈ lw_g := lw_m (tb_6 _ (List.mem_of_getElem? (i := 148) rfl)) rfl
theorem wf_X12_53 : Cond.fieldLink RX12 53 "TalkChutesModel" "firstRow" "[I" ∈ lw_g := lw_m (tb_6 _ (List.mem_of_getElem? (i := 149) rfl)) rfl
theorem wf_X12_497 : Cond.fieldLink RX12 497 "TalkChutesModel" "besideLeast" "I" ∈ lw_g := lw_m (tb_6 _ (List.mem_of_getElem? (i := 150) rfl)) rfl
theorem wf_X12_507 : Cond.fieldLink RX12 507 "TalkChutesModel" "firstMove" "I" ∈ lw_g := lw_m (tb_6 _ (List.mem_of_getElem? (i := 151) rfl)) rfl
theorem wf_X12_56 : Cond.fieldLink RX12 56 "TalkChutesModel" "livedLast" "[I" ∈ lw_g := lw_m (tb_6 _ (List.mem_of_getElem? (i := 152) rfl)) rfl
theorem wf_X12_569 : Cond.fieldLink RX12 569 "TalkChutesModel" "hasLived" "Z" ∈ lw_g := lw_m (tb_6 _ (List.mem_of_getElem? (i := 153) rfl)) rfl
theorem wf_X12_540 : Cond.fieldLink RX12 540 "TalkChutesModel" "isOver" "Z" ∈ lw_g := lw_m (tb_6 _ (List.mem_of_getElem? (i := 154) rfl)) rfl
theorem wf_X12_515 : Cond.fieldLink RX12 515 "TalkChutesModel" "random" "I" ∈ lw_g := lw_m (tb_6 _ (List.mem_of_getElem? (i := 155) rfl)) rfl
theorem wf_X12_537 : Cond.fieldLink RX12 537 "TalkChutesModel" "done" "I" ∈ lw_g := lw_m (tb_6 _ (List.mem_of_getElem? (i := 156) rfl)) rfl
theorem wf_X12_546 : Cond.fieldLink RX12 546 "TalkChutesModel" "missed" "I" ∈ lw_g := lw_m (tb_6 _ (List.mem_of_getElem? (i := 157) rfl)) rfl
theorem wf_X12_561 : Cond.fieldLink RX12 561 "TalkChutesModel" "saidAhead" "I" ∈ lw_g := lw_m (tb_6 _ (List.mem_of_getElem? (i := 158) rfl)) rfl
theorem wf_X12_519 : Cond.fieldLink RX12 519 "TalkChutesModel" "fellNow" "I" ∈ lw_g := lw_m (tb_6 _ (List.mem_of_getElem? (i := 159) rfl)) rfl
theorem wf_X12_522 : Cond.fieldLink RX12 522 "TalkChutesModel" "pulledNow" "I" ∈ lw_g := lw_m (tb_6 _ (List.mem_of_getElem? (i := 160) rfl)) rfl
theorem wf_X12_543 : Cond.fieldLink RX12 543 "TalkChutesModel" "leftOver" "I" ∈ lw_g := lw_m (tb_6 _ (List.mem_of_getElem? (i := 161) rfl)) rfl
theorem wl_L_17 : Cond.methodLink RL 17 yX12_status ∈ lw_g := lw_m (tb_7 _ (List.mem_of_getElem? (i := 21) rfl)) rfl
theorem wi_X12_status : Cond.instanceMethod yX12_status ∈ lw_g := lw_m (tb_7 _ (List.mem_of_getElem? (i := 22) rfl)) rfl
theorem ws_X12_X12_status_X12_status : Cond.selects RX12 yX12_status yX12_status ∈ lw_g := lw_m (tb_7 _ (List.mem_of_getElem? (i := 23) rfl)) rfl
theorem wc_X12_status : Cond.code yX12_status cX12_status 1 (some .int) ∈ lw_g := lw_m (tb_7 _ (List.mem_of_getElem? (i := 24) rfl)) rfl
theorem wl_L_22 : Cond.methodLink RL 22 yX12_top ∈ lw_g := lw_m (tb_7 _ (List.mem_of_getElem? (i := 25) rfl)) rfl
theorem wi_X12_top : Cond.instanceMethod yX12_top ∈ lw_g := lw_m (tb_7 _ (List.mem_of_getElem? (i := 26) rfl)) rfl
theorem ws_X12_X12_top_X12_top : Cond.selects RX12 yX12_top yX12_top ∈ lw_g := lw_m (tb_7 _ (List.mem_of_getElem? (i := 27) rfl)) rfl
theorem wc_X12_top : Cond.code yX12_top cX12_top 1 (some .long) ∈ lw_g := lw_m (tb_7 _ (List.mem_of_getElem? (i := 28) rfl)) rfl
theorem wl_L_26 : Cond.methodLink RL 26 yX12_bottom ∈ lw_g := lw_m (tb_7 _ (List.mem_of_getElem? (i := 29) rfl)) rfl
theorem wi_X12_bottom : Cond.instanceMethod yX12_bottom ∈ lw_g := lw_m (tb_7 _ (List.mem_of_getElem? (i := 30) rfl)) rfl
theorem ws_X12_X12_bottom_X12_bottom : Cond.selects RX12 yX12_bottom yX12_bottom ∈ lw_g := lw_m (tb_7 _ (List.mem_of_getElem? (i := 31) rfl)) rfl
theorem wc_X12_bottom : Cond.code yX12_bottom cX12_bottom 1 (some .long) ∈ lw_g := lw_m (tb_7 _ (List.mem_of_getElem? (i := 32) rfl)) rfl
theorem wl_L_31 : Cond.methodLink RL 31 yX12_tray ∈ lw_g := lw_m (tb_7 _ (List.mem_of_getElem? (i := 33) rfl)) rfl
theorem wi_X12_tray : Cond.instanceMethod yX12_tray ∈ lw_g := lw_m (tb_7 _ (List.mem_of_getElem? (i := 34) rfl)) rfl
theorem ws_X12_X12_tray_X12_tray : Cond.selects RX12 yX12_tray yX12_tray ∈ lw_g := lw_m (tb_7 _ (List.mem_of_getElem? (i := 35) rfl)) rfl
theorem wc_X12_tray : Cond.code yX12_tray cX12_tray 5 (some .boolean) ∈ lw_g := lw_m (tb_7 _ (List.mem_of_getElem? (i := 36) rfl)) rfl
theorem wl_X12_78 : Cond.methodLink RX12 78 yX12_no ∈ lw_g := lw_m (tb_7 _ (List.mem_of_getElem? (i := 37) rfl)) rfl
theorem wi_X12_no : Cond.instanceMethod yX12_no ∈ lw_g := lw_m (tb_7 _ (List.mem_of_getElem? (i := 39) rfl)) rfl
theorem wc_X12_no : Cond.code yX12_no cX12_no 2 (some .boolean) ∈ lw_g := lw_m (tb_7 _ (List.mem_of_getElem? (i := 40) rfl)) rfl
theorem wl_L_38 : Cond.methodLink RL 38 yX12_write ∈ lw_g := lw_m (tb_7 _ (List.mem_of_getElem? (i := 41) rfl)) rfl
theorem wi_X12_write : Cond.instanceMethod yX12_write ∈ lw_g := lw_m (tb_7 _ (List.mem_of_getElem? (i := 42) rfl)) rfl
theorem ws_X12_X12_write_X12_write : Cond.selects RX12 yX12_write yX12_write ∈ lw_g := lw_m (tb_7 _ (List.mem_of_getElem? (i := 43) rfl)) rfl
theorem wc_X12_write : Cond.code yX12_write cX12_write 5 (some .boolean) ∈ lw_g := lw_m (tb_7 _ (List.mem_of_getElem? (i := 44) rfl)) rfl
theorem wl_X12_86 : Cond.methodLink RX12 86 yX12_placed ∈ lw_g := lw_m (tb_7 _ (List.mem_of_getElem? (i := 45) rfl)) rfl
theorem wi_X12_placed : Cond.instanceMethod yX12_placed ∈ lw_g := lw_m (tb_7 _ (List.mem_of_getElem? (i := 47) rfl)) rfl
theorem wc_X12_placed : Cond.code yX12_placed cX12_placed 4 (some .int) ∈ lw_g := lw_m (tb_7 _ (List.mem_of_getElem? (i := 48) rfl)) rfl
theorem wl_X12_82 : Cond.methodLink RX12 82 yX12_trayed ∈ lw_g := lw_m (tb_7 _ (List.mem_of_getElem? (i := 49) rfl)) rfl
theorem wi_X12_trayed : Cond.instanceMethod yX12_trayed ∈ lw_g := lw_m (tb_7 _ (List.mem_of_getElem? (i := 51) rfl)) rfl
theorem wc_X12_trayed : Cond.code yX12_trayed cX12_trayed 2 (some .int) ∈ lw_g := lw_m (tb_7 _ (List.mem_of_getElem? (i := 52) rfl)) rfl
theorem wl_X12_90 : Cond.methodLink RX12 90 yX12_trims ∈ lw_g := lw_m (tb_7 _ (List.mem_of_getElem? (i := 53) rfl)) rfl
theorem wt_X12_trims : Cond.static yX12_trims ∈ lw_g := lw_m (tb_7 _ (List.mem_of_getElem? (i := 54) rfl)) rfl
theorem wc_X12_trims : Cond.code yX12_trims cX12_trims 3 (some .long) ∈ lw_g := lw_m (tb_7 _ (List.mem_of_getElem? (i := 55) rfl)) rfl
theorem wl_L_43 : Cond.methodLink RL 43 yX12_read ∈ lw_g := lw_m (tb_7 _ (List.mem_of_getElem? (i := 56) rfl)) rfl
theorem wi_X12_read : Cond.instanceMethod yX12_read ∈ lw_g := lw_m (tb_7 _ (List.mem_of_getElem? (i := 57) rfl)) rfl
theorem ws_X12_X12_read_X12_read : Cond.selects RX12 yX12_read yX12_read ∈ lw_g := lw_m (tb_7 _ (List.mem_of_getElem? (i := 58) rfl)) rfl
theorem wc_X12_read : Cond.code yX12_read cX12_read 3 (some .long) ∈ lw_g := lw_m (tb_7 _ (List.mem_of_getElem? (i := 59) rfl)) rfl
theorem wk_X12_94 : Cond.constantLong RX12 94 (-1) ∈ lw_g := lw_m (tb_7 _ (List.mem_of_getElem? (i := 60) rfl)) rfl
theorem wl_L_48 : Cond.methodLink RL 48 yX12_pour ∈ lw_g := lw_m (tb_7 _ (List.mem_of_getElem? (i := 61) rfl)) rfl
theorem wi_X12_pour : Cond.instanceMethod yX12_pour ∈ lw_g := lw_m (tb_7 _ (List.mem_of_getElem? (i := 62) rfl)) rfl
theorem ws_X12_X12_pour_X12_pour : Cond.selects RX12 yX12_pour yX12_pour ∈ lw_g := lw_m (tb_7 _ (List.mem_of_getElem? (i := 63) rfl)) rfl
theorem wc_X12_pour : Cond.code yX12_pour cX12_pour 9 (some .boolean) ∈ lw_g := lw_m (tb_7 _ (List.mem_of_getElem? (i := 64) rfl)) rfl
theorem wl_L_53 : Cond.methodLink RL 53 yX12_feed ∈ lw_g := lw_m (tb_7 _ (List.mem_of_getElem? (i := 65) rfl)) rfl
theorem wi_X12_feed : Cond.instanceMethod yX12_feed ∈ lw_g := lw_m (tb_7 _ (List.mem_of_getElem? (i := 66) rfl)) rfl
theorem ws_X12_X12_feed_X12_feed : Cond.selects RX12 yX12_feed yX12_feed ∈ lw_g := lw_m (tb_7 _ (List.mem_of_getElem? (i := 67) rfl)) rfl
theorem wc_X12_feed : Cond.code yX12_feed cX12_feed 6 (some .int) ∈ lw_g := lw_m (tb_7 _ (List.mem_of_getElem? (i := 68) rfl)) rfl
theorem wl_X12_235 : Cond.methodLink RX12 235 yX12_lay ∈ lw_g := lw_m (tb_7 _ (List.mem_of_getElem? (i := 69) rfl)) rfl
theorem wi_X12_lay : Cond.instanceMethod yX12_lay ∈ lw_g := lw_m (tb_7 _ (List.mem_of_getElem? (i := 71) rfl)) rfl
theorem wc_X12_lay : Cond.code yX12_lay cX12_lay 3 none ∈ lw_g := lw_m (tb_7 _ (List.mem_of_getElem? (i := 72) rfl)) rfl
theorem wl_L_66 : Cond.methodLink RL 66 yX12_fault ∈ lw_g := lw_m (tb_7 _ (List.mem_of_getElem? (i := 73) rfl)) rfl
theorem wi_X12_fault : Cond.instanceMethod yX12_fault ∈ lw_g := lw_m (tb_7 _ (List.mem_of_getElem? (i := 74) rfl)) rfl
theorem ws_X12_X12_fault_X12_fault : Cond.selects RX12 yX12_fault yX12_fault ∈ lw_g := lw_m (tb_7 _ (List.mem_of_getElem? (i := 75) rfl)) rfl
theorem wc_X12_fault : Cond.code yX12_fault cX12_fault 2 (some .int) ∈ lw_g := lw_m (tb_7 _ (List.mem_of_getElem? (i := 76) rfl)) rfl
theorem wl_L_58 : Cond.methodLink RL 58 yX12_table ∈ lw_g := lw_m (tb_7 _ (List.mem_of_getElem? (i := 77) rfl)) rfl
theorem wi_X12_table : Cond.instanceMethod yX12_table ∈ lw_g := lw_m (tb_7 _ (List.mem_of_getElem? (i := 78) rfl)) rfl
theorem ws_X12_X12_table_X12_table : Cond.selects RX12 yX12_table yX12_table ∈ lw_g := lw_m (tb_7 _ (List.mem_of_getElem? (i := 79) rfl)) rfl
theorem wc_X12_table : Cond.code yX12_table cX12_table 2 (some .int) ∈ lw_g := lw_m (tb_7 _ (List.mem_of_getElem? (i := 80) rfl)) rfl
theorem wl_X12_301 : Cond.methodLink RX12 301 yX12_starts ∈ lw_g := lw_m (tb_7 _ (List.mem_of_getElem? (i := 81) rfl)) rfl
theorem wi_X12_starts : Cond.instanceMethod yX12_starts ∈ lw_g := lw_m (tb_7 _ (List.mem_of_getElem? (i := 83) rfl)) rfl
theorem wc_X12_starts : Cond.code yX12_starts cX12_starts 3 (some .boolean) ∈ lw_g := lw_m (tb_7 _ (List.mem_of_getElem? (i := 84) rfl)) rfl
theorem wl_X12_216 : Cond.methodLink RX12 216 yX12_advance ∈ lw_g := lw_m (tb_7 _ (List.mem_of_getElem? (i := 85) rfl)) rfl
theorem wi_X12_advance : Cond.instanceMethod yX12_advance ∈ lw_g := lw_m (tb_7 _ (List.mem_of_getElem? (i := 87) rfl)) rfl
theorem wc_X12_advance : Cond.code yX12_advance cX12_advance 2 none ∈ lw_g := lw_m (tb_7 _ (List.mem_of_getElem? (i := 88) rfl)) rfl
theorem wl_X12_115 : Cond.methodLink RX12 115 yX12_look2 ∈ lw_g := lw_m (tb_7 _ (List.mem_of_getElem? (i := 89) rfl)) rfl
theorem wi_X12_look2 : Cond.instanceMethod yX12_look2 ∈ lw_g := lw_m (tb_7 _ (List.mem_of_getElem? (i := 91) rfl)) rfl
theorem wc_X12_look2 : Cond.code yX12_look2 cX12_look2 2 (some .int) ∈ lw_g := lw_m (tb_7 _ (List.mem_of_getElem? (i := 92) rfl)) rfl
theorem wl_X12_121 : Cond.methodLink RX12 121 yX12_isLetter ∈ lw_g := lw_m (tb_7 _ (List.mem_of_getElem? (i := 93) rfl)) rfl
theorem wt_X12_isLetter : Cond.static yX12_isLetter ∈ lw_g := lw_m (tb_7 _ (List.mem_of_getElem? (i := 94) rfl)) rfl
theorem wc_X12_isLetter : Cond.code yX12_isLetter cX12_isLetter 1 (some .boolean) ∈ lw_g := lw_m (tb_7 _ (List.mem_of_getElem? (i := 95) rfl)) rfl
theorem wk_X12_127 : Cond.constantLong RX12 127 (32) ∈ lw_g := lw_m (tb_7 _ (List.mem_of_getElem? (i := 96) rfl)) rfl
theorem wk_X12_129 : Cond.constantLong RX12 129 (96) ∈ lw_g := lw_m (tb_7 _ (List.mem_of_getElem? (i := 97) rfl)) rfl
theorem wl_X12_134 : Cond.methodLink RX12 134 yX12_isDigit ∈ lw_g := lw_m (tb_7 _ (List.mem_of_getElem? (i := 98) rfl)) rfl
theorem wt_X12_isDigit : Cond.static yX12_isDigit ∈ lw_g := lw_m (tb_7 _ (List.mem_of_getElem? (i := 99) rfl)) rfl
theorem wc_X12_isDigit : Cond.code yX12_isDigit cX12_isDigit 1 (some .boolean) ∈ lw_g := lw_m (tb_7 _ (List.mem_of_getElem? (i := 100) rfl)) rfl
theorem wl_X12_140 : Cond.methodLink RX12 140 yX12_isSignByte ∈ lw_g := lw_m (tb_7 _ (List.mem_of_getElem? (i := 101) rfl)) rfl
theorem wi_X12_isSignByte : Cond.instanceMethod yX12_isSignByte ∈ lw_g := lw_m (tb_7 _ (List.mem_of_getElem? (i := 103) rfl)) rfl
theorem wc_X12_isSignByte : Cond.code yX12_isSignByte cX12_isSignByte 2 (some .boolean) ∈ lw_g := lw_m (tb_7 _ (List.mem_of_getElem? (i := 104) rfl)) rfl
theorem wl_X12_304 : Cond.methodLink RX12 304 yX12_readPart ∈ lw_g := lw_m (tb_7 _ (List.mem_of_getElem? (i := 105) rfl)) rfl
theorem wi_X12_readPart : Cond.instanceMethod yX12_readPart ∈ lw_g := lw_m (tb_7 _ (List.mem_of_getElem? (i := 107) rfl)) rfl
theorem wc_X12_readPart : Cond.code yX12_readPart cX12_readPart 1 none ∈ lw_g := lw_m (tb_7 _ (List.mem_of_getElem? (i := 108) rfl)) rfl
theorem wl_X12_153 : Cond.methodLink RX12 153 yX12_isOdds ∈ lw_g := lw_m (tb_7 _ (List.mem_of_getElem? (i := 109) rfl)) rfl
theorem wi_X12_isOdds : Cond.instanceMethod yX12_isOdds ∈ lw_g := lw_m (tb_7 _ (List.mem_of_getElem? (i := 111) rfl)) rfl
theorem wc_X12_isOdds : Cond.code yX12_isOdds cX12_isOdds 1 (some .boolean) ∈ lw_g := lw_m (tb_7 _ (List.mem_of_getElem? (i := 112) rfl)) rfl
theorem wl_X12_143 : Cond.methodLink RX12 143 yX12_spelled ∈ lw_g := lw_m (tb_7 _ (List.mem_of_getElem? (i := 113) rfl)) rfl
theorem wt_X12_spelled : Cond.static yX12_spelled ∈ lw_g := lw_m (tb_7 _ (List.mem_of_getElem? (i := 114) rfl)) rfl
theorem wc_X12_spelled : Cond.code yX12_spelled cX12_spelled 8 (some .long) ∈ lw_g := lw_m (tb_7 _ (List.mem_of_getElem? (i := 115) rfl)) rfl
theorem wl_X12_147 : Cond.methodLink RX12 147 yX12_isWord ∈ lw_g := lw_m (tb_7 _ (List.mem_of_getElem? (i := 116) rfl)) rfl
theorem wi_X12_isWord : Cond.instanceMethod yX12_isWord ∈ lw_g := lw_m (tb_7 _ (List.mem_of_getElem? (i := 118) rfl)) rfl
theorem wc_X12_isWord : Cond.code yX12_isWord cX12_isWord 3 (some .boolean) ∈ lw_g := lw_m (tb_7 _ (List.mem_of_getElem? (i := 119) rfl)) rfl
theorem wl_X12_286 : Cond.methodLink RX12 286 yX12_readOdds ∈ lw_g := lw_m (tb_7 _ (List.mem_of_getElem? (i := 120) rfl)) rfl
theorem wi_X12_readOdds : Cond.instanceMethod yX12_readOdds ∈ lw_g := lw_m (tb_7 _ (List.mem_of_getElem? (i := 122) rfl)) rfl
theorem wc_X12_readOdds : Cond.code yX12_readOdds cX12_readOdds 2 none ∈ lw_g := lw_m (tb_7 _ (List.mem_of_getElem? (i := 123) rfl)) rfl
theorem wl_X12_212 : Cond.methodLink RX12 212 yX12_fail ∈ lw_g := lw_m (tb_7 _ (List.mem_of_getElem? (i := 124) rfl)) rfl
theorem wi_X12_fail : Cond.instanceMethod yX12_fail ∈ lw_g := lw_m (tb_7 _ (List.mem_of_getElem? (i := 126) rfl)) rfl
theorem wc_X12_fail : Cond.code yX12_fail cX12_fail 3 none ∈ lw_g := lw_m (tb_7 _ (List.mem_of_getElem? (i := 127) rfl)) rfl
theorem wl_X12_225 : Cond.methodLink RX12 225 yX12_must ∈ lw_g := lw_m (tb_7 _ (List.mem_of_getElem? (i := 128) rfl)) rfl
theorem wi_X12_must : Cond.instanceMethod yX12_must ∈ lw_g := lw_m (tb_7 _ (List.mem_of_getElem? (i := 130) rfl)) rfl
theorem wc_X12_must : Cond.code yX12_must cX12_must 2 none ∈ lw_g := lw_m (tb_7 _ (List.mem_of_getElem? (i := 131) rfl)) rfl
theorem wl_X12_219 : Cond.methodLink RX12 219 yX12_amiss ∈ lw_g := lw_m (tb_7 _ (List.mem_of_getElem? (i := 132) rfl)) rfl
theorem wi_X12_amiss : Cond.instanceMethod yX12_amiss ∈ lw_g := lw_m (tb_7 _ (List.mem_of_getElem? (i := 134) rfl)) rfl
theorem wc_X12_amiss : Cond.code yX12_amiss cX12_amiss 1 none ∈ lw_g := lw_m (tb_7 _ (List.mem_of_getElem? (i := 135) rfl)) rfl
theorem wl_X12_229 : Cond.methodLink RX12 229 yX12_count ∈ lw_g := lw_m (tb_7 _ (List.mem_of_getElem? (i := 136) rfl)) rfl
theorem wi_X12_count : Cond.instanceMethod yX12_count ∈ lw_g := lw_m (tb_7 _ (List.mem_of_getElem? (i := 138) rfl)) rfl
theorem wc_X12_count : Cond.code yX12_count cX12_count 4 (some .int) ∈ lw_g := lw_m (tb_7 _ (List.mem_of_getElem? (i := 139) rfl)) rfl
theorem wl_X12_222 : Cond.methodLink RX12 222 yX12_stands ∈ lw_g := lw_m (tb_7 _ (List.mem_of_getElem? (i := 140) rfl)) rfl
theorem wi_X12_stands : Cond.instanceMethod yX12_stands ∈ lw_g := lw_m (tb_7 _ (List.mem_of_getElem? (i := 142) rfl)) rfl
theorem wc_X12_stands : Cond.code yX12_stands cX12_stands 3 none ∈ lw_g := lw_m (tb_7 _ (List.mem_of_getElem? (i := 143) rfl)) rfl
theorem wl_X12_98 : Cond.methodLink RX12 98 yX12_isIn ∈ lw_g := lw_m (tb_7 _ (List.mem_of_getElem? (i := 144) rfl)) rfl
theorem wt_X12_isIn : Cond.static yX12_isIn ∈ lw_g := lw_m (tb_7 _ (List.mem_of_getElem? (i := 145) rfl)) rfl
theorem wc_X12_isIn : Cond.code yX12_isIn cX12_isIn 6 (some .boolean) ∈ lw_g := lw_m (tb_7 _ (List.mem_of_getElem? (i := 146) rfl)) rfl
theorem wl_X12_157 : Cond.methodLink RX12 157 yX12_isTopic ∈ lw_g := lw_m (tb_7 _ (List.mem_of_getElem? (i := 147) rfl)) rfl
theorem wi_X12_isTopic : Cond.instanceMethod yX12_isTopic ∈ lw_g := lw_m (tb_7 _ (List.mem_of_getElem? (i := 149) rfl)) rfl
theorem wc_X12_isTopic : Cond.code yX12_isTopic cX12_isTopic 1 (some .boolean) ∈ lw_g := lw_m (tb_7 _ (List.mem_of_getElem? (i := 150) rfl)) rfl
theorem wl_X12_289 : Cond.methodLink RX12 289 yX12_readTopic ∈ lw_g := lw_m (tb_7 _ (List.mem_of_getElem? (i := 151) rfl)) rfl
theorem wi_X12_readTopic : Cond.instanceMethod yX12_readTopic ∈ lw_g := lw_m (tb_7 _ (List.mem_of_getElem? (i := 153) rfl)) rfl
theorem wc_X12_readTopic : Cond.code yX12_readTopic cX12_readTopic 4 none ∈ lw_g := lw_m (tb_7 _ (List.mem_of_getElem? (i := 154) rfl)) rfl
theorem wl_X12_257 : Cond.methodLink RX12 257 yX12_readNew ∈ lw_g := lw_m (tb_7 _ (List.mem_of_getElem? (i := 155) rfl)) rfl
theorem wi_X12_readNew : Cond.instanceMethod yX12_readNew ∈ lw_g := lw_m (tb_7 _ (List.mem_of_getElem? (i := 157) rfl)) rfl
theorem wc_X12_readNew : Cond.code yX12_readNew cX12_readNew 4 (some .int) ∈ lw_g := lw_m (tb_7 _ (List.mem_of_getElem? (i := 158) rfl)) rfl
theorem wl_X12_241 : Cond.methodLink RX12 241 yX12_isName ∈ lw_g := lw_m (tb_7 _ (List.mem_of_getElem? (i := 159) rfl)) rfl
theorem wi_X12_isName : Cond.instanceMethod yX12_isName ∈ lw_g := lw_m (tb_7 _ (List.mem_of_getElem? (i := 161) rfl)) rfl
theorem wc_X12_isName : Cond.code yX12_isName cX12_isName 1 (some .boolean) ∈ lw_g := lw_m (tb_7 _ (List.mem_of_getElem? (i := 162) rfl)) rfl
theorem wl_X12_203 : Cond.methodLink RX12 203 yX12_isKept ∈ lw_g := lw_m (tb_7 _ (List.mem_of_getElem? (i := 163) rfl)) rfl
theorem wi_X12_isKept : Cond.instanceMethod yX12_isKept ∈ lw_g := lw_m (tb_7 _ (List.mem_of_getElem? (i := 165) rfl)) rfl
theorem wc_X12_isKept : Cond.code yX12_isKept cX12_isKept 1 (some .boolean) ∈ lw_g := lw_m (tb_7 _ (List.mem_of_getElem? (i := 166) rfl)) rfl
theorem wl_X12_160 : Cond.methodLink RX12 160 yX12_isWorth ∈ lw_g := lw_m (tb_7 _ (List.mem_of_getElem? (i := 167) rfl)) rfl
theorem wi_X12_isWorth : Cond.instanceMethod yX12_isWorth ∈ lw_g := lw_m (tb_7 _ (List.mem_of_getElem? (i := 169) rfl)) rfl
theorem wc_X12_isWorth : Cond.code yX12_isWorth cX12_isWorth 1 (some .boolean) ∈ lw_g := lw_m (tb_7 _ (List.mem_of_getElem? (i := 170) rfl)) rfl
theorem wl_X12_163 : Cond.methodLink RX12 163 yX12_isDrift ∈ lw_g := lw_m (tb_7 _ (List.mem_of_getElem? (i := 171) rfl)) rfl
theorem wi_X12_isDrift : Cond.instanceMethod yX12_isDrift ∈ lw_g := lw_m (tb_7 _ (List.mem_of_getElem? (i := 173) rfl)) rfl
theorem wc_X12_isDrift : Cond.code yX12_isDrift cX12_isDrift 1 (some .boolean) ∈ lw_g := lw_m (tb_7 _ (List.mem_of_getElem? (i := 174) rfl)) rfl
theorem wl_X12_166 : Cond.methodLink RX12 166 yX12_isClaim ∈ lw_g := lw_m (tb_7 _ (List.mem_of_getElem? (i := 175) rfl)) rfl
theorem wi_X12_isClaim : Cond.instanceMethod yX12_isClaim ∈ lw_g := lw_m (tb_7 _ (List.mem_of_getElem? (i := 177) rfl)) rfl
theorem wc_X12_isClaim : Cond.code yX12_isClaim cX12_isClaim 1 (some .boolean) ∈ lw_g := lw_m (tb_7 _ (List.mem_of_getElem? (i := 178) rfl)) rfl
theorem wl_X12_169 : Cond.methodLink RX12 169 yX12_isAtWord ∈ lw_g := lw_m (tb_7 _ (List.mem_of_getElem? (i := 179) rfl)) rfl
theorem wi_X12_isAtWord : Cond.instanceMethod yX12_isAtWord ∈ lw_g := lw_m (tb_7 _ (List.mem_of_getElem? (i := 181) rfl)) rfl
theorem wc_X12_isAtWord : Cond.code yX12_isAtWord cX12_isAtWord 1 (some .boolean) ∈ lw_g := lw_m (tb_7 _ (List.mem_of_getElem? (i := 182) rfl)) rfl
theorem wl_X12_172 : Cond.methodLink RX12 172 yX12_isProppedWord ∈ lw_g := lw_m (tb_7 _ (List.mem_of_getElem? (i := 183) rfl)) rfl
theorem wi_X12_isProppedWord : Cond.instanceMethod yX12_isProppedWord ∈ lw_g := lw_m (tb_7 _ (List.mem_of_getElem? (i := 185) rfl)) rfl
theorem wc_X12_isProppedWord : Cond.code yX12_isProppedWord cX12_isProppedWord 1 (some .boolean) ∈ lw_g := lw_m (tb_7 _ (List.mem_of_getElem? (i := 186) rfl)) rfl
theorem wk_X12_151 : Cond.constantLong RX12 151 (100) ∈ lw_g := lw_m (tb_7 _ (List.mem_of_getElem? (i := 187) rfl)) rfl
theorem wl_X12_175 : Cond.methodLink RX12 175 yX12_isNeeds ∈ lw_g := lw_m (tb_7 _ (List.mem_of_getElem? (i := 188) rfl)) rfl
theorem wi_X12_isNeeds : Cond.instanceMethod yX12_isNeeds ∈ lw_g := lw_m (tb_7 _ (List.mem_of_getElem? (i := 190) rfl)) rfl
theorem wc_X12_isNeeds : Cond.code yX12_isNeeds cX12_isNeeds 1 (some .boolean) ∈ lw_g := lw_m (tb_7 _ (List.mem_of_getElem? (i := 191) rfl)) rfl
theorem wl_X12_178 : Cond.methodLink RX12 178 yX12_isTalker ∈ lw_g := lw_m (tb_7 _ (List.mem_of_getElem? (i := 192) rfl)) rfl
theorem wi_X12_isTalker : Cond.instanceMethod yX12_isTalker ∈ lw_g := lw_m (tb_7 _ (List.mem_of_getElem? (i := 194) rfl)) rfl
theorem wc_X12_isTalker : Cond.code yX12_isTalker cX12_isTalker 1 (some .boolean) ∈ lw_g := lw_m (tb_7 _ (List.mem_of_getElem? (i := 195) rfl)) rfl
theorem wl_X12_181 : Cond.methodLink RX12 181 yX12_isSeat ∈ lw_g := lw_m (tb_7 _ (List.mem_of_getElem? (i := 196) rfl)) rfl
theorem wi_X12_isSeat : Cond.instanceMethod yX12_isSeat ∈ lw_g := lw_m (tb_7 _ (List.mem_of_getElem? (i := 198) rfl)) rfl
theorem wc_X12_isSeat : Cond.code yX12_isSeat cX12_isSeat 1 (some .boolean) ∈ lw_g := lw_m (tb_7 _ (List.mem_of_getElem? (i := 199) rfl)) rfl
theorem wl_X12_184 : Cond.methodLink RX12 184 yX12_isOn ∈ lw_g := lw_m (tb_7 _ (List.mem_of_getElem? (i := 200) rfl)) rfl
theorem wi_X12_isOn : Cond.instanceMethod yX12_isOn ∈ lw_g := lw_m (tb_7 _ (List.mem_of_getElem? (i := 202) rfl)) rfl
theorem wc_X12_isOn : Cond.code yX12_isOn cX12_isOn 1 (some .boolean) ∈ lw_g := lw_m (tb_7 _ (List.mem_of_getElem? (i := 203) rfl)) rfl
theorem wl_X12_187 : Cond.methodLink RX12 187 yX12_isFails ∈ lw_g := lw_m (tb_7 _ (List.mem_of_getElem? (i := 204) rfl)) rfl
theorem wi_X12_isFails : Cond.instanceMethod yX12_isFails ∈ lw_g := lw_m (tb_7 _ (List.mem_of_getElem? (i := 206) rfl)) rfl
theorem wc_X12_isFails : Cond.code yX12_isFails cX12_isFails 1 (some .boolean) ∈ lw_g := lw_m (tb_7 _ (List.mem_of_getElem? (i := 207) rfl)) rfl
theorem wl_X12_190 : Cond.methodLink RX12 190 yX12_isFeud ∈ lw_g := lw_m (tb_7 _ (List.mem_of_getElem? (i := 208) rfl)) rfl
theorem wi_X12_isFeud : Cond.instanceMethod yX12_isFeud ∈ lw_g := lw_m (tb_7 _ (List.mem_of_getElem? (i := 210) rfl)) rfl
theorem wc_X12_isFeud : Cond.code yX12_isFeud cX12_isFeud 1 (some .boolean) ∈ lw_g := lw_m (tb_7 _ (List.mem_of_getElem? (i := 211) rfl)) rfl
theorem wl_X12_193 : Cond.methodLink RX12 193 yX12_stepWord ∈ lw_g := lw_m (tb_7 _ (List.mem_of_getElem? (i := 212) rfl)) rfl
theorem wi_X12_stepWord : Cond.instanceMethod yX12_stepWord ∈ lw_g := lw_m (tb_7 _ (List.mem_of_getElem? (i := 214) rfl)) rfl
theorem wc_X12_stepWord : Cond.code yX12_stepWord cX12_stepWord 1 (some .int) ∈ lw_g := lw_m (tb_7 _ (List.mem_of_getElem? (i := 215) rfl)) rfl
theorem wl_X12_197 : Cond.methodLink RX12 197 yX12_testWord ∈ lw_g := lw_m (tb_7 _ (List.mem_of_getElem? (i := 216) rfl)) rfl
theorem wi_X12_testWord : Cond.instanceMethod yX12_testWord ∈ lw_g := lw_m (tb_7 _ (List.mem_of_getElem? (i := 218) rfl)) rfl
theorem wc_X12_testWord : Cond.code yX12_testWord cX12_testWord 1 (some .int) ∈ lw_g := lw_m (tb_7 _ (List.mem_of_getElem? (i := 219) rfl)) rfl
theorem wl_X12_200 : Cond.methodLink RX12 200 yX12_isEnd ∈ lw_g := lw_m (tb_7 _ (List.mem_of_getElem? (i := 220) rfl)) rfl
theorem wi_X12_isEnd : Cond.instanceMethod yX12_isEnd ∈ lw_g := lw_m (tb_7 _ (List.mem_of_getElem? (i := 222) rfl)) rfl
theorem wc_X12_isEnd : Cond.code yX12_isEnd cX12_isEnd 1 (some .boolean) ∈ lw_g := lw_m (tb_7 _ (List.mem_of_getElem? (i := 223) rfl)) rfl
theorem wl_X12_244 : Cond.methodLink RX12 244 yX12_named ∈ lw_g := lw_m (tb_7 _ (List.mem_of_getElem? (i := 224) rfl)) rfl
theorem wi_X12_named : Cond.instanceMethod yX12_named ∈ lw_g := lw_m (tb_7 _ (List.mem_of_getElem? (i := 226) rfl)) rfl
theorem wc_X12_named : Cond.code yX12_named cX12_named 4 (some .int) ∈ lw_g := lw_m (tb_7 _ (List.mem_of_getElem? (i := 227) rfl)) rfl
theorem wl_X12_238 : Cond.methodLink RX12 238 yX12_namesFrom ∈ lw_g := lw_m (tb_7 _ (List.mem_of_getElem? (i := 228) rfl)) rfl
theorem wt_X12_namesFrom : Cond.static yX12_namesFrom ∈ lw_g := lw_m (tb_7 _ (List.mem_of_getElem? (i := 229) rfl)) rfl
theorem wc_X12_namesFrom : Cond.code yX12_namesFrom cX12_namesFrom 1 (some .int) ∈ lw_g := lw_m (tb_7 _ (List.mem_of_getElem? (i := 230) rfl)) rfl
theorem wl_X12_260 : Cond.methodLink RX12 260 yX12_behindWord ∈ lw_g := lw_m (tb_7 _ (List.mem_of_getElem? (i := 231) rfl)) rfl
theorem wi_X12_behindWord : Cond.instanceMethod yX12_behindWord ∈ lw_g := lw_m (tb_7 _ (List.mem_of_getElem? (i := 233) rfl)) rfl
theorem wc_X12_behindWord : Cond.code yX12_behindWord cX12_behindWord 4 (some .int) ∈ lw_g := lw_m (tb_7 _ (List.mem_of_getElem? (i := 234) rfl)) rfl
theorem wl_X12_292 : Cond.methodLink RX12 292 yX12_readClaim ∈ lw_g := lw_m (tb_7 _ (List.mem_of_getElem? (i := 235) rfl)) rfl
theorem wi_X12_readClaim : Cond.instanceMethod yX12_readClaim ∈ lw_g := lw_m (tb_7 _ (List.mem_of_getElem? (i := 237) rfl)) rfl
theorem wc_X12_readClaim : Cond.code yX12_readClaim cX12_readClaim 5 none ∈ lw_g := lw_m (tb_7 _ (List.mem_of_getElem? (i := 238) rfl)) rfl
theorem wl_X12_264 : Cond.methodLink RX12 264 yX12_readTold ∈ lw_g := lw_m (tb_7 _ (List.mem_of_getElem? (i := 239) rfl)) rfl
theorem wi_X12_readTold : Cond.instanceMethod yX12_readTold ∈ lw_g := lw_m (tb_8 _ (List.mem_of_getElem? (i := 1) rfl)) rfl
theorem wc_X12_readTold : Cond.code yX12_readTold cX12_readTold 4 (some .int) ∈ lw_g := lw_m (tb_8 _ (List.mem_of_getElem? (i := 2) rfl)) rfl
theorem wl_X12_250 : Cond.methodLink RX12 250 yX12_told ∈ lw_g := lw_m (tb_8 _ (List.mem_of_getElem? (i := 3) rfl)) rfl
theorem wi_X12_told : Cond.instanceMethod yX12_told ∈ lw_g := lw_m (tb_8 _ (List.mem_of_getElem? (i := 5) rfl)) rfl
theorem wc_X12_told : Cond.code yX12_told cX12_told 4 (some .int) ∈ lw_g := lw_m (tb_8 _ (List.mem_of_getElem? (i := 6) rfl)) rfl
theorem wl_X12_247 : Cond.methodLink RX12 247 yJ9_max_7cf53 ∈ lw_g := lw_m (tb_8 _ (List.mem_of_getElem? (i := 7) rfl)) rfl
theorem wl_X12_267 : Cond.methodLink RX12 267 yX12_perhaps ∈ lw_g := lw_m (tb_8 _ (List.mem_of_getElem? (i := 8) rfl)) rfl
theorem wi_X12_perhaps : Cond.instanceMethod yX12_perhaps ∈ lw_g := lw_m (tb_8 _ (List.mem_of_getElem? (i := 10) rfl)) rfl
theorem wc_X12_perhaps : Cond.code yX12_perhaps cX12_perhaps 2 (some .boolean) ∈ lw_g := lw_m (tb_8 _ (List.mem_of_getElem? (i := 11) rfl)) rfl
theorem wl_X12_102 : Cond.methodLink RX12 102 yX12_has ∈ lw_g := lw_m (tb_8 _ (List.mem_of_getElem? (i := 12) rfl)) rfl
theorem wt_X12_has : Cond.static yX12_has ∈ lw_g := lw_m (tb_8 _ (List.mem_of_getElem? (i := 13) rfl)) rfl
theorem wc_X12_has : Cond.code yX12_has cX12_has 2 (some .boolean) ∈ lw_g := lw_m (tb_8 _ (List.mem_of_getElem? (i := 14) rfl)) rfl
theorem wl_X12_271 : Cond.methodLink RX12 271 yX12_thinks ∈ lw_g := lw_m (tb_8 _ (List.mem_of_getElem? (i := 15) rfl)) rfl
theorem wi_X12_thinks : Cond.instanceMethod yX12_thinks ∈ lw_g := lw_m (tb_8 _ (List.mem_of_getElem? (i := 17) rfl)) rfl
theorem wc_X12_thinks : Cond.code yX12_thinks cX12_thinks 7 none ∈ lw_g := lw_m (tb_8 _ (List.mem_of_getElem? (i := 18) rfl)) rfl
theorem wl_X12_295 : Cond.methodLink RX12 295 yX12_readTalker ∈ lw_g := lw_m (tb_8 _ (List.mem_of_getElem? (i := 19) rfl)) rfl
theorem wi_X12_readTalker : Cond.instanceMethod yX12_readTalker ∈ lw_g := lw_m (tb_8 _ (List.mem_of_getElem? (i := 21) rfl)) rfl
theorem wc_X12_readTalker : Cond.code yX12_readTalker cX12_readTalker 5 none ∈ lw_g := lw_m (tb_8 _ (List.mem_of_getElem? (i := 22) rfl)) rfl
theorem wl_X12_275 : Cond.methodLink RX12 275 yX12_isTaken ∈ lw_g := lw_m (tb_8 _ (List.mem_of_getElem? (i := 23) rfl)) rfl
theorem wi_X12_isTaken : Cond.instanceMethod yX12_isTaken ∈ lw_g := lw_m (tb_8 _ (List.mem_of_getElem? (i := 25) rfl)) rfl
theorem wc_X12_isTaken : Cond.code yX12_isTaken cX12_isTaken 3 (some .boolean) ∈ lw_g := lw_m (tb_8 _ (List.mem_of_getElem? (i := 26) rfl)) rfl
theorem wl_X12_298 : Cond.methodLink RX12 298 yX12_readFeud ∈ lw_g := lw_m (tb_8 _ (List.mem_of_getElem? (i := 27) rfl)) rfl
theorem wi_X12_readFeud : Cond.instanceMethod yX12_readFeud ∈ lw_g := lw_m (tb_8 _ (List.mem_of_getElem? (i := 29) rfl)) rfl
theorem wc_X12_readFeud : Cond.code yX12_readFeud cX12_readFeud 3 none ∈ lw_g := lw_m (tb_8 _ (List.mem_of_getElem? (i := 30) rfl)) rfl
theorem wl_X12_278 : Cond.methodLink RX12 278 yX12_isFeudOf ∈ lw_g := lw_m (tb_8 _ (List.mem_of_getElem? (i := 31) rfl)) rfl
theorem wi_X12_isFeudOf : Cond.instanceMethod yX12_isFeudOf ∈ lw_g := lw_m (tb_8 _ (List.mem_of_getElem? (i := 33) rfl)) rfl
theorem wc_X12_isFeudOf : Cond.code yX12_isFeudOf cX12_isFeudOf 8 (some .boolean) ∈ lw_g := lw_m (tb_8 _ (List.mem_of_getElem? (i := 34) rfl)) rfl
theorem wl_X12_282 : Cond.methodLink RX12 282 yX12_angers ∈ lw_g := lw_m (tb_8 _ (List.mem_of_getElem? (i := 35) rfl)) rfl
theorem wi_X12_angers : Cond.instanceMethod yX12_angers ∈ lw_g := lw_m (tb_8 _ (List.mem_of_getElem? (i := 37) rfl)) rfl
theorem wc_X12_angers : Cond.code yX12_angers cX12_angers 6 none ∈ lw_g := lw_m (tb_8 _ (List.mem_of_getElem? (i := 38) rfl)) rfl
theorem wl_X12_307 : Cond.methodLink RX12 307 yX12_isSign ∈ lw_g := lw_m (tb_8 _ (List.mem_of_getElem? (i := 39) rfl)) rfl
theorem wi_X12_isSign : Cond.instanceMethod yX12_isSign ∈ lw_g := lw_m (tb_8 _ (List.mem_of_getElem? (i := 41) rfl)) rfl
theorem wc_X12_isSign : Cond.code yX12_isSign cX12_isSign 2 (some .boolean) ∈ lw_g := lw_m (tb_8 _ (List.mem_of_getElem? (i := 42) rfl)) rfl
theorem wl_X12_310 : Cond.methodLink RX12 310 yX12_isWell ∈ lw_g := lw_m (tb_8 _ (List.mem_of_getElem? (i := 43) rfl)) rfl
theorem wi_X12_isWell : Cond.instanceMethod yX12_isWell ∈ lw_g := lw_m (tb_8 _ (List.mem_of_getElem? (i := 45) rfl)) rfl
theorem wc_X12_isWell : Cond.code yX12_isWell cX12_isWell 1 (some .boolean) ∈ lw_g := lw_m (tb_8 _ (List.mem_of_getElem? (i := 46) rfl)) rfl
theorem wl_X12_313 : Cond.methodLink RX12 313 yX12_copy ∈ lw_g := lw_m (tb_8 _ (List.mem_of_getElem? (i := 47) rfl)) rfl
theorem wi_X12_copy : Cond.instanceMethod yX12_copy ∈ lw_g := lw_m (tb_8 _ (List.mem_of_getElem? (i := 49) rfl)) rfl
theorem wc_X12_copy : Cond.code yX12_copy cX12_copy 4 none ∈ lw_g := lw_m (tb_8 _ (List.mem_of_getElem? (i := 50) rfl)) rfl
theorem wl_L_62 : Cond.methodLink RL 62 yX12_evenings ∈ lw_g := lw_m (tb_8 _ (List.mem_of_getElem? (i := 51) rfl)) rfl
theorem wi_X12_evenings : Cond.instanceMethod yX12_evenings ∈ lw_g := lw_m (tb_8 _ (List.mem_of_getElem? (i := 52) rfl)) rfl
theorem ws_X12_X12_evenings_X12_evenings : Cond.selects RX12 yX12_evenings yX12_evenings ∈ lw_g := lw_m (tb_8 _ (List.mem_of_getElem? (i := 53) rfl)) rfl
theorem wc_X12_evenings : Cond.code yX12_evenings cX12_evenings 3 (some .int) ∈ lw_g := lw_m (tb_8 _ (List.mem_of_getElem? (i := 54) rfl)) rfl
theorem wl_X12_325 : Cond.methodLink RX12 325 yX12_readStep ∈ lw_g := lw_m (tb_8 _ (List.mem_of_getElem? (i := 55) rfl)) rfl
theorem wi_X12_readStep : Cond.instanceMethod yX12_readStep ∈ lw_g := lw_m (tb_8 _ (List.mem_of_getElem? (i := 57) rfl)) rfl
theorem wc_X12_readStep : Cond.code yX12_readStep cX12_readStep 5 none ∈ lw_g := lw_m (tb_8 _ (List.mem_of_getElem? (i := 58) rfl)) rfl
theorem wl_X12_322 : Cond.methodLink RX12 322 yX12_readRest ∈ lw_g := lw_m (tb_8 _ (List.mem_of_getElem? (i := 59) rfl)) rfl
theorem wi_X12_readRest : Cond.instanceMethod yX12_readRest ∈ lw_g := lw_m (tb_8 _ (List.mem_of_getElem? (i := 61) rfl)) rfl
theorem wc_X12_readRest : Cond.code yX12_readRest cX12_readRest 3 none ∈ lw_g := lw_m (tb_8 _ (List.mem_of_getElem? (i := 62) rfl)) rfl
theorem wl_X12_316 : Cond.methodLink RX12 316 yX12_readTest ∈ lw_g := lw_m (tb_8 _ (List.mem_of_getElem? (i := 63) rfl)) rfl
theorem wi_X12_readTest : Cond.instanceMethod yX12_readTest ∈ lw_g := lw_m (tb_8 _ (List.mem_of_getElem? (i := 65) rfl)) rfl
theorem wc_X12_readTest : Cond.code yX12_readTest cX12_readTest 3 none ∈ lw_g := lw_m (tb_8 _ (List.mem_of_getElem? (i := 66) rfl)) rfl
theorem wl_L_70 : Cond.methodLink RL 70 yX12_many ∈ lw_g := lw_m (tb_8 _ (List.mem_of_getElem? (i := 67) rfl)) rfl
theorem wi_X12_many : Cond.instanceMethod yX12_many ∈ lw_g := lw_m (tb_8 _ (List.mem_of_getElem? (i := 68) rfl)) rfl
theorem ws_X12_X12_many_X12_many : Cond.selects RX12 yX12_many yX12_many ∈ lw_g := lw_m (tb_8 _ (List.mem_of_getElem? (i := 69) rfl)) rfl
theorem wc_X12_many : Cond.code yX12_many cX12_many 2 (some .int) ∈ lw_g := lw_m (tb_8 _ (List.mem_of_getElem? (i := 70) rfl)) rfl
theorem wk_X12_331 : Cond.constantLong RX12 331 (9) ∈ lw_g := lw_m (tb_8 _ (List.mem_of_getElem? (i := 71) rfl)) rfl
theorem wl_X12_333 : Cond.methodLink RX12 333 yX12_refuse ∈ lw_g := lw_m (tb_8 _ (List.mem_of_getElem? (i := 72) rfl)) rfl
theorem wi_X12_refuse : Cond.instanceMethod yX12_refuse ∈ lw_g := lw_m (tb_8 _ (List.mem_of_getElem? (i := 74) rfl)) rfl
theorem wc_X12_refuse : Cond.code yX12_refuse cX12_refuse 2 (some .int) ∈ lw_g := lw_m (tb_8 _ (List.mem_of_getElem? (i := 75) rfl)) rfl
theorem wl_X12_328 : Cond.methodLink RX12 328 yX12_standing ∈ lw_g := lw_m (tb_8 _ (List.mem_of_getElem? (i := 76) rfl)) rfl
theorem wi_X12_standing : Cond.instanceMethod yX12_standing ∈ lw_g := lw_m (tb_8 _ (List.mem_of_getElem? (i := 78) rfl)) rfl
theorem wc_X12_standing : Cond.code yX12_standing cX12_standing 7 (some .int) ∈ lw_g := lw_m (tb_8 _ (List.mem_of_getElem? (i := 79) rfl)) rfl
theorem wl_X12_336 : Cond.methodLink RX12 336 yX12_propped ∈ lw_g := lw_m (tb_8 _ (List.mem_of_getElem? (i := 80) rfl)) rfl
theorem wi_X12_propped : Cond.instanceMethod yX12_propped ∈ lw_g := lw_m (tb_8 _ (List.mem_of_getElem? (i := 82) rfl)) rfl
theorem wc_X12_propped : Cond.code yX12_propped cX12_propped 3 (some .int) ∈ lw_g := lw_m (tb_8 _ (List.mem_of_getElem? (i := 83) rfl)) rfl
theorem wl_X12_339 : Cond.methodLink RX12 339 yX12_falling ∈ lw_g := lw_m (tb_8 _ (List.mem_of_getElem? (i := 84) rfl)) rfl
theorem wi_X12_falling : Cond.instanceMethod yX12_falling ∈ lw_g := lw_m (tb_8 _ (List.mem_of_getElem? (i := 86) rfl)) rfl
theorem wc_X12_falling : Cond.code yX12_falling cX12_falling 3 (some .int) ∈ lw_g := lw_m (tb_8 _ (List.mem_of_getElem? (i := 87) rfl)) rfl
theorem wl_X12_342 : Cond.methodLink RX12 342 yX12_talkersAt ∈ lw_g := lw_m (tb_8 _ (List.mem_of_getElem? (i := 88) rfl)) rfl
theorem wi_X12_talkersAt : Cond.instanceMethod yX12_talkersAt ∈ lw_g := lw_m (tb_8 _ (List.mem_of_getElem? (i := 90) rfl)) rfl
theorem wc_X12_talkersAt : Cond.code yX12_talkersAt cX12_talkersAt 4 (some .int) ∈ lw_g := lw_m (tb_8 _ (List.mem_of_getElem? (i := 91) rfl)) rfl
theorem wl_L_75 : Cond.methodLink RL 75 yX12_topic ∈ lw_g := lw_m (tb_8 _ (List.mem_of_getElem? (i := 92) rfl)) rfl
theorem wi_X12_topic : Cond.instanceMethod yX12_topic ∈ lw_g := lw_m (tb_8 _ (List.mem_of_getElem? (i := 93) rfl)) rfl
theorem ws_X12_X12_topic_X12_topic : Cond.selects RX12 yX12_topic yX12_topic ∈ lw_g := lw_m (tb_8 _ (List.mem_of_getElem? (i := 94) rfl)) rfl
theorem wc_X12_topic : Cond.code yX12_topic cX12_topic 3 (some .int) ∈ lw_g := lw_m (tb_8 _ (List.mem_of_getElem? (i := 95) rfl)) rfl
theorem wl_X12_345 : Cond.methodLink RX12 345 yX12_isTopicAt ∈ lw_g := lw_m (tb_8 _ (List.mem_of_getElem? (i := 96) rfl)) rfl
theorem wi_X12_isTopicAt : Cond.instanceMethod yX12_isTopicAt ∈ lw_g := lw_m (tb_8 _ (List.mem_of_getElem? (i := 98) rfl)) rfl
theorem wc_X12_isTopicAt : Cond.code yX12_isTopicAt cX12_isTopicAt 2 (some .boolean) ∈ lw_g := lw_m (tb_8 _ (List.mem_of_getElem? (i := 99) rfl)) rfl
theorem wk_X12_96 : Cond.constantLong RX12 96 (3) ∈ lw_g := lw_m (tb_8 _ (List.mem_of_getElem? (i := 100) rfl)) rfl
theorem wl_X12_348 : Cond.methodLink RX12 348 yX12_claimsAt ∈ lw_g := lw_m (tb_8 _ (List.mem_of_getElem? (i := 101) rfl)) rfl
theorem wi_X12_claimsAt : Cond.instanceMethod yX12_claimsAt ∈ lw_g := lw_m (tb_8 _ (List.mem_of_getElem? (i := 103) rfl)) rfl
theorem wc_X12_claimsAt : Cond.code yX12_claimsAt cX12_claimsAt 4 (some .int) ∈ lw_g := lw_m (tb_8 _ (List.mem_of_getElem? (i := 104) rfl)) rfl
theorem wl_L_79 : Cond.methodLink RL 79 yX12_claim ∈ lw_g := lw_m (tb_8 _ (List.mem_of_getElem? (i := 105) rfl)) rfl
theorem wi_X12_claim : Cond.instanceMethod yX12_claim ∈ lw_g := lw_m (tb_8 _ (List.mem_of_getElem? (i := 106) rfl)) rfl
theorem ws_X12_X12_claim_X12_claim : Cond.selects RX12 yX12_claim yX12_claim ∈ lw_g := lw_m (tb_8 _ (List.mem_of_getElem? (i := 107) rfl)) rfl
theorem wc_X12_claim : Cond.code yX12_claim cX12_claim 3 (some .int) ∈ lw_g := lw_m (tb_8 _ (List.mem_of_getElem? (i := 108) rfl)) rfl
theorem wl_X12_351 : Cond.methodLink RX12 351 yX12_isClaimAt ∈ lw_g := lw_m (tb_8 _ (List.mem_of_getElem? (i := 109) rfl)) rfl
theorem wi_X12_isClaimAt : Cond.instanceMethod yX12_isClaimAt ∈ lw_g := lw_m (tb_8 _ (List.mem_of_getElem? (i := 111) rfl)) rfl
theorem wc_X12_isClaimAt : Cond.code yX12_isClaimAt cX12_isClaimAt 2 (some .boolean) ∈ lw_g := lw_m (tb_8 _ (List.mem_of_getElem? (i := 112) rfl)) rfl
theorem wl_X12_354 : Cond.methodLink RX12 354 yX12_isHollow ∈ lw_g := lw_m (tb_8 _ (List.mem_of_getElem? (i := 113) rfl)) rfl
theorem wi_X12_isHollow : Cond.instanceMethod yX12_isHollow ∈ lw_g := lw_m (tb_8 _ (List.mem_of_getElem? (i := 115) rfl)) rfl
theorem wc_X12_isHollow : Cond.code yX12_isHollow cX12_isHollow 2 (some .boolean) ∈ lw_g := lw_m (tb_8 _ (List.mem_of_getElem? (i := 116) rfl)) rfl
theorem wl_L_83 : Cond.methodLink RL 83 yX12_talker ∈ lw_g := lw_m (tb_8 _ (List.mem_of_getElem? (i := 117) rfl)) rfl
theorem wi_X12_talker : Cond.instanceMethod yX12_talker ∈ lw_g := lw_m (tb_8 _ (List.mem_of_getElem? (i := 118) rfl)) rfl
theorem ws_X12_X12_talker_X12_talker : Cond.selects RX12 yX12_talker yX12_talker ∈ lw_g := lw_m (tb_8 _ (List.mem_of_getElem? (i := 119) rfl)) rfl
theorem wc_X12_talker : Cond.code yX12_talker cX12_talker 3 (some .int) ∈ lw_g := lw_m (tb_8 _ (List.mem_of_getElem? (i := 120) rfl)) rfl
theorem wl_X12_362 : Cond.methodLink RX12 362 yX12_isTalkerAt ∈ lw_g := lw_m (tb_8 _ (List.mem_of_getElem? (i := 121) rfl)) rfl
theorem wi_X12_isTalkerAt : Cond.instanceMethod yX12_isTalkerAt ∈ lw_g := lw_m (tb_8 _ (List.mem_of_getElem? (i := 123) rfl)) rfl
theorem wc_X12_isTalkerAt : Cond.code yX12_isTalkerAt cX12_isTalkerAt 2 (some .boolean) ∈ lw_g := lw_m (tb_8 _ (List.mem_of_getElem? (i := 124) rfl)) rfl
theorem wk_X12_365 : Cond.constantLong RX12 365 (4) ∈ lw_g := lw_m (tb_8 _ (List.mem_of_getElem? (i := 125) rfl)) rfl
theorem wl_X12_367 : Cond.methodLink RX12 367 yX12_sayable ∈ lw_g := lw_m (tb_8 _ (List.mem_of_getElem? (i := 126) rfl)) rfl
theorem wi_X12_sayable : Cond.instanceMethod yX12_sayable ∈ lw_g := lw_m (tb_8 _ (List.mem_of_getElem? (i := 128) rfl)) rfl
theorem wc_X12_sayable : Cond.code yX12_sayable cX12_sayable 4 (some .int) ∈ lw_g := lw_m (tb_8 _ (List.mem_of_getElem? (i := 129) rfl)) rfl
theorem wl_X12_359 : Cond.methodLink RX12 359 yX12_canSay ∈ lw_g := lw_m (tb_8 _ (List.mem_of_getElem? (i := 130) rfl)) rfl
theorem wi_X12_canSay : Cond.instanceMethod yX12_canSay ∈ lw_g := lw_m (tb_8 _ (List.mem_of_getElem? (i := 132) rfl)) rfl
theorem wc_X12_canSay : Cond.code yX12_canSay cX12_canSay 3 (some .boolean) ∈ lw_g := lw_m (tb_8 _ (List.mem_of_getElem? (i := 133) rfl)) rfl
theorem wl_X12_357 : Cond.methodLink RX12 357 yJ9_abs_0f7a4 ∈ lw_g := lw_m (tb_8 _ (List.mem_of_getElem? (i := 134) rfl)) rfl
theorem wl_L_87 : Cond.methodLink RL 87 yX12_feud ∈ lw_g := lw_m (tb_8 _ (List.mem_of_getElem? (i := 135) rfl)) rfl
theorem wi_X12_feud : Cond.instanceMethod yX12_feud ∈ lw_g := lw_m (tb_8 _ (List.mem_of_getElem? (i := 136) rfl)) rfl
theorem ws_X12_X12_feud_X12_feud : Cond.selects RX12 yX12_feud yX12_feud ∈ lw_g := lw_m (tb_8 _ (List.mem_of_getElem? (i := 137) rfl)) rfl
theorem wc_X12_feud : Cond.code yX12_feud cX12_feud 3 (some .int) ∈ lw_g := lw_m (tb_8 _ (List.mem_of_getElem? (i := 138) rfl)) rfl
theorem wl_L_91 : Cond.methodLink RL 91 yX12_copyHeights ∈ lw_g := lw_m (tb_8 _ (List.mem_of_getElem? (i := 139) rfl)) rfl
theorem wi_X12_copyHeights : Cond.instanceMethod yX12_copyHeights ∈ lw_g := lw_m (tb_8 _ (List.mem_of_getElem? (i := 140) rfl)) rfl
theorem ws_X12_X12_copyHeights_X12_copyHeights : Cond.selects RX12 yX12_copyHeights yX12_copyHeights ∈ lw_g := lw_m (tb_8 _ (List.mem_of_getElem? (i := 141) rfl)) rfl
theorem wc_X12_copyHeights : Cond.code yX12_copyHeights cX12_copyHeights 3 (some .int) ∈ lw_g := lw_m (tb_8 _ (List.mem_of_getElem? (i := 142) rfl)) rfl
theorem wl_X12_370 : Cond.methodLink RX12 370 yX12_isTray ∈ lw_g := lw_m (tb_8 _ (List.mem_of_getElem? (i := 143) rfl)) rfl
theorem wi_X12_isTray : Cond.instanceMethod yX12_isTray ∈ lw_g := lw_m (tb_8 _ (List.mem_of_getElem? (i := 145) rfl)) rfl
theorem wc_X12_isTray : Cond.code yX12_isTray cX12_isTray 2 (some .boolean) ∈ lw_g := lw_m (tb_8 _ (List.mem_of_getElem? (i := 146) rfl)) rfl
theorem wl_X12_373 : Cond.methodLink RX12 373 yX12_write ∈ lw_g := lw_m (tb_8 _ (List.mem_of_getElem? (i := 147) rfl)) rfl
theorem wl_L_95 : Cond.methodLink RL 95 yX12_say ∈ lw_g := lw_m (tb_8 _ (List.mem_of_getElem? (i := 148) rfl)) rfl
theorem wi_X12_say : Cond.instanceMethod yX12_say ∈ lw_g := lw_m (tb_8 _ (List.mem_of_getElem? (i := 149) rfl)) rfl
theorem ws_X12_X12_say_X12_say : Cond.selects RX12 yX12_say yX12_say ∈ lw_g := lw_m (tb_8 _ (List.mem_of_getElem? (i := 150) rfl)) rfl
theorem wc_X12_say : Cond.code yX12_say cX12_say 3 (some .int) ∈ lw_g := lw_m (tb_8 _ (List.mem_of_getElem? (i := 151) rfl)) rfl
theorem wl_X12_377 : Cond.methodLink RX12 377 yX12_says ∈ lw_g := lw_m (tb_8 _ (List.mem_of_getElem? (i := 152) rfl)) rfl
theorem wi_X12_says : Cond.instanceMethod yX12_says ∈ lw_g := lw_m (tb_8 _ (List.mem_of_getElem? (i := 154) rfl)) rfl
theorem wc_X12_says : Cond.code yX12_says cX12_says 3 (some .boolean) ∈ lw_g := lw_m (tb_8 _ (List.mem_of_getElem? (i := 155) rfl)) rfl
theorem wl_L_99 : Cond.methodLink RL 99 yX12_drop ∈ lw_g := lw_m (tb_8 _ (List.mem_of_getElem? (i := 156) rfl)) rfl
theorem wi_X12_drop : Cond.instanceMethod yX12_drop ∈ lw_g := lw_m (tb_8 _ (List.mem_of_getElem? (i := 157) rfl)) rfl
theorem ws_X12_X12_drop_X12_drop : Cond.selects RX12 yX12_drop yX12_drop ∈ lw_g := lw_m (tb_8 _ (List.mem_of_getElem? (i := 158) rfl)) rfl
theorem wc_X12_drop : Cond.code yX12_drop cX12_drop 3 (some .int) ∈ lw_g := lw_m (tb_8 _ (List.mem_of_getElem? (i := 159) rfl)) rfl
theorem wl_X12_383 : Cond.methodLink RX12 383 yX12_drops ∈ lw_g := lw_m (tb_8 _ (List.mem_of_getElem? (i := 160) rfl)) rfl
theorem wi_X12_drops : Cond.instanceMethod yX12_drops ∈ lw_g := lw_m (tb_8 _ (List.mem_of_getElem? (i := 162) rfl)) rfl
theorem wc_X12_drops : Cond.code yX12_drops cX12_drops 3 (some .boolean) ∈ lw_g := lw_m (tb_8 _ (List.mem_of_getElem? (i := 163) rfl)) rfl
theorem wl_X12_380 : Cond.methodLink RX12 380 yX12_lowers ∈ lw_g := lw_m (tb_8 _ (List.mem_of_getElem? (i := 164) rfl)) rfl
theorem wi_X12_lowers : Cond.instanceMethod yX12_lowers ∈ lw_g := lw_m (tb_8 _ (List.mem_of_getElem? (i := 166) rfl)) rfl
theorem wc_X12_lowers : Cond.code yX12_lowers cX12_lowers 3 none ∈ lw_g := lw_m (tb_8 _ (List.mem_of_getElem? (i := 167) rfl)) rfl
theorem wl_L_104 : Cond.methodLink RL 104 yX12_pull ∈ lw_g := lw_m (tb_8 _ (List.mem_of_getElem? (i := 168) rfl)) rfl
theorem wi_X12_pull : Cond.instanceMethod yX12_pull ∈ lw_g := lw_m (tb_8 _ (List.mem_of_getElem? (i := 169) rfl)) rfl
theorem ws_X12_X12_pull_X12_pull : Cond.selects RX12 yX12_pull yX12_pull ∈ lw_g := lw_m (tb_8 _ (List.mem_of_getElem? (i := 170) rfl)) rfl
theorem wc_X12_pull : Cond.code yX12_pull cX12_pull 3 (some .int) ∈ lw_g := lw_m (tb_8 _ (List.mem_of_getElem? (i := 171) rfl)) rfl
theorem wl_X12_389 : Cond.methodLink RX12 389 yX12_pulls ∈ lw_g := lw_m (tb_8 _ (List.mem_of_getElem? (i := 172) rfl)) rfl
theorem wi_X12_pulls : Cond.instanceMethod yX12_pulls ∈ lw_g := lw_m (tb_8 _ (List.mem_of_getElem? (i := 174) rfl)) rfl
theorem wc_X12_pulls : Cond.code yX12_pulls cX12_pulls 3 (some .boolean) ∈ lw_g := lw_m (tb_8 _ (List.mem_of_getElem? (i := 175) rfl)) rfl
theorem wl_X12_386 : Cond.methodLink RX12 386 yX12_landing ∈ lw_g := lw_m (tb_8 _ (List.mem_of_getElem? (i := 176) rfl)) rfl
theorem wi_X12_landing : Cond.instanceMethod yX12_landing ∈ lw_g := lw_m (tb_8 _ (List.mem_of_getElem? (i := 178) rfl)) rfl
theorem wc_X12_landing : Cond.code yX12_landing cX12_landing 2 (some .int) ∈ lw_g := lw_m (tb_8 _ (List.mem_of_getElem? (i := 179) rfl)) rfl
theorem wl_L_108 : Cond.methodLink RL 108 yX12_prop ∈ lw_g := lw_m (tb_8 _ (List.mem_of_getElem? (i := 180) rfl)) rfl
theorem wi_X12_prop : Cond.instanceMethod yX12_prop ∈ lw_g := lw_m (tb_8 _ (List.mem_of_getElem? (i := 181) rfl)) rfl
theorem ws_X12_X12_prop_X12_prop : Cond.selects RX12 yX12_prop yX12_prop ∈ lw_g := lw_m (tb_8 _ (List.mem_of_getElem? (i := 182) rfl)) rfl
theorem wc_X12_prop : Cond.code yX12_prop cX12_prop 2 (some .int) ∈ lw_g := lw_m (tb_8 _ (List.mem_of_getElem? (i := 183) rfl)) rfl
theorem wl_X12_393 : Cond.methodLink RX12 393 yX12_becomes ∈ lw_g := lw_m (tb_8 _ (List.mem_of_getElem? (i := 184) rfl)) rfl
theorem wi_X12_becomes : Cond.instanceMethod yX12_becomes ∈ lw_g := lw_m (tb_8 _ (List.mem_of_getElem? (i := 186) rfl)) rfl
theorem wc_X12_becomes : Cond.code yX12_becomes cX12_becomes 3 (some .boolean) ∈ lw_g := lw_m (tb_8 _ (List.mem_of_getElem? (i := 187) rfl)) rfl
theorem wl_X12_396 : Cond.methodLink RX12 396 yX12_sizeOf ∈ lw_g := lw_m (tb_8 _ (List.mem_of_getElem? (i := 188) rfl)) rfl
theorem wt_X12_sizeOf : Cond.static yX12_sizeOf ∈ lw_g := lw_m (tb_8 _ (List.mem_of_getElem? (i := 189) rfl)) rfl
theorem wc_X12_sizeOf : Cond.code yX12_sizeOf cX12_sizeOf 3 (some .int) ∈ lw_g := lw_m (tb_8 _ (List.mem_of_getElem? (i := 190) rfl)) rfl
theorem wl_L_112 : Cond.methodLink RL 112 yX12_cut ∈ lw_g := lw_m (tb_8 _ (List.mem_of_getElem? (i := 191) rfl)) rfl
theorem wi_X12_cut : Cond.instanceMethod yX12_cut ∈ lw_g := lw_m (tb_8 _ (List.mem_of_getElem? (i := 192) rfl)) rfl
theorem ws_X12_X12_cut_X12_cut : Cond.selects RX12 yX12_cut yX12_cut ∈ lw_g := lw_m (tb_8 _ (List.mem_of_getElem? (i := 193) rfl)) rfl
theorem wc_X12_cut : Cond.code yX12_cut cX12_cut 2 (some .int) ∈ lw_g := lw_m (tb_8 _ (List.mem_of_getElem? (i := 194) rfl)) rfl
theorem wl_L_116 : Cond.methodLink RL 116 yX12_lift ∈ lw_g := lw_m (tb_8 _ (List.mem_of_getElem? (i := 195) rfl)) rfl
theorem wi_X12_lift : Cond.instanceMethod yX12_lift ∈ lw_g := lw_m (tb_8 _ (List.mem_of_getElem? (i := 196) rfl)) rfl
theorem ws_X12_X12_lift_X12_lift : Cond.selects RX12 yX12_lift yX12_lift ∈ lw_g := lw_m (tb_8 _ (List.mem_of_getElem? (i := 197) rfl)) rfl
theorem wc_X12_lift : Cond.code yX12_lift cX12_lift 4 (some .int) ∈ lw_g := lw_m (tb_8 _ (List.mem_of_getElem? (i := 198) rfl)) rfl
theorem wl_X12_399 : Cond.methodLink RX12 399 yX12_isHeight ∈ lw_g := lw_m (tb_8 _ (List.mem_of_getElem? (i := 199) rfl)) rfl
theorem wi_X12_isHeight : Cond.instanceMethod yX12_isHeight ∈ lw_g := lw_m (tb_8 _ (List.mem_of_getElem? (i := 201) rfl)) rfl
theorem wc_X12_isHeight : Cond.code yX12_isHeight cX12_isHeight 2 (some .boolean) ∈ lw_g := lw_m (tb_8 _ (List.mem_of_getElem? (i := 202) rfl)) rfl
theorem wl_L_121 : Cond.methodLink RL 121 yX12_rewrite ∈ lw_g := lw_m (tb_8 _ (List.mem_of_getElem? (i := 203) rfl)) rfl
theorem wi_X12_rewrite : Cond.instanceMethod yX12_rewrite ∈ lw_g := lw_m (tb_8 _ (List.mem_of_getElem? (i := 204) rfl)) rfl
theorem ws_X12_X12_rewrite_X12_rewrite : Cond.selects RX12 yX12_rewrite yX12_rewrite ∈ lw_g := lw_m (tb_8 _ (List.mem_of_getElem? (i := 205) rfl)) rfl
theorem wc_X12_rewrite : Cond.code yX12_rewrite cX12_rewrite 5 (some .int) ∈ lw_g := lw_m (tb_8 _ (List.mem_of_getElem? (i := 206) rfl)) rfl
theorem wk_X12_402 : Cond.constantLong RX12 402 (20) ∈ lw_g := lw_m (tb_8 _ (List.mem_of_getElem? (i := 207) rfl)) rfl
theorem wl_L_125 : Cond.methodLink RL 125 yX12_think ∈ lw_g := lw_m (tb_8 _ (List.mem_of_getElem? (i := 208) rfl)) rfl
theorem wi_X12_think : Cond.instanceMethod yX12_think ∈ lw_g := lw_m (tb_8 _ (List.mem_of_getElem? (i := 209) rfl)) rfl
theorem ws_X12_X12_think_X12_think : Cond.selects RX12 yX12_think yX12_think ∈ lw_g := lw_m (tb_8 _ (List.mem_of_getElem? (i := 210) rfl)) rfl
theorem wc_X12_think : Cond.code yX12_think cX12_think 4 (some .int) ∈ lw_g := lw_m (tb_8 _ (List.mem_of_getElem? (i := 211) rfl)) rfl
theorem wl_L_129 : Cond.methodLink RL 129 yX12_anger ∈ lw_g := lw_m (tb_8 _ (List.mem_of_getElem? (i := 212) rfl)) rfl
theorem wi_X12_anger : Cond.instanceMethod yX12_anger ∈ lw_g := lw_m (tb_8 _ (List.mem_of_getElem? (i := 213) rfl)) rfl
theorem ws_X12_X12_anger_X12_anger : Cond.selects RX12 yX12_anger yX12_anger ∈ lw_g := lw_m (tb_8 _ (List.mem_of_getElem? (i := 214) rfl)) rfl
theorem wc_X12_anger : Cond.code yX12_anger cX12_anger 3 (some .int) ∈ lw_g := lw_m (tb_8 _ (List.mem_of_getElem? (i := 215) rfl)) rfl
theorem wl_L_134 : Cond.methodLink RL 134 yX12_rule ∈ lw_g := lw_m (tb_8 _ (List.mem_of_getElem? (i := 216) rfl)) rfl
theorem wi_X12_rule : Cond.instanceMethod yX12_rule ∈ lw_g := lw_m (tb_8 _ (List.mem_of_getElem? (i := 217) rfl)) rfl
theorem ws_X12_X12_rule_X12_rule : Cond.selects RX12 yX12_rule yX12_rule ∈ lw_g := lw_m (tb_8 _ (List.mem_of_getElem? (i := 218) rfl)) rfl
theorem wc_X12_rule : Cond.code yX12_rule cX12_rule 2 (some .boolean) ∈ lw_g := lw_m (tb_8 _ (List.mem_of_getElem? (i := 219) rfl)) rfl
theorem wk_X12_404 : Cond.constantLong RX12 404 (16) ∈ lw_g := lw_m (tb_8 _ (List.mem_of_getElem? (i := 220) rfl)) rfl
theorem wl_L_138 : Cond.methodLink RL 138 yX12_holdsUp ∈ lw_g := lw_m (tb_8 _ (List.mem_of_getElem? (i := 221) rfl)) rfl
theorem wi_X12_holdsUp : Cond.instanceMethod yX12_holdsUp ∈ lw_g := lw_m (tb_8 _ (List.mem_of_getElem? (i := 222) rfl)) rfl
theorem ws_X12_X12_holdsUp_X12_holdsUp : Cond.selects RX12 yX12_holdsUp yX12_holdsUp ∈ lw_g := lw_m (tb_8 _ (List.mem_of_getElem? (i := 223) rfl)) rfl
theorem wc_X12_holdsUp : Cond.code yX12_holdsUp cX12_holdsUp 2 (some .int) ∈ lw_g := lw_m (tb_8 _ (List.mem_of_getElem? (i := 224) rfl)) rfl
theorem wl_X12_406 : Cond.methodLink RX12 406 yX12_props ∈ lw_g := lw_m (tb_8 _ (List.mem_of_getElem? (i := 225) rfl)) rfl
theorem wi_X12_props : Cond.instanceMethod yX12_props ∈ lw_g := lw_m (tb_8 _ (List.mem_of_getElem? (i := 227) rfl)) rfl
theorem wc_X12_props : Cond.code yX12_props cX12_props 4 (some .int) ∈ lw_g := lw_m (tb_8 _ (List.mem_of_getElem? (i := 228) rfl)) rfl
theorem wl_L_142 : Cond.methodLink RL 142 yX12_holdsUpSet ∈ lw_g := lw_m (tb_8 _ (List.mem_of_getElem? (i := 229) rfl)) rfl
theorem wi_X12_holdsUpSet : Cond.instanceMethod yX12_holdsUpSet ∈ lw_g := lw_m (tb_8 _ (List.mem_of_getElem? (i := 230) rfl)) rfl
theorem ws_X12_X12_holdsUpSet_X12_holdsUpSet : Cond.selects RX12 yX12_holdsUpSet yX12_holdsUpSet ∈ lw_g := lw_m (tb_8 _ (List.mem_of_getElem? (i := 231) rfl)) rfl
theorem wc_X12_holdsUpSet : Cond.code yX12_holdsUpSet cX12_holdsUpSet 2 (some .int) ∈ lw_g := lw_m (tb_8 _ (List.mem_of_getElem? (i := 232) rfl)) rfl
theorem wl_L_146 : Cond.methodLink RL 146 yX12_bringsDown ∈ lw_g := lw_m (tb_8 _ (List.mem_of_getElem? (i := 233) rfl)) rfl
theorem wi_X12_bringsDown : Cond.instanceMethod yX12_bringsDown ∈ lw_g := lw_m (tb_8 _ (List.mem_of_getElem? (i := 234) rfl)) rfl
theorem ws_X12_X12_bringsDown_X12_bringsDown : Cond.selects RX12 yX12_bringsDown yX12_bringsDown ∈ lw_g := lw_m (tb_8 _ (List.mem_of_getElem? (i := 235) rfl)) rfl
theorem wc_X12_bringsDown : Cond.code yX12_bringsDown cX12_bringsDown 2 (some .int) ∈ lw_g := lw_m (tb_8 _ (List.mem_of_getElem? (i := 236) rfl)) rfl
theorem wl_L_150 : Cond.methodLink RL 150 yX12_way ∈ lw_g := lw_m (tb_8 _ (List.mem_of_getElem? (i := 237) rfl)) rfl
theorem wi_X12_way : Cond.instanceMethod yX12_way ∈ lw_g := lw_m (tb_8 _ (List.mem_of_getElem? (i := 238) rfl)) rfl
theorem ws_X12_X12_way_X12_way : Cond.selects RX12 yX12_way yX12_way ∈ lw_g := lw_m (tb_8 _ (List.mem_of_getElem? (i := 239) rfl)) rfl
theorem wc_X12_way : Cond.code yX12_way cX12_way 3 (some .int) ∈ lw_g := lw_m (tb_9 _ (List.mem_of_getElem? (i := 0) rfl)) rfl
theorem wl_X12_415 : Cond.methodLink RX12 415 yX12_whyNoWay ∈ lw_g := lw_m (tb_9 _ (List.mem_of_getElem? (i := 1) rfl)) rfl
theorem wi_X12_whyNoWay : Cond.instanceMethod yX12_whyNoWay ∈ lw_g := lw_m (tb_9 _ (List.mem_of_getElem? (i := 3) rfl)) rfl
theorem wc_X12_whyNoWay : Cond.code yX12_whyNoWay cX12_whyNoWay 3 (some .int) ∈ lw_g := lw_m (tb_9 _ (List.mem_of_getElem? (i := 4) rfl)) rfl
theorem wl_X12_418 : Cond.methodLink RX12 418 yX12_laysWays ∈ lw_g := lw_m (tb_9 _ (List.mem_of_getElem? (i := 5) rfl)) rfl
theorem wi_X12_laysWays : Cond.instanceMethod yX12_laysWays ∈ lw_g := lw_m (tb_9 _ (List.mem_of_getElem? (i := 7) rfl)) rfl
theorem wc_X12_laysWays : Cond.code yX12_laysWays cX12_laysWays 7 none ∈ lw_g := lw_m (tb_9 _ (List.mem_of_getElem? (i := 8) rfl)) rfl
theorem wl_X12_409 : Cond.methodLink RX12 409 yX12_isNearTo ∈ lw_g := lw_m (tb_9 _ (List.mem_of_getElem? (i := 9) rfl)) rfl
theorem wi_X12_isNearTo : Cond.instanceMethod yX12_isNearTo ∈ lw_g := lw_m (tb_9 _ (List.mem_of_getElem? (i := 11) rfl)) rfl
theorem wc_X12_isNearTo : Cond.code yX12_isNearTo cX12_isNearTo 3 (some .boolean) ∈ lw_g := lw_m (tb_9 _ (List.mem_of_getElem? (i := 12) rfl)) rfl
theorem wl_X12_412 : Cond.methodLink RX12 412 yX12_endOf ∈ lw_g := lw_m (tb_9 _ (List.mem_of_getElem? (i := 13) rfl)) rfl
theorem wi_X12_endOf : Cond.instanceMethod yX12_endOf ∈ lw_g := lw_m (tb_9 _ (List.mem_of_getElem? (i := 15) rfl)) rfl
theorem wc_X12_endOf : Cond.code yX12_endOf cX12_endOf 4 (some .int) ∈ lw_g := lw_m (tb_9 _ (List.mem_of_getElem? (i := 16) rfl)) rfl
theorem wl_L_155 : Cond.methodLink RL 155 yX12_wayAt ∈ lw_g := lw_m (tb_9 _ (List.mem_of_getElem? (i := 17) rfl)) rfl
theorem wi_X12_wayAt : Cond.instanceMethod yX12_wayAt ∈ lw_g := lw_m (tb_9 _ (List.mem_of_getElem? (i := 18) rfl)) rfl
theorem ws_X12_X12_wayAt_X12_wayAt : Cond.selects RX12 yX12_wayAt yX12_wayAt ∈ lw_g := lw_m (tb_9 _ (List.mem_of_getElem? (i := 19) rfl)) rfl
theorem wc_X12_wayAt : Cond.code yX12_wayAt cX12_wayAt 8 (some .int) ∈ lw_g := lw_m (tb_9 _ (List.mem_of_getElem? (i := 20) rfl)) rfl
theorem wk_X12_421 : Cond.constantLong RX12 421 (2) ∈ lw_g := lw_m (tb_9 _ (List.mem_of_getElem? (i := 21) rfl)) rfl
theorem wl_X12_423 : Cond.methodLink RX12 423 yX12_firstSaying ∈ lw_g := lw_m (tb_9 _ (List.mem_of_getElem? (i := 22) rfl)) rfl
theorem wi_X12_firstSaying : Cond.instanceMethod yX12_firstSaying ∈ lw_g := lw_m (tb_9 _ (List.mem_of_getElem? (i := 24) rfl)) rfl
theorem wc_X12_firstSaying : Cond.code yX12_firstSaying cX12_firstSaying 5 (some .int) ∈ lw_g := lw_m (tb_9 _ (List.mem_of_getElem? (i := 25) rfl)) rfl
theorem wl_L_159 : Cond.methodLink RL 159 yX12_from ∈ lw_g := lw_m (tb_9 _ (List.mem_of_getElem? (i := 26) rfl)) rfl
theorem wi_X12_from : Cond.instanceMethod yX12_from ∈ lw_g := lw_m (tb_9 _ (List.mem_of_getElem? (i := 27) rfl)) rfl
theorem ws_X12_X12_from_X12_from : Cond.selects RX12 yX12_from yX12_from ∈ lw_g := lw_m (tb_9 _ (List.mem_of_getElem? (i := 28) rfl)) rfl
theorem wc_X12_from : Cond.code yX12_from cX12_from 2 (some .int) ∈ lw_g := lw_m (tb_9 _ (List.mem_of_getElem? (i := 29) rfl)) rfl
theorem wl_X12_426 : Cond.methodLink RX12 426 yX12_couplesTo ∈ lw_g := lw_m (tb_9 _ (List.mem_of_getElem? (i := 30) rfl)) rfl
theorem wi_X12_couplesTo : Cond.instanceMethod yX12_couplesTo ∈ lw_g := lw_m (tb_9 _ (List.mem_of_getElem? (i := 32) rfl)) rfl
theorem wc_X12_couplesTo : Cond.code yX12_couplesTo cX12_couplesTo 6 (some .int) ∈ lw_g := lw_m (tb_9 _ (List.mem_of_getElem? (i := 33) rfl)) rfl
theorem wl_L_164 : Cond.methodLink RL 164 yX12_oddsThat ∈ lw_g := lw_m (tb_9 _ (List.mem_of_getElem? (i := 34) rfl)) rfl
theorem wi_X12_oddsThat : Cond.instanceMethod yX12_oddsThat ∈ lw_g := lw_m (tb_9 _ (List.mem_of_getElem? (i := 35) rfl)) rfl
theorem ws_X12_X12_oddsThat_X12_oddsThat : Cond.selects RX12 yX12_oddsThat yX12_oddsThat ∈ lw_g := lw_m (tb_9 _ (List.mem_of_getElem? (i := 36) rfl)) rfl
theorem wc_X12_oddsThat : Cond.code yX12_oddsThat cX12_oddsThat 4 (some .boolean) ∈ lw_g := lw_m (tb_9 _ (List.mem_of_getElem? (i := 37) rfl)) rfl
theorem wl_X12_429 : Cond.methodLink RX12 429 yX12_fraction ∈ lw_g := lw_m (tb_9 _ (List.mem_of_getElem? (i := 38) rfl)) rfl
theorem wi_X12_fraction : Cond.instanceMethod yX12_fraction ∈ lw_g := lw_m (tb_9 _ (List.mem_of_getElem? (i := 40) rfl)) rfl
theorem wc_X12_fraction : Cond.code yX12_fraction cX12_fraction 11 (some .boolean) ∈ lw_g := lw_m (tb_9 _ (List.mem_of_getElem? (i := 41) rfl)) rfl
theorem wl_X12_72 : Cond.methodLink RX12 72 yJ9_abs_067f4 ∈ lw_g := lw_m (tb_9 _ (List.mem_of_getElem? (i := 42) rfl)) rfl
theorem wt_J9_abs_067f4 : Cond.static yJ9_abs_067f4 ∈ lw_g := lw_m (tb_9 _ (List.mem_of_getElem? (i := 43) rfl)) rfl
theorem wc_J9_abs_067f4 : Cond.code yJ9_abs_067f4 cJ9_abs_067f4 2 (some .long) ∈ lw_g := lw_m (tb_9 _ (List.mem_of_getElem? (i := 44) rfl)) rfl
theorem wl_L_168 : Cond.methodLink RL 168 yX12_laws ∈ lw_g := lw_m (tb_9 _ (List.mem_of_getElem? (i := 45) rfl)) rfl
theorem wi_X12_laws : Cond.instanceMethod yX12_laws ∈ lw_g := lw_m (tb_9 _ (List.mem_of_getElem? (i := 46) rfl)) rfl
theorem ws_X12_X12_laws_X12_laws : Cond.selects RX12 yX12_laws yX12_laws ∈ lw_g := lw_m (tb_9 _ (List.mem_of_getElem? (i := 47) rfl)) rfl
theorem wc_X12_laws : Cond.code yX12_laws cX12_laws 3 (some .int) ∈ lw_g := lw_m (tb_9 _ (List.mem_of_getElem? (i := 48) rfl)) rfl
theorem wl_X12_446 : Cond.methodLink RX12 446 yX12_whyNoLaw ∈ lw_g := lw_m (tb_9 _ (List.mem_of_getElem? (i := 49) rfl)) rfl
theorem wi_X12_whyNoLaw : Cond.instanceMethod yX12_whyNoLaw ∈ lw_g := lw_m (tb_9 _ (List.mem_of_getElem? (i := 51) rfl)) rfl
theorem wc_X12_whyNoLaw : Cond.code yX12_whyNoLaw cX12_whyNoLaw 4 (some .int) ∈ lw_g := lw_m (tb_9 _ (List.mem_of_getElem? (i := 52) rfl)) rfl
theorem wl_X12_433 : Cond.methodLink RX12 433 yX12_numberOf ∈ lw_g := lw_m (tb_9 _ (List.mem_of_getElem? (i := 53) rfl)) rfl
theorem wi_X12_numberOf : Cond.instanceMethod yX12_numberOf ∈ lw_g := lw_m (tb_9 _ (List.mem_of_getElem? (i := 55) rfl)) rfl
theorem wc_X12_numberOf : Cond.code yX12_numberOf cX12_numberOf 3 (some .long) ∈ lw_g := lw_m (tb_9 _ (List.mem_of_getElem? (i := 56) rfl)) rfl
theorem wl_X12_449 : Cond.methodLink RX12 449 yX12_laysLaws ∈ lw_g := lw_m (tb_9 _ (List.mem_of_getElem? (i := 57) rfl)) rfl
theorem wi_X12_laysLaws : Cond.instanceMethod yX12_laysLaws ∈ lw_g := lw_m (tb_9 _ (List.mem_of_getElem? (i := 59) rfl)) rfl
theorem wc_X12_laysLaws : Cond.code yX12_laysLaws cX12_laysLaws 6 none ∈ lw_g := lw_m (tb_9 _ (List.mem_of_getElem? (i := 60) rfl)) rfl
theorem wl_X12_443 : Cond.methodLink RX12 443 yX12_lands ∈ lw_g := lw_m (tb_9 _ (List.mem_of_getElem? (i := 61) rfl)) rfl
theorem wt_X12_lands : Cond.static yX12_lands ∈ lw_g := lw_m (tb_9 _ (List.mem_of_getElem? (i := 62) rfl)) rfl
theorem wc_X12_lands : Cond.code yX12_lands cX12_lands 2 (some .int) ∈ lw_g := lw_m (tb_9 _ (List.mem_of_getElem? (i := 63) rfl)) rfl
theorem wl_L_172 : Cond.methodLink RL 172 yX12_lawOf ∈ lw_g := lw_m (tb_9 _ (List.mem_of_getElem? (i := 64) rfl)) rfl
theorem wi_X12_lawOf : Cond.instanceMethod yX12_lawOf ∈ lw_g := lw_m (tb_9 _ (List.mem_of_getElem? (i := 65) rfl)) rfl
theorem ws_X12_X12_lawOf_X12_lawOf : Cond.selects RX12 yX12_lawOf yX12_lawOf ∈ lw_g := lw_m (tb_9 _ (List.mem_of_getElem? (i := 66) rfl)) rfl
theorem wc_X12_lawOf : Cond.code yX12_lawOf cX12_lawOf 5 (some .int) ∈ lw_g := lw_m (tb_9 _ (List.mem_of_getElem? (i := 67) rfl)) rfl
theorem wl_L_176 : Cond.methodLink RL 176 yX12_ask ∈ lw_g := lw_m (tb_9 _ (List.mem_of_getElem? (i := 68) rfl)) rfl
theorem wi_X12_ask : Cond.instanceMethod yX12_ask ∈ lw_g := lw_m (tb_9 _ (List.mem_of_getElem? (i := 69) rfl)) rfl
theorem ws_X12_X12_ask_X12_ask : Cond.selects RX12 yX12_ask yX12_ask ∈ lw_g := lw_m (tb_9 _ (List.mem_of_getElem? (i := 70) rfl)) rfl
theorem wc_X12_ask : Cond.code yX12_ask cX12_ask 5 (some .int) ∈ lw_g := lw_m (tb_9 _ (List.mem_of_getElem? (i := 71) rfl)) rfl
theorem wl_X12_452 : Cond.methodLink RX12 452 yX12_mostAlike ∈ lw_g := lw_m (tb_9 _ (List.mem_of_getElem? (i := 72) rfl)) rfl
theorem wi_X12_mostAlike : Cond.instanceMethod yX12_mostAlike ∈ lw_g := lw_m (tb_9 _ (List.mem_of_getElem? (i := 74) rfl)) rfl
theorem wc_X12_mostAlike : Cond.code yX12_mostAlike cX12_mostAlike 6 (some .int) ∈ lw_g := lw_m (tb_9 _ (List.mem_of_getElem? (i := 75) rfl)) rfl
theorem wl_L_180 : Cond.methodLink RL 180 yX12_best ∈ lw_g := lw_m (tb_9 _ (List.mem_of_getElem? (i := 76) rfl)) rfl
theorem wi_X12_best : Cond.instanceMethod yX12_best ∈ lw_g := lw_m (tb_9 _ (List.mem_of_getElem? (i := 77) rfl)) rfl
theorem ws_X12_X12_best_X12_best : Cond.selects RX12 yX12_best yX12_best ∈ lw_g := lw_m (tb_9 _ (List.mem_of_getElem? (i := 78) rfl)) rfl
theorem wc_X12_best : Cond.code yX12_best cX12_best 3 (some .boolean) ∈ lw_g := lw_m (tb_9 _ (List.mem_of_getElem? (i := 79) rfl)) rfl
theorem wl_X12_470 : Cond.methodLink RX12 470 yX12_whyNoBest ∈ lw_g := lw_m (tb_9 _ (List.mem_of_getElem? (i := 80) rfl)) rfl
theorem wi_X12_whyNoBest : Cond.instanceMethod yX12_whyNoBest ∈ lw_g := lw_m (tb_9 _ (List.mem_of_getElem? (i := 82) rfl)) rfl
theorem wc_X12_whyNoBest : Cond.code yX12_whyNoBest cX12_whyNoBest 3 (some .int) ∈ lw_g := lw_m (tb_9 _ (List.mem_of_getElem? (i := 83) rfl)) rfl
theorem wl_X12_473 : Cond.methodLink RX12 473 yX12_laysBest ∈ lw_g := lw_m (tb_9 _ (List.mem_of_getElem? (i := 84) rfl)) rfl
theorem wi_X12_laysBest : Cond.instanceMethod yX12_laysBest ∈ lw_g := lw_m (tb_9 _ (List.mem_of_getElem? (i := 86) rfl)) rfl
theorem wc_X12_laysBest : Cond.code yX12_laysBest cX12_laysBest 8 none ∈ lw_g := lw_m (tb_9 _ (List.mem_of_getElem? (i := 87) rfl)) rfl
theorem wl_X12_461 : Cond.methodLink RX12 461 yX12_worthAt ∈ lw_g := lw_m (tb_9 _ (List.mem_of_getElem? (i := 88) rfl)) rfl
theorem wi_X12_worthAt : Cond.instanceMethod yX12_worthAt ∈ lw_g := lw_m (tb_9 _ (List.mem_of_getElem? (i := 90) rfl)) rfl
theorem wc_X12_worthAt : Cond.code yX12_worthAt cX12_worthAt 2 (some .int) ∈ lw_g := lw_m (tb_9 _ (List.mem_of_getElem? (i := 91) rfl)) rfl
theorem wl_X12_464 : Cond.methodLink RX12 464 yJ9_max_f86c9 ∈ lw_g := lw_m (tb_9 _ (List.mem_of_getElem? (i := 92) rfl)) rfl
theorem wl_L_184 : Cond.methodLink RL 184 yX12_bestAt ∈ lw_g := lw_m (tb_9 _ (List.mem_of_getElem? (i := 93) rfl)) rfl
theorem wi_X12_bestAt : Cond.instanceMethod yX12_bestAt ∈ lw_g := lw_m (tb_9 _ (List.mem_of_getElem? (i := 94) rfl)) rfl
theorem ws_X12_X12_bestAt_X12_bestAt : Cond.selects RX12 yX12_bestAt yX12_bestAt ∈ lw_g := lw_m (tb_9 _ (List.mem_of_getElem? (i := 95) rfl)) rfl
theorem wc_X12_bestAt : Cond.code yX12_bestAt cX12_bestAt 3 (some .int) ∈ lw_g := lw_m (tb_9 _ (List.mem_of_getElem? (i := 96) rfl)) rfl
theorem wl_L_188 : Cond.methodLink RL 188 yX12_peace ∈ lw_g := lw_m (tb_9 _ (List.mem_of_getElem? (i := 97) rfl)) rfl
theorem wi_X12_peace : Cond.instanceMethod yX12_peace ∈ lw_g := lw_m (tb_9 _ (List.mem_of_getElem? (i := 98) rfl)) rfl
theorem ws_X12_X12_peace_X12_peace : Cond.selects RX12 yX12_peace yX12_peace ∈ lw_g := lw_m (tb_9 _ (List.mem_of_getElem? (i := 99) rfl)) rfl
theorem wc_X12_peace : Cond.code yX12_peace cX12_peace 2 (some .int) ∈ lw_g := lw_m (tb_9 _ (List.mem_of_getElem? (i := 100) rfl)) rfl
theorem wl_X12_485 : Cond.methodLink RX12 485 yX12_laysQuarrels ∈ lw_g := lw_m (tb_9 _ (List.mem_of_getElem? (i := 101) rfl)) rfl
theorem wi_X12_laysQuarrels : Cond.instanceMethod yX12_laysQuarrels ∈ lw_g := lw_m (tb_9 _ (List.mem_of_getElem? (i := 103) rfl)) rfl
theorem wc_X12_laysQuarrels : Cond.code yX12_laysQuarrels cX12_laysQuarrels 6 none ∈ lw_g := lw_m (tb_9 _ (List.mem_of_getElem? (i := 104) rfl)) rfl
theorem wl_X12_479 : Cond.methodLink RX12 479 yX12_laysTopics ∈ lw_g := lw_m (tb_9 _ (List.mem_of_getElem? (i := 105) rfl)) rfl
theorem wi_X12_laysTopics : Cond.instanceMethod yX12_laysTopics ∈ lw_g := lw_m (tb_9 _ (List.mem_of_getElem? (i := 107) rfl)) rfl
theorem wc_X12_laysTopics : Cond.code yX12_laysTopics cX12_laysTopics 5 none ∈ lw_g := lw_m (tb_9 _ (List.mem_of_getElem? (i := 108) rfl)) rfl
theorem wl_L_192 : Cond.methodLink RL 192 yX12_quarrels ∈ lw_g := lw_m (tb_9 _ (List.mem_of_getElem? (i := 109) rfl)) rfl
theorem wi_X12_quarrels : Cond.instanceMethod yX12_quarrels ∈ lw_g := lw_m (tb_9 _ (List.mem_of_getElem? (i := 110) rfl)) rfl
theorem ws_X12_X12_quarrels_X12_quarrels : Cond.selects RX12 yX12_quarrels yX12_quarrels ∈ lw_g := lw_m (tb_9 _ (List.mem_of_getElem? (i := 111) rfl)) rfl
theorem wc_X12_quarrels : Cond.code yX12_quarrels cX12_quarrels 2 (some .int) ∈ lw_g := lw_m (tb_9 _ (List.mem_of_getElem? (i := 112) rfl)) rfl
theorem wl_L_196 : Cond.methodLink RL 196 yX12_spread ∈ lw_g := lw_m (tb_9 _ (List.mem_of_getElem? (i := 113) rfl)) rfl
theorem wi_X12_spread : Cond.instanceMethod yX12_spread ∈ lw_g := lw_m (tb_9 _ (List.mem_of_getElem? (i := 114) rfl)) rfl
theorem ws_X12_X12_spread_X12_spread : Cond.selects RX12 yX12_spread yX12_spread ∈ lw_g := lw_m (tb_9 _ (List.mem_of_getElem? (i := 115) rfl)) rfl
theorem wc_X12_spread : Cond.code yX12_spread cX12_spread 3 (some .int) ∈ lw_g := lw_m (tb_9 _ (List.mem_of_getElem? (i := 116) rfl)) rfl
theorem wl_L_200 : Cond.methodLink RL 200 yX12_seating ∈ lw_g := lw_m (tb_9 _ (List.mem_of_getElem? (i := 117) rfl)) rfl
theorem wi_X12_seating : Cond.instanceMethod yX12_seating ∈ lw_g := lw_m (tb_9 _ (List.mem_of_getElem? (i := 118) rfl)) rfl
theorem ws_X12_X12_seating_X12_seating : Cond.selects RX12 yX12_seating yX12_seating ∈ lw_g := lw_m (tb_9 _ (List.mem_of_getElem? (i := 119) rfl)) rfl
theorem wc_X12_seating : Cond.code yX12_seating cX12_seating 1 (some .int) ∈ lw_g := lw_m (tb_9 _ (List.mem_of_getElem? (i := 120) rfl)) rfl
theorem wl_X12_500 : Cond.methodLink RX12 500 yX12_laysSeats ∈ lw_g := lw_m (tb_9 _ (List.mem_of_getElem? (i := 121) rfl)) rfl
theorem wi_X12_laysSeats : Cond.instanceMethod yX12_laysSeats ∈ lw_g := lw_m (tb_9 _ (List.mem_of_getElem? (i := 123) rfl)) rfl
theorem wc_X12_laysSeats : Cond.code yX12_laysSeats cX12_laysSeats 1 none ∈ lw_g := lw_m (tb_9 _ (List.mem_of_getElem? (i := 124) rfl)) rfl
theorem wl_X12_491 : Cond.methodLink RX12 491 yX12_seats ∈ lw_g := lw_m (tb_9 _ (List.mem_of_getElem? (i := 125) rfl)) rfl
theorem wi_X12_seats : Cond.instanceMethod yX12_seats ∈ lw_g := lw_m (tb_9 _ (List.mem_of_getElem? (i := 127) rfl)) rfl
theorem wc_X12_seats : Cond.code yX12_seats cX12_seats 5 none ∈ lw_g := lw_m (tb_9 _ (List.mem_of_getElem? (i := 128) rfl)) rfl
theorem wl_X12_494 : Cond.methodLink RX12 494 yX12_besideNow ∈ lw_g := lw_m (tb_9 _ (List.mem_of_getElem? (i := 129) rfl)) rfl
theorem wi_X12_besideNow : Cond.instanceMethod yX12_besideNow ∈ lw_g := lw_m (tb_9 _ (List.mem_of_getElem? (i := 131) rfl)) rfl
theorem wc_X12_besideNow : Cond.code yX12_besideNow cX12_besideNow 6 (some .int) ∈ lw_g := lw_m (tb_9 _ (List.mem_of_getElem? (i := 132) rfl)) rfl
theorem wl_X12_488 : Cond.methodLink RX12 488 yX12_isBeside ∈ lw_g := lw_m (tb_9 _ (List.mem_of_getElem? (i := 133) rfl)) rfl
theorem wi_X12_isBeside : Cond.instanceMethod yX12_isBeside ∈ lw_g := lw_m (tb_9 _ (List.mem_of_getElem? (i := 135) rfl)) rfl
theorem wc_X12_isBeside : Cond.code yX12_isBeside cX12_isBeside 4 (some .boolean) ∈ lw_g := lw_m (tb_9 _ (List.mem_of_getElem? (i := 136) rfl)) rfl
theorem wl_L_204 : Cond.methodLink RL 204 yX12_seatOf ∈ lw_g := lw_m (tb_9 _ (List.mem_of_getElem? (i := 137) rfl)) rfl
theorem wi_X12_seatOf : Cond.instanceMethod yX12_seatOf ∈ lw_g := lw_m (tb_9 _ (List.mem_of_getElem? (i := 138) rfl)) rfl
theorem ws_X12_X12_seatOf_X12_seatOf : Cond.selects RX12 yX12_seatOf yX12_seatOf ∈ lw_g := lw_m (tb_9 _ (List.mem_of_getElem? (i := 139) rfl)) rfl
theorem wc_X12_seatOf : Cond.code yX12_seatOf cX12_seatOf 2 (some .int) ∈ lw_g := lw_m (tb_9 _ (List.mem_of_getElem? (i := 140) rfl)) rfl
theorem wl_L_208 : Cond.methodLink RL 208 yX12_game ∈ lw_g := lw_m (tb_9 _ (List.mem_of_getElem? (i := 141) rfl)) rfl
theorem wi_X12_game : Cond.instanceMethod yX12_game ∈ lw_g := lw_m (tb_9 _ (List.mem_of_getElem? (i := 142) rfl)) rfl
theorem ws_X12_X12_game_X12_game : Cond.selects RX12 yX12_game yX12_game ∈ lw_g := lw_m (tb_9 _ (List.mem_of_getElem? (i := 143) rfl)) rfl
theorem wc_X12_game : Cond.code yX12_game cX12_game 4 (some .int) ∈ lw_g := lw_m (tb_9 _ (List.mem_of_getElem? (i := 144) rfl)) rfl
theorem wl_X12_510 : Cond.methodLink RX12 510 yX12_whyNoGame ∈ lw_g := lw_m (tb_9 _ (List.mem_of_getElem? (i := 145) rfl)) rfl
theorem wi_X12_whyNoGame : Cond.instanceMethod yX12_whyNoGame ∈ lw_g := lw_m (tb_9 _ (List.mem_of_getElem? (i := 147) rfl)) rfl
theorem wc_X12_whyNoGame : Cond.code yX12_whyNoGame cX12_whyNoGame 5 (some .int) ∈ lw_g := lw_m (tb_9 _ (List.mem_of_getElem? (i := 148) rfl)) rfl
theorem wl_X12_503 : Cond.methodLink RX12 503 yX12_plays ∈ lw_g := lw_m (tb_9 _ (List.mem_of_getElem? (i := 149) rfl)) rfl
theorem wi_X12_plays : Cond.instanceMethod yX12_plays ∈ lw_g := lw_m (tb_9 _ (List.mem_of_getElem? (i := 151) rfl)) rfl
theorem wc_X12_plays : Cond.code yX12_plays cX12_plays 14 (some .int) ∈ lw_g := lw_m (tb_9 _ (List.mem_of_getElem? (i := 152) rfl)) rfl
theorem wl_L_212 : Cond.methodLink RL 212 yX12_moveOf ∈ lw_g := lw_m (tb_9 _ (List.mem_of_getElem? (i := 153) rfl)) rfl
theorem wi_X12_moveOf : Cond.instanceMethod yX12_moveOf ∈ lw_g := lw_m (tb_9 _ (List.mem_of_getElem? (i := 154) rfl)) rfl
theorem ws_X12_X12_moveOf_X12_moveOf : Cond.selects RX12 yX12_moveOf yX12_moveOf ∈ lw_g := lw_m (tb_9 _ (List.mem_of_getElem? (i := 155) rfl)) rfl
theorem wc_X12_moveOf : Cond.code yX12_moveOf cX12_moveOf 4 (some .int) ∈ lw_g := lw_m (tb_9 _ (List.mem_of_getElem? (i := 156) rfl)) rfl
theorem wl_L_216 : Cond.methodLink RL 216 yX12_chutes ∈ lw_g := lw_m (tb_9 _ (List.mem_of_getElem? (i := 157) rfl)) rfl
theorem wi_X12_chutes : Cond.instanceMethod yX12_chutes ∈ lw_g := lw_m (tb_9 _ (List.mem_of_getElem? (i := 158) rfl)) rfl
theorem ws_X12_X12_chutes_X12_chutes : Cond.selects RX12 yX12_chutes yX12_chutes ∈ lw_g := lw_m (tb_9 _ (List.mem_of_getElem? (i := 159) rfl)) rfl
theorem wc_X12_chutes : Cond.code yX12_chutes cX12_chutes 10 (some .boolean) ∈ lw_g := lw_m (tb_9 _ (List.mem_of_getElem? (i := 160) rfl)) rfl
theorem wk_X12_513 : Cond.constantLong RX12 513 (6) ∈ lw_g := lw_m (tb_9 _ (List.mem_of_getElem? (i := 161) rfl)) rfl
theorem wl_L_220 : Cond.methodLink RL 220 yX12_live ∈ lw_g := lw_m (tb_9 _ (List.mem_of_getElem? (i := 162) rfl)) rfl
theorem wi_X12_live : Cond.instanceMethod yX12_live ∈ lw_g := lw_m (tb_9 _ (List.mem_of_getElem? (i := 163) rfl)) rfl
theorem ws_X12_X12_live_X12_live : Cond.selects RX12 yX12_live yX12_live ∈ lw_g := lw_m (tb_9 _ (List.mem_of_getElem? (i := 164) rfl)) rfl
theorem wc_X12_live : Cond.code yX12_live cX12_live 2 (some .int) ∈ lw_g := lw_m (tb_9 _ (List.mem_of_getElem? (i := 165) rfl)) rfl
theorem wk_X12_564 : Cond.constantLong RX12 564 (9999) ∈ lw_g := lw_m (tb_9 _ (List.mem_of_getElem? (i := 166) rfl)) rfl
theorem wl_X12_566 : Cond.methodLink RX12 566 yX12_runsEvenings ∈ lw_g := lw_m (tb_9 _ (List.mem_of_getElem? (i := 167) rfl)) rfl
theorem wi_X12_runsEvenings : Cond.instanceMethod yX12_runsEvenings ∈ lw_g := lw_m (tb_9 _ (List.mem_of_getElem? (i := 169) rfl)) rfl
theorem wc_X12_runsEvenings : Cond.code yX12_runsEvenings cX12_runsEvenings 2 none ∈ lw_g := lw_m (tb_9 _ (List.mem_of_getElem? (i := 170) rfl)) rfl
theorem wl_X12_555 : Cond.methodLink RX12 555 yX12_doAll ∈ lw_g := lw_m (tb_9 _ (List.mem_of_getElem? (i := 171) rfl)) rfl
theorem wi_X12_doAll : Cond.instanceMethod yX12_doAll ∈ lw_g := lw_m (tb_9 _ (List.mem_of_getElem? (i := 173) rfl)) rfl
theorem wc_X12_doAll : Cond.code yX12_doAll cX12_doAll 4 none ∈ lw_g := lw_m (tb_9 _ (List.mem_of_getElem? (i := 174) rfl)) rfl
theorem wl_X12_558 : Cond.methodLink RX12 558 yX12_doOne ∈ lw_g := lw_m (tb_9 _ (List.mem_of_getElem? (i := 175) rfl)) rfl
theorem wi_X12_doOne : Cond.instanceMethod yX12_doOne ∈ lw_g := lw_m (tb_9 _ (List.mem_of_getElem? (i := 177) rfl)) rfl
theorem wc_X12_doOne : Cond.code yX12_doOne cX12_doOne 5 none ∈ lw_g := lw_m (tb_9 _ (List.mem_of_getElem? (i := 178) rfl)) rfl
theorem wl_X12_549 : Cond.methodLink RX12 549 yX12_does ∈ lw_g := lw_m (tb_9 _ (List.mem_of_getElem? (i := 179) rfl)) rfl
theorem wi_X12_does : Cond.instanceMethod yX12_does ∈ lw_g := lw_m (tb_9 _ (List.mem_of_getElem? (i := 181) rfl)) rfl
theorem wc_X12_does : Cond.code yX12_does cX12_does 4 (some .boolean) ∈ lw_g := lw_m (tb_9 _ (List.mem_of_getElem? (i := 182) rfl)) rfl
theorem wl_X12_531 : Cond.methodLink RX12 531 yX12_isSaid ∈ lw_g := lw_m (tb_9 _ (List.mem_of_getElem? (i := 183) rfl)) rfl
theorem wi_X12_isSaid : Cond.instanceMethod yX12_isSaid ∈ lw_g := lw_m (tb_9 _ (List.mem_of_getElem? (i := 185) rfl)) rfl
theorem wc_X12_isSaid : Cond.code yX12_isSaid cX12_isSaid 4 (some .boolean) ∈ lw_g := lw_m (tb_9 _ (List.mem_of_getElem? (i := 186) rfl)) rfl
theorem wl_X12_528 : Cond.methodLink RX12 528 yX12_isPulled ∈ lw_g := lw_m (tb_9 _ (List.mem_of_getElem? (i := 187) rfl)) rfl
theorem wi_X12_isPulled : Cond.instanceMethod yX12_isPulled ∈ lw_g := lw_m (tb_9 _ (List.mem_of_getElem? (i := 189) rfl)) rfl
theorem wc_X12_isPulled : Cond.code yX12_isPulled cX12_isPulled 2 (some .boolean) ∈ lw_g := lw_m (tb_9 _ (List.mem_of_getElem? (i := 190) rfl)) rfl
theorem wl_X12_525 : Cond.methodLink RX12 525 yX12_draw ∈ lw_g := lw_m (tb_9 _ (List.mem_of_getElem? (i := 191) rfl)) rfl
theorem wi_X12_draw : Cond.instanceMethod yX12_draw ∈ lw_g := lw_m (tb_9 _ (List.mem_of_getElem? (i := 193) rfl)) rfl
theorem wc_X12_draw : Cond.code yX12_draw cX12_draw 2 (some .int) ∈ lw_g := lw_m (tb_9 _ (List.mem_of_getElem? (i := 194) rfl)) rfl
theorem wk_X12_518 : Cond.constant RX12 518 (65536) ∈ lw_g := lw_m (tb_9 _ (List.mem_of_getElem? (i := 195) rfl)) rfl
theorem wl_X12_534 : Cond.methodLink RX12 534 yX12_isAny ∈ lw_g := lw_m (tb_9 _ (List.mem_of_getElem? (i := 196) rfl)) rfl
theorem wi_X12_isAny : Cond.instanceMethod yX12_isAny ∈ lw_g := lw_m (tb_9 _ (List.mem_of_getElem? (i := 198) rfl)) rfl
theorem wc_X12_isAny : Cond.code yX12_isAny cX12_isAny 3 (some .boolean) ∈ lw_g := lw_m (tb_9 _ (List.mem_of_getElem? (i := 199) rfl)) rfl
theorem wl_X12_552 : Cond.methodLink RX12 552 yX12_holds ∈ lw_g := lw_m (tb_9 _ (List.mem_of_getElem? (i := 200) rfl)) rfl
theorem wi_X12_holds : Cond.instanceMethod yX12_holds ∈ lw_g := lw_m (tb_9 _ (List.mem_of_getElem? (i := 202) rfl)) rfl
theorem wc_X12_holds : Cond.code yX12_holds cX12_holds 5 (some .boolean) ∈ lw_g := lw_m (tb_9 _ (List.mem_of_getElem? (i := 203) rfl)) rfl
theorem wl_L_224 : Cond.methodLink RL 224 yX12_lived ∈ lw_g := lw_m (tb_9 _ (List.mem_of_getElem? (i := 204) rfl)) rfl
theorem wi_X12_lived : Cond.instanceMethod yX12_lived ∈ lw_g := lw_m (tb_9 _ (List.mem_of_getElem? (i := 205) rfl)) rfl
theorem ws_X12_X12_lived_X12_lived : Cond.selects RX12 yX12_lived yX12_lived ∈ lw_g := lw_m (tb_9 _ (List.mem_of_getElem? (i := 206) rfl)) rfl
theorem wc_X12_lived : Cond.code yX12_lived cX12_lived 2 (some .int) ∈ lw_g := lw_m (tb_9 _ (List.mem_of_getElem? (i := 207) rfl)) rfl
theorem wl_L_228 : Cond.methodLink RL 228 yX12_mean ∈ lw_g := lw_m (tb_9 _ (List.mem_of_getElem? (i := 208) rfl)) rfl
theorem wi_X12_mean : Cond.instanceMethod yX12_mean ∈ lw_g := lw_m (tb_9 _ (List.mem_of_getElem? (i := 209) rfl)) rfl
theorem ws_X12_X12_mean_X12_mean : Cond.selects RX12 yX12_mean yX12_mean ∈ lw_g := lw_m (tb_9 _ (List.mem_of_getElem? (i := 210) rfl)) rfl
theorem wc_X12_mean : Cond.code yX12_mean cX12_mean 7 (some .boolean) ∈ lw_g := lw_m (tb_9 _ (List.mem_of_getElem? (i := 211) rfl)) rfl
theorem wl_L_232 : Cond.methodLink RL 232 yX12_mark ∈ lw_g := lw_m (tb_9 _ (List.mem_of_getElem? (i := 212) rfl)) rfl
theorem wi_X12_mark : Cond.instanceMethod yX12_mark ∈ lw_g := lw_m (tb_9 _ (List.mem_of_getElem? (i := 213) rfl)) rfl
theorem ws_X12_X12_mark_X12_mark : Cond.selects RX12 yX12_mark yX12_mark ∈ lw_g := lw_m (tb_9 _ (List.mem_of_getElem? (i := 214) rfl)) rfl
theorem wc_X12_mark : Cond.code yX12_mark cX12_mark 1 (some .int) ∈ lw_g := lw_m (tb_9 _ (List.mem_of_getElem? (i := 215) rfl)) rfl
theorem wl_L_236 : Cond.methodLink RL 236 yX12_back ∈ lw_g := lw_m (tb_9 _ (List.mem_of_getElem? (i := 216) rfl)) rfl
theorem wi_X12_back : Cond.instanceMethod yX12_back ∈ lw_g := lw_m (tb_9 _ (List.mem_of_getElem? (i := 217) rfl)) rfl
theorem ws_X12_X12_back_X12_back : Cond.selects RX12 yX12_back yX12_back ∈ lw_g := lw_m (tb_9 _ (List.mem_of_getElem? (i := 218) rfl)) rfl
theorem wc_X12_back : Cond.code yX12_back cX12_back 1 (some .int) ∈ lw_g := lw_m (tb_9 _ (List.mem_of_getElem? (i := 219) rfl)) rfl
theorem wk_L_32 : Cond.constantLong RL 32 (4294967295) ∈ lw_g := lw_m (tb_9 _ (List.mem_of_getElem? (i := 220) rfl)) rfl
theorem ws_X2_X4_refuseHere_X4_refuseHere : Cond.selects RX2 yX4_refuseHere yX4_refuseHere ∈ lw_g := lw_m (tb_9 _ (List.mem_of_getElem? (i := 224) rfl)) rfl
theorem ws_X8_X4_refuseHere_X4_refuseHere : Cond.selects RX8 yX4_refuseHere yX4_refuseHere ∈ lw_g := lw_m (tb_9 _ (List.mem_of_getElem? (i := 225) rfl)) rfl
theorem ws_X2_X4_isName_X4_isName : Cond.selects RX2 yX4_isName yX4_isName ∈ lw_g := lw_m (tb_9 _ (List.mem_of_getElem? (i := 227) rfl)) rfl
theorem ws_X8_X4_isName_X4_isName : Cond.selects RX8 yX4_isName yX4_isName ∈ lw_g := lw_m (tb_9 _ (List.mem_of_getElem? (i := 228) rfl)) rfl
def xX8_begin : MethodName := ⟨RX8, "begin", "(I)V"⟩
theorem wl_X8_25 : Cond.methodLink RX8 25 xX8_begin ∈ lw_g := lw_m (tb_3 _ (List.mem_of_getElem? (i := 96) rfl)) rfl
def xX8_refuseHere : MethodName := ⟨RX8, "refuseHere", "(I)Z"⟩
theorem wl_X8_52 : Cond.methodLink RX8 52 xX8_refuseHere ∈ lw_g := lw_m (tb_3 _ (List.mem_of_getElem? (i := 176) rfl)) rfl
def xX8_advance : MethodName := ⟨RX8, "advance", "()V"⟩
theorem wl_X8_59 : Cond.methodLink RX8 59 xX8_advance ∈ lw_g := lw_m (tb_3 _ (List.mem_of_getElem? (i := 182) rfl)) rfl
def xX8_isNumberHere : MethodName := ⟨RX8, "isNumberHere", "(II)Z"⟩
theorem wl_X8_62 : Cond.methodLink RX8 62 xX8_isNumberHere ∈ lw_g := lw_m (tb_3 _ (List.mem_of_getElem? (i := 186) rfl)) rfl
def xX8_isName : MethodName := ⟨RX8, "isName", "()Z"⟩
theorem wl_X8_72 : Cond.methodLink RX8 72 xX8_isName ∈ lw_g := lw_m (tb_3 _ (List.mem_of_getElem? (i := 201) rfl)) rfl
def xX8_passWord : MethodName := ⟨RX8, "passWord", "(I)Z"⟩
theorem wl_X8_93 : Cond.methodLink RX8 93 xX8_passWord ∈ lw_g := lw_m (tb_3 _ (List.mem_of_getElem? (i := 211) rfl)) rfl
def xX8_topicNamed : MethodName := ⟨RX8, "topicNamed", "(LTalkChutes$Table;)I"⟩
theorem wl_X8_106 : Cond.methodLink RX8 106 xX8_topicNamed ∈ lw_g := lw_m (tb_3 _ (List.mem_of_getElem? (i := 221) rfl)) rfl
def xX8_claimNamed : MethodName := ⟨RX8, "claimNamed", "(LTalkChutes$Table;)I"⟩
theorem wl_X8_121 : Cond.methodLink RX8 121 xX8_claimNamed ∈ lw_g := lw_m (tb_3 _ (List.mem_of_getElem? (i := 239) rfl)) rfl
def xX8_talkerNamed : MethodName := ⟨RX8, "talkerNamed", "(LTalkChutes$Table;)I"⟩
theorem wl_X8_145 : Cond.methodLink RX8 145 xX8_talkerNamed ∈ lw_g := lw_m (tb_4 _ (List.mem_of_getElem? (i := 25) rfl)) rfl
def xX8_passSemicolon : MethodName := ⟨RX8, "passSemicolon", "()Z"⟩
theorem wl_X8_56 : Cond.methodLink RX8 56 xX8_passSemicolon ∈ lw_g := lw_m (tb_4 _ (List.mem_of_getElem? (i := 39) rfl)) rfl
def xX2_begin : MethodName := ⟨RX2, "begin", "(I)V"⟩
theorem wl_X2_33 : Cond.methodLink RX2 33 xX2_begin ∈ lw_g := lw_m (tb_4 _ (List.mem_of_getElem? (i := 71) rfl)) rfl
def xX2_refuseHere : MethodName := ⟨RX2, "refuseHere", "(I)Z"⟩
theorem wl_X2_53 : Cond.methodLink RX2 53 xX2_refuseHere ∈ lw_g := lw_m (tb_4 _ (List.mem_of_getElem? (i := 78) rfl)) rfl
def xX2_advance : MethodName := ⟨RX2, "advance", "()V"⟩
theorem wl_X2_70 : Cond.methodLink RX2 70 xX2_advance ∈ lw_g := lw_m (tb_4 _ (List.mem_of_getElem? (i := 81) rfl)) rfl
def xX2_talkerNamed : MethodName := ⟨RX2, "talkerNamed", "(LTalkChutes$Table;)I"⟩
theorem wl_X2_96 : Cond.methodLink RX2 96 xX2_talkerNamed ∈ lw_g := lw_m (tb_4 _ (List.mem_of_getElem? (i := 92) rfl)) rfl
def xX2_claimNamed : MethodName := ⟨RX2, "claimNamed", "(LTalkChutes$Table;)I"⟩
theorem wl_X2_100 : Cond.methodLink RX2 100 xX2_claimNamed ∈ lw_g := lw_m (tb_4 _ (List.mem_of_getElem? (i := 99) rfl)) rfl
def xX2_isNumberHere : MethodName := ⟨RX2, "isNumberHere", "(II)Z"⟩
theorem wl_X2_103 : Cond.methodLink RX2 103 xX2_isNumberHere ∈ lw_g := lw_m (tb_4 _ (List.mem_of_getElem? (i := 106) rfl)) rfl
def xX2_passSemicolon : MethodName := ⟨RX2, "passSemicolon", "()Z"⟩
theorem wl_X2_50 : Cond.methodLink RX2 50 xX2_passSemicolon ∈ lw_g := lw_m (tb_4 _ (List.mem_of_getElem? (i := 113) rfl)) rfl
theorem w_cpi : Cond.initialized "java/lang/System" ∈ lw_g := lw_m (tb_1 _ (List.mem_of_getElem? (i := 14) rfl)) rfl
theorem wq_X8_kind : Cond.sameField RX8 RX4 "kind" "I" ∈ lw_g := lw_m (tb_1 _ (List.mem_of_getElem? (i := 66) rfl)) rfl
theorem wq_X2_kind : Cond.sameField RX2 RX4 "kind" "I" ∈ lw_g := lw_m (tb_1 _ (List.mem_of_getElem? (i := 68) rfl)) rfl
theorem wq_X8_number : Cond.sameField RX8 RX4 "number" "I" ∈ lw_g := lw_m (tb_1 _ (List.mem_of_getElem? (i := 71) rfl)) rfl
theorem wq_X2_number : Cond.sameField RX2 RX4 "number" "I" ∈ lw_g := lw_m (tb_1 _ (List.mem_of_getElem? (i := 74) rfl)) rfl
theorem wq_X2_sign : Cond.sameField RX2 RX4 "sign" "I" ∈ lw_g := lw_m (tb_1 _ (List.mem_of_getElem? (i := 77) rfl)) rfl
theorem wq_X8_word : Cond.sameField RX8 RX4 "word" "I" ∈ lw_g := lw_m (tb_1 _ (List.mem_of_getElem? (i := 79) rfl)) rfl
theorem wq_X2_word : Cond.sameField RX2 RX4 "word" "I" ∈ lw_g := lw_m (tb_1 _ (List.mem_of_getElem? (i := 81) rfl)) rfl
theorem wq_X8_name : Cond.sameField RX8 RX4 "name" "J" ∈ lw_g := lw_m (tb_1 _ (List.mem_of_getElem? (i := 85) rfl)) rfl
theorem wl_X11_139 : Cond.methodLink RX11 139 arraycopyName ∈ lw_g := lw_m (tb_3 _ (List.mem_of_getElem? (i := 73) rfl)) rfl
theorem w_cps : Cond.static arraycopyName ∈ lw_g := lw_m (tb_3 _ (List.mem_of_getElem? (i := 74) rfl)) rfl
theorem w_cpn : Cond.native arraycopyName ∈ lw_g := lw_m (tb_3 _ (List.mem_of_getElem? (i := 75) rfl)) rfl
theorem wu_X8_begin : Cond.sameMethod RX8 RX4 "begin" "(I)V" ∈ lw_g := lw_m (tb_3 _ (List.mem_of_getElem? (i := 97) rfl)) rfl
theorem ws_X8_xbegin_X4_begin : Cond.selects RX8 xX8_begin yX4_begin ∈ lw_g := lw_m (tb_3 _ (List.mem_of_getElem? (i := 99) rfl)) rfl
theorem wu_X8_refuseHere : Cond.sameMethod RX8 RX4 "refuseHere" "(I)Z" ∈ lw_g := lw_m (tb_3 _ (List.mem_of_getElem? (i := 177) rfl)) rfl
theorem ws_X8_xrefuseHere_X4_refuseHere : Cond.selects RX8 xX8_refuseHere yX4_refuseHere ∈ lw_g := lw_m (tb_3 _ (List.mem_of_getElem? (i := 179) rfl)) rfl
theorem wu_X8_advance : Cond.sameMethod RX8 RX4 "advance" "()V" ∈ lw_g := lw_m (tb_3 _ (List.mem_of_getElem? (i := 183) rfl)) rfl
theorem ws_X8_xadvance_X4_advance : Cond.selects RX8 xX8_advance yX4_advance ∈ lw_g := lw_m (tb_3 _ (List.mem_of_getElem? (i := 185) rfl)) rfl
theorem wu_X8_isNumberHere : Cond.sameMethod RX8 RX4 "isNumberHere" "(II)Z" ∈ lw_g := lw_m (tb_3 _ (List.mem_of_getElem? (i := 187) rfl)) rfl
theorem ws_X8_xisNumberHere_X4_isNumberHere : Cond.selects RX8 xX8_isNumberHere yX4_isNumberHere ∈ lw_g := lw_m (tb_3 _ (List.mem_of_getElem? (i := 189) rfl)) rfl
theorem wu_X8_isName : Cond.sameMethod RX8 RX4 "isName" "()Z" ∈ lw_g := lw_m (tb_3 _ (List.mem_of_getElem? (i := 202) rfl)) rfl
theorem ws_X8_xisName_X4_isName : Cond.selects RX8 xX8_isName yX4_isName ∈ lw_g := lw_m (tb_3 _ (List.mem_of_getElem? (i := 204) rfl)) rfl
theorem wu_X8_passWord : Cond.sameMethod RX8 RX4 "passWord" "(I)Z" ∈ lw_g := lw_m (tb_3 _ (List.mem_of_getElem? (i := 212) rfl)) rfl
theorem ws_X8_xpassWord_X4_passWord : Cond.selects RX8 xX8_passWord yX4_passWord ∈ lw_g := lw_m (tb_3 _ (List.mem_of_getElem? (i := 214) rfl)) rfl
theorem wu_X8_topicNamed : Cond.sameMethod RX8 RX4 "topicNamed" "(LTalkChutes$Table;)I" ∈ lw_g := lw_m (tb_3 _ (List.mem_of_getElem? (i := 222) rfl)) rfl
theorem ws_X8_xtopicNamed_X4_topicNamed : Cond.selects RX8 xX8_topicNamed yX4_topicNamed ∈ lw_g := lw_m (tb_3 _ (List.mem_of_getElem? (i := 224) rfl)) rfl
theorem wu_X8_claimNamed : Cond.sameMethod RX8 RX4 "claimNamed" "(LTalkChutes$Table;)I" ∈ lw_g := lw_m (tb_4 _ (List.mem_of_getElem? (i := 0) rfl)) rfl
theorem ws_X8_xclaimNamed_X4_claimNamed : Cond.selects RX8 xX8_claimNamed yX4_claimNamed ∈ lw_g := lw_m (tb_4 _ (List.mem_of_getElem? (i := 2) rfl)) rfl
theorem wu_X8_talkerNamed : Cond.sameMethod RX8 RX4 "talkerNamed" "(LTalkChutes$Table;)I" ∈ lw_g := lw_m (tb_4 _ (List.mem_of_getElem? (i := 26) rfl)) rfl
theorem ws_X8_xtalkerNamed_X4_talkerNamed : Cond.selects RX8 xX8_talkerNamed yX4_talkerNamed ∈ lw_g := lw_m (tb_4 _ (List.mem_of_getElem? (i := 28) rfl)) rfl
theorem wu_X8_passSemicolon : Cond.sameMethod RX8 RX4 "passSemicolon" "()Z" ∈ lw_g := lw_m (tb_4 _ (List.mem_of_getElem? (i := 40) rfl)) rfl
theorem ws_X8_xpassSemicolon_X4_passSemicolon : Cond.selects RX8 xX8_passSemicolon yX4_passSemicolon ∈ lw_g := lw_m (tb_4 _ (List.mem_of_getElem? (i := 42) rfl)) rfl
theorem wl_X7_68 : Cond.methodLink RX7 68 arraycopyName ∈ lw_g := lw_m (tb_4 _ (List.mem_of_getElem? (i := 53) rfl)) rfl
theorem wu_X2_begin : Cond.sameMethod RX2 RX4 "begin" "(I)V" ∈ lw_g := lw_m (tb_4 _ (List.mem_of_getElem? (i := 72) rfl)) rfl
theorem ws_X2_xbegin_X4_begin : Cond.selects RX2 xX2_begin yX4_begin ∈ lw_g := lw_m (tb_4 _ (List.mem_of_getElem? (i := 73) rfl)) rfl
theorem wu_X2_refuseHere : Cond.sameMethod RX2 RX4 "refuseHere" "(I)Z" ∈ lw_g := lw_m (tb_4 _ (List.mem_of_getElem? (i := 79) rfl)) rfl
theorem ws_X2_xrefuseHere_X4_refuseHere : Cond.selects RX2 xX2_refuseHere yX4_refuseHere ∈ lw_g := lw_m (tb_4 _ (List.mem_of_getElem? (i := 80) rfl)) rfl
theorem wu_X2_advance : Cond.sameMethod RX2 RX4 "advance" "()V" ∈ lw_g := lw_m (tb_4 _ (List.mem_of_getElem? (i := 82) rfl)) rfl
theorem ws_X2_xadvance_X4_advance : Cond.selects RX2 xX2_advance yX4_advance ∈ lw_g := lw_m (tb_4 _ (List.mem_of_getElem? (i := 83) rfl)) rfl
theorem wu_X2_talkerNamed : Cond.sameMethod RX2 RX4 "talkerNamed" "(LTalkChutes$Table;)I" ∈ lw_g := lw_m (tb_4 _ (List.mem_of_getElem? (i := 93) rfl)) rfl
theorem ws_X2_xtalkerNamed_X4_talkerNamed : Cond.selects RX2 xX2_talkerNamed yX4_talkerNamed ∈ lw_g := lw_m (tb_4 _ (List.mem_of_getElem? (i := 94) rfl)) rfl
theorem wu_X2_claimNamed : Cond.sameMethod RX2 RX4 "claimNamed" "(LTalkChutes$Table;)I" ∈ lw_g := lw_m (tb_4 _ (List.mem_of_getElem? (i := 100) rfl)) rfl
theorem ws_X2_xclaimNamed_X4_claimNamed : Cond.selects RX2 xX2_claimNamed yX4_claimNamed ∈ lw_g := lw_m (tb_4 _ (List.mem_of_getElem? (i := 101) rfl)) rfl
theorem wu_X2_isNumberHere : Cond.sameMethod RX2 RX4 "isNumberHere" "(II)Z" ∈ lw_g := lw_m (tb_4 _ (List.mem_of_getElem? (i := 107) rfl)) rfl
theorem ws_X2_xisNumberHere_X4_isNumberHere : Cond.selects RX2 xX2_isNumberHere yX4_isNumberHere ∈ lw_g := lw_m (tb_4 _ (List.mem_of_getElem? (i := 108) rfl)) rfl
theorem wu_X2_passSemicolon : Cond.sameMethod RX2 RX4 "passSemicolon" "()Z" ∈ lw_g := lw_m (tb_4 _ (List.mem_of_getElem? (i := 114) rfl)) rfl
theorem ws_X2_xpassSemicolon_X4_passSemicolon : Cond.selects RX2 xX2_passSemicolon yX4_passSemicolon ∈ lw_g := lw_m (tb_4 _ (List.mem_of_getElem? (i := 115) rfl)) rfl
theorem wl_X1_36 : Cond.methodLink RX1 36 arraycopyName ∈ lw_g := lw_m (tb_4 _ (List.mem_of_getElem? (i := 120) rfl)) rfl
theorem ws_X8_X4_wordNumber_X4_wordNumber : Cond.selects RX8 yX4_wordNumber yX4_wordNumber ∈ lw_g := List.mem_append_left _ (by decide)
theorem ws_X8_X4_readSign_X4_readSign : Cond.selects RX8 yX4_readSign yX4_readSign ∈ lw_g := List.mem_append_left _ (by decide)
theorem ws_X2_X4_wordNumber_X4_wordNumber : Cond.selects RX2 yX4_wordNumber yX4_wordNumber ∈ lw_g := List.mem_append_left _ (by decide)
theorem ws_X2_X4_readSign_X4_readSign : Cond.selects RX2 yX4_readSign yX4_readSign ∈ lw_g := List.mem_append_left _ (by decide)
theorem ws_X11_X11_deny_X11_deny : Cond.selects RX11 yX11_deny yX11_deny ∈ lw_g := lw_m (List.mem_append_left _ (List.mem_of_getElem? (i := 0) rfl)) rfl
theorem ws_X11_X11_grant_X11_grant : Cond.selects RX11 yX11_grant yX11_grant ∈ lw_g := lw_m (List.mem_append_left _ (List.mem_of_getElem? (i := 1) rfl)) rfl
theorem ws_X11_X11_placeStatus_X11_placeStatus : Cond.selects RX11 yX11_placeStatus yX11_placeStatus ∈ lw_g := lw_m (List.mem_append_left _ (List.mem_of_getElem? (i := 2) rfl)) rfl
theorem ws_X11_X11_refuse_X11_refuse : Cond.selects RX11 yX11_refuse yX11_refuse ∈ lw_g := lw_m (List.mem_append_left _ (List.mem_of_getElem? (i := 3) rfl)) rfl
theorem ws_X11_X11_putOnTape_X11_putOnTape : Cond.selects RX11 yX11_putOnTape yX11_putOnTape ∈ lw_g := lw_m (List.mem_append_left _ (List.mem_of_getElem? (i := 4) rfl)) rfl
theorem ws_X8_X8_readOdds_X8_readOdds : Cond.selects RX8 yX8_readOdds yX8_readOdds ∈ lw_g := lw_m (List.mem_append_left _ (List.mem_of_getElem? (i := 5) rfl)) rfl
theorem ws_X8_X8_readTopic_X8_readTopic : Cond.selects RX8 yX8_readTopic yX8_readTopic ∈ lw_g := lw_m (List.mem_append_left _ (List.mem_of_getElem? (i := 6) rfl)) rfl
theorem ws_X8_X8_isNewNameHere_X8_isNewNameHere : Cond.selects RX8 yX8_isNewNameHere yX8_isNewNameHere ∈ lw_g := lw_m (List.mem_append_left _ (List.mem_of_getElem? (i := 7) rfl)) rfl
theorem ws_X8_X8_readClaim_X8_readClaim : Cond.selects RX8 yX8_readClaim yX8_readClaim ∈ lw_g := lw_m (List.mem_append_left _ (List.mem_of_getElem? (i := 8) rfl)) rfl
theorem ws_X8_X8_readNeeds_X8_readNeeds : Cond.selects RX8 yX8_readNeeds yX8_readNeeds ∈ lw_g := lw_m (List.mem_append_left _ (List.mem_of_getElem? (i := 9) rfl)) rfl
theorem ws_X8_X8_readTalker_X8_readTalker : Cond.selects RX8 yX8_readTalker yX8_readTalker ∈ lw_g := lw_m (List.mem_append_left _ (List.mem_of_getElem? (i := 10) rfl)) rfl
theorem ws_X8_X8_isFreeSeatHere_X8_isFreeSeatHere : Cond.selects RX8 yX8_isFreeSeatHere yX8_isFreeSeatHere ∈ lw_g := lw_m (List.mem_append_left _ (List.mem_of_getElem? (i := 11) rfl)) rfl
theorem ws_X8_X8_readFails_X8_readFails : Cond.selects RX8 yX8_readFails yX8_readFails ∈ lw_g := lw_m (List.mem_append_left _ (List.mem_of_getElem? (i := 12) rfl)) rfl
theorem ws_X8_X8_readFeud_X8_readFeud : Cond.selects RX8 yX8_readFeud yX8_readFeud ∈ lw_g := lw_m (List.mem_append_left _ (List.mem_of_getElem? (i := 13) rfl)) rfl
theorem ws_X11_X11_keepFault_X11_keepFault : Cond.selects RX11 yX11_keepFault yX11_keepFault ∈ lw_g := lw_m (List.mem_append_left _ (List.mem_of_getElem? (i := 14) rfl)) rfl
theorem ws_X11_X11_answer_X11_answer : Cond.selects RX11 yX11_answer yX11_answer ∈ lw_g := lw_m (List.mem_append_left _ (List.mem_of_getElem? (i := 15) rfl)) rfl
theorem ws_X2_X2_readEnd_X2_readEnd : Cond.selects RX2 yX2_readEnd yX2_readEnd ∈ lw_g := lw_m (List.mem_append_left _ (List.mem_of_getElem? (i := 16) rfl)) rfl
theorem ws_X2_X2_readStep_X2_readStep : Cond.selects RX2 yX2_readStep yX2_readStep ∈ lw_g := lw_m (List.mem_append_left _ (List.mem_of_getElem? (i := 17) rfl)) rfl
theorem ws_X2_X2_readTalkerHere_X2_readTalkerHere : Cond.selects RX2 yX2_readTalkerHere yX2_readTalkerHere ∈ lw_g := lw_m (List.mem_append_left _ (List.mem_of_getElem? (i := 18) rfl)) rfl
theorem ws_X2_X2_readClaimHere_X2_readClaimHere : Cond.selects RX2 yX2_readClaimHere yX2_readClaimHere ∈ lw_g := lw_m (List.mem_append_left _ (List.mem_of_getElem? (i := 19) rfl)) rfl
theorem ws_X2_X2_readNumberHere_X2_readNumberHere : Cond.selects RX2 yX2_readNumberHere yX2_readNumberHere ∈ lw_g := lw_m (List.mem_append_left _ (List.mem_of_getElem? (i := 20) rfl)) rfl
theorem ws_X2_X2_readTest_X2_readTest : Cond.selects RX2 yX2_readTest yX2_readTest ∈ lw_g := lw_m (List.mem_append_left _ (List.mem_of_getElem? (i := 21) rfl)) rfl
theorem ws_X11_X11_wayStatus_X11_wayStatus : Cond.selects RX11 yX11_wayStatus yX11_wayStatus ∈ lw_g := lw_m (List.mem_append_left _ (List.mem_of_getElem? (i := 22) rfl)) rfl
theorem ws_X10_X10_shortestBy_X10_shortestBy : Cond.selects RX10 yX10_shortestBy yX10_shortestBy ∈ lw_g := lw_m (List.mem_append_left _ (List.mem_of_getElem? (i := 23) rfl)) rfl
theorem ws_X10_X10_nextSaying_X10_nextSaying : Cond.selects RX10 yX10_nextSaying yX10_nextSaying ∈ lw_g := lw_m (List.mem_append_left _ (List.mem_of_getElem? (i := 24) rfl)) rfl
theorem ws_X11_X11_tell_X11_tell : Cond.selects RX11 yX11_tell yX11_tell ∈ lw_g := lw_m (List.mem_append_left _ (List.mem_of_getElem? (i := 25) rfl)) rfl
theorem ws_X11_X11_lawStatus_X11_lawStatus : Cond.selects RX11 yX11_lawStatus yX11_lawStatus ∈ lw_g := lw_m (List.mem_append_left _ (List.mem_of_getElem? (i := 26) rfl)) rfl
theorem ws_X11_X11_fallStatus_X11_fallStatus : Cond.selects RX11 yX11_fallStatus yX11_fallStatus ∈ lw_g := lw_m (List.mem_append_left _ (List.mem_of_getElem? (i := 27) rfl)) rfl
theorem ws_X3_X3_putOnTopic_X3_putOnTopic : Cond.selects RX3 yX3_putOnTopic yX3_putOnTopic ∈ lw_g := lw_m (List.mem_append_left _ (List.mem_of_getElem? (i := 28) rfl)) rfl
theorem ws_X3_X3_keepRow_X3_keepRow : Cond.selects RX3 yX3_keepRow yX3_keepRow ∈ lw_g := lw_m (List.mem_append_left _ (List.mem_of_getElem? (i := 29) rfl)) rfl
theorem ws_X3_X3_quarrelsWithEarlier_X3_quarrelsWithEarlier : Cond.selects RX3 yX3_quarrelsWithEarlier yX3_quarrelsWithEarlier ∈ lw_g := lw_m (List.mem_append_left _ (List.mem_of_getElem? (i := 30) rfl)) rfl
theorem ws_X3_X3_putOnSeat_X3_putOnSeat : Cond.selects RX3 yX3_putOnSeat yX3_putOnSeat ∈ lw_g := lw_m (List.mem_append_left _ (List.mem_of_getElem? (i := 31) rfl)) rfl
theorem ws_X11_X11_gameStatus_X11_gameStatus : Cond.selects RX11 yX11_gameStatus yX11_gameStatus ∈ lw_g := lw_m (List.mem_append_left _ (List.mem_of_getElem? (i := 32) rfl)) rfl
theorem ws_X10_X10_mostWorthFrom_X10_mostWorthFrom : Cond.selects RX10 yX10_mostWorthFrom yX10_mostWorthFrom ∈ lw_g := lw_m (List.mem_append_left _ (List.mem_of_getElem? (i := 33) rfl)) rfl
theorem ws_X0_X0_behindEnd_X0_behindEnd : Cond.selects RX0 yX0_behindEnd yX0_behindEnd ∈ lw_g := lw_m (List.mem_append_left _ (List.mem_of_getElem? (i := 34) rfl)) rfl
theorem ws_X0_X0_behindStep_X0_behindStep : Cond.selects RX0 yX0_behindStep yX0_behindStep ∈ lw_g := lw_m (List.mem_append_left _ (List.mem_of_getElem? (i := 35) rfl)) rfl
theorem ws_X0_X0_doSay_X0_doSay : Cond.selects RX0 yX0_doSay yX0_doSay ∈ lw_g := lw_m (List.mem_append_left _ (List.mem_of_getElem? (i := 36) rfl)) rfl
theorem ws_X0_X0_doDrop_X0_doDrop : Cond.selects RX0 yX0_doDrop yX0_doDrop ∈ lw_g := lw_m (List.mem_append_left _ (List.mem_of_getElem? (i := 37) rfl)) rfl
theorem ws_X0_X0_doPull_X0_doPull : Cond.selects RX0 yX0_doPull yX0_doPull ∈ lw_g := lw_m (List.mem_append_left _ (List.mem_of_getElem? (i := 38) rfl)) rfl
theorem ws_X0_X0_draw_X0_draw : Cond.selects RX0 yX0_draw yX0_draw ∈ lw_g := lw_m (List.mem_append_left _ (List.mem_of_getElem? (i := 39) rfl)) rfl
theorem ws_X0_X0_doProp_X0_doProp : Cond.selects RX0 yX0_doProp yX0_doProp ∈ lw_g := lw_m (List.mem_append_left _ (List.mem_of_getElem? (i := 40) rfl)) rfl
theorem ws_X0_X0_doCut_X0_doCut : Cond.selects RX0 yX0_doCut yX0_doCut ∈ lw_g := lw_m (List.mem_append_left _ (List.mem_of_getElem? (i := 41) rfl)) rfl
theorem ws_X0_X0_doAny_X0_doAny : Cond.selects RX0 yX0_doAny yX0_doAny ∈ lw_g := lw_m (List.mem_append_left _ (List.mem_of_getElem? (i := 42) rfl)) rfl
theorem ws_X0_X0_holdsHere_X0_holdsHere : Cond.selects RX0 yX0_holdsHere yX0_holdsHere ∈ lw_g := lw_m (List.mem_append_left _ (List.mem_of_getElem? (i := 43) rfl)) rfl
theorem ws_X12_X12_empties_X12_empties : Cond.selects RX12 yX12_empties yX12_empties ∈ lw_g := lw_m (List.mem_append_left _ (List.mem_of_getElem? (i := 44) rfl)) rfl
theorem ws_X12_X12_no_X12_no : Cond.selects RX12 yX12_no yX12_no ∈ lw_g := lw_m (List.mem_append_left _ (List.mem_of_getElem? (i := 45) rfl)) rfl
theorem ws_X12_X12_placed_X12_placed : Cond.selects RX12 yX12_placed yX12_placed ∈ lw_g := lw_m (List.mem_append_left _ (List.mem_of_getElem? (i := 46) rfl)) rfl
theorem ws_X12_X12_trayed_X12_trayed : Cond.selects RX12 yX12_trayed yX12_trayed ∈ lw_g := lw_m (List.mem_append_left _ (List.mem_of_getElem? (i := 47) rfl)) rfl
theorem ws_X12_X12_lay_X12_lay : Cond.selects RX12 yX12_lay yX12_lay ∈ lw_g := lw_m (List.mem_append_left _ (List.mem_of_getElem? (i := 48) rfl)) rfl
theorem ws_X12_X12_starts_X12_starts : Cond.selects RX12 yX12_starts yX12_starts ∈ lw_g := lw_m (List.mem_append_left _ (List.mem_of_getElem? (i := 49) rfl)) rfl
theorem ws_X12_X12_advance_X12_advance : Cond.selects RX12 yX12_advance yX12_advance ∈ lw_g := lw_m (List.mem_append_left _ (List.mem_of_getElem? (i := 50) rfl)) rfl
theorem ws_X12_X12_look2_X12_look2 : Cond.selects RX12 yX12_look2 yX12_look2 ∈ lw_g := lw_m (List.mem_append_left _ (List.mem_of_getElem? (i := 51) rfl)) rfl
theorem ws_X12_X12_isSignByte_X12_isSignByte : Cond.selects RX12 yX12_isSignByte yX12_isSignByte ∈ lw_g := lw_m (List.mem_append_left _ (List.mem_of_getElem? (i := 52) rfl)) rfl
theorem ws_X12_X12_readPart_X12_readPart : Cond.selects RX12 yX12_readPart yX12_readPart ∈ lw_g := lw_m (List.mem_append_left _ (List.mem_of_getElem? (i := 53) rfl)) rfl
theorem ws_X12_X12_isOdds_X12_isOdds : Cond.selects RX12 yX12_isOdds yX12_isOdds ∈ lw_g := lw_m (List.mem_append_left _ (List.mem_of_getElem? (i := 54) rfl)) rfl
theorem ws_X12_X12_isWord_X12_isWord : Cond.selects RX12 yX12_isWord yX12_isWord ∈ lw_g := lw_m (List.mem_append_left _ (List.mem_of_getElem? (i := 55) rfl)) rfl
theorem ws_X12_X12_readOdds_X12_readOdds : Cond.selects RX12 yX12_readOdds yX12_readOdds ∈ lw_g := lw_m (List.mem_append_left _ (List.mem_of_getElem? (i := 56) rfl)) rfl
theorem ws_X12_X12_fail_X12_fail : Cond.selects RX12 yX12_fail yX12_fail ∈ lw_g := lw_m (List.mem_append_left _ (List.mem_of_getElem? (i := 57) rfl)) rfl
theorem ws_X12_X12_must_X12_must : Cond.selects RX12 yX12_must yX12_must ∈ lw_g := lw_m (List.mem_append_left _ (List.mem_of_getElem? (i := 58) rfl)) rfl
theorem ws_X12_X12_amiss_X12_amiss : Cond.selects RX12 yX12_amiss yX12_amiss ∈ lw_g := lw_m (List.mem_append_left _ (List.mem_of_getElem? (i := 59) rfl)) rfl
theorem ws_X12_X12_count_X12_count : Cond.selects RX12 yX12_count yX12_count ∈ lw_g := lw_m (List.mem_append_left _ (List.mem_of_getElem? (i := 60) rfl)) rfl
theorem ws_X12_X12_stands_X12_stands : Cond.selects RX12 yX12_stands yX12_stands ∈ lw_g := lw_m (List.mem_append_left _ (List.mem_of_getElem? (i := 61) rfl)) rfl
theorem ws_X12_X12_isTopic_X12_isTopic : Cond.selects RX12 yX12_isTopic yX12_isTopic ∈ lw_g := lw_m (List.mem_append_left _ (List.mem_of_getElem? (i := 62) rfl)) rfl
theorem ws_X12_X12_readTopic_X12_readTopic : Cond.selects RX12 yX12_readTopic yX12_readTopic ∈ lw_g := lw_m (List.mem_append_left _ (List.mem_of_getElem? (i := 63) rfl)) rfl
theorem ws_X12_X12_readNew_X12_readNew : Cond.selects RX12 yX12_readNew yX12_readNew ∈ lw_g := lw_m (List.mem_append_left _ (List.mem_of_getElem? (i := 64) rfl)) rfl
theorem ws_X12_X12_isName_X12_isName : Cond.selects RX12 yX12_isName yX12_isName ∈ lw_g := lw_m (List.mem_append_left _ (List.mem_of_getElem? (i := 65) rfl)) rfl
theorem ws_X12_X12_isKept_X12_isKept : Cond.selects RX12 yX12_isKept yX12_isKept ∈ lw_g := lw_m (List.mem_append_left _ (List.mem_of_getElem? (i := 66) rfl)) rfl
theorem ws_X12_X12_isWorth_X12_isWorth : Cond.selects RX12 yX12_isWorth yX12_isWorth ∈ lw_g := lw_m (List.mem_append_left _ (List.mem_of_getElem? (i := 67) rfl)) rfl
theorem ws_X12_X12_isDrift_X12_isDrift : Cond.selects RX12 yX12_isDrift yX12_isDrift ∈ lw_g := lw_m (List.mem_append_left _ (List.mem_of_getElem? (i := 68) rfl)) rfl
theorem ws_X12_X12_isClaim_X12_isClaim : Cond.selects RX12 yX12_isClaim yX12_isClaim ∈ lw_g := lw_m (List.mem_append_left _ (List.mem_of_getElem? (i := 69) rfl)) rfl
theorem ws_X12_X12_isAtWord_X12_isAtWord : Cond.selects RX12 yX12_isAtWord yX12_isAtWord ∈ lw_g := lw_m (List.mem_append_left _ (List.mem_of_getElem? (i := 70) rfl)) rfl
theorem ws_X12_X12_isProppedWord_X12_isProppedWord : Cond.selects RX12 yX12_isProppedWord yX12_isProppedWord ∈ lw_g := lw_m (List.mem_append_left _ (List.mem_of_getElem? (i := 71) rfl)) rfl
theorem ws_X12_X12_isNeeds_X12_isNeeds : Cond.selects RX12 yX12_isNeeds yX12_isNeeds ∈ lw_g := lw_m (List.mem_append_left _ (List.mem_of_getElem? (i := 72) rfl)) rfl
theorem ws_X12_X12_isTalker_X12_isTalker : Cond.selects RX12 yX12_isTalker yX12_isTalker ∈ lw_g := lw_m (List.mem_append_left _ (List.mem_of_getElem? (i := 73) rfl)) rfl
theorem ws_X12_X12_isSeat_X12_isSeat : Cond.selects RX12 yX12_isSeat yX12_isSeat ∈ lw_g := lw_m (List.mem_append_left _ (List.mem_of_getElem? (i := 74) rfl)) rfl
theorem ws_X12_X12_isOn_X12_isOn : Cond.selects RX12 yX12_isOn yX12_isOn ∈ lw_g := lw_m (List.mem_append_left _ (List.mem_of_getElem? (i := 75) rfl)) rfl
theorem ws_X12_X12_isFails_X12_isFails : Cond.selects RX12 yX12_isFails yX12_isFails ∈ lw_g := lw_m (List.mem_append_left _ (List.mem_of_getElem? (i := 76) rfl)) rfl
theorem ws_X12_X12_isFeud_X12_isFeud : Cond.selects RX12 yX12_isFeud yX12_isFeud ∈ lw_g := lw_m (List.mem_append_left _ (List.mem_of_getElem? (i := 77) rfl)) rfl
theorem ws_X12_X12_stepWord_X12_stepWord : Cond.selects RX12 yX12_stepWord yX12_stepWord ∈ lw_g := lw_m (List.mem_append_left _ (List.mem_of_getElem? (i := 78) rfl)) rfl
theorem ws_X12_X12_testWord_X12_testWord : Cond.selects RX12 yX12_testWord yX12_testWord ∈ lw_g := lw_m (List.mem_append_left _ (List.mem_of_getElem? (i := 79) rfl)) rfl
theorem ws_X12_X12_isEnd_X12_isEnd : Cond.selects RX12 yX12_isEnd yX12_isEnd ∈ lw_g := lw_m (List.mem_append_left _ (List.mem_of_getElem? (i := 80) rfl)) rfl
theorem ws_X12_X12_named_X12_named : Cond.selects RX12 yX12_named yX12_named ∈ lw_g := lw_m (List.mem_append_left _ (List.mem_of_getElem? (i := 81) rfl)) rfl
theorem ws_X12_X12_behindWord_X12_behindWord : Cond.selects RX12 yX12_behindWord yX12_behindWord ∈ lw_g := lw_m (List.mem_append_left _ (List.mem_of_getElem? (i := 82) rfl)) rfl
theorem ws_X12_X12_readClaim_X12_readClaim : Cond.selects RX12 yX12_readClaim yX12_readClaim ∈ lw_g := lw_m (List.mem_append_left _ (List.mem_of_getElem? (i := 83) rfl)) rfl
theorem ws_X12_X12_readTold_X12_readTold : Cond.selects RX12 yX12_readTold yX12_readTold ∈ lw_g := lw_m (List.mem_append_left _ (List.mem_of_getElem? (i := 84) rfl)) rfl
theorem ws_X12_X12_told_X12_told : Cond.selects RX12 yX12_told yX12_told ∈ lw_g := lw_m (List.mem_append_left _ (List.mem_of_getElem? (i := 85) rfl)) rfl
theorem ws_X12_X12_perhaps_X12_perhaps : Cond.selects RX12 yX12_perhaps yX12_perhaps ∈ lw_g := lw_m (List.mem_append_left _ (List.mem_of_getElem? (i := 86) rfl)) rfl
theorem ws_X12_X12_thinks_X12_thinks : Cond.selects RX12 yX12_thinks yX12_thinks ∈ lw_g := lw_m (List.mem_append_left _ (List.mem_of_getElem? (i := 87) rfl)) rfl
theorem ws_X12_X12_readTalker_X12_readTalker : Cond.selects RX12 yX12_readTalker yX12_readTalker ∈ lw_g := lw_m (List.mem_append_left _ (List.mem_of_getElem? (i := 88) rfl)) rfl
theorem ws_X12_X12_isTaken_X12_isTaken : Cond.selects RX12 yX12_isTaken yX12_isTaken ∈ lw_g := lw_m (List.mem_append_left _ (List.mem_of_getElem? (i := 89) rfl)) rfl
theorem ws_X12_X12_readFeud_X12_readFeud : Cond.selects RX12 yX12_readFeud yX12_readFeud ∈ lw_g := lw_m (List.mem_append_left _ (List.mem_of_getElem? (i := 90) rfl)) rfl
theorem ws_X12_X12_isFeudOf_X12_isFeudOf : Cond.selects RX12 yX12_isFeudOf yX12_isFeudOf ∈ lw_g := lw_m (List.mem_append_left _ (List.mem_of_getElem? (i := 91) rfl)) rfl
theorem ws_X12_X12_angers_X12_angers : Cond.selects RX12 yX12_angers yX12_angers ∈ lw_g := lw_m (List.mem_append_left _ (List.mem_of_getElem? (i := 92) rfl)) rfl
theorem ws_X12_X12_isSign_X12_isSign : Cond.selects RX12 yX12_isSign yX12_isSign ∈ lw_g := lw_m (List.mem_append_left _ (List.mem_of_getElem? (i := 93) rfl)) rfl
theorem ws_X12_X12_isWell_X12_isWell : Cond.selects RX12 yX12_isWell yX12_isWell ∈ lw_g := lw_m (List.mem_append_left _ (List.mem_of_getElem? (i := 94) rfl)) rfl
theorem ws_X12_X12_copy_X12_copy : Cond.selects RX12 yX12_copy yX12_copy ∈ lw_g := lw_m (List.mem_append_left _ (List.mem_of_getElem? (i := 95) rfl)) rfl
theorem ws_X12_X12_readStep_X12_readStep : Cond.selects RX12 yX12_readStep yX12_readStep ∈ lw_g := lw_m (List.mem_append_left _ (List.mem_of_getElem? (i := 96) rfl)) rfl
theorem ws_X12_X12_readRest_X12_readRest : Cond.selects RX12 yX12_readRest yX12_readRest ∈ lw_g := lw_m (List.mem_append_left _ (List.mem_of_getElem? (i := 97) rfl)) rfl
theorem ws_X12_X12_readTest_X12_readTest : Cond.selects RX12 yX12_readTest yX12_readTest ∈ lw_g := lw_m (List.mem_append_left _ (List.mem_of_getElem? (i := 98) rfl)) rfl
theorem ws_X12_X12_refuse_X12_refuse : Cond.selects RX12 yX12_refuse yX12_refuse ∈ lw_g := lw_m (List.mem_append_left _ (List.mem_of_getElem? (i := 99) rfl)) rfl
theorem ws_X12_X12_standing_X12_standing : Cond.selects RX12 yX12_standing yX12_standing ∈ lw_g := lw_m (List.mem_append_left _ (List.mem_of_getElem? (i := 100) rfl)) rfl
theorem ws_X12_X12_propped_X12_propped : Cond.selects RX12 yX12_propped yX12_propped ∈ lw_g := lw_m (List.mem_append_left _ (List.mem_of_getElem? (i := 101) rfl)) rfl
theorem ws_X12_X12_falling_X12_falling : Cond.selects RX12 yX12_falling yX12_falling ∈ lw_g := lw_m (List.mem_append_left _ (List.mem_of_getElem? (i := 102) rfl)) rfl
theorem ws_X12_X12_talkersAt_X12_talkersAt : Cond.selects RX12 yX12_talkersAt yX12_talkersAt ∈ lw_g := lw_m (List.mem_append_left _ (List.mem_of_getElem? (i := 103) rfl)) rfl
theorem ws_X12_X12_isTopicAt_X12_isTopicAt : Cond.selects RX12 yX12_isTopicAt yX12_isTopicAt ∈ lw_g := lw_m (List.mem_append_left _ (List.mem_of_getElem? (i := 104) rfl)) rfl
theorem ws_X12_X12_claimsAt_X12_claimsAt : Cond.selects RX12 yX12_claimsAt yX12_claimsAt ∈ lw_g := lw_m (List.mem_append_left _ (List.mem_of_getElem? (i := 105) rfl)) rfl
theorem ws_X12_X12_isClaimAt_X12_isClaimAt : Cond.selects RX12 yX12_isClaimAt yX12_isClaimAt ∈ lw_g := lw_m (List.mem_append_left _ (List.mem_of_getElem? (i := 106) rfl)) rfl
theorem ws_X12_X12_isHollow_X12_isHollow : Cond.selects RX12 yX12_isHollow yX12_isHollow ∈ lw_g := lw_m (List.mem_append_left _ (List.mem_of_getElem? (i := 107) rfl)) rfl
theorem ws_X12_X12_isTalkerAt_X12_isTalkerAt : Cond.selects RX12 yX12_isTalkerAt yX12_isTalkerAt ∈ lw_g := lw_m (List.mem_append_left _ (List.mem_of_getElem? (i := 108) rfl)) rfl
theorem ws_X12_X12_sayable_X12_sayable : Cond.selects RX12 yX12_sayable yX12_sayable ∈ lw_g := lw_m (List.mem_append_left _ (List.mem_of_getElem? (i := 109) rfl)) rfl
theorem ws_X12_X12_canSay_X12_canSay : Cond.selects RX12 yX12_canSay yX12_canSay ∈ lw_g := lw_m (List.mem_append_left _ (List.mem_of_getElem? (i := 110) rfl)) rfl
theorem ws_X12_X12_isTray_X12_isTray : Cond.selects RX12 yX12_isTray yX12_isTray ∈ lw_g := lw_m (List.mem_append_left _ (List.mem_of_getElem? (i := 111) rfl)) rfl
theorem ws_X12_X12_says_X12_says : Cond.selects RX12 yX12_says yX12_says ∈ lw_g := lw_m (List.mem_append_left _ (List.mem_of_getElem? (i := 112) rfl)) rfl
theorem ws_X12_X12_drops_X12_drops : Cond.selects RX12 yX12_drops yX12_drops ∈ lw_g := lw_m (List.mem_append_left _ (List.mem_of_getElem? (i := 113) rfl)) rfl
theorem ws_X12_X12_lowers_X12_lowers : Cond.selects RX12 yX12_lowers yX12_lowers ∈ lw_g := lw_m (List.mem_append_left _ (List.mem_of_getElem? (i := 114) rfl)) rfl
theorem ws_X12_X12_pulls_X12_pulls : Cond.selects RX12 yX12_pulls yX12_pulls ∈ lw_g := lw_m (List.mem_append_left _ (List.mem_of_getElem? (i := 115) rfl)) rfl
theorem ws_X12_X12_landing_X12_landing : Cond.selects RX12 yX12_landing yX12_landing ∈ lw_g := lw_m (List.mem_append_left _ (List.mem_of_getElem? (i := 116) rfl)) rfl
theorem ws_X12_X12_becomes_X12_becomes : Cond.selects RX12 yX12_becomes yX12_becomes ∈ lw_g := lw_m (List.mem_append_left _ (List.mem_of_getElem? (i := 117) rfl)) rfl
theorem ws_X12_X12_isHeight_X12_isHeight : Cond.selects RX12 yX12_isHeight yX12_isHeight ∈ lw_g := lw_m (List.mem_append_left _ (List.mem_of_getElem? (i := 118) rfl)) rfl
theorem ws_X12_X12_props_X12_props : Cond.selects RX12 yX12_props yX12_props ∈ lw_g := lw_m (List.mem_append_left _ (List.mem_of_getElem? (i := 119) rfl)) rfl
theorem ws_X12_X12_whyNoWay_X12_whyNoWay : Cond.selects RX12 yX12_whyNoWay yX12_whyNoWay ∈ lw_g := lw_m (List.mem_append_left _ (List.mem_of_getElem? (i := 120) rfl)) rfl
theorem ws_X12_X12_laysWays_X12_laysWays : Cond.selects RX12 yX12_laysWays yX12_laysWays ∈ lw_g := lw_m (List.mem_append_left _ (List.mem_of_getElem? (i := 121) rfl)) rfl
theorem ws_X12_X12_isNearTo_X12_isNearTo : Cond.selects RX12 yX12_isNearTo yX12_isNearTo ∈ lw_g := lw_m (List.mem_append_left _ (List.mem_of_getElem? (i := 122) rfl)) rfl
theorem ws_X12_X12_endOf_X12_endOf : Cond.selects RX12 yX12_endOf yX12_endOf ∈ lw_g := lw_m (List.mem_append_left _ (List.mem_of_getElem? (i := 123) rfl)) rfl
theorem ws_X12_X12_firstSaying_X12_firstSaying : Cond.selects RX12 yX12_firstSaying yX12_firstSaying ∈ lw_g := lw_m (List.mem_append_left _ (List.mem_of_getElem? (i := 124) rfl)) rfl
theorem ws_X12_X12_couplesTo_X12_couplesTo : Cond.selects RX12 yX12_couplesTo yX12_couplesTo ∈ lw_g := lw_m (List.mem_append_left _ (List.mem_of_getElem? (i := 125) rfl)) rfl
theorem ws_X12_X12_fraction_X12_fraction : Cond.selects RX12 yX12_fraction yX12_fraction ∈ lw_g := lw_m (List.mem_append_left _ (List.mem_of_getElem? (i := 126) rfl)) rfl
theorem ws_X12_X12_whyNoLaw_X12_whyNoLaw : Cond.selects RX12 yX12_whyNoLaw yX12_whyNoLaw ∈ lw_g := lw_m (List.mem_append_left _ (List.mem_of_getElem? (i := 127) rfl)) rfl
theorem ws_X12_X12_numberOf_X12_numberOf : Cond.selects RX12 yX12_numberOf yX12_numberOf ∈ lw_g := lw_m (List.mem_append_left _ (List.mem_of_getElem? (i := 128) rfl)) rfl
theorem ws_X12_X12_laysLaws_X12_laysLaws : Cond.selects RX12 yX12_laysLaws yX12_laysLaws ∈ lw_g := lw_m (List.mem_append_left _ (List.mem_of_getElem? (i := 129) rfl)) rfl
theorem ws_X12_X12_mostAlike_X12_mostAlike : Cond.selects RX12 yX12_mostAlike yX12_mostAlike ∈ lw_g := lw_m (List.mem_append_left _ (List.mem_of_getElem? (i := 130) rfl)) rfl
theorem ws_X12_X12_whyNoBest_X12_whyNoBest : Cond.selects RX12 yX12_whyNoBest yX12_whyNoBest ∈ lw_g := lw_m (List.mem_append_left _ (List.mem_of_getElem? (i := 131) rfl)) rfl
theorem ws_X12_X12_laysBest_X12_laysBest : Cond.selects RX12 yX12_laysBest yX12_laysBest ∈ lw_g := lw_m (List.mem_append_left _ (List.mem_of_getElem? (i := 132) rfl)) rfl
theorem ws_X12_X12_worthAt_X12_worthAt : Cond.selects RX12 yX12_worthAt yX12_worthAt ∈ lw_g := lw_m (List.mem_append_left _ (List.mem_of_getElem? (i := 133) rfl)) rfl
theorem ws_X12_X12_laysQuarrels_X12_laysQuarrels : Cond.selects RX12 yX12_laysQuarrels yX12_laysQuarrels ∈ lw_g := lw_m (List.mem_append_left _ (List.mem_of_getElem? (i := 134) rfl)) rfl
theorem ws_X12_X12_laysTopics_X12_laysTopics : Cond.selects RX12 yX12_laysTopics yX12_laysTopics ∈ lw_g := lw_m (List.mem_append_left _ (List.mem_of_getElem? (i := 135) rfl)) rfl
theorem ws_X12_X12_laysSeats_X12_laysSeats : Cond.selects RX12 yX12_laysSeats yX12_laysSeats ∈ lw_g := lw_m (List.mem_append_left _ (List.mem_of_getElem? (i := 136) rfl)) rfl
theorem ws_X12_X12_seats_X12_seats : Cond.selects RX12 yX12_seats yX12_seats ∈ lw_g := lw_m (List.mem_append_left _ (List.mem_of_getElem? (i := 137) rfl)) rfl
theorem ws_X12_X12_besideNow_X12_besideNow : Cond.selects RX12 yX12_besideNow yX12_besideNow ∈ lw_g := lw_m (List.mem_append_left _ (List.mem_of_getElem? (i := 138) rfl)) rfl
theorem ws_X12_X12_isBeside_X12_isBeside : Cond.selects RX12 yX12_isBeside yX12_isBeside ∈ lw_g := lw_m (List.mem_append_left _ (List.mem_of_getElem? (i := 139) rfl)) rfl
theorem ws_X12_X12_whyNoGame_X12_whyNoGame : Cond.selects RX12 yX12_whyNoGame yX12_whyNoGame ∈ lw_g := lw_m (List.mem_append_left _ (List.mem_of_getElem? (i := 140) rfl)) rfl
theorem ws_X12_X12_plays_X12_plays : Cond.selects RX12 yX12_plays yX12_plays ∈ lw_g := lw_m (List.mem_append_left _ (List.mem_of_getElem? (i := 141) rfl)) rfl
theorem ws_X12_X12_runsEvenings_X12_runsEvenings : Cond.selects RX12 yX12_runsEvenings yX12_runsEvenings ∈ lw_g := lw_m (List.mem_append_left _ (List.mem_of_getElem? (i := 142) rfl)) rfl
theorem ws_X12_X12_doAll_X12_doAll : Cond.selects RX12 yX12_doAll yX12_doAll ∈ lw_g := lw_m (List.mem_append_left _ (List.mem_of_getElem? (i := 143) rfl)) rfl
theorem ws_X12_X12_doOne_X12_doOne : Cond.selects RX12 yX12_doOne yX12_doOne ∈ lw_g := lw_m (List.mem_append_left _ (List.mem_of_getElem? (i := 144) rfl)) rfl
theorem ws_X12_X12_does_X12_does : Cond.selects RX12 yX12_does yX12_does ∈ lw_g := lw_m (List.mem_append_left _ (List.mem_of_getElem? (i := 145) rfl)) rfl
theorem ws_X12_X12_isSaid_X12_isSaid : Cond.selects RX12 yX12_isSaid yX12_isSaid ∈ lw_g := lw_m (List.mem_append_left _ (List.mem_of_getElem? (i := 146) rfl)) rfl
theorem ws_X12_X12_isPulled_X12_isPulled : Cond.selects RX12 yX12_isPulled yX12_isPulled ∈ lw_g := lw_m (List.mem_append_left _ (List.mem_of_getElem? (i := 147) rfl)) rfl
theorem ws_X12_X12_draw_X12_draw : Cond.selects RX12 yX12_draw yX12_draw ∈ lw_g := lw_m (List.mem_append_left _ (List.mem_of_getElem? (i := 148) rfl)) rfl
theorem ws_X12_X12_isAny_X12_isAny : Cond.selects RX12 yX12_isAny yX12_isAny ∈ lw_g := lw_m (List.mem_append_left _ (List.mem_of_getElem? (i := 149) rfl)) rfl
theorem ws_X12_X12_holds_X12_holds : Cond.selects RX12 yX12_holds yX12_holds ∈ lw_g := lw_m (List.mem_append_left _ (List.mem_of_getElem? (i := 150) rfl)) rfl
theorem i0_X0 : ∀ w ∈ u_ws RX0 TX0 10, w ∈ lw_tbl := by decide +kernel
theorem i1_X0 : (u_ws RX0 TX0 10).all goodWord = true := by decide +kernel
theorem i_X0 : ∀ w ∈ u_ws RX0 TX0 10, w ∈ lw_g := fun w h => lw_m (i0_X0 w h) (List.all_eq_true.mp i1_X0 w h)
theorem i0_X1 : ∀ w ∈ u_ws RX1 TX1 8, w ∈ lw_tbl := by decide +kernel
theorem i1_X1 : (u_ws RX1 TX1 8).all goodWord = true := by decide +kernel
theorem i_X1 : ∀ w ∈ u_ws RX1 TX1 8, w ∈ lw_g := fun w h => lw_m (i0_X1 w h) (List.all_eq_true.mp i1_X1 w h)
theorem i0_X2 : ∀ w ∈ u_ws RX2 TX2 15, w ∈ lw_tbl := by decide +kernel
theorem i1_X2 : (u_ws RX2 TX2 15).all goodWord = true := by decide +kernel
theorem i_X2 : ∀ w ∈ u_ws RX2 TX2 15, w ∈ lw_g := fun w h => lw_m (i0_X2 w h) (List.all_eq_true.mp i1_X2 w h)
theorem i0_X3 : ∀ w ∈ u_ws RX3 TX3 6, w ∈ lw_tbl := by decide +kernel
theorem i1_X3 : (u_ws RX3 TX3 6).all goodWord = true := by decide +kernel
theorem i_X3 : ∀ w ∈ u_ws RX3 TX3 6, w ∈ lw_g := fun w h => lw_m (i0_X3 w h) (List.all_eq_true.mp i1_X3 w h)
theorem i0_X5 : ∀ w ∈ u_ws RX5 TX5 4, w ∈ lw_tbl := by decide +kernel
theorem i1_X5 : (u_ws RX5 TX5 4).all goodWord = true := by decide +kernel
theorem i_X5 : ∀ w ∈ u_ws RX5 TX5 4, w ∈ lw_g := fun w h => lw_m (i0_X5 w h) (List.all_eq_true.mp i1_X5 w h)
theorem i0_X6 : ∀ w ∈ u_ws RX6 TX6 2, w ∈ lw_tbl := by decide +kernel
theorem i1_X6 : (u_ws RX6 TX6 2).all goodWord = true := by decide +kernel
theorem i_X6 : ∀ w ∈ u_ws RX6 TX6 2, w ∈ lw_g := fun w h => lw_m (i0_X6 w h) (List.all_eq_true.mp i1_X6 w h)
theorem i0_X7 : ∀ w ∈ u_ws RX7 TX7 18, w ∈ lw_tbl := by decide +kernel
theorem i1_X7 : (u_ws RX7 TX7 18).all goodWord = true := by decide +kernel
theorem i_X7 : ∀ w ∈ u_ws RX7 TX7 18, w ∈ lw_g := fun w h => lw_m (i0_X7 w h) (List.all_eq_true.mp i1_X7 w h)
theorem i0_X8 : ∀ w ∈ u_ws RX8 TX8 13, w ∈ lw_tbl := by decide +kernel
theorem i1_X8 : (u_ws RX8 TX8 13).all goodWord = true := by decide +kernel
theorem i_X8 : ∀ w ∈ u_ws RX8 TX8 13, w ∈ lw_g := fun w h => lw_m (i0_X8 w h) (List.all_eq_true.mp i1_X8 w h)
theorem i0_X9 : ∀ w ∈ u_ws RX9 TX9 3, w ∈ lw_tbl := by decide +kernel
theorem i1_X9 : (u_ws RX9 TX9 3).all goodWord = true := by decide +kernel
theorem i_X9 : ∀ w ∈ u_ws RX9 TX9 3, w ∈ lw_g := fun w h => lw_m (i0_X9 w h) (List.all_eq_true.mp i1_X9 w h)
theorem i0_X10 : ∀ w ∈ u_ws RX10 TX10 4, w ∈ lw_tbl := by decide +kernel
theorem i1_X10 : (u_ws RX10 TX10 4).all goodWord = true := by decide +kernel
theorem i_X10 : ∀ w ∈ u_ws RX10 TX10 4, w ∈ lw_g := fun w h => lw_m (i0_X10 w h) (List.all_eq_true.mp i1_X10 w h)
theorem i0_X11 : ∀ w ∈ u_ws RX11 TX11 20, w ∈ lw_tbl := by decide +kernel
theorem i1_X11 : (u_ws RX11 TX11 20).all goodWord = true := by decide +kernel
theorem i_X11 : ∀ w ∈ u_ws RX11 TX11 20, w ∈ lw_g := fun w h => lw_m (i0_X11 w h) (List.all_eq_true.mp i1_X11 w h)
theorem i0_X12 : ∀ w ∈ u_ws RX12 TX12 49, w ∈ lw_tbl := by decide +kernel
theorem i1_X12 : (u_ws RX12 TX12 49).all goodWord = true := by decide +kernel
theorem i_X12 : ∀ w ∈ u_ws RX12 TX12 49, w ∈ lw_g := fun w h => lw_m (i0_X12 w h) (List.all_eq_true.mp i1_X12 w h)

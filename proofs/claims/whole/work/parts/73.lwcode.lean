/-! The law's own code (by program: wip/whole/lawgen.py) -/
abbrev c_Lw_craft : ByteArray := method_3_code
abbrev m_Lw_craft : mj_N := (⟨"StreamWatchLaw", "craft", "(LStreamWatch;IIIIIJ[J)I"⟩, c_Lw_craft, 10, some .int)
abbrev c_Lw_rule : ByteArray := method_4_code
abbrev m_Lw_rule : mj_N := (⟨"StreamWatchLaw", "rule", "(LStreamWatch;II[J)I"⟩, c_Lw_rule, 5, some .int)
abbrev c_Lw_option : ByteArray := method_5_code
abbrev m_Lw_option : mj_N := (⟨"StreamWatchLaw", "option", "(LStreamWatch;IJIII[J)I"⟩, c_Lw_option, 9, some .int)
abbrev c_Lw_law : ByteArray := code
abbrev m_Lw_law : mj_N := (⟨"StreamWatchLaw", "law", "([I)Z"⟩, c_Lw_law, 7, some .boolean)
theorem i_Lw_cell_0 : mj_Snd zG ("StreamWatchLaw", "cell", c_Lw_cell, 2) 0 (x_iload 1) 1 := mj_iload_n (j := 1) rfl (by decide +kernel)
theorem i_Lw_cell_1 : mj_Snd zG ("StreamWatchLaw", "cell", c_Lw_cell, 2) 1 (x_aload 0) 2 := mj_aload_n (j := 0) rfl (by decide +kernel)
theorem d_Lw_cell_2 : decode c_Lw_cell 2 = .ok (.arraylength, 1) := by decide +kernel
theorem d_Lw_cell_3 : decode c_Lw_cell 3 = .ok (.if_icmp .ge 9, 3) := by decide +kernel
theorem i_Lw_cell_6 : mj_Snd zG ("StreamWatchLaw", "cell", c_Lw_cell, 2) 6 (x_aload 0) 7 := mj_aload_n (j := 0) rfl (by decide +kernel)
theorem i_Lw_cell_7 : mj_Snd zG ("StreamWatchLaw", "cell", c_Lw_cell, 2) 7 (x_iload 1) 8 := mj_iload_n (j := 1) rfl (by decide +kernel)
theorem d_Lw_cell_8 : decode c_Lw_cell 8 = .ok (.iaload, 1) := by decide +kernel
theorem i_Lw_cell_9 : mj_Snd zG ("StreamWatchLaw", "cell", c_Lw_cell, 2) 9 (x_skip) 13 := mj_goto (off := 4) (by decide) (by decide +kernel)
theorem i_Lw_cell_12 : mj_Snd zG ("StreamWatchLaw", "cell", c_Lw_cell, 2) 12 (x_const 0) 13 := mj_const (n := 0) (by decide) (by decide +kernel)
theorem d_Lw_cell_13 : decode c_Lw_cell 13 = .ok (.ireturn, 1) := by decide +kernel
theorem b_Lw_cell_0 : mj_Ch zG ("StreamWatchLaw", "cell", c_Lw_cell, 2) 0 [x_iload 1, x_aload 0] 2 := ⟨_, i_Lw_cell_0, _, i_Lw_cell_1, rfl⟩
theorem b_Lw_cell_6 : mj_Ch zG ("StreamWatchLaw", "cell", c_Lw_cell, 2) 6 [x_aload 0, x_iload 1] 8 := ⟨_, i_Lw_cell_6, _, i_Lw_cell_7, rfl⟩
theorem b_Lw_cell_9 : mj_Ch zG ("StreamWatchLaw", "cell", c_Lw_cell, 2) 9 [x_skip] 13 := ⟨_, i_Lw_cell_9, rfl⟩
theorem b_Lw_cell_12 : mj_Ch zG ("StreamWatchLaw", "cell", c_Lw_cell, 2) 12 [x_const 0] 13 := ⟨_, i_Lw_cell_12, rfl⟩
theorem i_Lw_craft_0 : mj_Snd zG ("StreamWatchLaw", "craft", c_Lw_craft, 10) 0 (x_aload 8) 2 := mj_aload (by decide +kernel)
theorem i_Lw_craft_2 : mj_Snd zG ("StreamWatchLaw", "craft", c_Lw_craft, 10) 2 (x_const 0) 3 := mj_const (n := 0) (by decide) (by decide +kernel)
theorem i_Lw_craft_3 : mj_Snd zG ("StreamWatchLaw", "craft", c_Lw_craft, 10) 3 (x_aload 0) 4 := mj_aload_n (j := 0) rfl (by decide +kernel)
theorem i_Lw_craft_4 : mj_Snd zG ("StreamWatchLaw", "craft", c_Lw_craft, 10) 4 (x_iload 1) 5 := mj_iload_n (j := 1) rfl (by decide +kernel)
theorem i_Lw_craft_5 : mj_Snd zG ("StreamWatchLaw", "craft", c_Lw_craft, 10) 5 (x_iload 2) 6 := mj_iload_n (j := 2) rfl (by decide +kernel)
theorem i_Lw_craft_6 : mj_Snd zG ("StreamWatchLaw", "craft", c_Lw_craft, 10) 6 (x_iload 3) 7 := mj_iload_n (j := 3) rfl (by decide +kernel)
theorem i_Lw_craft_7 : mj_Snd zG ("StreamWatchLaw", "craft", c_Lw_craft, 10) 7 (x_iload 4) 9 := mj_iload (by decide +kernel)
theorem i_Lw_craft_9 : mj_Snd zG ("StreamWatchLaw", "craft", c_Lw_craft, 10) 9 (x_iload 5) 11 := mj_iload (by decide +kernel)
theorem i_Lw_craft_11 : mj_Snd zG ("StreamWatchLaw", "craft", c_Lw_craft, 10) 11 (x_lload 6) 13 := mj_lload (by decide +kernel)
theorem d_Lw_craft_13 : decode c_Lw_craft 13 = .ok (.invokevirtual 7, 3) := by decide +kernel
theorem i_Lw_craft_16 : mj_Snd zG ("StreamWatchLaw", "craft", c_Lw_craft, 10) 16 (x_i2l) 17 := mj_i2l (by decide +kernel)
theorem d_Lw_craft_17 : decode c_Lw_craft 17 = .ok (.lastore, 1) := by decide +kernel
theorem i_Lw_craft_18 : mj_Snd zG ("StreamWatchLaw", "craft", c_Lw_craft, 10) 18 (x_skip) 25 := mj_goto (off := 7) (by decide) (by decide +kernel)
theorem i_Lw_craft_21 : mj_Snd zG ("StreamWatchLaw", "craft", c_Lw_craft, 10) 21 (x_astore 9) 23 := mj_astore (by decide) (by decide +kernel)
theorem i_Lw_craft_23 : mj_Snd zG ("StreamWatchLaw", "craft", c_Lw_craft, 10) 23 (x_const 1) 24 := mj_const (n := 1) (by decide) (by decide +kernel)
theorem d_Lw_craft_24 : decode c_Lw_craft 24 = .ok (.ireturn, 1) := by decide +kernel
theorem i_Lw_craft_25 : mj_Snd zG ("StreamWatchLaw", "craft", c_Lw_craft, 10) 25 (x_const 0) 26 := mj_const (n := 0) (by decide) (by decide +kernel)
theorem d_Lw_craft_26 : decode c_Lw_craft 26 = .ok (.ireturn, 1) := by decide +kernel
theorem b_Lw_craft_0 : mj_Ch zG ("StreamWatchLaw", "craft", c_Lw_craft, 10) 0 [x_aload 8, x_const 0, x_aload 0, x_iload 1, x_iload 2, x_iload 3, x_iload 4, x_iload 5, x_lload 6] 13 := ⟨_, i_Lw_craft_0, _, i_Lw_craft_2, _, i_Lw_craft_3, _, i_Lw_craft_4, _, i_Lw_craft_5, _, i_Lw_craft_6, _, i_Lw_craft_7, _, i_Lw_craft_9, _, i_Lw_craft_11, rfl⟩
theorem b_Lw_craft_16 : mj_Ch zG ("StreamWatchLaw", "craft", c_Lw_craft, 10) 16 [x_i2l] 17 := ⟨_, i_Lw_craft_16, rfl⟩
theorem b_Lw_craft_18 : mj_Ch zG ("StreamWatchLaw", "craft", c_Lw_craft, 10) 18 [x_skip] 25 := ⟨_, i_Lw_craft_18, rfl⟩
theorem b_Lw_craft_25 : mj_Ch zG ("StreamWatchLaw", "craft", c_Lw_craft, 10) 25 [x_const 0] 26 := ⟨_, i_Lw_craft_25, rfl⟩
theorem i_Lw_rule_0 : mj_Snd zG ("StreamWatchLaw", "rule", c_Lw_rule, 5) 0 (x_aload 3) 1 := mj_aload_n (j := 3) rfl (by decide +kernel)
theorem i_Lw_rule_1 : mj_Snd zG ("StreamWatchLaw", "rule", c_Lw_rule, 5) 1 (x_const 0) 2 := mj_const (n := 0) (by decide) (by decide +kernel)
theorem i_Lw_rule_2 : mj_Snd zG ("StreamWatchLaw", "rule", c_Lw_rule, 5) 2 (x_aload 0) 3 := mj_aload_n (j := 0) rfl (by decide +kernel)
theorem i_Lw_rule_3 : mj_Snd zG ("StreamWatchLaw", "rule", c_Lw_rule, 5) 3 (x_iload 1) 4 := mj_iload_n (j := 1) rfl (by decide +kernel)
theorem i_Lw_rule_4 : mj_Snd zG ("StreamWatchLaw", "rule", c_Lw_rule, 5) 4 (x_iload 2) 5 := mj_iload_n (j := 2) rfl (by decide +kernel)
theorem d_Lw_rule_5 : decode c_Lw_rule 5 = .ok (.invokevirtual 15, 3) := by decide +kernel
theorem i_Lw_rule_8 : mj_Snd zG ("StreamWatchLaw", "rule", c_Lw_rule, 5) 8 (x_i2l) 9 := mj_i2l (by decide +kernel)
theorem d_Lw_rule_9 : decode c_Lw_rule 9 = .ok (.lastore, 1) := by decide +kernel
theorem i_Lw_rule_10 : mj_Snd zG ("StreamWatchLaw", "rule", c_Lw_rule, 5) 10 (x_skip) 21 := mj_goto (off := 11) (by decide) (by decide +kernel)
theorem i_Lw_rule_13 : mj_Snd zG ("StreamWatchLaw", "rule", c_Lw_rule, 5) 13 (x_astore 4) 15 := mj_astore (by decide) (by decide +kernel)
theorem i_Lw_rule_15 : mj_Snd zG ("StreamWatchLaw", "rule", c_Lw_rule, 5) 15 (x_const 1) 16 := mj_const (n := 1) (by decide) (by decide +kernel)
theorem d_Lw_rule_16 : decode c_Lw_rule 16 = .ok (.ireturn, 1) := by decide +kernel
theorem i_Lw_rule_17 : mj_Snd zG ("StreamWatchLaw", "rule", c_Lw_rule, 5) 17 (x_astore 4) 19 := mj_astore (by decide) (by decide +kernel)
theorem i_Lw_rule_19 : mj_Snd zG ("StreamWatchLaw", "rule", c_Lw_rule, 5) 19 (x_const 2) 20 := mj_const (n := 2) (by decide) (by decide +kernel)
theorem d_Lw_rule_20 : decode c_Lw_rule 20 = .ok (.ireturn, 1) := by decide +kernel
theorem i_Lw_rule_21 : mj_Snd zG ("StreamWatchLaw", "rule", c_Lw_rule, 5) 21 (x_const 0) 22 := mj_const (n := 0) (by decide) (by decide +kernel)
theorem d_Lw_rule_22 : decode c_Lw_rule 22 = .ok (.ireturn, 1) := by decide +kernel
theorem b_Lw_rule_0 : mj_Ch zG ("StreamWatchLaw", "rule", c_Lw_rule, 5) 0 [x_aload 3, x_const 0, x_aload 0, x_iload 1, x_iload 2] 5 := ⟨_, i_Lw_rule_0, _, i_Lw_rule_1, _, i_Lw_rule_2, _, i_Lw_rule_3, _, i_Lw_rule_4, rfl⟩
theorem b_Lw_rule_8 : mj_Ch zG ("StreamWatchLaw", "rule", c_Lw_rule, 5) 8 [x_i2l] 9 := ⟨_, i_Lw_rule_8, rfl⟩
theorem b_Lw_rule_10 : mj_Ch zG ("StreamWatchLaw", "rule", c_Lw_rule, 5) 10 [x_skip] 21 := ⟨_, i_Lw_rule_10, rfl⟩
theorem b_Lw_rule_17 : mj_Ch zG ("StreamWatchLaw", "rule", c_Lw_rule, 5) 17 [x_astore 4, x_const 2] 20 := ⟨_, i_Lw_rule_17, _, i_Lw_rule_19, rfl⟩
theorem b_Lw_rule_21 : mj_Ch zG ("StreamWatchLaw", "rule", c_Lw_rule, 5) 21 [x_const 0] 22 := ⟨_, i_Lw_rule_21, rfl⟩
theorem i_Lw_option_0 : mj_Snd zG ("StreamWatchLaw", "option", c_Lw_option, 9) 0 (x_aload 7) 2 := mj_aload (by decide +kernel)
theorem i_Lw_option_2 : mj_Snd zG ("StreamWatchLaw", "option", c_Lw_option, 9) 2 (x_const 0) 3 := mj_const (n := 0) (by decide) (by decide +kernel)
theorem i_Lw_option_3 : mj_Snd zG ("StreamWatchLaw", "option", c_Lw_option, 9) 3 (x_aload 0) 4 := mj_aload_n (j := 0) rfl (by decide +kernel)
theorem i_Lw_option_4 : mj_Snd zG ("StreamWatchLaw", "option", c_Lw_option, 9) 4 (x_iload 1) 5 := mj_iload_n (j := 1) rfl (by decide +kernel)
theorem i_Lw_option_5 : mj_Snd zG ("StreamWatchLaw", "option", c_Lw_option, 9) 5 (x_lload 2) 6 := mj_lload_n (j := 2) rfl (by decide +kernel)
theorem i_Lw_option_6 : mj_Snd zG ("StreamWatchLaw", "option", c_Lw_option, 9) 6 (x_iload 4) 8 := mj_iload (by decide +kernel)
theorem i_Lw_option_8 : mj_Snd zG ("StreamWatchLaw", "option", c_Lw_option, 9) 8 (x_iload 5) 10 := mj_iload (by decide +kernel)
theorem i_Lw_option_10 : mj_Snd zG ("StreamWatchLaw", "option", c_Lw_option, 9) 10 (x_iload 6) 12 := mj_iload (by decide +kernel)
theorem d_Lw_option_12 : decode c_Lw_option 12 = .ok (.invokevirtual 21, 3) := by decide +kernel
theorem i_Lw_option_15 : mj_Snd zG ("StreamWatchLaw", "option", c_Lw_option, 9) 15 (x_i2l) 16 := mj_i2l (by decide +kernel)
theorem d_Lw_option_16 : decode c_Lw_option 16 = .ok (.lastore, 1) := by decide +kernel
theorem i_Lw_option_17 : mj_Snd zG ("StreamWatchLaw", "option", c_Lw_option, 9) 17 (x_skip) 28 := mj_goto (off := 11) (by decide) (by decide +kernel)
theorem i_Lw_option_20 : mj_Snd zG ("StreamWatchLaw", "option", c_Lw_option, 9) 20 (x_astore 8) 22 := mj_astore (by decide) (by decide +kernel)
theorem i_Lw_option_22 : mj_Snd zG ("StreamWatchLaw", "option", c_Lw_option, 9) 22 (x_const 1) 23 := mj_const (n := 1) (by decide) (by decide +kernel)
theorem d_Lw_option_23 : decode c_Lw_option 23 = .ok (.ireturn, 1) := by decide +kernel
theorem i_Lw_option_24 : mj_Snd zG ("StreamWatchLaw", "option", c_Lw_option, 9) 24 (x_astore 8) 26 := mj_astore (by decide) (by decide +kernel)
theorem i_Lw_option_26 : mj_Snd zG ("StreamWatchLaw", "option", c_Lw_option, 9) 26 (x_const 2) 27 := mj_const (n := 2) (by decide) (by decide +kernel)
theorem d_Lw_option_27 : decode c_Lw_option 27 = .ok (.ireturn, 1) := by decide +kernel
theorem i_Lw_option_28 : mj_Snd zG ("StreamWatchLaw", "option", c_Lw_option, 9) 28 (x_const 0) 29 := mj_const (n := 0) (by decide) (by decide +kernel)
theorem d_Lw_option_29 : decode c_Lw_option 29 = .ok (.ireturn, 1) := by decide +kernel
theorem b_Lw_option_0 : mj_Ch zG ("StreamWatchLaw", "option", c_Lw_option, 9) 0 [x_aload 7, x_const 0, x_aload 0, x_iload 1, x_lload 2, x_iload 4, x_iload 5, x_iload 6] 12 := ⟨_, i_Lw_option_0, _, i_Lw_option_2, _, i_Lw_option_3, _, i_Lw_option_4, _, i_Lw_option_5, _, i_Lw_option_6, _, i_Lw_option_8, _, i_Lw_option_10, rfl⟩
theorem b_Lw_option_15 : mj_Ch zG ("StreamWatchLaw", "option", c_Lw_option, 9) 15 [x_i2l] 16 := ⟨_, i_Lw_option_15, rfl⟩
theorem b_Lw_option_17 : mj_Ch zG ("StreamWatchLaw", "option", c_Lw_option, 9) 17 [x_skip] 28 := ⟨_, i_Lw_option_17, rfl⟩
theorem b_Lw_option_24 : mj_Ch zG ("StreamWatchLaw", "option", c_Lw_option, 9) 24 [x_astore 8, x_const 2] 27 := ⟨_, i_Lw_option_24, _, i_Lw_option_26, rfl⟩
theorem b_Lw_option_28 : mj_Ch zG ("StreamWatchLaw", "option", c_Lw_option, 9) 28 [x_const 0] 29 := ⟨_, i_Lw_option_28, rfl⟩
theorem d_Lw_law_0 : decode c_Lw_law 0 = .ok (.new 8, 3) := by decide +kernel
theorem i_Lw_law_3 : mj_Snd zG ("StreamWatchLaw", "law", c_Lw_law, 7) 3 (x_dup) 4 := mj_dup (by decide +kernel)
theorem i_Lw_law_4 : mj_Snd zG ("StreamWatchLaw", "law", c_Lw_law, 7) 4 (x_aload 0) 5 := mj_aload_n (j := 0) rfl (by decide +kernel)
theorem i_Lw_law_5 : mj_Snd zG ("StreamWatchLaw", "law", c_Lw_law, 7) 5 (x_const 0) 6 := mj_const (n := 0) (by decide) (by decide +kernel)
theorem d_Lw_law_6 : decode c_Lw_law 6 = .ok (.invokestatic 25, 3) := by decide +kernel
theorem d_Lw_law_9 : decode c_Lw_law 9 = .ok (.invokespecial 31, 3) := by decide +kernel
theorem i_Lw_law_12 : mj_Snd zG ("StreamWatchLaw", "law", c_Lw_law, 7) 12 (x_astore 1) 13 := mj_astore_n (j := 1) rfl (by decide) (by decide +kernel)
theorem d_Lw_law_13 : decode c_Lw_law 13 = .ok (.new 34, 3) := by decide +kernel
theorem i_Lw_law_16 : mj_Snd zG ("StreamWatchLaw", "law", c_Lw_law, 7) 16 (x_dup) 17 := mj_dup (by decide +kernel)
theorem i_Lw_law_17 : mj_Snd zG ("StreamWatchLaw", "law", c_Lw_law, 7) 17 (x_aload 0) 18 := mj_aload_n (j := 0) rfl (by decide +kernel)
theorem i_Lw_law_18 : mj_Snd zG ("StreamWatchLaw", "law", c_Lw_law, 7) 18 (x_const 0) 19 := mj_const (n := 0) (by decide) (by decide +kernel)
theorem d_Lw_law_19 : decode c_Lw_law 19 = .ok (.invokestatic 25, 3) := by decide +kernel
theorem d_Lw_law_22 : decode c_Lw_law 22 = .ok (.invokespecial 36, 3) := by decide +kernel
theorem i_Lw_law_25 : mj_Snd zG ("StreamWatchLaw", "law", c_Lw_law, 7) 25 (x_astore 2) 26 := mj_astore_n (j := 2) rfl (by decide) (by decide +kernel)
theorem i_Lw_law_26 : mj_Snd zG ("StreamWatchLaw", "law", c_Lw_law, 7) 26 (x_const 1) 27 := mj_const (n := 1) (by decide) (by decide +kernel)
theorem d_Lw_law_27 : decode c_Lw_law 27 = .ok (.newarray .long, 2) := by decide +kernel
theorem i_Lw_law_29 : mj_Snd zG ("StreamWatchLaw", "law", c_Lw_law, 7) 29 (x_astore 3) 30 := mj_astore_n (j := 3) rfl (by decide) (by decide +kernel)
theorem i_Lw_law_30 : mj_Snd zG ("StreamWatchLaw", "law", c_Lw_law, 7) 30 (x_const 1) 31 := mj_const (n := 1) (by decide) (by decide +kernel)
theorem i_Lw_law_31 : mj_Snd zG ("StreamWatchLaw", "law", c_Lw_law, 7) 31 (x_istore 4) 33 := mj_istore (by decide) (by decide +kernel)
theorem i_Lw_law_33 : mj_Snd zG ("StreamWatchLaw", "law", c_Lw_law, 7) 33 (x_iload 4) 35 := mj_iload (by decide +kernel)
theorem i_Lw_law_35 : mj_Snd zG ("StreamWatchLaw", "law", c_Lw_law, 7) 35 (x_aload 0) 36 := mj_aload_n (j := 0) rfl (by decide +kernel)
theorem d_Lw_law_36 : decode c_Lw_law 36 = .ok (.arraylength, 1) := by decide +kernel
theorem i_Lw_law_37 : mj_Snd zG ("StreamWatchLaw", "law", c_Lw_law, 7) 37 (x_const 8) 39 := mj_bipush (n := 8) (by decide) (by decide +kernel)
theorem i_Lw_law_39 : mj_Snd zG ("StreamWatchLaw", "law", c_Lw_law, 7) 39 (x_isub) 40 := mj_isub (by decide +kernel)
theorem d_Lw_law_40 : decode c_Lw_law 40 = .ok (.if_icmp .gt 797, 3) := by decide +kernel
theorem i_Lw_law_43 : mj_Snd zG ("StreamWatchLaw", "law", c_Lw_law, 7) 43 (x_aload 0) 44 := mj_aload_n (j := 0) rfl (by decide +kernel)
theorem i_Lw_law_44 : mj_Snd zG ("StreamWatchLaw", "law", c_Lw_law, 7) 44 (x_iload 4) 46 := mj_iload (by decide +kernel)
theorem d_Lw_law_46 : decode c_Lw_law 46 = .ok (.iaload, 1) := by decide +kernel
theorem i_Lw_law_47 : mj_Snd zG ("StreamWatchLaw", "law", c_Lw_law, 7) 47 (x_const 15) 49 := mj_bipush (n := 15) (by decide) (by decide +kernel)
theorem i_Lw_law_49 : mj_Snd zG ("StreamWatchLaw", "law", c_Lw_law, 7) 49 (x_iand) 50 := mj_iand (by decide +kernel)
theorem d_Lw_law_50 : decode c_Lw_law 50 = .ok (.tableswitch 781 0 13 #[70, 222, 259, 270, 339, 352, 377, 390, 458, 596, 633, 682, 731, 744], 70) := by decide +kernel
theorem i_Lw_law_120 : mj_Snd zG ("StreamWatchLaw", "law", c_Lw_law, 7) 120 (x_aload 1) 121 := mj_aload_n (j := 1) rfl (by decide +kernel)
theorem i_Lw_law_121 : mj_Snd zG ("StreamWatchLaw", "law", c_Lw_law, 7) 121 (x_aload 0) 122 := mj_aload_n (j := 0) rfl (by decide +kernel)
theorem i_Lw_law_122 : mj_Snd zG ("StreamWatchLaw", "law", c_Lw_law, 7) 122 (x_iload 4) 124 := mj_iload (by decide +kernel)
theorem i_Lw_law_124 : mj_Snd zG ("StreamWatchLaw", "law", c_Lw_law, 7) 124 (x_const 1) 125 := mj_const (n := 1) (by decide) (by decide +kernel)
theorem i_Lw_law_125 : mj_Snd zG ("StreamWatchLaw", "law", c_Lw_law, 7) 125 (x_iadd) 126 := mj_iadd (by decide +kernel)
theorem d_Lw_law_126 : decode c_Lw_law 126 = .ok (.iaload, 1) := by decide +kernel
theorem i_Lw_law_127 : mj_Snd zG ("StreamWatchLaw", "law", c_Lw_law, 7) 127 (x_aload 0) 128 := mj_aload_n (j := 0) rfl (by decide +kernel)
theorem i_Lw_law_128 : mj_Snd zG ("StreamWatchLaw", "law", c_Lw_law, 7) 128 (x_iload 4) 130 := mj_iload (by decide +kernel)
theorem i_Lw_law_130 : mj_Snd zG ("StreamWatchLaw", "law", c_Lw_law, 7) 130 (x_const 2) 131 := mj_const (n := 2) (by decide) (by decide +kernel)
theorem i_Lw_law_131 : mj_Snd zG ("StreamWatchLaw", "law", c_Lw_law, 7) 131 (x_iadd) 132 := mj_iadd (by decide +kernel)
theorem d_Lw_law_132 : decode c_Lw_law 132 = .ok (.iaload, 1) := by decide +kernel
theorem i_Lw_law_133 : mj_Snd zG ("StreamWatchLaw", "law", c_Lw_law, 7) 133 (x_aload 0) 134 := mj_aload_n (j := 0) rfl (by decide +kernel)
theorem i_Lw_law_134 : mj_Snd zG ("StreamWatchLaw", "law", c_Lw_law, 7) 134 (x_iload 4) 136 := mj_iload (by decide +kernel)
theorem i_Lw_law_136 : mj_Snd zG ("StreamWatchLaw", "law", c_Lw_law, 7) 136 (x_const 3) 137 := mj_const (n := 3) (by decide) (by decide +kernel)
theorem i_Lw_law_137 : mj_Snd zG ("StreamWatchLaw", "law", c_Lw_law, 7) 137 (x_iadd) 138 := mj_iadd (by decide +kernel)
theorem d_Lw_law_138 : decode c_Lw_law 138 = .ok (.iaload, 1) := by decide +kernel
theorem i_Lw_law_139 : mj_Snd zG ("StreamWatchLaw", "law", c_Lw_law, 7) 139 (x_aload 0) 140 := mj_aload_n (j := 0) rfl (by decide +kernel)
theorem i_Lw_law_140 : mj_Snd zG ("StreamWatchLaw", "law", c_Lw_law, 7) 140 (x_iload 4) 142 := mj_iload (by decide +kernel)
theorem i_Lw_law_142 : mj_Snd zG ("StreamWatchLaw", "law", c_Lw_law, 7) 142 (x_const 4) 143 := mj_const (n := 4) (by decide) (by decide +kernel)
theorem i_Lw_law_143 : mj_Snd zG ("StreamWatchLaw", "law", c_Lw_law, 7) 143 (x_iadd) 144 := mj_iadd (by decide +kernel)
theorem d_Lw_law_144 : decode c_Lw_law 144 = .ok (.iaload, 1) := by decide +kernel
theorem i_Lw_law_145 : mj_Snd zG ("StreamWatchLaw", "law", c_Lw_law, 7) 145 (x_aload 0) 146 := mj_aload_n (j := 0) rfl (by decide +kernel)
theorem i_Lw_law_146 : mj_Snd zG ("StreamWatchLaw", "law", c_Lw_law, 7) 146 (x_iload 4) 148 := mj_iload (by decide +kernel)
theorem i_Lw_law_148 : mj_Snd zG ("StreamWatchLaw", "law", c_Lw_law, 7) 148 (x_const 5) 149 := mj_const (n := 5) (by decide) (by decide +kernel)
theorem i_Lw_law_149 : mj_Snd zG ("StreamWatchLaw", "law", c_Lw_law, 7) 149 (x_iadd) 150 := mj_iadd (by decide +kernel)
theorem d_Lw_law_150 : decode c_Lw_law 150 = .ok (.iaload, 1) := by decide +kernel
theorem i_Lw_law_151 : mj_Snd zG ("StreamWatchLaw", "law", c_Lw_law, 7) 151 (x_aload 0) 152 := mj_aload_n (j := 0) rfl (by decide +kernel)
theorem i_Lw_law_152 : mj_Snd zG ("StreamWatchLaw", "law", c_Lw_law, 7) 152 (x_iload 4) 154 := mj_iload (by decide +kernel)
theorem i_Lw_law_154 : mj_Snd zG ("StreamWatchLaw", "law", c_Lw_law, 7) 154 (x_const 6) 156 := mj_bipush (n := 6) (by decide) (by decide +kernel)
theorem i_Lw_law_156 : mj_Snd zG ("StreamWatchLaw", "law", c_Lw_law, 7) 156 (x_iadd) 157 := mj_iadd (by decide +kernel)
theorem d_Lw_law_157 : decode c_Lw_law 157 = .ok (.iaload, 1) := by decide +kernel
theorem i_Lw_law_158 : mj_Snd zG ("StreamWatchLaw", "law", c_Lw_law, 7) 158 (x_i2l) 159 := mj_i2l (by decide +kernel)
theorem i_Lw_law_159 : mj_Snd zG ("StreamWatchLaw", "law", c_Lw_law, 7) 159 (x_const 32) 161 := mj_bipush (n := 32) (by decide) (by decide +kernel)
theorem i_Lw_law_161 : mj_Snd zG ("StreamWatchLaw", "law", c_Lw_law, 7) 161 (x_lshl) 162 := mj_lshl (by decide +kernel)
theorem i_Lw_law_162 : mj_Snd zG ("StreamWatchLaw", "law", c_Lw_law, 7) 162 (x_aload 0) 163 := mj_aload_n (j := 0) rfl (by decide +kernel)
theorem i_Lw_law_163 : mj_Snd zG ("StreamWatchLaw", "law", c_Lw_law, 7) 163 (x_iload 4) 165 := mj_iload (by decide +kernel)
theorem i_Lw_law_165 : mj_Snd zG ("StreamWatchLaw", "law", c_Lw_law, 7) 165 (x_const 7) 167 := mj_bipush (n := 7) (by decide) (by decide +kernel)
theorem i_Lw_law_167 : mj_Snd zG ("StreamWatchLaw", "law", c_Lw_law, 7) 167 (x_iadd) 168 := mj_iadd (by decide +kernel)
theorem d_Lw_law_168 : decode c_Lw_law 168 = .ok (.iaload, 1) := by decide +kernel
theorem i_Lw_law_169 : mj_Snd zG ("StreamWatchLaw", "law", c_Lw_law, 7) 169 (x_i2l) 170 := mj_i2l (by decide +kernel)
theorem i_Lw_law_170 : mj_Snd zG ("StreamWatchLaw", "law", c_Lw_law, 7) 170 (x_lconst 4294967295) 173 := mj_ldc2 z5_78 (by decide +kernel)
theorem i_Lw_law_173 : mj_Snd zG ("StreamWatchLaw", "law", c_Lw_law, 7) 173 (x_land) 174 := mj_land (by decide +kernel)
theorem i_Lw_law_174 : mj_Snd zG ("StreamWatchLaw", "law", c_Lw_law, 7) 174 (x_lor) 175 := mj_lor (by decide +kernel)
theorem i_Lw_law_175 : mj_Snd zG ("StreamWatchLaw", "law", c_Lw_law, 7) 175 (x_aload 3) 176 := mj_aload_n (j := 3) rfl (by decide +kernel)
theorem d_Lw_law_176 : decode c_Lw_law 176 = .ok (.invokestatic 39, 3) := by decide +kernel
theorem i_Lw_law_179 : mj_Snd zG ("StreamWatchLaw", "law", c_Lw_law, 7) 179 (x_istore 5) 181 := mj_istore (by decide) (by decide +kernel)
theorem i_Lw_law_181 : mj_Snd zG ("StreamWatchLaw", "law", c_Lw_law, 7) 181 (x_aload 2) 182 := mj_aload_n (j := 2) rfl (by decide +kernel)
theorem i_Lw_law_182 : mj_Snd zG ("StreamWatchLaw", "law", c_Lw_law, 7) 182 (x_aload 0) 183 := mj_aload_n (j := 0) rfl (by decide +kernel)
theorem i_Lw_law_183 : mj_Snd zG ("StreamWatchLaw", "law", c_Lw_law, 7) 183 (x_iload 4) 185 := mj_iload (by decide +kernel)
theorem i_Lw_law_185 : mj_Snd zG ("StreamWatchLaw", "law", c_Lw_law, 7) 185 (x_const 1) 186 := mj_const (n := 1) (by decide) (by decide +kernel)
theorem i_Lw_law_186 : mj_Snd zG ("StreamWatchLaw", "law", c_Lw_law, 7) 186 (x_iadd) 187 := mj_iadd (by decide +kernel)
theorem d_Lw_law_187 : decode c_Lw_law 187 = .ok (.iaload, 1) := by decide +kernel
theorem i_Lw_law_188 : mj_Snd zG ("StreamWatchLaw", "law", c_Lw_law, 7) 188 (x_aload 0) 189 := mj_aload_n (j := 0) rfl (by decide +kernel)
theorem i_Lw_law_189 : mj_Snd zG ("StreamWatchLaw", "law", c_Lw_law, 7) 189 (x_iload 4) 191 := mj_iload (by decide +kernel)
theorem i_Lw_law_191 : mj_Snd zG ("StreamWatchLaw", "law", c_Lw_law, 7) 191 (x_const 2) 192 := mj_const (n := 2) (by decide) (by decide +kernel)
theorem i_Lw_law_192 : mj_Snd zG ("StreamWatchLaw", "law", c_Lw_law, 7) 192 (x_iadd) 193 := mj_iadd (by decide +kernel)
theorem d_Lw_law_193 : decode c_Lw_law 193 = .ok (.iaload, 1) := by decide +kernel
theorem i_Lw_law_194 : mj_Snd zG ("StreamWatchLaw", "law", c_Lw_law, 7) 194 (x_aload 0) 195 := mj_aload_n (j := 0) rfl (by decide +kernel)
theorem i_Lw_law_195 : mj_Snd zG ("StreamWatchLaw", "law", c_Lw_law, 7) 195 (x_iload 4) 197 := mj_iload (by decide +kernel)
theorem i_Lw_law_197 : mj_Snd zG ("StreamWatchLaw", "law", c_Lw_law, 7) 197 (x_const 3) 198 := mj_const (n := 3) (by decide) (by decide +kernel)
theorem i_Lw_law_198 : mj_Snd zG ("StreamWatchLaw", "law", c_Lw_law, 7) 198 (x_iadd) 199 := mj_iadd (by decide +kernel)
theorem d_Lw_law_199 : decode c_Lw_law 199 = .ok (.iaload, 1) := by decide +kernel
theorem i_Lw_law_200 : mj_Snd zG ("StreamWatchLaw", "law", c_Lw_law, 7) 200 (x_aload 0) 201 := mj_aload_n (j := 0) rfl (by decide +kernel)
theorem i_Lw_law_201 : mj_Snd zG ("StreamWatchLaw", "law", c_Lw_law, 7) 201 (x_iload 4) 203 := mj_iload (by decide +kernel)
theorem i_Lw_law_203 : mj_Snd zG ("StreamWatchLaw", "law", c_Lw_law, 7) 203 (x_const 4) 204 := mj_const (n := 4) (by decide) (by decide +kernel)
theorem i_Lw_law_204 : mj_Snd zG ("StreamWatchLaw", "law", c_Lw_law, 7) 204 (x_iadd) 205 := mj_iadd (by decide +kernel)
theorem d_Lw_law_205 : decode c_Lw_law 205 = .ok (.iaload, 1) := by decide +kernel
theorem i_Lw_law_206 : mj_Snd zG ("StreamWatchLaw", "law", c_Lw_law, 7) 206 (x_aload 0) 207 := mj_aload_n (j := 0) rfl (by decide +kernel)
theorem i_Lw_law_207 : mj_Snd zG ("StreamWatchLaw", "law", c_Lw_law, 7) 207 (x_iload 4) 209 := mj_iload (by decide +kernel)
theorem i_Lw_law_209 : mj_Snd zG ("StreamWatchLaw", "law", c_Lw_law, 7) 209 (x_const 5) 210 := mj_const (n := 5) (by decide) (by decide +kernel)
theorem i_Lw_law_210 : mj_Snd zG ("StreamWatchLaw", "law", c_Lw_law, 7) 210 (x_iadd) 211 := mj_iadd (by decide +kernel)
theorem d_Lw_law_211 : decode c_Lw_law 211 = .ok (.iaload, 1) := by decide +kernel
theorem i_Lw_law_212 : mj_Snd zG ("StreamWatchLaw", "law", c_Lw_law, 7) 212 (x_aload 0) 213 := mj_aload_n (j := 0) rfl (by decide +kernel)
theorem i_Lw_law_213 : mj_Snd zG ("StreamWatchLaw", "law", c_Lw_law, 7) 213 (x_iload 4) 215 := mj_iload (by decide +kernel)
theorem i_Lw_law_215 : mj_Snd zG ("StreamWatchLaw", "law", c_Lw_law, 7) 215 (x_const 6) 217 := mj_bipush (n := 6) (by decide) (by decide +kernel)
theorem i_Lw_law_217 : mj_Snd zG ("StreamWatchLaw", "law", c_Lw_law, 7) 217 (x_iadd) 218 := mj_iadd (by decide +kernel)
theorem d_Lw_law_218 : decode c_Lw_law 218 = .ok (.iaload, 1) := by decide +kernel
theorem i_Lw_law_219 : mj_Snd zG ("StreamWatchLaw", "law", c_Lw_law, 7) 219 (x_i2l) 220 := mj_i2l (by decide +kernel)
theorem i_Lw_law_220 : mj_Snd zG ("StreamWatchLaw", "law", c_Lw_law, 7) 220 (x_const 32) 222 := mj_bipush (n := 32) (by decide) (by decide +kernel)
theorem i_Lw_law_222 : mj_Snd zG ("StreamWatchLaw", "law", c_Lw_law, 7) 222 (x_lshl) 223 := mj_lshl (by decide +kernel)
theorem i_Lw_law_223 : mj_Snd zG ("StreamWatchLaw", "law", c_Lw_law, 7) 223 (x_aload 0) 224 := mj_aload_n (j := 0) rfl (by decide +kernel)
theorem i_Lw_law_224 : mj_Snd zG ("StreamWatchLaw", "law", c_Lw_law, 7) 224 (x_iload 4) 226 := mj_iload (by decide +kernel)
theorem i_Lw_law_226 : mj_Snd zG ("StreamWatchLaw", "law", c_Lw_law, 7) 226 (x_const 7) 228 := mj_bipush (n := 7) (by decide) (by decide +kernel)
theorem i_Lw_law_228 : mj_Snd zG ("StreamWatchLaw", "law", c_Lw_law, 7) 228 (x_iadd) 229 := mj_iadd (by decide +kernel)
theorem d_Lw_law_229 : decode c_Lw_law 229 = .ok (.iaload, 1) := by decide +kernel
theorem i_Lw_law_230 : mj_Snd zG ("StreamWatchLaw", "law", c_Lw_law, 7) 230 (x_i2l) 231 := mj_i2l (by decide +kernel)
theorem i_Lw_law_231 : mj_Snd zG ("StreamWatchLaw", "law", c_Lw_law, 7) 231 (x_lconst 4294967295) 234 := mj_ldc2 z5_78 (by decide +kernel)
theorem i_Lw_law_234 : mj_Snd zG ("StreamWatchLaw", "law", c_Lw_law, 7) 234 (x_land) 235 := mj_land (by decide +kernel)
theorem i_Lw_law_235 : mj_Snd zG ("StreamWatchLaw", "law", c_Lw_law, 7) 235 (x_lor) 236 := mj_lor (by decide +kernel)
theorem d_Lw_law_236 : decode c_Lw_law 236 = .ok (.invokevirtual 42, 3) := by decide +kernel
theorem i_Lw_law_239 : mj_Snd zG ("StreamWatchLaw", "law", c_Lw_law, 7) 239 (x_istore 6) 241 := mj_istore (by decide) (by decide +kernel)
theorem i_Lw_law_241 : mj_Snd zG ("StreamWatchLaw", "law", c_Lw_law, 7) 241 (x_aload 2) 242 := mj_aload_n (j := 2) rfl (by decide +kernel)
theorem d_Lw_law_242 : decode c_Lw_law 242 = .ok (.invokevirtual 43, 3) := by decide +kernel
theorem i_Lw_law_245 : mj_Snd zG ("StreamWatchLaw", "law", c_Lw_law, 7) 245 (x_iload 5) 247 := mj_iload (by decide +kernel)
theorem d_Lw_law_247 : decode c_Lw_law 247 = .ok (.if_icmp .eq 5, 3) := by decide +kernel
theorem i_Lw_law_250 : mj_Snd zG ("StreamWatchLaw", "law", c_Lw_law, 7) 250 (x_const 0) 251 := mj_const (n := 0) (by decide) (by decide +kernel)
theorem d_Lw_law_251 : decode c_Lw_law 251 = .ok (.ireturn, 1) := by decide +kernel
theorem i_Lw_law_252 : mj_Snd zG ("StreamWatchLaw", "law", c_Lw_law, 7) 252 (x_iload 5) 254 := mj_iload (by decide +kernel)
theorem d_Lw_law_254 : decode c_Lw_law 254 = .ok (.ifCond .ne 15, 3) := by decide +kernel
theorem i_Lw_law_257 : mj_Snd zG ("StreamWatchLaw", "law", c_Lw_law, 7) 257 (x_aload 3) 258 := mj_aload_n (j := 3) rfl (by decide +kernel)
theorem i_Lw_law_258 : mj_Snd zG ("StreamWatchLaw", "law", c_Lw_law, 7) 258 (x_const 0) 259 := mj_const (n := 0) (by decide) (by decide +kernel)
theorem d_Lw_law_259 : decode c_Lw_law 259 = .ok (.laload, 1) := by decide +kernel
theorem i_Lw_law_260 : mj_Snd zG ("StreamWatchLaw", "law", c_Lw_law, 7) 260 (x_iload 6) 262 := mj_iload (by decide +kernel)
theorem i_Lw_law_262 : mj_Snd zG ("StreamWatchLaw", "law", c_Lw_law, 7) 262 (x_i2l) 263 := mj_i2l (by decide +kernel)
theorem i_Lw_law_263 : mj_Snd zG ("StreamWatchLaw", "law", c_Lw_law, 7) 263 (x_lcmp) 264 := mj_lcmp (by decide +kernel)
theorem d_Lw_law_264 : decode c_Lw_law 264 = .ok (.ifCond .eq 5, 3) := by decide +kernel
theorem i_Lw_law_267 : mj_Snd zG ("StreamWatchLaw", "law", c_Lw_law, 7) 267 (x_const 0) 268 := mj_const (n := 0) (by decide) (by decide +kernel)
theorem d_Lw_law_268 : decode c_Lw_law 268 = .ok (.ireturn, 1) := by decide +kernel
theorem i_Lw_law_269 : mj_Snd zG ("StreamWatchLaw", "law", c_Lw_law, 7) 269 (x_skip) 831 := mj_goto (off := 562) (by decide) (by decide +kernel)
theorem i_Lw_law_272 : mj_Snd zG ("StreamWatchLaw", "law", c_Lw_law, 7) 272 (x_aload 1) 273 := mj_aload_n (j := 1) rfl (by decide +kernel)
theorem i_Lw_law_273 : mj_Snd zG ("StreamWatchLaw", "law", c_Lw_law, 7) 273 (x_aload 0) 274 := mj_aload_n (j := 0) rfl (by decide +kernel)
theorem i_Lw_law_274 : mj_Snd zG ("StreamWatchLaw", "law", c_Lw_law, 7) 274 (x_iload 4) 276 := mj_iload (by decide +kernel)
theorem i_Lw_law_276 : mj_Snd zG ("StreamWatchLaw", "law", c_Lw_law, 7) 276 (x_const 1) 277 := mj_const (n := 1) (by decide) (by decide +kernel)
theorem i_Lw_law_277 : mj_Snd zG ("StreamWatchLaw", "law", c_Lw_law, 7) 277 (x_iadd) 278 := mj_iadd (by decide +kernel)
theorem d_Lw_law_278 : decode c_Lw_law 278 = .ok (.iaload, 1) := by decide +kernel
theorem i_Lw_law_279 : mj_Snd zG ("StreamWatchLaw", "law", c_Lw_law, 7) 279 (x_aload 0) 280 := mj_aload_n (j := 0) rfl (by decide +kernel)
theorem i_Lw_law_280 : mj_Snd zG ("StreamWatchLaw", "law", c_Lw_law, 7) 280 (x_iload 4) 282 := mj_iload (by decide +kernel)
theorem i_Lw_law_282 : mj_Snd zG ("StreamWatchLaw", "law", c_Lw_law, 7) 282 (x_const 2) 283 := mj_const (n := 2) (by decide) (by decide +kernel)
theorem i_Lw_law_283 : mj_Snd zG ("StreamWatchLaw", "law", c_Lw_law, 7) 283 (x_iadd) 284 := mj_iadd (by decide +kernel)
theorem d_Lw_law_284 : decode c_Lw_law 284 = .ok (.iaload, 1) := by decide +kernel
theorem d_Lw_law_285 : decode c_Lw_law 285 = .ok (.invokevirtual 47, 3) := by decide +kernel
theorem i_Lw_law_288 : mj_Snd zG ("StreamWatchLaw", "law", c_Lw_law, 7) 288 (x_aload 2) 289 := mj_aload_n (j := 2) rfl (by decide +kernel)
theorem i_Lw_law_289 : mj_Snd zG ("StreamWatchLaw", "law", c_Lw_law, 7) 289 (x_aload 0) 290 := mj_aload_n (j := 0) rfl (by decide +kernel)
theorem i_Lw_law_290 : mj_Snd zG ("StreamWatchLaw", "law", c_Lw_law, 7) 290 (x_iload 4) 292 := mj_iload (by decide +kernel)
theorem i_Lw_law_292 : mj_Snd zG ("StreamWatchLaw", "law", c_Lw_law, 7) 292 (x_const 1) 293 := mj_const (n := 1) (by decide) (by decide +kernel)
theorem i_Lw_law_293 : mj_Snd zG ("StreamWatchLaw", "law", c_Lw_law, 7) 293 (x_iadd) 294 := mj_iadd (by decide +kernel)
theorem d_Lw_law_294 : decode c_Lw_law 294 = .ok (.iaload, 1) := by decide +kernel
theorem i_Lw_law_295 : mj_Snd zG ("StreamWatchLaw", "law", c_Lw_law, 7) 295 (x_aload 0) 296 := mj_aload_n (j := 0) rfl (by decide +kernel)
theorem i_Lw_law_296 : mj_Snd zG ("StreamWatchLaw", "law", c_Lw_law, 7) 296 (x_iload 4) 298 := mj_iload (by decide +kernel)
theorem i_Lw_law_298 : mj_Snd zG ("StreamWatchLaw", "law", c_Lw_law, 7) 298 (x_const 2) 299 := mj_const (n := 2) (by decide) (by decide +kernel)
theorem i_Lw_law_299 : mj_Snd zG ("StreamWatchLaw", "law", c_Lw_law, 7) 299 (x_iadd) 300 := mj_iadd (by decide +kernel)
theorem d_Lw_law_300 : decode c_Lw_law 300 = .ok (.iaload, 1) := by decide +kernel
theorem d_Lw_law_301 : decode c_Lw_law 301 = .ok (.invokevirtual 51, 3) := by decide +kernel
theorem d_Lw_law_304 : decode c_Lw_law 304 = .ok (.if_icmp .eq 527, 3) := by decide +kernel
theorem i_Lw_law_307 : mj_Snd zG ("StreamWatchLaw", "law", c_Lw_law, 7) 307 (x_const 0) 308 := mj_const (n := 0) (by decide) (by decide +kernel)
theorem d_Lw_law_308 : decode c_Lw_law 308 = .ok (.ireturn, 1) := by decide +kernel
theorem i_Lw_law_309 : mj_Snd zG ("StreamWatchLaw", "law", c_Lw_law, 7) 309 (x_aload 1) 310 := mj_aload_n (j := 1) rfl (by decide +kernel)
theorem d_Lw_law_310 : decode c_Lw_law 310 = .ok (.invokevirtual 52, 3) := by decide +kernel
theorem i_Lw_law_313 : mj_Snd zG ("StreamWatchLaw", "law", c_Lw_law, 7) 313 (x_aload 2) 314 := mj_aload_n (j := 2) rfl (by decide +kernel)
theorem d_Lw_law_314 : decode c_Lw_law 314 = .ok (.invokevirtual 55, 3) := by decide +kernel
theorem i_Lw_law_317 : mj_Snd zG ("StreamWatchLaw", "law", c_Lw_law, 7) 317 (x_skip) 831 := mj_goto (off := 514) (by decide) (by decide +kernel)
theorem i_Lw_law_320 : mj_Snd zG ("StreamWatchLaw", "law", c_Lw_law, 7) 320 (x_aload 1) 321 := mj_aload_n (j := 1) rfl (by decide +kernel)
theorem i_Lw_law_321 : mj_Snd zG ("StreamWatchLaw", "law", c_Lw_law, 7) 321 (x_aload 0) 322 := mj_aload_n (j := 0) rfl (by decide +kernel)
theorem i_Lw_law_322 : mj_Snd zG ("StreamWatchLaw", "law", c_Lw_law, 7) 322 (x_iload 4) 324 := mj_iload (by decide +kernel)
theorem i_Lw_law_324 : mj_Snd zG ("StreamWatchLaw", "law", c_Lw_law, 7) 324 (x_const 1) 325 := mj_const (n := 1) (by decide) (by decide +kernel)
theorem i_Lw_law_325 : mj_Snd zG ("StreamWatchLaw", "law", c_Lw_law, 7) 325 (x_iadd) 326 := mj_iadd (by decide +kernel)
theorem d_Lw_law_326 : decode c_Lw_law 326 = .ok (.iaload, 1) := by decide +kernel
theorem i_Lw_law_327 : mj_Snd zG ("StreamWatchLaw", "law", c_Lw_law, 7) 327 (x_aload 0) 328 := mj_aload_n (j := 0) rfl (by decide +kernel)
theorem i_Lw_law_328 : mj_Snd zG ("StreamWatchLaw", "law", c_Lw_law, 7) 328 (x_iload 4) 330 := mj_iload (by decide +kernel)
theorem i_Lw_law_330 : mj_Snd zG ("StreamWatchLaw", "law", c_Lw_law, 7) 330 (x_const 2) 331 := mj_const (n := 2) (by decide) (by decide +kernel)
theorem i_Lw_law_331 : mj_Snd zG ("StreamWatchLaw", "law", c_Lw_law, 7) 331 (x_iadd) 332 := mj_iadd (by decide +kernel)
theorem d_Lw_law_332 : decode c_Lw_law 332 = .ok (.iaload, 1) := by decide +kernel
theorem i_Lw_law_333 : mj_Snd zG ("StreamWatchLaw", "law", c_Lw_law, 7) 333 (x_i2l) 334 := mj_i2l (by decide +kernel)
theorem i_Lw_law_334 : mj_Snd zG ("StreamWatchLaw", "law", c_Lw_law, 7) 334 (x_const 32) 336 := mj_bipush (n := 32) (by decide) (by decide +kernel)
theorem i_Lw_law_336 : mj_Snd zG ("StreamWatchLaw", "law", c_Lw_law, 7) 336 (x_lshl) 337 := mj_lshl (by decide +kernel)
theorem i_Lw_law_337 : mj_Snd zG ("StreamWatchLaw", "law", c_Lw_law, 7) 337 (x_aload 0) 338 := mj_aload_n (j := 0) rfl (by decide +kernel)
theorem i_Lw_law_338 : mj_Snd zG ("StreamWatchLaw", "law", c_Lw_law, 7) 338 (x_iload 4) 340 := mj_iload (by decide +kernel)
theorem i_Lw_law_340 : mj_Snd zG ("StreamWatchLaw", "law", c_Lw_law, 7) 340 (x_const 3) 341 := mj_const (n := 3) (by decide) (by decide +kernel)
theorem i_Lw_law_341 : mj_Snd zG ("StreamWatchLaw", "law", c_Lw_law, 7) 341 (x_iadd) 342 := mj_iadd (by decide +kernel)
theorem d_Lw_law_342 : decode c_Lw_law 342 = .ok (.iaload, 1) := by decide +kernel
theorem i_Lw_law_343 : mj_Snd zG ("StreamWatchLaw", "law", c_Lw_law, 7) 343 (x_i2l) 344 := mj_i2l (by decide +kernel)
theorem i_Lw_law_344 : mj_Snd zG ("StreamWatchLaw", "law", c_Lw_law, 7) 344 (x_lconst 4294967295) 347 := mj_ldc2 z5_78 (by decide +kernel)
theorem i_Lw_law_347 : mj_Snd zG ("StreamWatchLaw", "law", c_Lw_law, 7) 347 (x_land) 348 := mj_land (by decide +kernel)
theorem i_Lw_law_348 : mj_Snd zG ("StreamWatchLaw", "law", c_Lw_law, 7) 348 (x_lor) 349 := mj_lor (by decide +kernel)
theorem d_Lw_law_349 : decode c_Lw_law 349 = .ok (.invokevirtual 56, 3) := by decide +kernel
theorem i_Lw_law_352 : mj_Snd zG ("StreamWatchLaw", "law", c_Lw_law, 7) 352 (x_aload 2) 353 := mj_aload_n (j := 2) rfl (by decide +kernel)
theorem i_Lw_law_353 : mj_Snd zG ("StreamWatchLaw", "law", c_Lw_law, 7) 353 (x_aload 0) 354 := mj_aload_n (j := 0) rfl (by decide +kernel)
theorem i_Lw_law_354 : mj_Snd zG ("StreamWatchLaw", "law", c_Lw_law, 7) 354 (x_iload 4) 356 := mj_iload (by decide +kernel)
theorem i_Lw_law_356 : mj_Snd zG ("StreamWatchLaw", "law", c_Lw_law, 7) 356 (x_const 1) 357 := mj_const (n := 1) (by decide) (by decide +kernel)
theorem i_Lw_law_357 : mj_Snd zG ("StreamWatchLaw", "law", c_Lw_law, 7) 357 (x_iadd) 358 := mj_iadd (by decide +kernel)
theorem d_Lw_law_358 : decode c_Lw_law 358 = .ok (.iaload, 1) := by decide +kernel
theorem i_Lw_law_359 : mj_Snd zG ("StreamWatchLaw", "law", c_Lw_law, 7) 359 (x_aload 0) 360 := mj_aload_n (j := 0) rfl (by decide +kernel)
theorem i_Lw_law_360 : mj_Snd zG ("StreamWatchLaw", "law", c_Lw_law, 7) 360 (x_iload 4) 362 := mj_iload (by decide +kernel)
theorem i_Lw_law_362 : mj_Snd zG ("StreamWatchLaw", "law", c_Lw_law, 7) 362 (x_const 2) 363 := mj_const (n := 2) (by decide) (by decide +kernel)
theorem i_Lw_law_363 : mj_Snd zG ("StreamWatchLaw", "law", c_Lw_law, 7) 363 (x_iadd) 364 := mj_iadd (by decide +kernel)
theorem d_Lw_law_364 : decode c_Lw_law 364 = .ok (.iaload, 1) := by decide +kernel
theorem i_Lw_law_365 : mj_Snd zG ("StreamWatchLaw", "law", c_Lw_law, 7) 365 (x_i2l) 366 := mj_i2l (by decide +kernel)
theorem i_Lw_law_366 : mj_Snd zG ("StreamWatchLaw", "law", c_Lw_law, 7) 366 (x_const 32) 368 := mj_bipush (n := 32) (by decide) (by decide +kernel)
theorem i_Lw_law_368 : mj_Snd zG ("StreamWatchLaw", "law", c_Lw_law, 7) 368 (x_lshl) 369 := mj_lshl (by decide +kernel)
theorem i_Lw_law_369 : mj_Snd zG ("StreamWatchLaw", "law", c_Lw_law, 7) 369 (x_aload 0) 370 := mj_aload_n (j := 0) rfl (by decide +kernel)
theorem i_Lw_law_370 : mj_Snd zG ("StreamWatchLaw", "law", c_Lw_law, 7) 370 (x_iload 4) 372 := mj_iload (by decide +kernel)
theorem i_Lw_law_372 : mj_Snd zG ("StreamWatchLaw", "law", c_Lw_law, 7) 372 (x_const 3) 373 := mj_const (n := 3) (by decide) (by decide +kernel)
theorem i_Lw_law_373 : mj_Snd zG ("StreamWatchLaw", "law", c_Lw_law, 7) 373 (x_iadd) 374 := mj_iadd (by decide +kernel)
theorem d_Lw_law_374 : decode c_Lw_law 374 = .ok (.iaload, 1) := by decide +kernel
theorem i_Lw_law_375 : mj_Snd zG ("StreamWatchLaw", "law", c_Lw_law, 7) 375 (x_i2l) 376 := mj_i2l (by decide +kernel)
theorem i_Lw_law_376 : mj_Snd zG ("StreamWatchLaw", "law", c_Lw_law, 7) 376 (x_lconst 4294967295) 379 := mj_ldc2 z5_78 (by decide +kernel)
theorem i_Lw_law_379 : mj_Snd zG ("StreamWatchLaw", "law", c_Lw_law, 7) 379 (x_land) 380 := mj_land (by decide +kernel)
theorem i_Lw_law_380 : mj_Snd zG ("StreamWatchLaw", "law", c_Lw_law, 7) 380 (x_lor) 381 := mj_lor (by decide +kernel)
theorem d_Lw_law_381 : decode c_Lw_law 381 = .ok (.invokevirtual 60, 3) := by decide +kernel
theorem d_Lw_law_384 : decode c_Lw_law 384 = .ok (.if_icmp .eq 447, 3) := by decide +kernel
theorem i_Lw_law_387 : mj_Snd zG ("StreamWatchLaw", "law", c_Lw_law, 7) 387 (x_const 0) 388 := mj_const (n := 0) (by decide) (by decide +kernel)
theorem d_Lw_law_388 : decode c_Lw_law 388 = .ok (.ireturn, 1) := by decide +kernel
theorem i_Lw_law_389 : mj_Snd zG ("StreamWatchLaw", "law", c_Lw_law, 7) 389 (x_aload 1) 390 := mj_aload_n (j := 1) rfl (by decide +kernel)
theorem d_Lw_law_390 : decode c_Lw_law 390 = .ok (.invokevirtual 61, 3) := by decide +kernel
theorem i_Lw_law_393 : mj_Snd zG ("StreamWatchLaw", "law", c_Lw_law, 7) 393 (x_aload 2) 394 := mj_aload_n (j := 2) rfl (by decide +kernel)
theorem d_Lw_law_394 : decode c_Lw_law 394 = .ok (.invokevirtual 65, 3) := by decide +kernel
theorem d_Lw_law_397 : decode c_Lw_law 397 = .ok (.if_icmp .eq 434, 3) := by decide +kernel
theorem i_Lw_law_400 : mj_Snd zG ("StreamWatchLaw", "law", c_Lw_law, 7) 400 (x_const 0) 401 := mj_const (n := 0) (by decide) (by decide +kernel)
theorem d_Lw_law_401 : decode c_Lw_law 401 = .ok (.ireturn, 1) := by decide +kernel
theorem i_Lw_law_402 : mj_Snd zG ("StreamWatchLaw", "law", c_Lw_law, 7) 402 (x_aload 1) 403 := mj_aload_n (j := 1) rfl (by decide +kernel)
theorem i_Lw_law_403 : mj_Snd zG ("StreamWatchLaw", "law", c_Lw_law, 7) 403 (x_aload 0) 404 := mj_aload_n (j := 0) rfl (by decide +kernel)
theorem i_Lw_law_404 : mj_Snd zG ("StreamWatchLaw", "law", c_Lw_law, 7) 404 (x_iload 4) 406 := mj_iload (by decide +kernel)
theorem i_Lw_law_406 : mj_Snd zG ("StreamWatchLaw", "law", c_Lw_law, 7) 406 (x_const 1) 407 := mj_const (n := 1) (by decide) (by decide +kernel)
theorem i_Lw_law_407 : mj_Snd zG ("StreamWatchLaw", "law", c_Lw_law, 7) 407 (x_iadd) 408 := mj_iadd (by decide +kernel)
theorem d_Lw_law_408 : decode c_Lw_law 408 = .ok (.iaload, 1) := by decide +kernel
theorem d_Lw_law_409 : decode c_Lw_law 409 = .ok (.invokevirtual 66, 3) := by decide +kernel
theorem i_Lw_law_412 : mj_Snd zG ("StreamWatchLaw", "law", c_Lw_law, 7) 412 (x_aload 2) 413 := mj_aload_n (j := 2) rfl (by decide +kernel)
theorem i_Lw_law_413 : mj_Snd zG ("StreamWatchLaw", "law", c_Lw_law, 7) 413 (x_aload 0) 414 := mj_aload_n (j := 0) rfl (by decide +kernel)
theorem i_Lw_law_414 : mj_Snd zG ("StreamWatchLaw", "law", c_Lw_law, 7) 414 (x_iload 4) 416 := mj_iload (by decide +kernel)
theorem i_Lw_law_416 : mj_Snd zG ("StreamWatchLaw", "law", c_Lw_law, 7) 416 (x_const 1) 417 := mj_const (n := 1) (by decide) (by decide +kernel)
theorem i_Lw_law_417 : mj_Snd zG ("StreamWatchLaw", "law", c_Lw_law, 7) 417 (x_iadd) 418 := mj_iadd (by decide +kernel)
theorem d_Lw_law_418 : decode c_Lw_law 418 = .ok (.iaload, 1) := by decide +kernel
theorem d_Lw_law_419 : decode c_Lw_law 419 = .ok (.invokevirtual 70, 3) := by decide +kernel
theorem d_Lw_law_422 : decode c_Lw_law 422 = .ok (.if_icmp .eq 409, 3) := by decide +kernel
theorem i_Lw_law_425 : mj_Snd zG ("StreamWatchLaw", "law", c_Lw_law, 7) 425 (x_const 0) 426 := mj_const (n := 0) (by decide) (by decide +kernel)
theorem d_Lw_law_426 : decode c_Lw_law 426 = .ok (.ireturn, 1) := by decide +kernel
theorem i_Lw_law_427 : mj_Snd zG ("StreamWatchLaw", "law", c_Lw_law, 7) 427 (x_aload 1) 428 := mj_aload_n (j := 1) rfl (by decide +kernel)
theorem d_Lw_law_428 : decode c_Lw_law 428 = .ok (.invokevirtual 71, 3) := by decide +kernel
theorem i_Lw_law_431 : mj_Snd zG ("StreamWatchLaw", "law", c_Lw_law, 7) 431 (x_aload 2) 432 := mj_aload_n (j := 2) rfl (by decide +kernel)
theorem d_Lw_law_432 : decode c_Lw_law 432 = .ok (.invokevirtual 74, 3) := by decide +kernel
theorem d_Lw_law_435 : decode c_Lw_law 435 = .ok (.if_icmp .eq 396, 3) := by decide +kernel
theorem i_Lw_law_438 : mj_Snd zG ("StreamWatchLaw", "law", c_Lw_law, 7) 438 (x_const 0) 439 := mj_const (n := 0) (by decide) (by decide +kernel)
theorem d_Lw_law_439 : decode c_Lw_law 439 = .ok (.ireturn, 1) := by decide +kernel
theorem i_Lw_law_440 : mj_Snd zG ("StreamWatchLaw", "law", c_Lw_law, 7) 440 (x_aload 1) 441 := mj_aload_n (j := 1) rfl (by decide +kernel)
theorem i_Lw_law_441 : mj_Snd zG ("StreamWatchLaw", "law", c_Lw_law, 7) 441 (x_aload 0) 442 := mj_aload_n (j := 0) rfl (by decide +kernel)
theorem i_Lw_law_442 : mj_Snd zG ("StreamWatchLaw", "law", c_Lw_law, 7) 442 (x_iload 4) 444 := mj_iload (by decide +kernel)
theorem i_Lw_law_444 : mj_Snd zG ("StreamWatchLaw", "law", c_Lw_law, 7) 444 (x_const 1) 445 := mj_const (n := 1) (by decide) (by decide +kernel)
theorem i_Lw_law_445 : mj_Snd zG ("StreamWatchLaw", "law", c_Lw_law, 7) 445 (x_iadd) 446 := mj_iadd (by decide +kernel)
theorem d_Lw_law_446 : decode c_Lw_law 446 = .ok (.iaload, 1) := by decide +kernel
theorem i_Lw_law_447 : mj_Snd zG ("StreamWatchLaw", "law", c_Lw_law, 7) 447 (x_aload 0) 448 := mj_aload_n (j := 0) rfl (by decide +kernel)
theorem i_Lw_law_448 : mj_Snd zG ("StreamWatchLaw", "law", c_Lw_law, 7) 448 (x_iload 4) 450 := mj_iload (by decide +kernel)
theorem i_Lw_law_450 : mj_Snd zG ("StreamWatchLaw", "law", c_Lw_law, 7) 450 (x_const 2) 451 := mj_const (n := 2) (by decide) (by decide +kernel)
theorem i_Lw_law_451 : mj_Snd zG ("StreamWatchLaw", "law", c_Lw_law, 7) 451 (x_iadd) 452 := mj_iadd (by decide +kernel)
theorem d_Lw_law_452 : decode c_Lw_law 452 = .ok (.iaload, 1) := by decide +kernel
theorem i_Lw_law_453 : mj_Snd zG ("StreamWatchLaw", "law", c_Lw_law, 7) 453 (x_aload 3) 454 := mj_aload_n (j := 3) rfl (by decide +kernel)
theorem d_Lw_law_454 : decode c_Lw_law 454 = .ok (.invokestatic 75, 3) := by decide +kernel
theorem i_Lw_law_457 : mj_Snd zG ("StreamWatchLaw", "law", c_Lw_law, 7) 457 (x_istore 5) 459 := mj_istore (by decide) (by decide +kernel)
theorem i_Lw_law_459 : mj_Snd zG ("StreamWatchLaw", "law", c_Lw_law, 7) 459 (x_aload 2) 460 := mj_aload_n (j := 2) rfl (by decide +kernel)
theorem i_Lw_law_460 : mj_Snd zG ("StreamWatchLaw", "law", c_Lw_law, 7) 460 (x_aload 0) 461 := mj_aload_n (j := 0) rfl (by decide +kernel)
theorem i_Lw_law_461 : mj_Snd zG ("StreamWatchLaw", "law", c_Lw_law, 7) 461 (x_iload 4) 463 := mj_iload (by decide +kernel)
theorem i_Lw_law_463 : mj_Snd zG ("StreamWatchLaw", "law", c_Lw_law, 7) 463 (x_const 1) 464 := mj_const (n := 1) (by decide) (by decide +kernel)
theorem i_Lw_law_464 : mj_Snd zG ("StreamWatchLaw", "law", c_Lw_law, 7) 464 (x_iadd) 465 := mj_iadd (by decide +kernel)
theorem d_Lw_law_465 : decode c_Lw_law 465 = .ok (.iaload, 1) := by decide +kernel
theorem i_Lw_law_466 : mj_Snd zG ("StreamWatchLaw", "law", c_Lw_law, 7) 466 (x_aload 0) 467 := mj_aload_n (j := 0) rfl (by decide +kernel)
theorem i_Lw_law_467 : mj_Snd zG ("StreamWatchLaw", "law", c_Lw_law, 7) 467 (x_iload 4) 469 := mj_iload (by decide +kernel)
theorem i_Lw_law_469 : mj_Snd zG ("StreamWatchLaw", "law", c_Lw_law, 7) 469 (x_const 2) 470 := mj_const (n := 2) (by decide) (by decide +kernel)
theorem i_Lw_law_470 : mj_Snd zG ("StreamWatchLaw", "law", c_Lw_law, 7) 470 (x_iadd) 471 := mj_iadd (by decide +kernel)
theorem d_Lw_law_471 : decode c_Lw_law 471 = .ok (.iaload, 1) := by decide +kernel
theorem d_Lw_law_472 : decode c_Lw_law 472 = .ok (.invokevirtual 78, 3) := by decide +kernel
theorem i_Lw_law_475 : mj_Snd zG ("StreamWatchLaw", "law", c_Lw_law, 7) 475 (x_istore 6) 477 := mj_istore (by decide) (by decide +kernel)
theorem i_Lw_law_477 : mj_Snd zG ("StreamWatchLaw", "law", c_Lw_law, 7) 477 (x_aload 2) 478 := mj_aload_n (j := 2) rfl (by decide +kernel)
theorem d_Lw_law_478 : decode c_Lw_law 478 = .ok (.invokevirtual 43, 3) := by decide +kernel
theorem i_Lw_law_481 : mj_Snd zG ("StreamWatchLaw", "law", c_Lw_law, 7) 481 (x_iload 5) 483 := mj_iload (by decide +kernel)
theorem d_Lw_law_483 : decode c_Lw_law 483 = .ok (.if_icmp .eq 5, 3) := by decide +kernel
theorem i_Lw_law_486 : mj_Snd zG ("StreamWatchLaw", "law", c_Lw_law, 7) 486 (x_const 0) 487 := mj_const (n := 0) (by decide) (by decide +kernel)
theorem d_Lw_law_487 : decode c_Lw_law 487 = .ok (.ireturn, 1) := by decide +kernel
theorem i_Lw_law_488 : mj_Snd zG ("StreamWatchLaw", "law", c_Lw_law, 7) 488 (x_iload 5) 490 := mj_iload (by decide +kernel)
theorem d_Lw_law_490 : decode c_Lw_law 490 = .ok (.ifCond .ne 15, 3) := by decide +kernel
theorem i_Lw_law_493 : mj_Snd zG ("StreamWatchLaw", "law", c_Lw_law, 7) 493 (x_aload 3) 494 := mj_aload_n (j := 3) rfl (by decide +kernel)
theorem i_Lw_law_494 : mj_Snd zG ("StreamWatchLaw", "law", c_Lw_law, 7) 494 (x_const 0) 495 := mj_const (n := 0) (by decide) (by decide +kernel)
theorem d_Lw_law_495 : decode c_Lw_law 495 = .ok (.laload, 1) := by decide +kernel
theorem i_Lw_law_496 : mj_Snd zG ("StreamWatchLaw", "law", c_Lw_law, 7) 496 (x_iload 6) 498 := mj_iload (by decide +kernel)
theorem i_Lw_law_498 : mj_Snd zG ("StreamWatchLaw", "law", c_Lw_law, 7) 498 (x_i2l) 499 := mj_i2l (by decide +kernel)
theorem i_Lw_law_499 : mj_Snd zG ("StreamWatchLaw", "law", c_Lw_law, 7) 499 (x_lcmp) 500 := mj_lcmp (by decide +kernel)
theorem d_Lw_law_500 : decode c_Lw_law 500 = .ok (.ifCond .eq 5, 3) := by decide +kernel
theorem i_Lw_law_503 : mj_Snd zG ("StreamWatchLaw", "law", c_Lw_law, 7) 503 (x_const 0) 504 := mj_const (n := 0) (by decide) (by decide +kernel)
theorem d_Lw_law_504 : decode c_Lw_law 504 = .ok (.ireturn, 1) := by decide +kernel
theorem i_Lw_law_505 : mj_Snd zG ("StreamWatchLaw", "law", c_Lw_law, 7) 505 (x_skip) 831 := mj_goto (off := 326) (by decide) (by decide +kernel)
theorem i_Lw_law_508 : mj_Snd zG ("StreamWatchLaw", "law", c_Lw_law, 7) 508 (x_aload 1) 509 := mj_aload_n (j := 1) rfl (by decide +kernel)
theorem i_Lw_law_509 : mj_Snd zG ("StreamWatchLaw", "law", c_Lw_law, 7) 509 (x_aload 0) 510 := mj_aload_n (j := 0) rfl (by decide +kernel)
theorem i_Lw_law_510 : mj_Snd zG ("StreamWatchLaw", "law", c_Lw_law, 7) 510 (x_iload 4) 512 := mj_iload (by decide +kernel)
theorem i_Lw_law_512 : mj_Snd zG ("StreamWatchLaw", "law", c_Lw_law, 7) 512 (x_const 1) 513 := mj_const (n := 1) (by decide) (by decide +kernel)
theorem i_Lw_law_513 : mj_Snd zG ("StreamWatchLaw", "law", c_Lw_law, 7) 513 (x_iadd) 514 := mj_iadd (by decide +kernel)
theorem d_Lw_law_514 : decode c_Lw_law 514 = .ok (.iaload, 1) := by decide +kernel
theorem i_Lw_law_515 : mj_Snd zG ("StreamWatchLaw", "law", c_Lw_law, 7) 515 (x_aload 0) 516 := mj_aload_n (j := 0) rfl (by decide +kernel)
theorem i_Lw_law_516 : mj_Snd zG ("StreamWatchLaw", "law", c_Lw_law, 7) 516 (x_iload 4) 518 := mj_iload (by decide +kernel)
theorem i_Lw_law_518 : mj_Snd zG ("StreamWatchLaw", "law", c_Lw_law, 7) 518 (x_const 2) 519 := mj_const (n := 2) (by decide) (by decide +kernel)
theorem i_Lw_law_519 : mj_Snd zG ("StreamWatchLaw", "law", c_Lw_law, 7) 519 (x_iadd) 520 := mj_iadd (by decide +kernel)
theorem d_Lw_law_520 : decode c_Lw_law 520 = .ok (.iaload, 1) := by decide +kernel
theorem i_Lw_law_521 : mj_Snd zG ("StreamWatchLaw", "law", c_Lw_law, 7) 521 (x_i2l) 522 := mj_i2l (by decide +kernel)
theorem i_Lw_law_522 : mj_Snd zG ("StreamWatchLaw", "law", c_Lw_law, 7) 522 (x_const 32) 524 := mj_bipush (n := 32) (by decide) (by decide +kernel)
theorem i_Lw_law_524 : mj_Snd zG ("StreamWatchLaw", "law", c_Lw_law, 7) 524 (x_lshl) 525 := mj_lshl (by decide +kernel)
theorem i_Lw_law_525 : mj_Snd zG ("StreamWatchLaw", "law", c_Lw_law, 7) 525 (x_aload 0) 526 := mj_aload_n (j := 0) rfl (by decide +kernel)
theorem i_Lw_law_526 : mj_Snd zG ("StreamWatchLaw", "law", c_Lw_law, 7) 526 (x_iload 4) 528 := mj_iload (by decide +kernel)
theorem i_Lw_law_528 : mj_Snd zG ("StreamWatchLaw", "law", c_Lw_law, 7) 528 (x_const 3) 529 := mj_const (n := 3) (by decide) (by decide +kernel)
theorem i_Lw_law_529 : mj_Snd zG ("StreamWatchLaw", "law", c_Lw_law, 7) 529 (x_iadd) 530 := mj_iadd (by decide +kernel)
theorem d_Lw_law_530 : decode c_Lw_law 530 = .ok (.iaload, 1) := by decide +kernel
theorem i_Lw_law_531 : mj_Snd zG ("StreamWatchLaw", "law", c_Lw_law, 7) 531 (x_i2l) 532 := mj_i2l (by decide +kernel)
theorem i_Lw_law_532 : mj_Snd zG ("StreamWatchLaw", "law", c_Lw_law, 7) 532 (x_lconst 4294967295) 535 := mj_ldc2 z5_78 (by decide +kernel)
theorem i_Lw_law_535 : mj_Snd zG ("StreamWatchLaw", "law", c_Lw_law, 7) 535 (x_land) 536 := mj_land (by decide +kernel)
theorem i_Lw_law_536 : mj_Snd zG ("StreamWatchLaw", "law", c_Lw_law, 7) 536 (x_lor) 537 := mj_lor (by decide +kernel)
theorem i_Lw_law_537 : mj_Snd zG ("StreamWatchLaw", "law", c_Lw_law, 7) 537 (x_aload 0) 538 := mj_aload_n (j := 0) rfl (by decide +kernel)
theorem i_Lw_law_538 : mj_Snd zG ("StreamWatchLaw", "law", c_Lw_law, 7) 538 (x_iload 4) 540 := mj_iload (by decide +kernel)
theorem i_Lw_law_540 : mj_Snd zG ("StreamWatchLaw", "law", c_Lw_law, 7) 540 (x_const 4) 541 := mj_const (n := 4) (by decide) (by decide +kernel)
theorem i_Lw_law_541 : mj_Snd zG ("StreamWatchLaw", "law", c_Lw_law, 7) 541 (x_iadd) 542 := mj_iadd (by decide +kernel)
theorem d_Lw_law_542 : decode c_Lw_law 542 = .ok (.iaload, 1) := by decide +kernel
theorem i_Lw_law_543 : mj_Snd zG ("StreamWatchLaw", "law", c_Lw_law, 7) 543 (x_aload 0) 544 := mj_aload_n (j := 0) rfl (by decide +kernel)
theorem i_Lw_law_544 : mj_Snd zG ("StreamWatchLaw", "law", c_Lw_law, 7) 544 (x_iload 4) 546 := mj_iload (by decide +kernel)
theorem i_Lw_law_546 : mj_Snd zG ("StreamWatchLaw", "law", c_Lw_law, 7) 546 (x_const 5) 547 := mj_const (n := 5) (by decide) (by decide +kernel)
theorem i_Lw_law_547 : mj_Snd zG ("StreamWatchLaw", "law", c_Lw_law, 7) 547 (x_iadd) 548 := mj_iadd (by decide +kernel)
theorem d_Lw_law_548 : decode c_Lw_law 548 = .ok (.iaload, 1) := by decide +kernel
theorem i_Lw_law_549 : mj_Snd zG ("StreamWatchLaw", "law", c_Lw_law, 7) 549 (x_aload 0) 550 := mj_aload_n (j := 0) rfl (by decide +kernel)
theorem i_Lw_law_550 : mj_Snd zG ("StreamWatchLaw", "law", c_Lw_law, 7) 550 (x_iload 4) 552 := mj_iload (by decide +kernel)
theorem i_Lw_law_552 : mj_Snd zG ("StreamWatchLaw", "law", c_Lw_law, 7) 552 (x_const 6) 554 := mj_bipush (n := 6) (by decide) (by decide +kernel)
theorem i_Lw_law_554 : mj_Snd zG ("StreamWatchLaw", "law", c_Lw_law, 7) 554 (x_iadd) 555 := mj_iadd (by decide +kernel)
theorem d_Lw_law_555 : decode c_Lw_law 555 = .ok (.iaload, 1) := by decide +kernel
theorem i_Lw_law_556 : mj_Snd zG ("StreamWatchLaw", "law", c_Lw_law, 7) 556 (x_aload 3) 557 := mj_aload_n (j := 3) rfl (by decide +kernel)
theorem d_Lw_law_557 : decode c_Lw_law 557 = .ok (.invokestatic 79, 3) := by decide +kernel
theorem i_Lw_law_560 : mj_Snd zG ("StreamWatchLaw", "law", c_Lw_law, 7) 560 (x_istore 5) 562 := mj_istore (by decide) (by decide +kernel)
theorem i_Lw_law_562 : mj_Snd zG ("StreamWatchLaw", "law", c_Lw_law, 7) 562 (x_aload 2) 563 := mj_aload_n (j := 2) rfl (by decide +kernel)
theorem i_Lw_law_563 : mj_Snd zG ("StreamWatchLaw", "law", c_Lw_law, 7) 563 (x_aload 0) 564 := mj_aload_n (j := 0) rfl (by decide +kernel)
theorem i_Lw_law_564 : mj_Snd zG ("StreamWatchLaw", "law", c_Lw_law, 7) 564 (x_iload 4) 566 := mj_iload (by decide +kernel)
theorem i_Lw_law_566 : mj_Snd zG ("StreamWatchLaw", "law", c_Lw_law, 7) 566 (x_const 1) 567 := mj_const (n := 1) (by decide) (by decide +kernel)
theorem i_Lw_law_567 : mj_Snd zG ("StreamWatchLaw", "law", c_Lw_law, 7) 567 (x_iadd) 568 := mj_iadd (by decide +kernel)
theorem d_Lw_law_568 : decode c_Lw_law 568 = .ok (.iaload, 1) := by decide +kernel
theorem i_Lw_law_569 : mj_Snd zG ("StreamWatchLaw", "law", c_Lw_law, 7) 569 (x_aload 0) 570 := mj_aload_n (j := 0) rfl (by decide +kernel)
theorem i_Lw_law_570 : mj_Snd zG ("StreamWatchLaw", "law", c_Lw_law, 7) 570 (x_iload 4) 572 := mj_iload (by decide +kernel)
theorem i_Lw_law_572 : mj_Snd zG ("StreamWatchLaw", "law", c_Lw_law, 7) 572 (x_const 2) 573 := mj_const (n := 2) (by decide) (by decide +kernel)
theorem i_Lw_law_573 : mj_Snd zG ("StreamWatchLaw", "law", c_Lw_law, 7) 573 (x_iadd) 574 := mj_iadd (by decide +kernel)
theorem d_Lw_law_574 : decode c_Lw_law 574 = .ok (.iaload, 1) := by decide +kernel
theorem i_Lw_law_575 : mj_Snd zG ("StreamWatchLaw", "law", c_Lw_law, 7) 575 (x_i2l) 576 := mj_i2l (by decide +kernel)
theorem i_Lw_law_576 : mj_Snd zG ("StreamWatchLaw", "law", c_Lw_law, 7) 576 (x_const 32) 578 := mj_bipush (n := 32) (by decide) (by decide +kernel)
theorem i_Lw_law_578 : mj_Snd zG ("StreamWatchLaw", "law", c_Lw_law, 7) 578 (x_lshl) 579 := mj_lshl (by decide +kernel)
theorem i_Lw_law_579 : mj_Snd zG ("StreamWatchLaw", "law", c_Lw_law, 7) 579 (x_aload 0) 580 := mj_aload_n (j := 0) rfl (by decide +kernel)
theorem i_Lw_law_580 : mj_Snd zG ("StreamWatchLaw", "law", c_Lw_law, 7) 580 (x_iload 4) 582 := mj_iload (by decide +kernel)
theorem i_Lw_law_582 : mj_Snd zG ("StreamWatchLaw", "law", c_Lw_law, 7) 582 (x_const 3) 583 := mj_const (n := 3) (by decide) (by decide +kernel)
theorem i_Lw_law_583 : mj_Snd zG ("StreamWatchLaw", "law", c_Lw_law, 7) 583 (x_iadd) 584 := mj_iadd (by decide +kernel)
theorem d_Lw_law_584 : decode c_Lw_law 584 = .ok (.iaload, 1) := by decide +kernel
theorem i_Lw_law_585 : mj_Snd zG ("StreamWatchLaw", "law", c_Lw_law, 7) 585 (x_i2l) 586 := mj_i2l (by decide +kernel)
theorem i_Lw_law_586 : mj_Snd zG ("StreamWatchLaw", "law", c_Lw_law, 7) 586 (x_lconst 4294967295) 589 := mj_ldc2 z5_78 (by decide +kernel)
theorem i_Lw_law_589 : mj_Snd zG ("StreamWatchLaw", "law", c_Lw_law, 7) 589 (x_land) 590 := mj_land (by decide +kernel)
theorem i_Lw_law_590 : mj_Snd zG ("StreamWatchLaw", "law", c_Lw_law, 7) 590 (x_lor) 591 := mj_lor (by decide +kernel)
theorem i_Lw_law_591 : mj_Snd zG ("StreamWatchLaw", "law", c_Lw_law, 7) 591 (x_aload 0) 592 := mj_aload_n (j := 0) rfl (by decide +kernel)
theorem i_Lw_law_592 : mj_Snd zG ("StreamWatchLaw", "law", c_Lw_law, 7) 592 (x_iload 4) 594 := mj_iload (by decide +kernel)
theorem i_Lw_law_594 : mj_Snd zG ("StreamWatchLaw", "law", c_Lw_law, 7) 594 (x_const 4) 595 := mj_const (n := 4) (by decide) (by decide +kernel)
theorem i_Lw_law_595 : mj_Snd zG ("StreamWatchLaw", "law", c_Lw_law, 7) 595 (x_iadd) 596 := mj_iadd (by decide +kernel)
theorem d_Lw_law_596 : decode c_Lw_law 596 = .ok (.iaload, 1) := by decide +kernel
theorem i_Lw_law_597 : mj_Snd zG ("StreamWatchLaw", "law", c_Lw_law, 7) 597 (x_aload 0) 598 := mj_aload_n (j := 0) rfl (by decide +kernel)
theorem i_Lw_law_598 : mj_Snd zG ("StreamWatchLaw", "law", c_Lw_law, 7) 598 (x_iload 4) 600 := mj_iload (by decide +kernel)
theorem i_Lw_law_600 : mj_Snd zG ("StreamWatchLaw", "law", c_Lw_law, 7) 600 (x_const 5) 601 := mj_const (n := 5) (by decide) (by decide +kernel)
theorem i_Lw_law_601 : mj_Snd zG ("StreamWatchLaw", "law", c_Lw_law, 7) 601 (x_iadd) 602 := mj_iadd (by decide +kernel)
theorem d_Lw_law_602 : decode c_Lw_law 602 = .ok (.iaload, 1) := by decide +kernel
theorem i_Lw_law_603 : mj_Snd zG ("StreamWatchLaw", "law", c_Lw_law, 7) 603 (x_aload 0) 604 := mj_aload_n (j := 0) rfl (by decide +kernel)
theorem i_Lw_law_604 : mj_Snd zG ("StreamWatchLaw", "law", c_Lw_law, 7) 604 (x_iload 4) 606 := mj_iload (by decide +kernel)
theorem i_Lw_law_606 : mj_Snd zG ("StreamWatchLaw", "law", c_Lw_law, 7) 606 (x_const 6) 608 := mj_bipush (n := 6) (by decide) (by decide +kernel)
theorem i_Lw_law_608 : mj_Snd zG ("StreamWatchLaw", "law", c_Lw_law, 7) 608 (x_iadd) 609 := mj_iadd (by decide +kernel)
theorem d_Lw_law_609 : decode c_Lw_law 609 = .ok (.iaload, 1) := by decide +kernel
theorem d_Lw_law_610 : decode c_Lw_law 610 = .ok (.invokevirtual 82, 3) := by decide +kernel
theorem i_Lw_law_613 : mj_Snd zG ("StreamWatchLaw", "law", c_Lw_law, 7) 613 (x_istore 6) 615 := mj_istore (by decide) (by decide +kernel)
theorem i_Lw_law_615 : mj_Snd zG ("StreamWatchLaw", "law", c_Lw_law, 7) 615 (x_aload 2) 616 := mj_aload_n (j := 2) rfl (by decide +kernel)
theorem d_Lw_law_616 : decode c_Lw_law 616 = .ok (.invokevirtual 43, 3) := by decide +kernel
theorem i_Lw_law_619 : mj_Snd zG ("StreamWatchLaw", "law", c_Lw_law, 7) 619 (x_iload 5) 621 := mj_iload (by decide +kernel)
theorem d_Lw_law_621 : decode c_Lw_law 621 = .ok (.if_icmp .eq 5, 3) := by decide +kernel
theorem i_Lw_law_624 : mj_Snd zG ("StreamWatchLaw", "law", c_Lw_law, 7) 624 (x_const 0) 625 := mj_const (n := 0) (by decide) (by decide +kernel)
theorem d_Lw_law_625 : decode c_Lw_law 625 = .ok (.ireturn, 1) := by decide +kernel
theorem i_Lw_law_626 : mj_Snd zG ("StreamWatchLaw", "law", c_Lw_law, 7) 626 (x_iload 5) 628 := mj_iload (by decide +kernel)
theorem d_Lw_law_628 : decode c_Lw_law 628 = .ok (.ifCond .ne 15, 3) := by decide +kernel
theorem i_Lw_law_631 : mj_Snd zG ("StreamWatchLaw", "law", c_Lw_law, 7) 631 (x_aload 3) 632 := mj_aload_n (j := 3) rfl (by decide +kernel)
theorem i_Lw_law_632 : mj_Snd zG ("StreamWatchLaw", "law", c_Lw_law, 7) 632 (x_const 0) 633 := mj_const (n := 0) (by decide) (by decide +kernel)
theorem d_Lw_law_633 : decode c_Lw_law 633 = .ok (.laload, 1) := by decide +kernel
theorem i_Lw_law_634 : mj_Snd zG ("StreamWatchLaw", "law", c_Lw_law, 7) 634 (x_iload 6) 636 := mj_iload (by decide +kernel)
theorem i_Lw_law_636 : mj_Snd zG ("StreamWatchLaw", "law", c_Lw_law, 7) 636 (x_i2l) 637 := mj_i2l (by decide +kernel)
theorem i_Lw_law_637 : mj_Snd zG ("StreamWatchLaw", "law", c_Lw_law, 7) 637 (x_lcmp) 638 := mj_lcmp (by decide +kernel)
theorem d_Lw_law_638 : decode c_Lw_law 638 = .ok (.ifCond .eq 5, 3) := by decide +kernel
theorem i_Lw_law_641 : mj_Snd zG ("StreamWatchLaw", "law", c_Lw_law, 7) 641 (x_const 0) 642 := mj_const (n := 0) (by decide) (by decide +kernel)
theorem d_Lw_law_642 : decode c_Lw_law 642 = .ok (.ireturn, 1) := by decide +kernel
theorem i_Lw_law_643 : mj_Snd zG ("StreamWatchLaw", "law", c_Lw_law, 7) 643 (x_skip) 831 := mj_goto (off := 188) (by decide) (by decide +kernel)
theorem i_Lw_law_646 : mj_Snd zG ("StreamWatchLaw", "law", c_Lw_law, 7) 646 (x_aload 1) 647 := mj_aload_n (j := 1) rfl (by decide +kernel)
theorem i_Lw_law_647 : mj_Snd zG ("StreamWatchLaw", "law", c_Lw_law, 7) 647 (x_aload 0) 648 := mj_aload_n (j := 0) rfl (by decide +kernel)
theorem i_Lw_law_648 : mj_Snd zG ("StreamWatchLaw", "law", c_Lw_law, 7) 648 (x_iload 4) 650 := mj_iload (by decide +kernel)
theorem i_Lw_law_650 : mj_Snd zG ("StreamWatchLaw", "law", c_Lw_law, 7) 650 (x_const 1) 651 := mj_const (n := 1) (by decide) (by decide +kernel)
theorem i_Lw_law_651 : mj_Snd zG ("StreamWatchLaw", "law", c_Lw_law, 7) 651 (x_iadd) 652 := mj_iadd (by decide +kernel)
theorem d_Lw_law_652 : decode c_Lw_law 652 = .ok (.iaload, 1) := by decide +kernel
theorem i_Lw_law_653 : mj_Snd zG ("StreamWatchLaw", "law", c_Lw_law, 7) 653 (x_aload 0) 654 := mj_aload_n (j := 0) rfl (by decide +kernel)
theorem i_Lw_law_654 : mj_Snd zG ("StreamWatchLaw", "law", c_Lw_law, 7) 654 (x_iload 4) 656 := mj_iload (by decide +kernel)
theorem i_Lw_law_656 : mj_Snd zG ("StreamWatchLaw", "law", c_Lw_law, 7) 656 (x_const 2) 657 := mj_const (n := 2) (by decide) (by decide +kernel)
theorem i_Lw_law_657 : mj_Snd zG ("StreamWatchLaw", "law", c_Lw_law, 7) 657 (x_iadd) 658 := mj_iadd (by decide +kernel)
theorem d_Lw_law_658 : decode c_Lw_law 658 = .ok (.iaload, 1) := by decide +kernel
theorem d_Lw_law_659 : decode c_Lw_law 659 = .ok (.invokevirtual 83, 3) := by decide +kernel
theorem i_Lw_law_662 : mj_Snd zG ("StreamWatchLaw", "law", c_Lw_law, 7) 662 (x_aload 2) 663 := mj_aload_n (j := 2) rfl (by decide +kernel)
theorem i_Lw_law_663 : mj_Snd zG ("StreamWatchLaw", "law", c_Lw_law, 7) 663 (x_aload 0) 664 := mj_aload_n (j := 0) rfl (by decide +kernel)
theorem i_Lw_law_664 : mj_Snd zG ("StreamWatchLaw", "law", c_Lw_law, 7) 664 (x_iload 4) 666 := mj_iload (by decide +kernel)
theorem i_Lw_law_666 : mj_Snd zG ("StreamWatchLaw", "law", c_Lw_law, 7) 666 (x_const 1) 667 := mj_const (n := 1) (by decide) (by decide +kernel)
theorem i_Lw_law_667 : mj_Snd zG ("StreamWatchLaw", "law", c_Lw_law, 7) 667 (x_iadd) 668 := mj_iadd (by decide +kernel)
theorem d_Lw_law_668 : decode c_Lw_law 668 = .ok (.iaload, 1) := by decide +kernel
theorem i_Lw_law_669 : mj_Snd zG ("StreamWatchLaw", "law", c_Lw_law, 7) 669 (x_aload 0) 670 := mj_aload_n (j := 0) rfl (by decide +kernel)
theorem i_Lw_law_670 : mj_Snd zG ("StreamWatchLaw", "law", c_Lw_law, 7) 670 (x_iload 4) 672 := mj_iload (by decide +kernel)
theorem i_Lw_law_672 : mj_Snd zG ("StreamWatchLaw", "law", c_Lw_law, 7) 672 (x_const 2) 673 := mj_const (n := 2) (by decide) (by decide +kernel)
theorem i_Lw_law_673 : mj_Snd zG ("StreamWatchLaw", "law", c_Lw_law, 7) 673 (x_iadd) 674 := mj_iadd (by decide +kernel)
theorem d_Lw_law_674 : decode c_Lw_law 674 = .ok (.iaload, 1) := by decide +kernel
theorem d_Lw_law_675 : decode c_Lw_law 675 = .ok (.invokevirtual 86, 3) := by decide +kernel
theorem d_Lw_law_678 : decode c_Lw_law 678 = .ok (.if_icmp .eq 153, 3) := by decide +kernel
theorem i_Lw_law_681 : mj_Snd zG ("StreamWatchLaw", "law", c_Lw_law, 7) 681 (x_const 0) 682 := mj_const (n := 0) (by decide) (by decide +kernel)
theorem d_Lw_law_682 : decode c_Lw_law 682 = .ok (.ireturn, 1) := by decide +kernel
theorem i_Lw_law_683 : mj_Snd zG ("StreamWatchLaw", "law", c_Lw_law, 7) 683 (x_aload 1) 684 := mj_aload_n (j := 1) rfl (by decide +kernel)
theorem i_Lw_law_684 : mj_Snd zG ("StreamWatchLaw", "law", c_Lw_law, 7) 684 (x_aload 0) 685 := mj_aload_n (j := 0) rfl (by decide +kernel)
theorem i_Lw_law_685 : mj_Snd zG ("StreamWatchLaw", "law", c_Lw_law, 7) 685 (x_iload 4) 687 := mj_iload (by decide +kernel)
theorem i_Lw_law_687 : mj_Snd zG ("StreamWatchLaw", "law", c_Lw_law, 7) 687 (x_const 1) 688 := mj_const (n := 1) (by decide) (by decide +kernel)
theorem i_Lw_law_688 : mj_Snd zG ("StreamWatchLaw", "law", c_Lw_law, 7) 688 (x_iadd) 689 := mj_iadd (by decide +kernel)
theorem d_Lw_law_689 : decode c_Lw_law 689 = .ok (.iaload, 1) := by decide +kernel
theorem i_Lw_law_690 : mj_Snd zG ("StreamWatchLaw", "law", c_Lw_law, 7) 690 (x_aload 0) 691 := mj_aload_n (j := 0) rfl (by decide +kernel)
theorem i_Lw_law_691 : mj_Snd zG ("StreamWatchLaw", "law", c_Lw_law, 7) 691 (x_iload 4) 693 := mj_iload (by decide +kernel)
theorem i_Lw_law_693 : mj_Snd zG ("StreamWatchLaw", "law", c_Lw_law, 7) 693 (x_const 2) 694 := mj_const (n := 2) (by decide) (by decide +kernel)
theorem i_Lw_law_694 : mj_Snd zG ("StreamWatchLaw", "law", c_Lw_law, 7) 694 (x_iadd) 695 := mj_iadd (by decide +kernel)
theorem d_Lw_law_695 : decode c_Lw_law 695 = .ok (.iaload, 1) := by decide +kernel
theorem i_Lw_law_696 : mj_Snd zG ("StreamWatchLaw", "law", c_Lw_law, 7) 696 (x_aload 0) 697 := mj_aload_n (j := 0) rfl (by decide +kernel)
theorem i_Lw_law_697 : mj_Snd zG ("StreamWatchLaw", "law", c_Lw_law, 7) 697 (x_iload 4) 699 := mj_iload (by decide +kernel)
theorem i_Lw_law_699 : mj_Snd zG ("StreamWatchLaw", "law", c_Lw_law, 7) 699 (x_const 3) 700 := mj_const (n := 3) (by decide) (by decide +kernel)
theorem i_Lw_law_700 : mj_Snd zG ("StreamWatchLaw", "law", c_Lw_law, 7) 700 (x_iadd) 701 := mj_iadd (by decide +kernel)
theorem d_Lw_law_701 : decode c_Lw_law 701 = .ok (.iaload, 1) := by decide +kernel
theorem d_Lw_law_702 : decode c_Lw_law 702 = .ok (.invokevirtual 87, 3) := by decide +kernel
theorem i_Lw_law_705 : mj_Snd zG ("StreamWatchLaw", "law", c_Lw_law, 7) 705 (x_aload 2) 706 := mj_aload_n (j := 2) rfl (by decide +kernel)
theorem i_Lw_law_706 : mj_Snd zG ("StreamWatchLaw", "law", c_Lw_law, 7) 706 (x_aload 0) 707 := mj_aload_n (j := 0) rfl (by decide +kernel)
theorem i_Lw_law_707 : mj_Snd zG ("StreamWatchLaw", "law", c_Lw_law, 7) 707 (x_iload 4) 709 := mj_iload (by decide +kernel)
theorem i_Lw_law_709 : mj_Snd zG ("StreamWatchLaw", "law", c_Lw_law, 7) 709 (x_const 1) 710 := mj_const (n := 1) (by decide) (by decide +kernel)
theorem i_Lw_law_710 : mj_Snd zG ("StreamWatchLaw", "law", c_Lw_law, 7) 710 (x_iadd) 711 := mj_iadd (by decide +kernel)
theorem d_Lw_law_711 : decode c_Lw_law 711 = .ok (.iaload, 1) := by decide +kernel
theorem i_Lw_law_712 : mj_Snd zG ("StreamWatchLaw", "law", c_Lw_law, 7) 712 (x_aload 0) 713 := mj_aload_n (j := 0) rfl (by decide +kernel)
theorem i_Lw_law_713 : mj_Snd zG ("StreamWatchLaw", "law", c_Lw_law, 7) 713 (x_iload 4) 715 := mj_iload (by decide +kernel)
theorem i_Lw_law_715 : mj_Snd zG ("StreamWatchLaw", "law", c_Lw_law, 7) 715 (x_const 2) 716 := mj_const (n := 2) (by decide) (by decide +kernel)
theorem i_Lw_law_716 : mj_Snd zG ("StreamWatchLaw", "law", c_Lw_law, 7) 716 (x_iadd) 717 := mj_iadd (by decide +kernel)
theorem d_Lw_law_717 : decode c_Lw_law 717 = .ok (.iaload, 1) := by decide +kernel
theorem i_Lw_law_718 : mj_Snd zG ("StreamWatchLaw", "law", c_Lw_law, 7) 718 (x_aload 0) 719 := mj_aload_n (j := 0) rfl (by decide +kernel)
theorem i_Lw_law_719 : mj_Snd zG ("StreamWatchLaw", "law", c_Lw_law, 7) 719 (x_iload 4) 721 := mj_iload (by decide +kernel)
theorem i_Lw_law_721 : mj_Snd zG ("StreamWatchLaw", "law", c_Lw_law, 7) 721 (x_const 3) 722 := mj_const (n := 3) (by decide) (by decide +kernel)
theorem i_Lw_law_722 : mj_Snd zG ("StreamWatchLaw", "law", c_Lw_law, 7) 722 (x_iadd) 723 := mj_iadd (by decide +kernel)
theorem d_Lw_law_723 : decode c_Lw_law 723 = .ok (.iaload, 1) := by decide +kernel
theorem d_Lw_law_724 : decode c_Lw_law 724 = .ok (.invokevirtual 91, 3) := by decide +kernel
theorem d_Lw_law_727 : decode c_Lw_law 727 = .ok (.if_icmp .eq 104, 3) := by decide +kernel
theorem i_Lw_law_730 : mj_Snd zG ("StreamWatchLaw", "law", c_Lw_law, 7) 730 (x_const 0) 731 := mj_const (n := 0) (by decide) (by decide +kernel)
theorem d_Lw_law_731 : decode c_Lw_law 731 = .ok (.ireturn, 1) := by decide +kernel
theorem i_Lw_law_732 : mj_Snd zG ("StreamWatchLaw", "law", c_Lw_law, 7) 732 (x_aload 1) 733 := mj_aload_n (j := 1) rfl (by decide +kernel)
theorem i_Lw_law_733 : mj_Snd zG ("StreamWatchLaw", "law", c_Lw_law, 7) 733 (x_aload 0) 734 := mj_aload_n (j := 0) rfl (by decide +kernel)
theorem i_Lw_law_734 : mj_Snd zG ("StreamWatchLaw", "law", c_Lw_law, 7) 734 (x_iload 4) 736 := mj_iload (by decide +kernel)
theorem i_Lw_law_736 : mj_Snd zG ("StreamWatchLaw", "law", c_Lw_law, 7) 736 (x_const 1) 737 := mj_const (n := 1) (by decide) (by decide +kernel)
theorem i_Lw_law_737 : mj_Snd zG ("StreamWatchLaw", "law", c_Lw_law, 7) 737 (x_iadd) 738 := mj_iadd (by decide +kernel)
theorem d_Lw_law_738 : decode c_Lw_law 738 = .ok (.iaload, 1) := by decide +kernel
theorem i_Lw_law_739 : mj_Snd zG ("StreamWatchLaw", "law", c_Lw_law, 7) 739 (x_aload 0) 740 := mj_aload_n (j := 0) rfl (by decide +kernel)
theorem i_Lw_law_740 : mj_Snd zG ("StreamWatchLaw", "law", c_Lw_law, 7) 740 (x_iload 4) 742 := mj_iload (by decide +kernel)
theorem i_Lw_law_742 : mj_Snd zG ("StreamWatchLaw", "law", c_Lw_law, 7) 742 (x_const 2) 743 := mj_const (n := 2) (by decide) (by decide +kernel)
theorem i_Lw_law_743 : mj_Snd zG ("StreamWatchLaw", "law", c_Lw_law, 7) 743 (x_iadd) 744 := mj_iadd (by decide +kernel)
theorem d_Lw_law_744 : decode c_Lw_law 744 = .ok (.iaload, 1) := by decide +kernel
theorem i_Lw_law_745 : mj_Snd zG ("StreamWatchLaw", "law", c_Lw_law, 7) 745 (x_aload 0) 746 := mj_aload_n (j := 0) rfl (by decide +kernel)
theorem i_Lw_law_746 : mj_Snd zG ("StreamWatchLaw", "law", c_Lw_law, 7) 746 (x_iload 4) 748 := mj_iload (by decide +kernel)
theorem i_Lw_law_748 : mj_Snd zG ("StreamWatchLaw", "law", c_Lw_law, 7) 748 (x_const 3) 749 := mj_const (n := 3) (by decide) (by decide +kernel)
theorem i_Lw_law_749 : mj_Snd zG ("StreamWatchLaw", "law", c_Lw_law, 7) 749 (x_iadd) 750 := mj_iadd (by decide +kernel)
theorem d_Lw_law_750 : decode c_Lw_law 750 = .ok (.iaload, 1) := by decide +kernel
theorem d_Lw_law_751 : decode c_Lw_law 751 = .ok (.invokevirtual 92, 3) := by decide +kernel
theorem i_Lw_law_754 : mj_Snd zG ("StreamWatchLaw", "law", c_Lw_law, 7) 754 (x_aload 2) 755 := mj_aload_n (j := 2) rfl (by decide +kernel)
theorem i_Lw_law_755 : mj_Snd zG ("StreamWatchLaw", "law", c_Lw_law, 7) 755 (x_aload 0) 756 := mj_aload_n (j := 0) rfl (by decide +kernel)
theorem i_Lw_law_756 : mj_Snd zG ("StreamWatchLaw", "law", c_Lw_law, 7) 756 (x_iload 4) 758 := mj_iload (by decide +kernel)
theorem i_Lw_law_758 : mj_Snd zG ("StreamWatchLaw", "law", c_Lw_law, 7) 758 (x_const 1) 759 := mj_const (n := 1) (by decide) (by decide +kernel)
theorem i_Lw_law_759 : mj_Snd zG ("StreamWatchLaw", "law", c_Lw_law, 7) 759 (x_iadd) 760 := mj_iadd (by decide +kernel)
theorem d_Lw_law_760 : decode c_Lw_law 760 = .ok (.iaload, 1) := by decide +kernel
theorem i_Lw_law_761 : mj_Snd zG ("StreamWatchLaw", "law", c_Lw_law, 7) 761 (x_aload 0) 762 := mj_aload_n (j := 0) rfl (by decide +kernel)
theorem i_Lw_law_762 : mj_Snd zG ("StreamWatchLaw", "law", c_Lw_law, 7) 762 (x_iload 4) 764 := mj_iload (by decide +kernel)
theorem i_Lw_law_764 : mj_Snd zG ("StreamWatchLaw", "law", c_Lw_law, 7) 764 (x_const 2) 765 := mj_const (n := 2) (by decide) (by decide +kernel)
theorem i_Lw_law_765 : mj_Snd zG ("StreamWatchLaw", "law", c_Lw_law, 7) 765 (x_iadd) 766 := mj_iadd (by decide +kernel)
theorem d_Lw_law_766 : decode c_Lw_law 766 = .ok (.iaload, 1) := by decide +kernel
theorem i_Lw_law_767 : mj_Snd zG ("StreamWatchLaw", "law", c_Lw_law, 7) 767 (x_aload 0) 768 := mj_aload_n (j := 0) rfl (by decide +kernel)
theorem i_Lw_law_768 : mj_Snd zG ("StreamWatchLaw", "law", c_Lw_law, 7) 768 (x_iload 4) 770 := mj_iload (by decide +kernel)
theorem i_Lw_law_770 : mj_Snd zG ("StreamWatchLaw", "law", c_Lw_law, 7) 770 (x_const 3) 771 := mj_const (n := 3) (by decide) (by decide +kernel)
theorem i_Lw_law_771 : mj_Snd zG ("StreamWatchLaw", "law", c_Lw_law, 7) 771 (x_iadd) 772 := mj_iadd (by decide +kernel)
theorem d_Lw_law_772 : decode c_Lw_law 772 = .ok (.iaload, 1) := by decide +kernel
theorem d_Lw_law_773 : decode c_Lw_law 773 = .ok (.invokevirtual 95, 3) := by decide +kernel
theorem d_Lw_law_776 : decode c_Lw_law 776 = .ok (.if_icmp .eq 55, 3) := by decide +kernel
theorem i_Lw_law_779 : mj_Snd zG ("StreamWatchLaw", "law", c_Lw_law, 7) 779 (x_const 0) 780 := mj_const (n := 0) (by decide) (by decide +kernel)
theorem d_Lw_law_780 : decode c_Lw_law 780 = .ok (.ireturn, 1) := by decide +kernel
theorem i_Lw_law_781 : mj_Snd zG ("StreamWatchLaw", "law", c_Lw_law, 7) 781 (x_aload 1) 782 := mj_aload_n (j := 1) rfl (by decide +kernel)
theorem d_Lw_law_782 : decode c_Lw_law 782 = .ok (.invokevirtual 96, 3) := by decide +kernel
theorem i_Lw_law_785 : mj_Snd zG ("StreamWatchLaw", "law", c_Lw_law, 7) 785 (x_aload 2) 786 := mj_aload_n (j := 2) rfl (by decide +kernel)
theorem d_Lw_law_786 : decode c_Lw_law 786 = .ok (.invokevirtual 99, 3) := by decide +kernel
theorem d_Lw_law_789 : decode c_Lw_law 789 = .ok (.if_icmp .eq 42, 3) := by decide +kernel
theorem i_Lw_law_792 : mj_Snd zG ("StreamWatchLaw", "law", c_Lw_law, 7) 792 (x_const 0) 793 := mj_const (n := 0) (by decide) (by decide +kernel)
theorem d_Lw_law_793 : decode c_Lw_law 793 = .ok (.ireturn, 1) := by decide +kernel
theorem i_Lw_law_794 : mj_Snd zG ("StreamWatchLaw", "law", c_Lw_law, 7) 794 (x_aload 1) 795 := mj_aload_n (j := 1) rfl (by decide +kernel)
theorem i_Lw_law_795 : mj_Snd zG ("StreamWatchLaw", "law", c_Lw_law, 7) 795 (x_aload 0) 796 := mj_aload_n (j := 0) rfl (by decide +kernel)
theorem i_Lw_law_796 : mj_Snd zG ("StreamWatchLaw", "law", c_Lw_law, 7) 796 (x_iload 4) 798 := mj_iload (by decide +kernel)
theorem i_Lw_law_798 : mj_Snd zG ("StreamWatchLaw", "law", c_Lw_law, 7) 798 (x_const 1) 799 := mj_const (n := 1) (by decide) (by decide +kernel)
theorem i_Lw_law_799 : mj_Snd zG ("StreamWatchLaw", "law", c_Lw_law, 7) 799 (x_iadd) 800 := mj_iadd (by decide +kernel)
theorem d_Lw_law_800 : decode c_Lw_law 800 = .ok (.iaload, 1) := by decide +kernel
theorem i_Lw_law_801 : mj_Snd zG ("StreamWatchLaw", "law", c_Lw_law, 7) 801 (x_aload 0) 802 := mj_aload_n (j := 0) rfl (by decide +kernel)
theorem i_Lw_law_802 : mj_Snd zG ("StreamWatchLaw", "law", c_Lw_law, 7) 802 (x_iload 4) 804 := mj_iload (by decide +kernel)
theorem i_Lw_law_804 : mj_Snd zG ("StreamWatchLaw", "law", c_Lw_law, 7) 804 (x_const 2) 805 := mj_const (n := 2) (by decide) (by decide +kernel)
theorem i_Lw_law_805 : mj_Snd zG ("StreamWatchLaw", "law", c_Lw_law, 7) 805 (x_iadd) 806 := mj_iadd (by decide +kernel)
theorem d_Lw_law_806 : decode c_Lw_law 806 = .ok (.iaload, 1) := by decide +kernel
theorem d_Lw_law_807 : decode c_Lw_law 807 = .ok (.invokevirtual 100, 3) := by decide +kernel
theorem i_Lw_law_810 : mj_Snd zG ("StreamWatchLaw", "law", c_Lw_law, 7) 810 (x_aload 2) 811 := mj_aload_n (j := 2) rfl (by decide +kernel)
theorem i_Lw_law_811 : mj_Snd zG ("StreamWatchLaw", "law", c_Lw_law, 7) 811 (x_aload 0) 812 := mj_aload_n (j := 0) rfl (by decide +kernel)
theorem i_Lw_law_812 : mj_Snd zG ("StreamWatchLaw", "law", c_Lw_law, 7) 812 (x_iload 4) 814 := mj_iload (by decide +kernel)
theorem i_Lw_law_814 : mj_Snd zG ("StreamWatchLaw", "law", c_Lw_law, 7) 814 (x_const 1) 815 := mj_const (n := 1) (by decide) (by decide +kernel)
theorem i_Lw_law_815 : mj_Snd zG ("StreamWatchLaw", "law", c_Lw_law, 7) 815 (x_iadd) 816 := mj_iadd (by decide +kernel)
theorem d_Lw_law_816 : decode c_Lw_law 816 = .ok (.iaload, 1) := by decide +kernel
theorem i_Lw_law_817 : mj_Snd zG ("StreamWatchLaw", "law", c_Lw_law, 7) 817 (x_aload 0) 818 := mj_aload_n (j := 0) rfl (by decide +kernel)
theorem i_Lw_law_818 : mj_Snd zG ("StreamWatchLaw", "law", c_Lw_law, 7) 818 (x_iload 4) 820 := mj_iload (by decide +kernel)
theorem i_Lw_law_820 : mj_Snd zG ("StreamWatchLaw", "law", c_Lw_law, 7) 820 (x_const 2) 821 := mj_const (n := 2) (by decide) (by decide +kernel)
theorem i_Lw_law_821 : mj_Snd zG ("StreamWatchLaw", "law", c_Lw_law, 7) 821 (x_iadd) 822 := mj_iadd (by decide +kernel)
theorem d_Lw_law_822 : decode c_Lw_law 822 = .ok (.iaload, 1) := by decide +kernel
theorem d_Lw_law_823 : decode c_Lw_law 823 = .ok (.invokevirtual 103, 3) := by decide +kernel
theorem d_Lw_law_826 : decode c_Lw_law 826 = .ok (.if_icmp .eq 5, 3) := by decide +kernel
theorem i_Lw_law_829 : mj_Snd zG ("StreamWatchLaw", "law", c_Lw_law, 7) 829 (x_const 0) 830 := mj_const (n := 0) (by decide) (by decide +kernel)
theorem d_Lw_law_830 : decode c_Lw_law 830 = .ok (.ireturn, 1) := by decide +kernel
theorem i_Lw_law_831 : mj_Snd zG ("StreamWatchLaw", "law", c_Lw_law, 7) 831 (x_iinc 4 8) 834 := mj_iinc (n := 8) (by decide) (by decide) (by decide +kernel)
theorem i_Lw_law_834 : mj_Snd zG ("StreamWatchLaw", "law", c_Lw_law, 7) 834 (x_skip) 33 := mj_goto (off := (-801)) (by decide) (by decide +kernel)
theorem i_Lw_law_837 : mj_Snd zG ("StreamWatchLaw", "law", c_Lw_law, 7) 837 (x_const 1) 838 := mj_const (n := 1) (by decide) (by decide +kernel)
theorem d_Lw_law_838 : decode c_Lw_law 838 = .ok (.ireturn, 1) := by decide +kernel
theorem b_Lw_law_3 : mj_Ch zG ("StreamWatchLaw", "law", c_Lw_law, 7) 3 [x_dup, x_aload 0, x_const 0] 6 := ⟨_, i_Lw_law_3, _, i_Lw_law_4, _, i_Lw_law_5, rfl⟩
theorem b_Lw_law_12 : mj_Ch zG ("StreamWatchLaw", "law", c_Lw_law, 7) 12 [x_astore 1] 13 := ⟨_, i_Lw_law_12, rfl⟩
theorem b_Lw_law_16 : mj_Ch zG ("StreamWatchLaw", "law", c_Lw_law, 7) 16 [x_dup, x_aload 0, x_const 0] 19 := ⟨_, i_Lw_law_16, _, i_Lw_law_17, _, i_Lw_law_18, rfl⟩
theorem b_Lw_law_25 : mj_Ch zG ("StreamWatchLaw", "law", c_Lw_law, 7) 25 [x_astore 2, x_const 1] 27 := ⟨_, i_Lw_law_25, _, i_Lw_law_26, rfl⟩
theorem b_Lw_law_29 : mj_Ch zG ("StreamWatchLaw", "law", c_Lw_law, 7) 29 [x_astore 3, x_const 1, x_istore 4] 33 := ⟨_, i_Lw_law_29, _, i_Lw_law_30, _, i_Lw_law_31, rfl⟩
theorem b_Lw_law_33 : mj_Ch zG ("StreamWatchLaw", "law", c_Lw_law, 7) 33 [x_iload 4, x_aload 0] 36 := ⟨_, i_Lw_law_33, _, i_Lw_law_35, rfl⟩
theorem b_Lw_law_37 : mj_Ch zG ("StreamWatchLaw", "law", c_Lw_law, 7) 37 [x_const 8, x_isub] 40 := ⟨_, i_Lw_law_37, _, i_Lw_law_39, rfl⟩
theorem b_Lw_law_43 : mj_Ch zG ("StreamWatchLaw", "law", c_Lw_law, 7) 43 [x_aload 0, x_iload 4] 46 := ⟨_, i_Lw_law_43, _, i_Lw_law_44, rfl⟩
theorem b_Lw_law_47 : mj_Ch zG ("StreamWatchLaw", "law", c_Lw_law, 7) 47 [x_const 15, x_iand] 50 := ⟨_, i_Lw_law_47, _, i_Lw_law_49, rfl⟩
theorem b_Lw_law_120 : mj_Ch zG ("StreamWatchLaw", "law", c_Lw_law, 7) 120 [x_aload 1, x_aload 0, x_iload 4, x_const 1, x_iadd] 126 := ⟨_, i_Lw_law_120, _, i_Lw_law_121, _, i_Lw_law_122, _, i_Lw_law_124, _, i_Lw_law_125, rfl⟩
theorem b_Lw_law_127 : mj_Ch zG ("StreamWatchLaw", "law", c_Lw_law, 7) 127 [x_aload 0, x_iload 4, x_const 2, x_iadd] 132 := ⟨_, i_Lw_law_127, _, i_Lw_law_128, _, i_Lw_law_130, _, i_Lw_law_131, rfl⟩
theorem b_Lw_law_133 : mj_Ch zG ("StreamWatchLaw", "law", c_Lw_law, 7) 133 [x_aload 0, x_iload 4, x_const 3, x_iadd] 138 := ⟨_, i_Lw_law_133, _, i_Lw_law_134, _, i_Lw_law_136, _, i_Lw_law_137, rfl⟩
theorem b_Lw_law_139 : mj_Ch zG ("StreamWatchLaw", "law", c_Lw_law, 7) 139 [x_aload 0, x_iload 4, x_const 4, x_iadd] 144 := ⟨_, i_Lw_law_139, _, i_Lw_law_140, _, i_Lw_law_142, _, i_Lw_law_143, rfl⟩
theorem b_Lw_law_145 : mj_Ch zG ("StreamWatchLaw", "law", c_Lw_law, 7) 145 [x_aload 0, x_iload 4, x_const 5, x_iadd] 150 := ⟨_, i_Lw_law_145, _, i_Lw_law_146, _, i_Lw_law_148, _, i_Lw_law_149, rfl⟩
theorem b_Lw_law_151 : mj_Ch zG ("StreamWatchLaw", "law", c_Lw_law, 7) 151 [x_aload 0, x_iload 4, x_const 6, x_iadd] 157 := ⟨_, i_Lw_law_151, _, i_Lw_law_152, _, i_Lw_law_154, _, i_Lw_law_156, rfl⟩
theorem b_Lw_law_158 : mj_Ch zG ("StreamWatchLaw", "law", c_Lw_law, 7) 158 [x_i2l, x_const 32, x_lshl, x_aload 0, x_iload 4, x_const 7, x_iadd] 168 := ⟨_, i_Lw_law_158, _, i_Lw_law_159, _, i_Lw_law_161, _, i_Lw_law_162, _, i_Lw_law_163, _, i_Lw_law_165, _, i_Lw_law_167, rfl⟩
theorem b_Lw_law_169 : mj_Ch zG ("StreamWatchLaw", "law", c_Lw_law, 7) 169 [x_i2l, x_lconst 4294967295, x_land, x_lor, x_aload 3] 176 := ⟨_, i_Lw_law_169, _, i_Lw_law_170, _, i_Lw_law_173, _, i_Lw_law_174, _, i_Lw_law_175, rfl⟩
theorem b_Lw_law_179 : mj_Ch zG ("StreamWatchLaw", "law", c_Lw_law, 7) 179 [x_istore 5, x_aload 2, x_aload 0, x_iload 4, x_const 1, x_iadd] 187 := ⟨_, i_Lw_law_179, _, i_Lw_law_181, _, i_Lw_law_182, _, i_Lw_law_183, _, i_Lw_law_185, _, i_Lw_law_186, rfl⟩
theorem b_Lw_law_188 : mj_Ch zG ("StreamWatchLaw", "law", c_Lw_law, 7) 188 [x_aload 0, x_iload 4, x_const 2, x_iadd] 193 := ⟨_, i_Lw_law_188, _, i_Lw_law_189, _, i_Lw_law_191, _, i_Lw_law_192, rfl⟩
theorem b_Lw_law_194 : mj_Ch zG ("StreamWatchLaw", "law", c_Lw_law, 7) 194 [x_aload 0, x_iload 4, x_const 3, x_iadd] 199 := ⟨_, i_Lw_law_194, _, i_Lw_law_195, _, i_Lw_law_197, _, i_Lw_law_198, rfl⟩
theorem b_Lw_law_200 : mj_Ch zG ("StreamWatchLaw", "law", c_Lw_law, 7) 200 [x_aload 0, x_iload 4, x_const 4, x_iadd] 205 := ⟨_, i_Lw_law_200, _, i_Lw_law_201, _, i_Lw_law_203, _, i_Lw_law_204, rfl⟩
theorem b_Lw_law_206 : mj_Ch zG ("StreamWatchLaw", "law", c_Lw_law, 7) 206 [x_aload 0, x_iload 4, x_const 5, x_iadd] 211 := ⟨_, i_Lw_law_206, _, i_Lw_law_207, _, i_Lw_law_209, _, i_Lw_law_210, rfl⟩
theorem b_Lw_law_212 : mj_Ch zG ("StreamWatchLaw", "law", c_Lw_law, 7) 212 [x_aload 0, x_iload 4, x_const 6, x_iadd] 218 := ⟨_, i_Lw_law_212, _, i_Lw_law_213, _, i_Lw_law_215, _, i_Lw_law_217, rfl⟩
theorem b_Lw_law_219 : mj_Ch zG ("StreamWatchLaw", "law", c_Lw_law, 7) 219 [x_i2l, x_const 32, x_lshl, x_aload 0, x_iload 4, x_const 7, x_iadd] 229 := ⟨_, i_Lw_law_219, _, i_Lw_law_220, _, i_Lw_law_222, _, i_Lw_law_223, _, i_Lw_law_224, _, i_Lw_law_226, _, i_Lw_law_228, rfl⟩
theorem b_Lw_law_230 : mj_Ch zG ("StreamWatchLaw", "law", c_Lw_law, 7) 230 [x_i2l, x_lconst 4294967295, x_land, x_lor] 236 := ⟨_, i_Lw_law_230, _, i_Lw_law_231, _, i_Lw_law_234, _, i_Lw_law_235, rfl⟩
theorem b_Lw_law_239 : mj_Ch zG ("StreamWatchLaw", "law", c_Lw_law, 7) 239 [x_istore 6, x_aload 2] 242 := ⟨_, i_Lw_law_239, _, i_Lw_law_241, rfl⟩
theorem b_Lw_law_245 : mj_Ch zG ("StreamWatchLaw", "law", c_Lw_law, 7) 245 [x_iload 5] 247 := ⟨_, i_Lw_law_245, rfl⟩
theorem b_Lw_law_250 : mj_Ch zG ("StreamWatchLaw", "law", c_Lw_law, 7) 250 [x_const 0] 251 := ⟨_, i_Lw_law_250, rfl⟩
theorem b_Lw_law_252 : mj_Ch zG ("StreamWatchLaw", "law", c_Lw_law, 7) 252 [x_iload 5] 254 := ⟨_, i_Lw_law_252, rfl⟩
theorem b_Lw_law_257 : mj_Ch zG ("StreamWatchLaw", "law", c_Lw_law, 7) 257 [x_aload 3, x_const 0] 259 := ⟨_, i_Lw_law_257, _, i_Lw_law_258, rfl⟩
theorem b_Lw_law_260 : mj_Ch zG ("StreamWatchLaw", "law", c_Lw_law, 7) 260 [x_iload 6, x_i2l, x_lcmp] 264 := ⟨_, i_Lw_law_260, _, i_Lw_law_262, _, i_Lw_law_263, rfl⟩
theorem b_Lw_law_267 : mj_Ch zG ("StreamWatchLaw", "law", c_Lw_law, 7) 267 [x_const 0] 268 := ⟨_, i_Lw_law_267, rfl⟩
theorem b_Lw_law_269 : mj_Ch zG ("StreamWatchLaw", "law", c_Lw_law, 7) 269 [x_skip] 831 := ⟨_, i_Lw_law_269, rfl⟩
theorem b_Lw_law_272 : mj_Ch zG ("StreamWatchLaw", "law", c_Lw_law, 7) 272 [x_aload 1, x_aload 0, x_iload 4, x_const 1, x_iadd] 278 := ⟨_, i_Lw_law_272, _, i_Lw_law_273, _, i_Lw_law_274, _, i_Lw_law_276, _, i_Lw_law_277, rfl⟩
theorem b_Lw_law_279 : mj_Ch zG ("StreamWatchLaw", "law", c_Lw_law, 7) 279 [x_aload 0, x_iload 4, x_const 2, x_iadd] 284 := ⟨_, i_Lw_law_279, _, i_Lw_law_280, _, i_Lw_law_282, _, i_Lw_law_283, rfl⟩
theorem b_Lw_law_288 : mj_Ch zG ("StreamWatchLaw", "law", c_Lw_law, 7) 288 [x_aload 2, x_aload 0, x_iload 4, x_const 1, x_iadd] 294 := ⟨_, i_Lw_law_288, _, i_Lw_law_289, _, i_Lw_law_290, _, i_Lw_law_292, _, i_Lw_law_293, rfl⟩
theorem b_Lw_law_295 : mj_Ch zG ("StreamWatchLaw", "law", c_Lw_law, 7) 295 [x_aload 0, x_iload 4, x_const 2, x_iadd] 300 := ⟨_, i_Lw_law_295, _, i_Lw_law_296, _, i_Lw_law_298, _, i_Lw_law_299, rfl⟩
theorem b_Lw_law_307 : mj_Ch zG ("StreamWatchLaw", "law", c_Lw_law, 7) 307 [x_const 0] 308 := ⟨_, i_Lw_law_307, rfl⟩
theorem b_Lw_law_309 : mj_Ch zG ("StreamWatchLaw", "law", c_Lw_law, 7) 309 [x_aload 1] 310 := ⟨_, i_Lw_law_309, rfl⟩
theorem b_Lw_law_313 : mj_Ch zG ("StreamWatchLaw", "law", c_Lw_law, 7) 313 [x_aload 2] 314 := ⟨_, i_Lw_law_313, rfl⟩
theorem b_Lw_law_317 : mj_Ch zG ("StreamWatchLaw", "law", c_Lw_law, 7) 317 [x_skip] 831 := ⟨_, i_Lw_law_317, rfl⟩
theorem b_Lw_law_320 : mj_Ch zG ("StreamWatchLaw", "law", c_Lw_law, 7) 320 [x_aload 1, x_aload 0, x_iload 4, x_const 1, x_iadd] 326 := ⟨_, i_Lw_law_320, _, i_Lw_law_321, _, i_Lw_law_322, _, i_Lw_law_324, _, i_Lw_law_325, rfl⟩
theorem b_Lw_law_327 : mj_Ch zG ("StreamWatchLaw", "law", c_Lw_law, 7) 327 [x_aload 0, x_iload 4, x_const 2, x_iadd] 332 := ⟨_, i_Lw_law_327, _, i_Lw_law_328, _, i_Lw_law_330, _, i_Lw_law_331, rfl⟩
theorem b_Lw_law_333 : mj_Ch zG ("StreamWatchLaw", "law", c_Lw_law, 7) 333 [x_i2l, x_const 32, x_lshl, x_aload 0, x_iload 4, x_const 3, x_iadd] 342 := ⟨_, i_Lw_law_333, _, i_Lw_law_334, _, i_Lw_law_336, _, i_Lw_law_337, _, i_Lw_law_338, _, i_Lw_law_340, _, i_Lw_law_341, rfl⟩
theorem b_Lw_law_343 : mj_Ch zG ("StreamWatchLaw", "law", c_Lw_law, 7) 343 [x_i2l, x_lconst 4294967295, x_land, x_lor] 349 := ⟨_, i_Lw_law_343, _, i_Lw_law_344, _, i_Lw_law_347, _, i_Lw_law_348, rfl⟩
theorem b_Lw_law_352 : mj_Ch zG ("StreamWatchLaw", "law", c_Lw_law, 7) 352 [x_aload 2, x_aload 0, x_iload 4, x_const 1, x_iadd] 358 := ⟨_, i_Lw_law_352, _, i_Lw_law_353, _, i_Lw_law_354, _, i_Lw_law_356, _, i_Lw_law_357, rfl⟩
theorem b_Lw_law_359 : mj_Ch zG ("StreamWatchLaw", "law", c_Lw_law, 7) 359 [x_aload 0, x_iload 4, x_const 2, x_iadd] 364 := ⟨_, i_Lw_law_359, _, i_Lw_law_360, _, i_Lw_law_362, _, i_Lw_law_363, rfl⟩
theorem b_Lw_law_365 : mj_Ch zG ("StreamWatchLaw", "law", c_Lw_law, 7) 365 [x_i2l, x_const 32, x_lshl, x_aload 0, x_iload 4, x_const 3, x_iadd] 374 := ⟨_, i_Lw_law_365, _, i_Lw_law_366, _, i_Lw_law_368, _, i_Lw_law_369, _, i_Lw_law_370, _, i_Lw_law_372, _, i_Lw_law_373, rfl⟩
theorem b_Lw_law_375 : mj_Ch zG ("StreamWatchLaw", "law", c_Lw_law, 7) 375 [x_i2l, x_lconst 4294967295, x_land, x_lor] 381 := ⟨_, i_Lw_law_375, _, i_Lw_law_376, _, i_Lw_law_379, _, i_Lw_law_380, rfl⟩
theorem b_Lw_law_387 : mj_Ch zG ("StreamWatchLaw", "law", c_Lw_law, 7) 387 [x_const 0] 388 := ⟨_, i_Lw_law_387, rfl⟩
theorem b_Lw_law_389 : mj_Ch zG ("StreamWatchLaw", "law", c_Lw_law, 7) 389 [x_aload 1] 390 := ⟨_, i_Lw_law_389, rfl⟩
theorem b_Lw_law_393 : mj_Ch zG ("StreamWatchLaw", "law", c_Lw_law, 7) 393 [x_aload 2] 394 := ⟨_, i_Lw_law_393, rfl⟩
theorem b_Lw_law_400 : mj_Ch zG ("StreamWatchLaw", "law", c_Lw_law, 7) 400 [x_const 0] 401 := ⟨_, i_Lw_law_400, rfl⟩
theorem b_Lw_law_402 : mj_Ch zG ("StreamWatchLaw", "law", c_Lw_law, 7) 402 [x_aload 1, x_aload 0, x_iload 4, x_const 1, x_iadd] 408 := ⟨_, i_Lw_law_402, _, i_Lw_law_403, _, i_Lw_law_404, _, i_Lw_law_406, _, i_Lw_law_407, rfl⟩
theorem b_Lw_law_412 : mj_Ch zG ("StreamWatchLaw", "law", c_Lw_law, 7) 412 [x_aload 2, x_aload 0, x_iload 4, x_const 1, x_iadd] 418 := ⟨_, i_Lw_law_412, _, i_Lw_law_413, _, i_Lw_law_414, _, i_Lw_law_416, _, i_Lw_law_417, rfl⟩
theorem b_Lw_law_425 : mj_Ch zG ("StreamWatchLaw", "law", c_Lw_law, 7) 425 [x_const 0] 426 := ⟨_, i_Lw_law_425, rfl⟩
theorem b_Lw_law_427 : mj_Ch zG ("StreamWatchLaw", "law", c_Lw_law, 7) 427 [x_aload 1] 428 := ⟨_, i_Lw_law_427, rfl⟩
theorem b_Lw_law_431 : mj_Ch zG ("StreamWatchLaw", "law", c_Lw_law, 7) 431 [x_aload 2] 432 := ⟨_, i_Lw_law_431, rfl⟩
theorem b_Lw_law_438 : mj_Ch zG ("StreamWatchLaw", "law", c_Lw_law, 7) 438 [x_const 0] 439 := ⟨_, i_Lw_law_438, rfl⟩
theorem b_Lw_law_440 : mj_Ch zG ("StreamWatchLaw", "law", c_Lw_law, 7) 440 [x_aload 1, x_aload 0, x_iload 4, x_const 1, x_iadd] 446 := ⟨_, i_Lw_law_440, _, i_Lw_law_441, _, i_Lw_law_442, _, i_Lw_law_444, _, i_Lw_law_445, rfl⟩
theorem b_Lw_law_447 : mj_Ch zG ("StreamWatchLaw", "law", c_Lw_law, 7) 447 [x_aload 0, x_iload 4, x_const 2, x_iadd] 452 := ⟨_, i_Lw_law_447, _, i_Lw_law_448, _, i_Lw_law_450, _, i_Lw_law_451, rfl⟩
theorem b_Lw_law_453 : mj_Ch zG ("StreamWatchLaw", "law", c_Lw_law, 7) 453 [x_aload 3] 454 := ⟨_, i_Lw_law_453, rfl⟩
theorem b_Lw_law_457 : mj_Ch zG ("StreamWatchLaw", "law", c_Lw_law, 7) 457 [x_istore 5, x_aload 2, x_aload 0, x_iload 4, x_const 1, x_iadd] 465 := ⟨_, i_Lw_law_457, _, i_Lw_law_459, _, i_Lw_law_460, _, i_Lw_law_461, _, i_Lw_law_463, _, i_Lw_law_464, rfl⟩
theorem b_Lw_law_466 : mj_Ch zG ("StreamWatchLaw", "law", c_Lw_law, 7) 466 [x_aload 0, x_iload 4, x_const 2, x_iadd] 471 := ⟨_, i_Lw_law_466, _, i_Lw_law_467, _, i_Lw_law_469, _, i_Lw_law_470, rfl⟩
theorem b_Lw_law_475 : mj_Ch zG ("StreamWatchLaw", "law", c_Lw_law, 7) 475 [x_istore 6, x_aload 2] 478 := ⟨_, i_Lw_law_475, _, i_Lw_law_477, rfl⟩
theorem b_Lw_law_481 : mj_Ch zG ("StreamWatchLaw", "law", c_Lw_law, 7) 481 [x_iload 5] 483 := ⟨_, i_Lw_law_481, rfl⟩
theorem b_Lw_law_486 : mj_Ch zG ("StreamWatchLaw", "law", c_Lw_law, 7) 486 [x_const 0] 487 := ⟨_, i_Lw_law_486, rfl⟩
theorem b_Lw_law_488 : mj_Ch zG ("StreamWatchLaw", "law", c_Lw_law, 7) 488 [x_iload 5] 490 := ⟨_, i_Lw_law_488, rfl⟩
theorem b_Lw_law_493 : mj_Ch zG ("StreamWatchLaw", "law", c_Lw_law, 7) 493 [x_aload 3, x_const 0] 495 := ⟨_, i_Lw_law_493, _, i_Lw_law_494, rfl⟩
theorem b_Lw_law_496 : mj_Ch zG ("StreamWatchLaw", "law", c_Lw_law, 7) 496 [x_iload 6, x_i2l, x_lcmp] 500 := ⟨_, i_Lw_law_496, _, i_Lw_law_498, _, i_Lw_law_499, rfl⟩
theorem b_Lw_law_503 : mj_Ch zG ("StreamWatchLaw", "law", c_Lw_law, 7) 503 [x_const 0] 504 := ⟨_, i_Lw_law_503, rfl⟩
theorem b_Lw_law_505 : mj_Ch zG ("StreamWatchLaw", "law", c_Lw_law, 7) 505 [x_skip] 831 := ⟨_, i_Lw_law_505, rfl⟩
theorem b_Lw_law_508 : mj_Ch zG ("StreamWatchLaw", "law", c_Lw_law, 7) 508 [x_aload 1, x_aload 0, x_iload 4, x_const 1, x_iadd] 514 := ⟨_, i_Lw_law_508, _, i_Lw_law_509, _, i_Lw_law_510, _, i_Lw_law_512, _, i_Lw_law_513, rfl⟩
theorem b_Lw_law_515 : mj_Ch zG ("StreamWatchLaw", "law", c_Lw_law, 7) 515 [x_aload 0, x_iload 4, x_const 2, x_iadd] 520 := ⟨_, i_Lw_law_515, _, i_Lw_law_516, _, i_Lw_law_518, _, i_Lw_law_519, rfl⟩
theorem b_Lw_law_521 : mj_Ch zG ("StreamWatchLaw", "law", c_Lw_law, 7) 521 [x_i2l, x_const 32, x_lshl, x_aload 0, x_iload 4, x_const 3, x_iadd] 530 := ⟨_, i_Lw_law_521, _, i_Lw_law_522, _, i_Lw_law_524, _, i_Lw_law_525, _, i_Lw_law_526, _, i_Lw_law_528, _, i_Lw_law_529, rfl⟩
theorem b_Lw_law_531 : mj_Ch zG ("StreamWatchLaw", "law", c_Lw_law, 7) 531 [x_i2l, x_lconst 4294967295, x_land, x_lor, x_aload 0, x_iload 4, x_const 4, x_iadd] 542 := ⟨_, i_Lw_law_531, _, i_Lw_law_532, _, i_Lw_law_535, _, i_Lw_law_536, _, i_Lw_law_537, _, i_Lw_law_538, _, i_Lw_law_540, _, i_Lw_law_541, rfl⟩
theorem b_Lw_law_543 : mj_Ch zG ("StreamWatchLaw", "law", c_Lw_law, 7) 543 [x_aload 0, x_iload 4, x_const 5, x_iadd] 548 := ⟨_, i_Lw_law_543, _, i_Lw_law_544, _, i_Lw_law_546, _, i_Lw_law_547, rfl⟩
theorem b_Lw_law_549 : mj_Ch zG ("StreamWatchLaw", "law", c_Lw_law, 7) 549 [x_aload 0, x_iload 4, x_const 6, x_iadd] 555 := ⟨_, i_Lw_law_549, _, i_Lw_law_550, _, i_Lw_law_552, _, i_Lw_law_554, rfl⟩
theorem b_Lw_law_556 : mj_Ch zG ("StreamWatchLaw", "law", c_Lw_law, 7) 556 [x_aload 3] 557 := ⟨_, i_Lw_law_556, rfl⟩
theorem b_Lw_law_560 : mj_Ch zG ("StreamWatchLaw", "law", c_Lw_law, 7) 560 [x_istore 5, x_aload 2, x_aload 0, x_iload 4, x_const 1, x_iadd] 568 := ⟨_, i_Lw_law_560, _, i_Lw_law_562, _, i_Lw_law_563, _, i_Lw_law_564, _, i_Lw_law_566, _, i_Lw_law_567, rfl⟩
theorem b_Lw_law_569 : mj_Ch zG ("StreamWatchLaw", "law", c_Lw_law, 7) 569 [x_aload 0, x_iload 4, x_const 2, x_iadd] 574 := ⟨_, i_Lw_law_569, _, i_Lw_law_570, _, i_Lw_law_572, _, i_Lw_law_573, rfl⟩
theorem b_Lw_law_575 : mj_Ch zG ("StreamWatchLaw", "law", c_Lw_law, 7) 575 [x_i2l, x_const 32, x_lshl, x_aload 0, x_iload 4, x_const 3, x_iadd] 584 := ⟨_, i_Lw_law_575, _, i_Lw_law_576, _, i_Lw_law_578, _, i_Lw_law_579, _, i_Lw_law_580, _, i_Lw_law_582, _, i_Lw_law_583, rfl⟩
theorem b_Lw_law_585 : mj_Ch zG ("StreamWatchLaw", "law", c_Lw_law, 7) 585 [x_i2l, x_lconst 4294967295, x_land, x_lor, x_aload 0, x_iload 4, x_const 4, x_iadd] 596 := ⟨_, i_Lw_law_585, _, i_Lw_law_586, _, i_Lw_law_589, _, i_Lw_law_590, _, i_Lw_law_591, _, i_Lw_law_592, _, i_Lw_law_594, _, i_Lw_law_595, rfl⟩
theorem b_Lw_law_597 : mj_Ch zG ("StreamWatchLaw", "law", c_Lw_law, 7) 597 [x_aload 0, x_iload 4, x_const 5, x_iadd] 602 := ⟨_, i_Lw_law_597, _, i_Lw_law_598, _, i_Lw_law_600, _, i_Lw_law_601, rfl⟩
theorem b_Lw_law_603 : mj_Ch zG ("StreamWatchLaw", "law", c_Lw_law, 7) 603 [x_aload 0, x_iload 4, x_const 6, x_iadd] 609 := ⟨_, i_Lw_law_603, _, i_Lw_law_604, _, i_Lw_law_606, _, i_Lw_law_608, rfl⟩
theorem b_Lw_law_613 : mj_Ch zG ("StreamWatchLaw", "law", c_Lw_law, 7) 613 [x_istore 6, x_aload 2] 616 := ⟨_, i_Lw_law_613, _, i_Lw_law_615, rfl⟩
theorem b_Lw_law_619 : mj_Ch zG ("StreamWatchLaw", "law", c_Lw_law, 7) 619 [x_iload 5] 621 := ⟨_, i_Lw_law_619, rfl⟩
theorem b_Lw_law_624 : mj_Ch zG ("StreamWatchLaw", "law", c_Lw_law, 7) 624 [x_const 0] 625 := ⟨_, i_Lw_law_624, rfl⟩
theorem b_Lw_law_626 : mj_Ch zG ("StreamWatchLaw", "law", c_Lw_law, 7) 626 [x_iload 5] 628 := ⟨_, i_Lw_law_626, rfl⟩
theorem b_Lw_law_631 : mj_Ch zG ("StreamWatchLaw", "law", c_Lw_law, 7) 631 [x_aload 3, x_const 0] 633 := ⟨_, i_Lw_law_631, _, i_Lw_law_632, rfl⟩
theorem b_Lw_law_634 : mj_Ch zG ("StreamWatchLaw", "law", c_Lw_law, 7) 634 [x_iload 6, x_i2l, x_lcmp] 638 := ⟨_, i_Lw_law_634, _, i_Lw_law_636, _, i_Lw_law_637, rfl⟩
theorem b_Lw_law_641 : mj_Ch zG ("StreamWatchLaw", "law", c_Lw_law, 7) 641 [x_const 0] 642 := ⟨_, i_Lw_law_641, rfl⟩
theorem b_Lw_law_643 : mj_Ch zG ("StreamWatchLaw", "law", c_Lw_law, 7) 643 [x_skip] 831 := ⟨_, i_Lw_law_643, rfl⟩
theorem b_Lw_law_646 : mj_Ch zG ("StreamWatchLaw", "law", c_Lw_law, 7) 646 [x_aload 1, x_aload 0, x_iload 4, x_const 1, x_iadd] 652 := ⟨_, i_Lw_law_646, _, i_Lw_law_647, _, i_Lw_law_648, _, i_Lw_law_650, _, i_Lw_law_651, rfl⟩
theorem b_Lw_law_653 : mj_Ch zG ("StreamWatchLaw", "law", c_Lw_law, 7) 653 [x_aload 0, x_iload 4, x_const 2, x_iadd] 658 := ⟨_, i_Lw_law_653, _, i_Lw_law_654, _, i_Lw_law_656, _, i_Lw_law_657, rfl⟩
theorem b_Lw_law_662 : mj_Ch zG ("StreamWatchLaw", "law", c_Lw_law, 7) 662 [x_aload 2, x_aload 0, x_iload 4, x_const 1, x_iadd] 668 := ⟨_, i_Lw_law_662, _, i_Lw_law_663, _, i_Lw_law_664, _, i_Lw_law_666, _, i_Lw_law_667, rfl⟩
theorem b_Lw_law_669 : mj_Ch zG ("StreamWatchLaw", "law", c_Lw_law, 7) 669 [x_aload 0, x_iload 4, x_const 2, x_iadd] 674 := ⟨_, i_Lw_law_669, _, i_Lw_law_670, _, i_Lw_law_672, _, i_Lw_law_673, rfl⟩
theorem b_Lw_law_681 : mj_Ch zG ("StreamWatchLaw", "law", c_Lw_law, 7) 681 [x_const 0] 682 := ⟨_, i_Lw_law_681, rfl⟩
theorem b_Lw_law_683 : mj_Ch zG ("StreamWatchLaw", "law", c_Lw_law, 7) 683 [x_aload 1, x_aload 0, x_iload 4, x_const 1, x_iadd] 689 := ⟨_, i_Lw_law_683, _, i_Lw_law_684, _, i_Lw_law_685, _, i_Lw_law_687, _, i_Lw_law_688, rfl⟩
theorem b_Lw_law_690 : mj_Ch zG ("StreamWatchLaw", "law", c_Lw_law, 7) 690 [x_aload 0, x_iload 4, x_const 2, x_iadd] 695 := ⟨_, i_Lw_law_690, _, i_Lw_law_691, _, i_Lw_law_693, _, i_Lw_law_694, rfl⟩
theorem b_Lw_law_696 : mj_Ch zG ("StreamWatchLaw", "law", c_Lw_law, 7) 696 [x_aload 0, x_iload 4, x_const 3, x_iadd] 701 := ⟨_, i_Lw_law_696, _, i_Lw_law_697, _, i_Lw_law_699, _, i_Lw_law_700, rfl⟩
theorem b_Lw_law_705 : mj_Ch zG ("StreamWatchLaw", "law", c_Lw_law, 7) 705 [x_aload 2, x_aload 0, x_iload 4, x_const 1, x_iadd] 711 := ⟨_, i_Lw_law_705, _, i_Lw_law_706, _, i_Lw_law_707, _, i_Lw_law_709, _, i_Lw_law_710, rfl⟩
theorem b_Lw_law_712 : mj_Ch zG ("StreamWatchLaw", "law", c_Lw_law, 7) 712 [x_aload 0, x_iload 4, x_const 2, x_iadd] 717 := ⟨_, i_Lw_law_712, _, i_Lw_law_713, _, i_Lw_law_715, _, i_Lw_law_716, rfl⟩
theorem b_Lw_law_718 : mj_Ch zG ("StreamWatchLaw", "law", c_Lw_law, 7) 718 [x_aload 0, x_iload 4, x_const 3, x_iadd] 723 := ⟨_, i_Lw_law_718, _, i_Lw_law_719, _, i_Lw_law_721, _, i_Lw_law_722, rfl⟩
theorem b_Lw_law_730 : mj_Ch zG ("StreamWatchLaw", "law", c_Lw_law, 7) 730 [x_const 0] 731 := ⟨_, i_Lw_law_730, rfl⟩
theorem b_Lw_law_732 : mj_Ch zG ("StreamWatchLaw", "law", c_Lw_law, 7) 732 [x_aload 1, x_aload 0, x_iload 4, x_const 1, x_iadd] 738 := ⟨_, i_Lw_law_732, _, i_Lw_law_733, _, i_Lw_law_734, _, i_Lw_law_736, _, i_Lw_law_737, rfl⟩
theorem b_Lw_law_739 : mj_Ch zG ("StreamWatchLaw", "law", c_Lw_law, 7) 739 [x_aload 0, x_iload 4, x_const 2, x_iadd] 744 := ⟨_, i_Lw_law_739, _, i_Lw_law_740, _, i_Lw_law_742, _, i_Lw_law_743, rfl⟩
theorem b_Lw_law_745 : mj_Ch zG ("StreamWatchLaw", "law", c_Lw_law, 7) 745 [x_aload 0, x_iload 4, x_const 3, x_iadd] 750 := ⟨_, i_Lw_law_745, _, i_Lw_law_746, _, i_Lw_law_748, _, i_Lw_law_749, rfl⟩
theorem b_Lw_law_754 : mj_Ch zG ("StreamWatchLaw", "law", c_Lw_law, 7) 754 [x_aload 2, x_aload 0, x_iload 4, x_const 1, x_iadd] 760 := ⟨_, i_Lw_law_754, _, i_Lw_law_755, _, i_Lw_law_756, _, i_Lw_law_758, _, i_Lw_law_759, rfl⟩
theorem b_Lw_law_761 : mj_Ch zG ("StreamWatchLaw", "law", c_Lw_law, 7) 761 [x_aload 0, x_iload 4, x_const 2, x_iadd] 766 := ⟨_, i_Lw_law_761, _, i_Lw_law_762, _, i_Lw_law_764, _, i_Lw_law_765, rfl⟩
theorem b_Lw_law_767 : mj_Ch zG ("StreamWatchLaw", "law", c_Lw_law, 7) 767 [x_aload 0, x_iload 4, x_const 3, x_iadd] 772 := ⟨_, i_Lw_law_767, _, i_Lw_law_768, _, i_Lw_law_770, _, i_Lw_law_771, rfl⟩
theorem b_Lw_law_779 : mj_Ch zG ("StreamWatchLaw", "law", c_Lw_law, 7) 779 [x_const 0] 780 := ⟨_, i_Lw_law_779, rfl⟩
theorem b_Lw_law_781 : mj_Ch zG ("StreamWatchLaw", "law", c_Lw_law, 7) 781 [x_aload 1] 782 := ⟨_, i_Lw_law_781, rfl⟩
theorem b_Lw_law_785 : mj_Ch zG ("StreamWatchLaw", "law", c_Lw_law, 7) 785 [x_aload 2] 786 := ⟨_, i_Lw_law_785, rfl⟩
theorem b_Lw_law_792 : mj_Ch zG ("StreamWatchLaw", "law", c_Lw_law, 7) 792 [x_const 0] 793 := ⟨_, i_Lw_law_792, rfl⟩
theorem b_Lw_law_794 : mj_Ch zG ("StreamWatchLaw", "law", c_Lw_law, 7) 794 [x_aload 1, x_aload 0, x_iload 4, x_const 1, x_iadd] 800 := ⟨_, i_Lw_law_794, _, i_Lw_law_795, _, i_Lw_law_796, _, i_Lw_law_798, _, i_Lw_law_799, rfl⟩
theorem b_Lw_law_801 : mj_Ch zG ("StreamWatchLaw", "law", c_Lw_law, 7) 801 [x_aload 0, x_iload 4, x_const 2, x_iadd] 806 := ⟨_, i_Lw_law_801, _, i_Lw_law_802, _, i_Lw_law_804, _, i_Lw_law_805, rfl⟩
theorem b_Lw_law_810 : mj_Ch zG ("StreamWatchLaw", "law", c_Lw_law, 7) 810 [x_aload 2, x_aload 0, x_iload 4, x_const 1, x_iadd] 816 := ⟨_, i_Lw_law_810, _, i_Lw_law_811, _, i_Lw_law_812, _, i_Lw_law_814, _, i_Lw_law_815, rfl⟩
theorem b_Lw_law_817 : mj_Ch zG ("StreamWatchLaw", "law", c_Lw_law, 7) 817 [x_aload 0, x_iload 4, x_const 2, x_iadd] 822 := ⟨_, i_Lw_law_817, _, i_Lw_law_818, _, i_Lw_law_820, _, i_Lw_law_821, rfl⟩
theorem b_Lw_law_829 : mj_Ch zG ("StreamWatchLaw", "law", c_Lw_law, 7) 829 [x_const 0] 830 := ⟨_, i_Lw_law_829, rfl⟩
theorem b_Lw_law_831 : mj_Ch zG ("StreamWatchLaw", "law", c_Lw_law, 7) 831 [x_iinc 4 8, x_skip] 33 := ⟨_, i_Lw_law_831, _, i_Lw_law_834, rfl⟩
theorem b_Lw_law_837 : mj_Ch zG ("StreamWatchLaw", "law", c_Lw_law, 7) 837 [x_const 1] 838 := ⟨_, i_Lw_law_837, rfl⟩
theorem l_Lw_craft_13 : Cond.methodLink "StreamWatchLaw" 7 (m_Sw_craft).1 ∈ zTb := z3_116
theorem l_Lw_rule_5 : Cond.methodLink "StreamWatchLaw" 15 (m_Sw_rule).1 ∈ zTb := z3_206
theorem l_Lw_option_12 : Cond.methodLink "StreamWatchLaw" 21 (m_Sw_option).1 ∈ zTb := z4_12
theorem l_Lw_law_6 : Cond.methodLink "StreamWatchLaw" 25 (m_Lw_cell).1 ∈ zTb := z3_109
theorem l_Lw_law_9 : Cond.methodLink "StreamWatchLaw" 31 (m_Sw_init).1 ∈ zTb := z1_21
theorem l_Lw_law_19 : Cond.methodLink "StreamWatchLaw" 25 (m_Lw_cell).1 ∈ zTb := z3_109
theorem l_Lw_law_22 : Cond.methodLink "StreamWatchLaw" 36 (m_Md_init).1 ∈ zTb := z4_61
theorem l_Lw_law_176 : Cond.methodLink "StreamWatchLaw" 39 (m_Lw_craft).1 ∈ zTb := z3_112
theorem l_Lw_law_236 : Cond.methodLink "StreamWatchLaw" 42 (m_Md_craft).1 ∈ zTb := z4_169
theorem l_Lw_law_242 : Cond.methodLink "StreamWatchLaw" 43 (m_Md_thrown).1 ∈ zTb := z4_165
theorem l_Lw_law_285 : Cond.methodLink "StreamWatchLaw" 47 (m_Sw_alter).1 ∈ zTb := z1_237
theorem l_Lw_law_301 : Cond.methodLink "StreamWatchLaw" 51 (m_Md_alter).1 ∈ zTb := z4_211
theorem l_Lw_law_310 : Cond.methodLink "StreamWatchLaw" 52 (m_Sw_wipe).1 ∈ zTb := z2_9
theorem l_Lw_law_314 : Cond.methodLink "StreamWatchLaw" 55 (m_Md_wipe).1 ∈ zTb := z4_215
theorem l_Lw_law_349 : Cond.methodLink "StreamWatchLaw" 56 (m_Sw_put).1 ∈ zTb := z2_17
theorem l_Lw_law_381 : Cond.methodLink "StreamWatchLaw" 60 (m_Md_put).1 ∈ zTb := z4_219
theorem l_Lw_law_390 : Cond.methodLink "StreamWatchLaw" 61 (m_Sw_seal).1 ∈ zTb := z2_25
theorem l_Lw_law_394 : Cond.methodLink "StreamWatchLaw" 65 (m_Md_seal).1 ∈ zTb := z4_227
theorem l_Lw_law_409 : Cond.methodLink "StreamWatchLaw" 66 (m_Sw_wire).1 ∈ zTb := z2_81
theorem l_Lw_law_419 : Cond.methodLink "StreamWatchLaw" 70 (m_Md_wire).1 ∈ zTb := z4_223
theorem l_Lw_law_428 : Cond.methodLink "StreamWatchLaw" 71 (m_Sw_watch).1 ∈ zTb := z2_91
theorem l_Lw_law_432 : Cond.methodLink "StreamWatchLaw" 74 (m_Md_watch).1 ∈ zTb := z5_3
theorem l_Lw_law_454 : Cond.methodLink "StreamWatchLaw" 75 (m_Lw_rule).1 ∈ zTb := z3_202
theorem l_Lw_law_472 : Cond.methodLink "StreamWatchLaw" 78 (m_Md_rule).1 ∈ zTb := z4_235
theorem l_Lw_law_478 : Cond.methodLink "StreamWatchLaw" 43 (m_Md_thrown).1 ∈ zTb := z4_165
theorem l_Lw_law_557 : Cond.methodLink "StreamWatchLaw" 79 (m_Lw_option).1 ∈ zTb := z4_9
theorem l_Lw_law_610 : Cond.methodLink "StreamWatchLaw" 82 (m_Md_option).1 ∈ zTb := z4_239
theorem l_Lw_law_616 : Cond.methodLink "StreamWatchLaw" 43 (m_Md_thrown).1 ∈ zTb := z4_165
theorem l_Lw_law_659 : Cond.methodLink "StreamWatchLaw" 83 (m_Sw_flow).1 ∈ zTb := z3_69
theorem l_Lw_law_675 : Cond.methodLink "StreamWatchLaw" 86 (m_Md_flow).1 ∈ zTb := z5_54
theorem l_Lw_law_702 : Cond.methodLink "StreamWatchLaw" 87 (m_Sw_stream).1 ∈ zTb := z3_78
theorem l_Lw_law_724 : Cond.methodLink "StreamWatchLaw" 91 (m_Md_stream).1 ∈ zTb := z5_62
theorem l_Lw_law_751 : Cond.methodLink "StreamWatchLaw" 92 (m_Sw_text).1 ∈ zTb := z3_91
theorem l_Lw_law_773 : Cond.methodLink "StreamWatchLaw" 95 (m_Md_text).1 ∈ zTb := z5_66
theorem l_Lw_law_782 : Cond.methodLink "StreamWatchLaw" 96 (m_Sw_alerts).1 ∈ zTb := z3_96
theorem l_Lw_law_786 : Cond.methodLink "StreamWatchLaw" 99 (m_Md_alerts).1 ∈ zTb := z5_70
theorem l_Lw_law_807 : Cond.methodLink "StreamWatchLaw" 100 (m_Sw_alert).1 ∈ zTb := z3_100
theorem l_Lw_law_823 : Cond.methodLink "StreamWatchLaw" 103 (m_Md_alert).1 ∈ zTb := z5_74
theorem cw_Lw_craft : Cond.codeWith ⟨"StreamWatchLaw", "craft", "(LStreamWatch;IIIIIJ[J)I"⟩ method_3_code 10 (Option.some FieldType.int) [(0, 18, 21, 13)] ∈ zTb := zin3 (List.mem_of_getElem? (i := 114) rfl) rfl
theorem cw_Lw_rule : Cond.codeWith ⟨"StreamWatchLaw", "rule", "(LStreamWatch;II[J)I"⟩ method_4_code 5 (Option.some FieldType.int) [(0, 10, 13, 13), (0, 10, 17, 19)] ∈ zTb := zin3 (List.mem_of_getElem? (i := 204) rfl) rfl
theorem cw_Lw_option : Cond.codeWith ⟨"StreamWatchLaw", "option", "(LStreamWatch;IJIII[J)I"⟩ method_5_code 9 (Option.some FieldType.int) [(0, 17, 20, 13), (0, 17, 24, 19)] ∈ zTb := zin4 (List.mem_of_getElem? (i := 11) rfl) rfl

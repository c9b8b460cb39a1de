theorem i_Mk_init_0 : mj_Snd zG ("StreamWatch$Marks", "<init>", c_Mk_init, 1) 0 (x_aload 0) 1 := mj_aload_n (j := 0) rfl (by decide +kernel)
theorem d_Mk_init_1 : decode c_Mk_init 1 = .ok (.invokespecial 3, 3) := by decide +kernel
theorem i_Mk_init_4 : mj_Snd zG ("StreamWatch$Marks", "<init>", c_Mk_init, 1) 4 (x_aload 0) 5 := mj_aload_n (j := 0) rfl (by decide +kernel)
theorem i_Mk_init_5 : mj_Snd zG ("StreamWatch$Marks", "<init>", c_Mk_init, 1) 5 (x_const 81) 7 := mj_bipush (n := 81) (by decide) (by decide +kernel)
theorem d_Mk_init_7 : decode c_Mk_init 7 = .ok (.newarray .boolean, 2) := by decide +kernel
theorem i_Mk_init_9 : mj_Snd zG ("StreamWatch$Marks", "<init>", c_Mk_init, 1) 9 (x_putf 3 0 3) 12 := mj_putG (T := T_Mk) (ty0 := t_Mk) rfl (by decide) u_Mk t_Mk_ok n_Mk z1_178 (Or.inr ⟨rfl, rfl, rfl⟩) (by decide +kernel)
theorem i_Mk_init_12 : mj_Snd zG ("StreamWatch$Marks", "<init>", c_Mk_init, 1) 12 (x_aload 0) 13 := mj_aload_n (j := 0) rfl (by decide +kernel)
theorem i_Mk_init_13 : mj_Snd zG ("StreamWatch$Marks", "<init>", c_Mk_init, 1) 13 (x_const 81) 15 := mj_bipush (n := 81) (by decide) (by decide +kernel)
theorem d_Mk_init_15 : decode c_Mk_init 15 = .ok (.newarray .int, 2) := by decide +kernel
theorem i_Mk_init_17 : mj_Snd zG ("StreamWatch$Marks", "<init>", c_Mk_init, 1) 17 (x_putf 3 1 3) 20 := mj_putG (T := T_Mk) (ty0 := t_Mk) rfl (by decide) u_Mk t_Mk_ok n_Mk z1_179 (Or.inr ⟨rfl, rfl, rfl⟩) (by decide +kernel)
theorem i_Mk_init_20 : mj_Snd zG ("StreamWatch$Marks", "<init>", c_Mk_init, 1) 20 (x_aload 0) 21 := mj_aload_n (j := 0) rfl (by decide +kernel)
theorem i_Mk_init_21 : mj_Snd zG ("StreamWatch$Marks", "<init>", c_Mk_init, 1) 21 (x_const 0) 22 := mj_const (n := 0) (by decide) (by decide +kernel)
theorem i_Mk_init_22 : mj_Snd zG ("StreamWatch$Marks", "<init>", c_Mk_init, 1) 22 (x_putf 3 2 0) 25 := mj_putG (T := T_Mk) (ty0 := t_Mk) rfl (by decide) u_Mk t_Mk_ok n_Mk z1_180 (Or.inl rfl) (by decide +kernel)
theorem d_Mk_init_25 : decode c_Mk_init 25 = .ok (.return_, 1) := by decide +kernel
theorem b_Mk_init_0 : mj_Ch zG ("StreamWatch$Marks", "<init>", c_Mk_init, 1) 0 [x_aload 0] 1 := ⟨_, i_Mk_init_0, rfl⟩
theorem b_Mk_init_4 : mj_Ch zG ("StreamWatch$Marks", "<init>", c_Mk_init, 1) 4 [x_aload 0, x_const 81] 7 := ⟨_, i_Mk_init_4, _, i_Mk_init_5, rfl⟩
theorem b_Mk_init_9 : mj_Ch zG ("StreamWatch$Marks", "<init>", c_Mk_init, 1) 9 [x_putf 3 0 3, x_aload 0, x_const 81] 15 := ⟨_, i_Mk_init_9, _, i_Mk_init_12, _, i_Mk_init_13, rfl⟩
theorem b_Mk_init_17 : mj_Ch zG ("StreamWatch$Marks", "<init>", c_Mk_init, 1) 17 [x_putf 3 1 3, x_aload 0, x_const 0, x_putf 3 2 0] 25 := ⟨_, i_Mk_init_17, _, i_Mk_init_20, _, i_Mk_init_21, _, i_Mk_init_22, rfl⟩
theorem i_Mk_markStartOnly_0 : mj_Snd zG ("StreamWatch$Marks", "markStartOnly", c_Mk_markStartOnly, 3) 0 (x_const 0) 1 := mj_const (n := 0) (by decide) (by decide +kernel)
theorem i_Mk_markStartOnly_1 : mj_Snd zG ("StreamWatch$Marks", "markStartOnly", c_Mk_markStartOnly, 3) 1 (x_istore 2) 2 := mj_istore_n (j := 2) rfl (by decide) (by decide +kernel)
theorem i_Mk_markStartOnly_2 : mj_Snd zG ("StreamWatch$Marks", "markStartOnly", c_Mk_markStartOnly, 3) 2 (x_iload 2) 3 := mj_iload_n (j := 2) rfl (by decide +kernel)
theorem i_Mk_markStartOnly_3 : mj_Snd zG ("StreamWatch$Marks", "markStartOnly", c_Mk_markStartOnly, 3) 3 (x_iload 1) 4 := mj_iload_n (j := 1) rfl (by decide +kernel)
theorem d_Mk_markStartOnly_4 : decode c_Mk_markStartOnly 4 = .ok (.if_icmp .gt 23, 3) := by decide +kernel
theorem i_Mk_markStartOnly_7 : mj_Snd zG ("StreamWatch$Marks", "markStartOnly", c_Mk_markStartOnly, 3) 7 (x_aload 0) 8 := mj_aload_n (j := 0) rfl (by decide +kernel)
theorem i_Mk_markStartOnly_8 : mj_Snd zG ("StreamWatch$Marks", "markStartOnly", c_Mk_markStartOnly, 3) 8 (x_iload 2) 9 := mj_iload_n (j := 2) rfl (by decide +kernel)
theorem i_Mk_markStartOnly_9 : mj_Snd zG ("StreamWatch$Marks", "markStartOnly", c_Mk_markStartOnly, 3) 9 (x_iload 2) 10 := mj_iload_n (j := 2) rfl (by decide +kernel)
theorem d_Mk_markStartOnly_10 : decode c_Mk_markStartOnly 10 = .ok (.ifCond .ne 7, 3) := by decide +kernel
theorem i_Mk_markStartOnly_13 : mj_Snd zG ("StreamWatch$Marks", "markStartOnly", c_Mk_markStartOnly, 3) 13 (x_const 1) 14 := mj_const (n := 1) (by decide) (by decide +kernel)
theorem i_Mk_markStartOnly_14 : mj_Snd zG ("StreamWatch$Marks", "markStartOnly", c_Mk_markStartOnly, 3) 14 (x_skip) 18 := mj_goto (off := 4) (by decide) (by decide +kernel)
theorem i_Mk_markStartOnly_17 : mj_Snd zG ("StreamWatch$Marks", "markStartOnly", c_Mk_markStartOnly, 3) 17 (x_const 0) 18 := mj_const (n := 0) (by decide) (by decide +kernel)
theorem d_Mk_markStartOnly_18 : decode c_Mk_markStartOnly 18 = .ok (.invokevirtual 23, 3) := by decide +kernel
theorem i_Mk_markStartOnly_21 : mj_Snd zG ("StreamWatch$Marks", "markStartOnly", c_Mk_markStartOnly, 3) 21 (x_iinc 2 1) 24 := mj_iinc (n := 1) (by decide) (by decide) (by decide +kernel)
theorem i_Mk_markStartOnly_24 : mj_Snd zG ("StreamWatch$Marks", "markStartOnly", c_Mk_markStartOnly, 3) 24 (x_skip) 2 := mj_goto (off := (-22)) (by decide) (by decide +kernel)
theorem i_Mk_markStartOnly_27 : mj_Snd zG ("StreamWatch$Marks", "markStartOnly", c_Mk_markStartOnly, 3) 27 (x_aload 0) 28 := mj_aload_n (j := 0) rfl (by decide +kernel)
theorem i_Mk_markStartOnly_28 : mj_Snd zG ("StreamWatch$Marks", "markStartOnly", c_Mk_markStartOnly, 3) 28 (x_iload 1) 29 := mj_iload_n (j := 1) rfl (by decide +kernel)
theorem d_Mk_markStartOnly_29 : decode c_Mk_markStartOnly 29 = .ok (.invokevirtual 27, 3) := by decide +kernel
theorem d_Mk_markStartOnly_32 : decode c_Mk_markStartOnly 32 = .ok (.return_, 1) := by decide +kernel
theorem b_Mk_markStartOnly_0 : mj_Ch zG ("StreamWatch$Marks", "markStartOnly", c_Mk_markStartOnly, 3) 0 [x_const 0, x_istore 2] 2 := ⟨_, i_Mk_markStartOnly_0, _, i_Mk_markStartOnly_1, rfl⟩
theorem b_Mk_markStartOnly_2 : mj_Ch zG ("StreamWatch$Marks", "markStartOnly", c_Mk_markStartOnly, 3) 2 [x_iload 2, x_iload 1] 4 := ⟨_, i_Mk_markStartOnly_2, _, i_Mk_markStartOnly_3, rfl⟩
theorem b_Mk_markStartOnly_7 : mj_Ch zG ("StreamWatch$Marks", "markStartOnly", c_Mk_markStartOnly, 3) 7 [x_aload 0, x_iload 2, x_iload 2] 10 := ⟨_, i_Mk_markStartOnly_7, _, i_Mk_markStartOnly_8, _, i_Mk_markStartOnly_9, rfl⟩
theorem b_Mk_markStartOnly_13 : mj_Ch zG ("StreamWatch$Marks", "markStartOnly", c_Mk_markStartOnly, 3) 13 [x_const 1, x_skip] 18 := ⟨_, i_Mk_markStartOnly_13, _, i_Mk_markStartOnly_14, rfl⟩
theorem b_Mk_markStartOnly_17 : mj_Ch zG ("StreamWatch$Marks", "markStartOnly", c_Mk_markStartOnly, 3) 17 [x_const 0] 18 := ⟨_, i_Mk_markStartOnly_17, rfl⟩
theorem b_Mk_markStartOnly_21 : mj_Ch zG ("StreamWatch$Marks", "markStartOnly", c_Mk_markStartOnly, 3) 21 [x_iinc 2 1, x_skip] 2 := ⟨_, i_Mk_markStartOnly_21, _, i_Mk_markStartOnly_24, rfl⟩
theorem b_Mk_markStartOnly_27 : mj_Ch zG ("StreamWatch$Marks", "markStartOnly", c_Mk_markStartOnly, 3) 27 [x_aload 0, x_iload 1] 29 := ⟨_, i_Mk_markStartOnly_27, _, i_Mk_markStartOnly_28, rfl⟩
theorem i_Mk_set_0 : mj_Snd zG ("StreamWatch$Marks", "set", c_Mk_set, 3) 0 (x_iload 1) 1 := mj_iload_n (j := 1) rfl (by decide +kernel)
theorem d_Mk_set_1 : decode c_Mk_set 1 = .ok (.ifCond .lt 16, 3) := by decide +kernel
theorem i_Mk_set_4 : mj_Snd zG ("StreamWatch$Marks", "set", c_Mk_set, 3) 4 (x_iload 1) 5 := mj_iload_n (j := 1) rfl (by decide +kernel)
theorem i_Mk_set_5 : mj_Snd zG ("StreamWatch$Marks", "set", c_Mk_set, 3) 5 (x_const 80) 7 := mj_bipush (n := 80) (by decide) (by decide +kernel)
theorem d_Mk_set_7 : decode c_Mk_set 7 = .ok (.if_icmp .gt 10, 3) := by decide +kernel
theorem i_Mk_set_10 : mj_Snd zG ("StreamWatch$Marks", "set", c_Mk_set, 3) 10 (x_aload 0) 11 := mj_aload_n (j := 0) rfl (by decide +kernel)
theorem i_Mk_set_11 : mj_Snd zG ("StreamWatch$Marks", "set", c_Mk_set, 3) 11 (x_getf 3 0) 14 := mj_getf (T := T_Mk) rfl (by decide) u_Mk z1_178 (by decide +kernel)
theorem i_Mk_set_14 : mj_Snd zG ("StreamWatch$Marks", "set", c_Mk_set, 3) 14 (x_iload 1) 15 := mj_iload_n (j := 1) rfl (by decide +kernel)
theorem i_Mk_set_15 : mj_Snd zG ("StreamWatch$Marks", "set", c_Mk_set, 3) 15 (x_iload 2) 16 := mj_iload_n (j := 2) rfl (by decide +kernel)
theorem i_Mk_set_16 : mj_Snd zG ("StreamWatch$Marks", "set", c_Mk_set, 3) 16 (x_zast 1) 17 := mj_zast rfl (by decide +kernel)
theorem d_Mk_set_17 : decode c_Mk_set 17 = .ok (.return_, 1) := by decide +kernel
theorem b_Mk_set_0 : mj_Ch zG ("StreamWatch$Marks", "set", c_Mk_set, 3) 0 [x_iload 1] 1 := ⟨_, i_Mk_set_0, rfl⟩
theorem b_Mk_set_4 : mj_Ch zG ("StreamWatch$Marks", "set", c_Mk_set, 3) 4 [x_iload 1, x_const 80] 7 := ⟨_, i_Mk_set_4, _, i_Mk_set_5, rfl⟩
theorem b_Mk_set_10 : mj_Ch zG ("StreamWatch$Marks", "set", c_Mk_set, 3) 10 [x_aload 0, x_getf 3 0, x_iload 1, x_iload 2, x_zast 1] 17 := ⟨_, i_Mk_set_10, _, i_Mk_set_11, _, i_Mk_set_14, _, i_Mk_set_15, _, i_Mk_set_16, rfl⟩
theorem i_Mk_has_0 : mj_Snd zG ("StreamWatch$Marks", "has", c_Mk_has, 2) 0 (x_iload 1) 1 := mj_iload_n (j := 1) rfl (by decide +kernel)
theorem d_Mk_has_1 : decode c_Mk_has 1 = .ok (.ifCond .lt 22, 3) := by decide +kernel
theorem i_Mk_has_4 : mj_Snd zG ("StreamWatch$Marks", "has", c_Mk_has, 2) 4 (x_iload 1) 5 := mj_iload_n (j := 1) rfl (by decide +kernel)
theorem i_Mk_has_5 : mj_Snd zG ("StreamWatch$Marks", "has", c_Mk_has, 2) 5 (x_const 80) 7 := mj_bipush (n := 80) (by decide) (by decide +kernel)
theorem d_Mk_has_7 : decode c_Mk_has 7 = .ok (.if_icmp .gt 16, 3) := by decide +kernel
theorem i_Mk_has_10 : mj_Snd zG ("StreamWatch$Marks", "has", c_Mk_has, 2) 10 (x_aload 0) 11 := mj_aload_n (j := 0) rfl (by decide +kernel)
theorem i_Mk_has_11 : mj_Snd zG ("StreamWatch$Marks", "has", c_Mk_has, 2) 11 (x_getf 3 0) 14 := mj_getf (T := T_Mk) rfl (by decide) u_Mk z1_178 (by decide +kernel)
theorem i_Mk_has_14 : mj_Snd zG ("StreamWatch$Marks", "has", c_Mk_has, 2) 14 (x_iload 1) 15 := mj_iload_n (j := 1) rfl (by decide +kernel)
theorem i_Mk_has_15 : mj_Snd zG ("StreamWatch$Marks", "has", c_Mk_has, 2) 15 (x_iald 1) 16 := mj_zald rfl (by decide +kernel)
theorem d_Mk_has_16 : decode c_Mk_has 16 = .ok (.ifCond .eq 7, 3) := by decide +kernel
theorem i_Mk_has_19 : mj_Snd zG ("StreamWatch$Marks", "has", c_Mk_has, 2) 19 (x_const 1) 20 := mj_const (n := 1) (by decide) (by decide +kernel)
theorem i_Mk_has_20 : mj_Snd zG ("StreamWatch$Marks", "has", c_Mk_has, 2) 20 (x_skip) 24 := mj_goto (off := 4) (by decide) (by decide +kernel)
theorem i_Mk_has_23 : mj_Snd zG ("StreamWatch$Marks", "has", c_Mk_has, 2) 23 (x_const 0) 24 := mj_const (n := 0) (by decide) (by decide +kernel)
theorem d_Mk_has_24 : decode c_Mk_has 24 = .ok (.ireturn, 1) := by decide +kernel
theorem b_Mk_has_0 : mj_Ch zG ("StreamWatch$Marks", "has", c_Mk_has, 2) 0 [x_iload 1] 1 := ⟨_, i_Mk_has_0, rfl⟩
theorem b_Mk_has_4 : mj_Ch zG ("StreamWatch$Marks", "has", c_Mk_has, 2) 4 [x_iload 1, x_const 80] 7 := ⟨_, i_Mk_has_4, _, i_Mk_has_5, rfl⟩
theorem b_Mk_has_10 : mj_Ch zG ("StreamWatch$Marks", "has", c_Mk_has, 2) 10 [x_aload 0, x_getf 3 0, x_iload 1, x_iald 1] 16 := ⟨_, i_Mk_has_10, _, i_Mk_has_11, _, i_Mk_has_14, _, i_Mk_has_15, rfl⟩
theorem b_Mk_has_19 : mj_Ch zG ("StreamWatch$Marks", "has", c_Mk_has, 2) 19 [x_const 1, x_skip] 24 := ⟨_, i_Mk_has_19, _, i_Mk_has_20, rfl⟩
theorem b_Mk_has_23 : mj_Ch zG ("StreamWatch$Marks", "has", c_Mk_has, 2) 23 [x_const 0] 24 := ⟨_, i_Mk_has_23, rfl⟩
theorem i_Mk_settle_0 : mj_Snd zG ("StreamWatch$Marks", "settle", c_Mk_settle, 4) 0 (x_const (-1)) 1 := mj_const (n := (-1)) (by decide) (by decide +kernel)
theorem i_Mk_settle_1 : mj_Snd zG ("StreamWatch$Marks", "settle", c_Mk_settle, 4) 1 (x_istore 2) 2 := mj_istore_n (j := 2) rfl (by decide) (by decide +kernel)
theorem i_Mk_settle_2 : mj_Snd zG ("StreamWatch$Marks", "settle", c_Mk_settle, 4) 2 (x_aload 0) 3 := mj_aload_n (j := 0) rfl (by decide +kernel)
theorem i_Mk_settle_3 : mj_Snd zG ("StreamWatch$Marks", "settle", c_Mk_settle, 4) 3 (x_iload 1) 4 := mj_iload_n (j := 1) rfl (by decide +kernel)
theorem i_Mk_settle_4 : mj_Snd zG ("StreamWatch$Marks", "settle", c_Mk_settle, 4) 4 (x_const 80) 6 := mj_bipush (n := 80) (by decide) (by decide +kernel)
theorem d_Mk_settle_6 : decode c_Mk_settle 6 = .ok (.if_icmp .gt 7, 3) := by decide +kernel
theorem i_Mk_settle_9 : mj_Snd zG ("StreamWatch$Marks", "settle", c_Mk_settle, 4) 9 (x_iload 1) 10 := mj_iload_n (j := 1) rfl (by decide +kernel)
theorem i_Mk_settle_10 : mj_Snd zG ("StreamWatch$Marks", "settle", c_Mk_settle, 4) 10 (x_skip) 15 := mj_goto (off := 5) (by decide) (by decide +kernel)
theorem i_Mk_settle_13 : mj_Snd zG ("StreamWatch$Marks", "settle", c_Mk_settle, 4) 13 (x_const 80) 15 := mj_bipush (n := 80) (by decide) (by decide +kernel)
theorem i_Mk_settle_15 : mj_Snd zG ("StreamWatch$Marks", "settle", c_Mk_settle, 4) 15 (x_putf 3 2 0) 18 := mj_putG (T := T_Mk) (ty0 := t_Mk) rfl (by decide) u_Mk t_Mk_ok n_Mk z1_180 (Or.inl rfl) (by decide +kernel)
theorem i_Mk_settle_18 : mj_Snd zG ("StreamWatch$Marks", "settle", c_Mk_settle, 4) 18 (x_const 0) 19 := mj_const (n := 0) (by decide) (by decide +kernel)
theorem i_Mk_settle_19 : mj_Snd zG ("StreamWatch$Marks", "settle", c_Mk_settle, 4) 19 (x_istore 3) 20 := mj_istore_n (j := 3) rfl (by decide) (by decide +kernel)
theorem i_Mk_settle_20 : mj_Snd zG ("StreamWatch$Marks", "settle", c_Mk_settle, 4) 20 (x_iload 3) 21 := mj_iload_n (j := 3) rfl (by decide +kernel)
theorem i_Mk_settle_21 : mj_Snd zG ("StreamWatch$Marks", "settle", c_Mk_settle, 4) 21 (x_aload 0) 22 := mj_aload_n (j := 0) rfl (by decide +kernel)
theorem i_Mk_settle_22 : mj_Snd zG ("StreamWatch$Marks", "settle", c_Mk_settle, 4) 22 (x_getf 3 2) 25 := mj_getf (T := T_Mk) rfl (by decide) u_Mk z1_180 (by decide +kernel)
theorem d_Mk_settle_25 : decode c_Mk_settle 25 = .ok (.if_icmp .gt 27, 3) := by decide +kernel
theorem i_Mk_settle_28 : mj_Snd zG ("StreamWatch$Marks", "settle", c_Mk_settle, 4) 28 (x_aload 0) 29 := mj_aload_n (j := 0) rfl (by decide +kernel)
theorem i_Mk_settle_29 : mj_Snd zG ("StreamWatch$Marks", "settle", c_Mk_settle, 4) 29 (x_getf 3 0) 32 := mj_getf (T := T_Mk) rfl (by decide) u_Mk z1_178 (by decide +kernel)
theorem i_Mk_settle_32 : mj_Snd zG ("StreamWatch$Marks", "settle", c_Mk_settle, 4) 32 (x_iload 3) 33 := mj_iload_n (j := 3) rfl (by decide +kernel)
theorem i_Mk_settle_33 : mj_Snd zG ("StreamWatch$Marks", "settle", c_Mk_settle, 4) 33 (x_iald 1) 34 := mj_zald rfl (by decide +kernel)
theorem d_Mk_settle_34 : decode c_Mk_settle 34 = .ok (.ifCond .eq 5, 3) := by decide +kernel
theorem i_Mk_settle_37 : mj_Snd zG ("StreamWatch$Marks", "settle", c_Mk_settle, 4) 37 (x_iload 3) 38 := mj_iload_n (j := 3) rfl (by decide +kernel)
theorem i_Mk_settle_38 : mj_Snd zG ("StreamWatch$Marks", "settle", c_Mk_settle, 4) 38 (x_istore 2) 39 := mj_istore_n (j := 2) rfl (by decide) (by decide +kernel)
theorem i_Mk_settle_39 : mj_Snd zG ("StreamWatch$Marks", "settle", c_Mk_settle, 4) 39 (x_aload 0) 40 := mj_aload_n (j := 0) rfl (by decide +kernel)
theorem i_Mk_settle_40 : mj_Snd zG ("StreamWatch$Marks", "settle", c_Mk_settle, 4) 40 (x_getf 3 1) 43 := mj_getf (T := T_Mk) rfl (by decide) u_Mk z1_179 (by decide +kernel)
theorem i_Mk_settle_43 : mj_Snd zG ("StreamWatch$Marks", "settle", c_Mk_settle, 4) 43 (x_iload 3) 44 := mj_iload_n (j := 3) rfl (by decide +kernel)
theorem i_Mk_settle_44 : mj_Snd zG ("StreamWatch$Marks", "settle", c_Mk_settle, 4) 44 (x_iload 2) 45 := mj_iload_n (j := 2) rfl (by decide +kernel)
theorem i_Mk_settle_45 : mj_Snd zG ("StreamWatch$Marks", "settle", c_Mk_settle, 4) 45 (x_iast 0) 46 := mj_iast rfl (by decide +kernel)
theorem i_Mk_settle_46 : mj_Snd zG ("StreamWatch$Marks", "settle", c_Mk_settle, 4) 46 (x_iinc 3 1) 49 := mj_iinc (n := 1) (by decide) (by decide) (by decide +kernel)
theorem i_Mk_settle_49 : mj_Snd zG ("StreamWatch$Marks", "settle", c_Mk_settle, 4) 49 (x_skip) 20 := mj_goto (off := (-29)) (by decide) (by decide +kernel)
theorem d_Mk_settle_52 : decode c_Mk_settle 52 = .ok (.return_, 1) := by decide +kernel
theorem b_Mk_settle_0 : mj_Ch zG ("StreamWatch$Marks", "settle", c_Mk_settle, 4) 0 [x_const (-1), x_istore 2, x_aload 0, x_iload 1, x_const 80] 6 := ⟨_, i_Mk_settle_0, _, i_Mk_settle_1, _, i_Mk_settle_2, _, i_Mk_settle_3, _, i_Mk_settle_4, rfl⟩
theorem b_Mk_settle_9 : mj_Ch zG ("StreamWatch$Marks", "settle", c_Mk_settle, 4) 9 [x_iload 1, x_skip] 15 := ⟨_, i_Mk_settle_9, _, i_Mk_settle_10, rfl⟩
theorem b_Mk_settle_13 : mj_Ch zG ("StreamWatch$Marks", "settle", c_Mk_settle, 4) 13 [x_const 80] 15 := ⟨_, i_Mk_settle_13, rfl⟩
theorem b_Mk_settle_15 : mj_Ch zG ("StreamWatch$Marks", "settle", c_Mk_settle, 4) 15 [x_putf 3 2 0, x_const 0, x_istore 3] 20 := ⟨_, i_Mk_settle_15, _, i_Mk_settle_18, _, i_Mk_settle_19, rfl⟩
theorem b_Mk_settle_20 : mj_Ch zG ("StreamWatch$Marks", "settle", c_Mk_settle, 4) 20 [x_iload 3, x_aload 0, x_getf 3 2] 25 := ⟨_, i_Mk_settle_20, _, i_Mk_settle_21, _, i_Mk_settle_22, rfl⟩
theorem b_Mk_settle_28 : mj_Ch zG ("StreamWatch$Marks", "settle", c_Mk_settle, 4) 28 [x_aload 0, x_getf 3 0, x_iload 3, x_iald 1] 34 := ⟨_, i_Mk_settle_28, _, i_Mk_settle_29, _, i_Mk_settle_32, _, i_Mk_settle_33, rfl⟩
theorem b_Mk_settle_37 : mj_Ch zG ("StreamWatch$Marks", "settle", c_Mk_settle, 4) 37 [x_iload 3, x_istore 2] 39 := ⟨_, i_Mk_settle_37, _, i_Mk_settle_38, rfl⟩
theorem b_Mk_settle_39 : mj_Ch zG ("StreamWatch$Marks", "settle", c_Mk_settle, 4) 39 [x_aload 0, x_getf 3 1, x_iload 3, x_iload 2, x_iast 0, x_iinc 3 1, x_skip] 20 := ⟨_, i_Mk_settle_39, _, i_Mk_settle_40, _, i_Mk_settle_43, _, i_Mk_settle_44, _, i_Mk_settle_45, _, i_Mk_settle_46, _, i_Mk_settle_49, rfl⟩
theorem i_Mk_isAnyIn_0 : mj_Snd zG ("StreamWatch$Marks", "isAnyIn", c_Mk_isAnyIn, 4) 0 (x_iload 2) 1 := mj_iload_n (j := 2) rfl (by decide +kernel)
theorem i_Mk_isAnyIn_1 : mj_Snd zG ("StreamWatch$Marks", "isAnyIn", c_Mk_isAnyIn, 4) 1 (x_aload 0) 2 := mj_aload_n (j := 0) rfl (by decide +kernel)
theorem i_Mk_isAnyIn_2 : mj_Snd zG ("StreamWatch$Marks", "isAnyIn", c_Mk_isAnyIn, 4) 2 (x_getf 3 2) 5 := mj_getf (T := T_Mk) rfl (by decide) u_Mk z1_180 (by decide +kernel)
theorem d_Mk_isAnyIn_5 : decode c_Mk_isAnyIn 5 = .ok (.invokestatic 31, 3) := by decide +kernel
theorem i_Mk_isAnyIn_8 : mj_Snd zG ("StreamWatch$Marks", "isAnyIn", c_Mk_isAnyIn, 4) 8 (x_istore 3) 9 := mj_istore_n (j := 3) rfl (by decide) (by decide +kernel)
theorem i_Mk_isAnyIn_9 : mj_Snd zG ("StreamWatch$Marks", "isAnyIn", c_Mk_isAnyIn, 4) 9 (x_iload 3) 10 := mj_iload_n (j := 3) rfl (by decide +kernel)
theorem d_Mk_isAnyIn_10 : decode c_Mk_isAnyIn 10 = .ok (.ifCond .lt 21, 3) := by decide +kernel
theorem i_Mk_isAnyIn_13 : mj_Snd zG ("StreamWatch$Marks", "isAnyIn", c_Mk_isAnyIn, 4) 13 (x_aload 0) 14 := mj_aload_n (j := 0) rfl (by decide +kernel)
theorem i_Mk_isAnyIn_14 : mj_Snd zG ("StreamWatch$Marks", "isAnyIn", c_Mk_isAnyIn, 4) 14 (x_getf 3 1) 17 := mj_getf (T := T_Mk) rfl (by decide) u_Mk z1_179 (by decide +kernel)
theorem i_Mk_isAnyIn_17 : mj_Snd zG ("StreamWatch$Marks", "isAnyIn", c_Mk_isAnyIn, 4) 17 (x_iload 3) 18 := mj_iload_n (j := 3) rfl (by decide +kernel)
theorem i_Mk_isAnyIn_18 : mj_Snd zG ("StreamWatch$Marks", "isAnyIn", c_Mk_isAnyIn, 4) 18 (x_iald 0) 19 := mj_iald rfl (by decide +kernel)
theorem i_Mk_isAnyIn_19 : mj_Snd zG ("StreamWatch$Marks", "isAnyIn", c_Mk_isAnyIn, 4) 19 (x_iload 1) 20 := mj_iload_n (j := 1) rfl (by decide +kernel)
theorem i_Mk_isAnyIn_20 : mj_Snd zG ("StreamWatch$Marks", "isAnyIn", c_Mk_isAnyIn, 4) 20 (x_const 0) 21 := mj_const (n := 0) (by decide) (by decide +kernel)
theorem d_Mk_isAnyIn_21 : decode c_Mk_isAnyIn 21 = .ok (.invokestatic 37, 3) := by decide +kernel
theorem d_Mk_isAnyIn_24 : decode c_Mk_isAnyIn 24 = .ok (.if_icmp .lt 7, 3) := by decide +kernel
theorem i_Mk_isAnyIn_27 : mj_Snd zG ("StreamWatch$Marks", "isAnyIn", c_Mk_isAnyIn, 4) 27 (x_const 1) 28 := mj_const (n := 1) (by decide) (by decide +kernel)
theorem i_Mk_isAnyIn_28 : mj_Snd zG ("StreamWatch$Marks", "isAnyIn", c_Mk_isAnyIn, 4) 28 (x_skip) 32 := mj_goto (off := 4) (by decide) (by decide +kernel)
theorem i_Mk_isAnyIn_31 : mj_Snd zG ("StreamWatch$Marks", "isAnyIn", c_Mk_isAnyIn, 4) 31 (x_const 0) 32 := mj_const (n := 0) (by decide) (by decide +kernel)
theorem d_Mk_isAnyIn_32 : decode c_Mk_isAnyIn 32 = .ok (.ireturn, 1) := by decide +kernel
theorem b_Mk_isAnyIn_0 : mj_Ch zG ("StreamWatch$Marks", "isAnyIn", c_Mk_isAnyIn, 4) 0 [x_iload 2, x_aload 0, x_getf 3 2] 5 := ⟨_, i_Mk_isAnyIn_0, _, i_Mk_isAnyIn_1, _, i_Mk_isAnyIn_2, rfl⟩
theorem b_Mk_isAnyIn_8 : mj_Ch zG ("StreamWatch$Marks", "isAnyIn", c_Mk_isAnyIn, 4) 8 [x_istore 3, x_iload 3] 10 := ⟨_, i_Mk_isAnyIn_8, _, i_Mk_isAnyIn_9, rfl⟩
theorem b_Mk_isAnyIn_13 : mj_Ch zG ("StreamWatch$Marks", "isAnyIn", c_Mk_isAnyIn, 4) 13 [x_aload 0, x_getf 3 1, x_iload 3, x_iald 0, x_iload 1, x_const 0] 21 := ⟨_, i_Mk_isAnyIn_13, _, i_Mk_isAnyIn_14, _, i_Mk_isAnyIn_17, _, i_Mk_isAnyIn_18, _, i_Mk_isAnyIn_19, _, i_Mk_isAnyIn_20, rfl⟩
theorem b_Mk_isAnyIn_27 : mj_Ch zG ("StreamWatch$Marks", "isAnyIn", c_Mk_isAnyIn, 4) 27 [x_const 1, x_skip] 32 := ⟨_, i_Mk_isAnyIn_27, _, i_Mk_isAnyIn_28, rfl⟩
theorem b_Mk_isAnyIn_31 : mj_Ch zG ("StreamWatch$Marks", "isAnyIn", c_Mk_isAnyIn, 4) 31 [x_const 0] 32 := ⟨_, i_Mk_isAnyIn_31, rfl⟩

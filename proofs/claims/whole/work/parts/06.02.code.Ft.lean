theorem i_Ft_init_0 : mj_Snd zG ("StreamWatch$FlowTable", "<init>", c_Ft_init, 2) 0 (x_aload 0) 1 := mj_aload_n (j := 0) rfl (by decide +kernel)
theorem d_Ft_init_1 : decode c_Ft_init 1 = .ok (.invokespecial 3, 3) := by decide +kernel
theorem i_Ft_init_4 : mj_Snd zG ("StreamWatch$FlowTable", "<init>", c_Ft_init, 2) 4 (x_aload 0) 5 := mj_aload_n (j := 0) rfl (by decide +kernel)
theorem i_Ft_init_5 : mj_Snd zG ("StreamWatch$FlowTable", "<init>", c_Ft_init, 2) 5 (x_const 4) 6 := mj_const (n := 4) (by decide) (by decide +kernel)
theorem d_Ft_init_6 : decode c_Ft_init 6 = .ok (.anewarray 11, 3) := by decide +kernel
theorem i_Ft_init_9 : mj_Snd zG ("StreamWatch$FlowTable", "<init>", c_Ft_init, 2) 9 (x_putf 2 0 3) 12 := mj_putG (T := T_Ft) (ty0 := t_Ft) rfl (by decide) u_Ft t_Ft_ok n_Ft z1_157 (Or.inr ⟨rfl, rfl, rfl⟩) (by decide +kernel)
theorem i_Ft_init_12 : mj_Snd zG ("StreamWatch$FlowTable", "<init>", c_Ft_init, 2) 12 (x_aload 0) 13 := mj_aload_n (j := 0) rfl (by decide +kernel)
theorem i_Ft_init_13 : mj_Snd zG ("StreamWatch$FlowTable", "<init>", c_Ft_init, 2) 13 (x_const 0) 14 := mj_const (n := 0) (by decide) (by decide +kernel)
theorem i_Ft_init_14 : mj_Snd zG ("StreamWatch$FlowTable", "<init>", c_Ft_init, 2) 14 (x_putf 2 1 0) 17 := mj_putG (T := T_Ft) (ty0 := t_Ft) rfl (by decide) u_Ft t_Ft_ok n_Ft z1_158 (Or.inl rfl) (by decide +kernel)
theorem i_Ft_init_17 : mj_Snd zG ("StreamWatch$FlowTable", "<init>", c_Ft_init, 2) 17 (x_const 0) 18 := mj_const (n := 0) (by decide) (by decide +kernel)
theorem i_Ft_init_18 : mj_Snd zG ("StreamWatch$FlowTable", "<init>", c_Ft_init, 2) 18 (x_istore 1) 19 := mj_istore_n (j := 1) rfl (by decide) (by decide +kernel)
theorem i_Ft_init_19 : mj_Snd zG ("StreamWatch$FlowTable", "<init>", c_Ft_init, 2) 19 (x_iload 1) 20 := mj_iload_n (j := 1) rfl (by decide +kernel)
theorem i_Ft_init_20 : mj_Snd zG ("StreamWatch$FlowTable", "<init>", c_Ft_init, 2) 20 (x_const 4) 21 := mj_const (n := 4) (by decide) (by decide +kernel)
theorem d_Ft_init_21 : decode c_Ft_init 21 = .ok (.if_icmp .ge 22, 3) := by decide +kernel
theorem i_Ft_init_24 : mj_Snd zG ("StreamWatch$FlowTable", "<init>", c_Ft_init, 2) 24 (x_aload 0) 25 := mj_aload_n (j := 0) rfl (by decide +kernel)
theorem i_Ft_init_25 : mj_Snd zG ("StreamWatch$FlowTable", "<init>", c_Ft_init, 2) 25 (x_getf 2 0) 28 := mj_getf (T := T_Ft) rfl (by decide) u_Ft z1_157 (by decide +kernel)
theorem i_Ft_init_28 : mj_Snd zG ("StreamWatch$FlowTable", "<init>", c_Ft_init, 2) 28 (x_iload 1) 29 := mj_iload_n (j := 1) rfl (by decide +kernel)
theorem d_Ft_init_29 : decode c_Ft_init 29 = .ok (.new 11, 3) := by decide +kernel
theorem i_Ft_init_32 : mj_Snd zG ("StreamWatch$FlowTable", "<init>", c_Ft_init, 2) 32 (x_dup) 33 := mj_dup (by decide +kernel)
theorem d_Ft_init_33 : decode c_Ft_init 33 = .ok (.invokespecial 21, 3) := by decide +kernel
theorem d_Ft_init_36 : decode c_Ft_init 36 = .ok (.aastore, 1) := by decide +kernel
theorem i_Ft_init_37 : mj_Snd zG ("StreamWatch$FlowTable", "<init>", c_Ft_init, 2) 37 (x_iinc 1 1) 40 := mj_iinc (n := 1) (by decide) (by decide) (by decide +kernel)
theorem i_Ft_init_40 : mj_Snd zG ("StreamWatch$FlowTable", "<init>", c_Ft_init, 2) 40 (x_skip) 19 := mj_goto (off := (-21)) (by decide) (by decide +kernel)
theorem d_Ft_init_43 : decode c_Ft_init 43 = .ok (.return_, 1) := by decide +kernel
theorem b_Ft_init_0 : mj_Ch zG ("StreamWatch$FlowTable", "<init>", c_Ft_init, 2) 0 [x_aload 0] 1 := ⟨_, i_Ft_init_0, rfl⟩
theorem b_Ft_init_4 : mj_Ch zG ("StreamWatch$FlowTable", "<init>", c_Ft_init, 2) 4 [x_aload 0, x_const 4] 6 := ⟨_, i_Ft_init_4, _, i_Ft_init_5, rfl⟩
theorem b_Ft_init_9 : mj_Ch zG ("StreamWatch$FlowTable", "<init>", c_Ft_init, 2) 9 [x_putf 2 0 3, x_aload 0, x_const 0, x_putf 2 1 0, x_const 0, x_istore 1] 19 := ⟨_, i_Ft_init_9, _, i_Ft_init_12, _, i_Ft_init_13, _, i_Ft_init_14, _, i_Ft_init_17, _, i_Ft_init_18, rfl⟩
theorem b_Ft_init_19 : mj_Ch zG ("StreamWatch$FlowTable", "<init>", c_Ft_init, 2) 19 [x_iload 1, x_const 4] 21 := ⟨_, i_Ft_init_19, _, i_Ft_init_20, rfl⟩
theorem b_Ft_init_24 : mj_Ch zG ("StreamWatch$FlowTable", "<init>", c_Ft_init, 2) 24 [x_aload 0, x_getf 2 0, x_iload 1] 29 := ⟨_, i_Ft_init_24, _, i_Ft_init_25, _, i_Ft_init_28, rfl⟩
theorem b_Ft_init_32 : mj_Ch zG ("StreamWatch$FlowTable", "<init>", c_Ft_init, 2) 32 [x_dup] 33 := ⟨_, i_Ft_init_32, rfl⟩
theorem b_Ft_init_37 : mj_Ch zG ("StreamWatch$FlowTable", "<init>", c_Ft_init, 2) 37 [x_iinc 1 1, x_skip] 19 := ⟨_, i_Ft_init_37, _, i_Ft_init_40, rfl⟩
theorem i_Ft_at_0 : mj_Snd zG ("StreamWatch$FlowTable", "at", c_Ft_at, 2) 0 (x_iload 1) 1 := mj_iload_n (j := 1) rfl (by decide +kernel)
theorem d_Ft_at_1 : decode c_Ft_at 1 = .ok (.ifCond .lt 29, 3) := by decide +kernel
theorem i_Ft_at_4 : mj_Snd zG ("StreamWatch$FlowTable", "at", c_Ft_at, 2) 4 (x_iload 1) 5 := mj_iload_n (j := 1) rfl (by decide +kernel)
theorem i_Ft_at_5 : mj_Snd zG ("StreamWatch$FlowTable", "at", c_Ft_at, 2) 5 (x_const 4) 6 := mj_const (n := 4) (by decide) (by decide +kernel)
theorem d_Ft_at_6 : decode c_Ft_at 6 = .ok (.if_icmp .ge 24, 3) := by decide +kernel
theorem i_Ft_at_9 : mj_Snd zG ("StreamWatch$FlowTable", "at", c_Ft_at, 2) 9 (x_aload 0) 10 := mj_aload_n (j := 0) rfl (by decide +kernel)
theorem i_Ft_at_10 : mj_Snd zG ("StreamWatch$FlowTable", "at", c_Ft_at, 2) 10 (x_getf 2 0) 13 := mj_getf (T := T_Ft) rfl (by decide) u_Ft z1_157 (by decide +kernel)
theorem i_Ft_at_13 : mj_Snd zG ("StreamWatch$FlowTable", "at", c_Ft_at, 2) 13 (x_iload 1) 14 := mj_iload_n (j := 1) rfl (by decide +kernel)
theorem i_Ft_at_14 : mj_Snd zG ("StreamWatch$FlowTable", "at", c_Ft_at, 2) 14 (x_aald 3) 15 := mj_aald rfl (by decide +kernel)
theorem d_Ft_at_15 : decode c_Ft_at 15 = .ok (.invokevirtual 22, 3) := by decide +kernel
theorem d_Ft_at_18 : decode c_Ft_at 18 = .ok (.ifCond .eq 12, 3) := by decide +kernel
theorem i_Ft_at_21 : mj_Snd zG ("StreamWatch$FlowTable", "at", c_Ft_at, 2) 21 (x_aload 0) 22 := mj_aload_n (j := 0) rfl (by decide +kernel)
theorem i_Ft_at_22 : mj_Snd zG ("StreamWatch$FlowTable", "at", c_Ft_at, 2) 22 (x_getf 2 0) 25 := mj_getf (T := T_Ft) rfl (by decide) u_Ft z1_157 (by decide +kernel)
theorem i_Ft_at_25 : mj_Snd zG ("StreamWatch$FlowTable", "at", c_Ft_at, 2) 25 (x_iload 1) 26 := mj_iload_n (j := 1) rfl (by decide +kernel)
theorem i_Ft_at_26 : mj_Snd zG ("StreamWatch$FlowTable", "at", c_Ft_at, 2) 26 (x_aald 3) 27 := mj_aald rfl (by decide +kernel)
theorem i_Ft_at_27 : mj_Snd zG ("StreamWatch$FlowTable", "at", c_Ft_at, 2) 27 (x_skip) 31 := mj_goto (off := 4) (by decide) (by decide +kernel)
theorem i_Ft_at_30 : mj_Snd zG ("StreamWatch$FlowTable", "at", c_Ft_at, 2) 30 (x_null) 31 := mj_null (by decide +kernel)
theorem d_Ft_at_31 : decode c_Ft_at 31 = .ok (.areturn, 1) := by decide +kernel
theorem b_Ft_at_0 : mj_Ch zG ("StreamWatch$FlowTable", "at", c_Ft_at, 2) 0 [x_iload 1] 1 := ⟨_, i_Ft_at_0, rfl⟩
theorem b_Ft_at_4 : mj_Ch zG ("StreamWatch$FlowTable", "at", c_Ft_at, 2) 4 [x_iload 1, x_const 4] 6 := ⟨_, i_Ft_at_4, _, i_Ft_at_5, rfl⟩
theorem b_Ft_at_9 : mj_Ch zG ("StreamWatch$FlowTable", "at", c_Ft_at, 2) 9 [x_aload 0, x_getf 2 0, x_iload 1, x_aald 3] 15 := ⟨_, i_Ft_at_9, _, i_Ft_at_10, _, i_Ft_at_13, _, i_Ft_at_14, rfl⟩
theorem b_Ft_at_21 : mj_Ch zG ("StreamWatch$FlowTable", "at", c_Ft_at, 2) 21 [x_aload 0, x_getf 2 0, x_iload 1, x_aald 3, x_skip] 31 := ⟨_, i_Ft_at_21, _, i_Ft_at_22, _, i_Ft_at_25, _, i_Ft_at_26, _, i_Ft_at_27, rfl⟩
theorem b_Ft_at_30 : mj_Ch zG ("StreamWatch$FlowTable", "at", c_Ft_at, 2) 30 [x_null] 31 := ⟨_, i_Ft_at_30, rfl⟩
theorem i_Ft_of_0 : mj_Snd zG ("StreamWatch$FlowTable", "of", c_Ft_of, 4) 0 (x_const 0) 1 := mj_const (n := 0) (by decide) (by decide +kernel)
theorem i_Ft_of_1 : mj_Snd zG ("StreamWatch$FlowTable", "of", c_Ft_of, 4) 1 (x_istore 2) 2 := mj_istore_n (j := 2) rfl (by decide) (by decide +kernel)
theorem i_Ft_of_2 : mj_Snd zG ("StreamWatch$FlowTable", "of", c_Ft_of, 4) 2 (x_iload 2) 3 := mj_iload_n (j := 2) rfl (by decide +kernel)
theorem i_Ft_of_3 : mj_Snd zG ("StreamWatch$FlowTable", "of", c_Ft_of, 4) 3 (x_const 4) 4 := mj_const (n := 4) (by decide) (by decide +kernel)
theorem d_Ft_of_4 : decode c_Ft_of 4 = .ok (.if_icmp .ge 30, 3) := by decide +kernel
theorem i_Ft_of_7 : mj_Snd zG ("StreamWatch$FlowTable", "of", c_Ft_of, 4) 7 (x_aload 0) 8 := mj_aload_n (j := 0) rfl (by decide +kernel)
theorem i_Ft_of_8 : mj_Snd zG ("StreamWatch$FlowTable", "of", c_Ft_of, 4) 8 (x_iload 2) 9 := mj_iload_n (j := 2) rfl (by decide +kernel)
theorem d_Ft_of_9 : decode c_Ft_of 9 = .ok (.invokevirtual 26, 3) := by decide +kernel
theorem i_Ft_of_12 : mj_Snd zG ("StreamWatch$FlowTable", "of", c_Ft_of, 4) 12 (x_astore 3) 13 := mj_astore_n (j := 3) rfl (by decide) (by decide +kernel)
theorem i_Ft_of_13 : mj_Snd zG ("StreamWatch$FlowTable", "of", c_Ft_of, 4) 13 (x_aload 3) 14 := mj_aload_n (j := 3) rfl (by decide +kernel)
theorem d_Ft_of_14 : decode c_Ft_of 14 = .ok (.ifnull 14, 3) := by decide +kernel
theorem i_Ft_of_17 : mj_Snd zG ("StreamWatch$FlowTable", "of", c_Ft_of, 4) 17 (x_aload 3) 18 := mj_aload_n (j := 3) rfl (by decide +kernel)
theorem i_Ft_of_18 : mj_Snd zG ("StreamWatch$FlowTable", "of", c_Ft_of, 4) 18 (x_aload 1) 19 := mj_aload_n (j := 1) rfl (by decide +kernel)
theorem d_Ft_of_19 : decode c_Ft_of 19 = .ok (.invokevirtual 30, 3) := by decide +kernel
theorem i_Ft_of_22 : mj_Snd zG ("StreamWatch$FlowTable", "of", c_Ft_of, 4) 22 (x_const (-1)) 23 := mj_const (n := (-1)) (by decide) (by decide +kernel)
theorem d_Ft_of_23 : decode c_Ft_of 23 = .ok (.if_icmp .eq 5, 3) := by decide +kernel
theorem i_Ft_of_26 : mj_Snd zG ("StreamWatch$FlowTable", "of", c_Ft_of, 4) 26 (x_aload 3) 27 := mj_aload_n (j := 3) rfl (by decide +kernel)
theorem d_Ft_of_27 : decode c_Ft_of 27 = .ok (.areturn, 1) := by decide +kernel
theorem i_Ft_of_28 : mj_Snd zG ("StreamWatch$FlowTable", "of", c_Ft_of, 4) 28 (x_iinc 2 1) 31 := mj_iinc (n := 1) (by decide) (by decide) (by decide +kernel)
theorem i_Ft_of_31 : mj_Snd zG ("StreamWatch$FlowTable", "of", c_Ft_of, 4) 31 (x_skip) 2 := mj_goto (off := (-29)) (by decide) (by decide +kernel)
theorem i_Ft_of_34 : mj_Snd zG ("StreamWatch$FlowTable", "of", c_Ft_of, 4) 34 (x_null) 35 := mj_null (by decide +kernel)
theorem d_Ft_of_35 : decode c_Ft_of 35 = .ok (.areturn, 1) := by decide +kernel
theorem b_Ft_of_0 : mj_Ch zG ("StreamWatch$FlowTable", "of", c_Ft_of, 4) 0 [x_const 0, x_istore 2] 2 := ⟨_, i_Ft_of_0, _, i_Ft_of_1, rfl⟩
theorem b_Ft_of_2 : mj_Ch zG ("StreamWatch$FlowTable", "of", c_Ft_of, 4) 2 [x_iload 2, x_const 4] 4 := ⟨_, i_Ft_of_2, _, i_Ft_of_3, rfl⟩
theorem b_Ft_of_7 : mj_Ch zG ("StreamWatch$FlowTable", "of", c_Ft_of, 4) 7 [x_aload 0, x_iload 2] 9 := ⟨_, i_Ft_of_7, _, i_Ft_of_8, rfl⟩
theorem b_Ft_of_12 : mj_Ch zG ("StreamWatch$FlowTable", "of", c_Ft_of, 4) 12 [x_astore 3, x_aload 3] 14 := ⟨_, i_Ft_of_12, _, i_Ft_of_13, rfl⟩
theorem b_Ft_of_17 : mj_Ch zG ("StreamWatch$FlowTable", "of", c_Ft_of, 4) 17 [x_aload 3, x_aload 1] 19 := ⟨_, i_Ft_of_17, _, i_Ft_of_18, rfl⟩
theorem b_Ft_of_22 : mj_Ch zG ("StreamWatch$FlowTable", "of", c_Ft_of, 4) 22 [x_const (-1)] 23 := ⟨_, i_Ft_of_22, rfl⟩
theorem b_Ft_of_26 : mj_Ch zG ("StreamWatch$FlowTable", "of", c_Ft_of, 4) 26 [x_aload 3] 27 := ⟨_, i_Ft_of_26, rfl⟩
theorem b_Ft_of_28 : mj_Ch zG ("StreamWatch$FlowTable", "of", c_Ft_of, 4) 28 [x_iinc 2 1, x_skip] 2 := ⟨_, i_Ft_of_28, _, i_Ft_of_31, rfl⟩
theorem b_Ft_of_34 : mj_Ch zG ("StreamWatch$FlowTable", "of", c_Ft_of, 4) 34 [x_null] 35 := ⟨_, i_Ft_of_34, rfl⟩
theorem i_Ft_open_0 : mj_Snd zG ("StreamWatch$FlowTable", "open", c_Ft_open, 4) 0 (x_aload 0) 1 := mj_aload_n (j := 0) rfl (by decide +kernel)
theorem i_Ft_open_1 : mj_Snd zG ("StreamWatch$FlowTable", "open", c_Ft_open, 4) 1 (x_getf 2 0) 4 := mj_getf (T := T_Ft) rfl (by decide) u_Ft z1_157 (by decide +kernel)
theorem i_Ft_open_4 : mj_Snd zG ("StreamWatch$FlowTable", "open", c_Ft_open, 4) 4 (x_const 0) 5 := mj_const (n := 0) (by decide) (by decide +kernel)
theorem i_Ft_open_5 : mj_Snd zG ("StreamWatch$FlowTable", "open", c_Ft_open, 4) 5 (x_aald 3) 6 := mj_aald rfl (by decide +kernel)
theorem i_Ft_open_6 : mj_Snd zG ("StreamWatch$FlowTable", "open", c_Ft_open, 4) 6 (x_astore 2) 7 := mj_astore_n (j := 2) rfl (by decide) (by decide +kernel)
theorem i_Ft_open_7 : mj_Snd zG ("StreamWatch$FlowTable", "open", c_Ft_open, 4) 7 (x_const 1) 8 := mj_const (n := 1) (by decide) (by decide +kernel)
theorem i_Ft_open_8 : mj_Snd zG ("StreamWatch$FlowTable", "open", c_Ft_open, 4) 8 (x_istore 3) 9 := mj_istore_n (j := 3) rfl (by decide) (by decide +kernel)
theorem i_Ft_open_9 : mj_Snd zG ("StreamWatch$FlowTable", "open", c_Ft_open, 4) 9 (x_iload 3) 10 := mj_iload_n (j := 3) rfl (by decide +kernel)
theorem i_Ft_open_10 : mj_Snd zG ("StreamWatch$FlowTable", "open", c_Ft_open, 4) 10 (x_const 4) 11 := mj_const (n := 4) (by decide) (by decide +kernel)
theorem d_Ft_open_11 : decode c_Ft_open 11 = .ok (.if_icmp .ge 51, 3) := by decide +kernel
theorem i_Ft_open_14 : mj_Snd zG ("StreamWatch$FlowTable", "open", c_Ft_open, 4) 14 (x_aload 2) 15 := mj_aload_n (j := 2) rfl (by decide +kernel)
theorem d_Ft_open_15 : decode c_Ft_open 15 = .ok (.invokevirtual 22, 3) := by decide +kernel
theorem d_Ft_open_18 : decode c_Ft_open 18 = .ok (.ifCond .eq 44, 3) := by decide +kernel
theorem i_Ft_open_21 : mj_Snd zG ("StreamWatch$FlowTable", "open", c_Ft_open, 4) 21 (x_aload 0) 22 := mj_aload_n (j := 0) rfl (by decide +kernel)
theorem i_Ft_open_22 : mj_Snd zG ("StreamWatch$FlowTable", "open", c_Ft_open, 4) 22 (x_getf 2 0) 25 := mj_getf (T := T_Ft) rfl (by decide) u_Ft z1_157 (by decide +kernel)
theorem i_Ft_open_25 : mj_Snd zG ("StreamWatch$FlowTable", "open", c_Ft_open, 4) 25 (x_iload 3) 26 := mj_iload_n (j := 3) rfl (by decide +kernel)
theorem i_Ft_open_26 : mj_Snd zG ("StreamWatch$FlowTable", "open", c_Ft_open, 4) 26 (x_aald 3) 27 := mj_aald rfl (by decide +kernel)
theorem d_Ft_open_27 : decode c_Ft_open 27 = .ok (.invokevirtual 22, 3) := by decide +kernel
theorem d_Ft_open_30 : decode c_Ft_open 30 = .ok (.ifCond .eq 19, 3) := by decide +kernel
theorem i_Ft_open_33 : mj_Snd zG ("StreamWatch$FlowTable", "open", c_Ft_open, 4) 33 (x_aload 0) 34 := mj_aload_n (j := 0) rfl (by decide +kernel)
theorem i_Ft_open_34 : mj_Snd zG ("StreamWatch$FlowTable", "open", c_Ft_open, 4) 34 (x_getf 2 0) 37 := mj_getf (T := T_Ft) rfl (by decide) u_Ft z1_157 (by decide +kernel)
theorem i_Ft_open_37 : mj_Snd zG ("StreamWatch$FlowTable", "open", c_Ft_open, 4) 37 (x_iload 3) 38 := mj_iload_n (j := 3) rfl (by decide +kernel)
theorem i_Ft_open_38 : mj_Snd zG ("StreamWatch$FlowTable", "open", c_Ft_open, 4) 38 (x_aald 3) 39 := mj_aald rfl (by decide +kernel)
theorem i_Ft_open_39 : mj_Snd zG ("StreamWatch$FlowTable", "open", c_Ft_open, 4) 39 (x_getf 1 4) 42 := mj_getf (T := T_Fl) rfl (by decide) u_Fl z1_136 (by decide +kernel)
theorem i_Ft_open_42 : mj_Snd zG ("StreamWatch$FlowTable", "open", c_Ft_open, 4) 42 (x_aload 2) 43 := mj_aload_n (j := 2) rfl (by decide +kernel)
theorem i_Ft_open_43 : mj_Snd zG ("StreamWatch$FlowTable", "open", c_Ft_open, 4) 43 (x_getf 1 4) 46 := mj_getf (T := T_Fl) rfl (by decide) u_Fl z1_136 (by decide +kernel)
theorem d_Ft_open_46 : decode c_Ft_open 46 = .ok (.if_icmp .ge 10, 3) := by decide +kernel
theorem i_Ft_open_49 : mj_Snd zG ("StreamWatch$FlowTable", "open", c_Ft_open, 4) 49 (x_aload 0) 50 := mj_aload_n (j := 0) rfl (by decide +kernel)
theorem i_Ft_open_50 : mj_Snd zG ("StreamWatch$FlowTable", "open", c_Ft_open, 4) 50 (x_getf 2 0) 53 := mj_getf (T := T_Ft) rfl (by decide) u_Ft z1_157 (by decide +kernel)
theorem i_Ft_open_53 : mj_Snd zG ("StreamWatch$FlowTable", "open", c_Ft_open, 4) 53 (x_iload 3) 54 := mj_iload_n (j := 3) rfl (by decide +kernel)
theorem i_Ft_open_54 : mj_Snd zG ("StreamWatch$FlowTable", "open", c_Ft_open, 4) 54 (x_aald 3) 55 := mj_aald rfl (by decide +kernel)
theorem i_Ft_open_55 : mj_Snd zG ("StreamWatch$FlowTable", "open", c_Ft_open, 4) 55 (x_astore 2) 56 := mj_astore_n (j := 2) rfl (by decide) (by decide +kernel)
theorem i_Ft_open_56 : mj_Snd zG ("StreamWatch$FlowTable", "open", c_Ft_open, 4) 56 (x_iinc 3 1) 59 := mj_iinc (n := 1) (by decide) (by decide) (by decide +kernel)
theorem i_Ft_open_59 : mj_Snd zG ("StreamWatch$FlowTable", "open", c_Ft_open, 4) 59 (x_skip) 9 := mj_goto (off := (-50)) (by decide) (by decide +kernel)
theorem i_Ft_open_62 : mj_Snd zG ("StreamWatch$FlowTable", "open", c_Ft_open, 4) 62 (x_aload 2) 63 := mj_aload_n (j := 2) rfl (by decide +kernel)
theorem i_Ft_open_63 : mj_Snd zG ("StreamWatch$FlowTable", "open", c_Ft_open, 4) 63 (x_aload 1) 64 := mj_aload_n (j := 1) rfl (by decide +kernel)
theorem d_Ft_open_64 : decode c_Ft_open 64 = .ok (.invokevirtual 37, 3) := by decide +kernel
theorem i_Ft_open_67 : mj_Snd zG ("StreamWatch$FlowTable", "open", c_Ft_open, 4) 67 (x_aload 2) 68 := mj_aload_n (j := 2) rfl (by decide +kernel)
theorem d_Ft_open_68 : decode c_Ft_open 68 = .ok (.areturn, 1) := by decide +kernel
theorem b_Ft_open_0 : mj_Ch zG ("StreamWatch$FlowTable", "open", c_Ft_open, 4) 0 [x_aload 0, x_getf 2 0, x_const 0, x_aald 3, x_astore 2, x_const 1, x_istore 3] 9 := ⟨_, i_Ft_open_0, _, i_Ft_open_1, _, i_Ft_open_4, _, i_Ft_open_5, _, i_Ft_open_6, _, i_Ft_open_7, _, i_Ft_open_8, rfl⟩
theorem b_Ft_open_9 : mj_Ch zG ("StreamWatch$FlowTable", "open", c_Ft_open, 4) 9 [x_iload 3, x_const 4] 11 := ⟨_, i_Ft_open_9, _, i_Ft_open_10, rfl⟩
theorem b_Ft_open_14 : mj_Ch zG ("StreamWatch$FlowTable", "open", c_Ft_open, 4) 14 [x_aload 2] 15 := ⟨_, i_Ft_open_14, rfl⟩
theorem b_Ft_open_21 : mj_Ch zG ("StreamWatch$FlowTable", "open", c_Ft_open, 4) 21 [x_aload 0, x_getf 2 0, x_iload 3, x_aald 3] 27 := ⟨_, i_Ft_open_21, _, i_Ft_open_22, _, i_Ft_open_25, _, i_Ft_open_26, rfl⟩
theorem b_Ft_open_33 : mj_Ch zG ("StreamWatch$FlowTable", "open", c_Ft_open, 4) 33 [x_aload 0, x_getf 2 0, x_iload 3, x_aald 3, x_getf 1 4, x_aload 2, x_getf 1 4] 46 := ⟨_, i_Ft_open_33, _, i_Ft_open_34, _, i_Ft_open_37, _, i_Ft_open_38, _, i_Ft_open_39, _, i_Ft_open_42, _, i_Ft_open_43, rfl⟩
theorem b_Ft_open_49 : mj_Ch zG ("StreamWatch$FlowTable", "open", c_Ft_open, 4) 49 [x_aload 0, x_getf 2 0, x_iload 3, x_aald 3, x_astore 2] 56 := ⟨_, i_Ft_open_49, _, i_Ft_open_50, _, i_Ft_open_53, _, i_Ft_open_54, _, i_Ft_open_55, rfl⟩
theorem b_Ft_open_56 : mj_Ch zG ("StreamWatch$FlowTable", "open", c_Ft_open, 4) 56 [x_iinc 3 1, x_skip] 9 := ⟨_, i_Ft_open_56, _, i_Ft_open_59, rfl⟩
theorem b_Ft_open_62 : mj_Ch zG ("StreamWatch$FlowTable", "open", c_Ft_open, 4) 62 [x_aload 2, x_aload 1] 64 := ⟨_, i_Ft_open_62, _, i_Ft_open_63, rfl⟩
theorem b_Ft_open_67 : mj_Ch zG ("StreamWatch$FlowTable", "open", c_Ft_open, 4) 67 [x_aload 2] 68 := ⟨_, i_Ft_open_67, rfl⟩
theorem i_Ft_hear_0 : mj_Snd zG ("StreamWatch$FlowTable", "hear", c_Ft_hear, 2) 0 (x_aload 0) 1 := mj_aload_n (j := 0) rfl (by decide +kernel)
theorem i_Ft_hear_1 : mj_Snd zG ("StreamWatch$FlowTable", "hear", c_Ft_hear, 2) 1 (x_dup) 2 := mj_dup (by decide +kernel)
theorem i_Ft_hear_2 : mj_Snd zG ("StreamWatch$FlowTable", "hear", c_Ft_hear, 2) 2 (x_getf 2 1) 5 := mj_getf (T := T_Ft) rfl (by decide) u_Ft z1_158 (by decide +kernel)
theorem i_Ft_hear_5 : mj_Snd zG ("StreamWatch$FlowTable", "hear", c_Ft_hear, 2) 5 (x_const 1) 6 := mj_const (n := 1) (by decide) (by decide +kernel)
theorem i_Ft_hear_6 : mj_Snd zG ("StreamWatch$FlowTable", "hear", c_Ft_hear, 2) 6 (x_iadd) 7 := mj_iadd (by decide +kernel)
theorem i_Ft_hear_7 : mj_Snd zG ("StreamWatch$FlowTable", "hear", c_Ft_hear, 2) 7 (x_putf 2 1 0) 10 := mj_putG (T := T_Ft) (ty0 := t_Ft) rfl (by decide) u_Ft t_Ft_ok n_Ft z1_158 (Or.inl rfl) (by decide +kernel)
theorem i_Ft_hear_10 : mj_Snd zG ("StreamWatch$FlowTable", "hear", c_Ft_hear, 2) 10 (x_aload 1) 11 := mj_aload_n (j := 1) rfl (by decide +kernel)
theorem i_Ft_hear_11 : mj_Snd zG ("StreamWatch$FlowTable", "hear", c_Ft_hear, 2) 11 (x_aload 0) 12 := mj_aload_n (j := 0) rfl (by decide +kernel)
theorem i_Ft_hear_12 : mj_Snd zG ("StreamWatch$FlowTable", "hear", c_Ft_hear, 2) 12 (x_getf 2 1) 15 := mj_getf (T := T_Ft) rfl (by decide) u_Ft z1_158 (by decide +kernel)
theorem i_Ft_hear_15 : mj_Snd zG ("StreamWatch$FlowTable", "hear", c_Ft_hear, 2) 15 (x_putf 1 4 0) 18 := mj_putG (T := T_Fl) (ty0 := t_Fl) rfl (by decide) u_Fl t_Fl_ok n_Fl z1_136 (Or.inl rfl) (by decide +kernel)
theorem d_Ft_hear_18 : decode c_Ft_hear 18 = .ok (.return_, 1) := by decide +kernel
theorem b_Ft_hear_0 : mj_Ch zG ("StreamWatch$FlowTable", "hear", c_Ft_hear, 2) 0 [x_aload 0, x_dup, x_getf 2 1, x_const 1, x_iadd, x_putf 2 1 0, x_aload 1, x_aload 0, x_getf 2 1, x_putf 1 4 0] 18 := ⟨_, i_Ft_hear_0, _, i_Ft_hear_1, _, i_Ft_hear_2, _, i_Ft_hear_5, _, i_Ft_hear_6, _, i_Ft_hear_7, _, i_Ft_hear_10, _, i_Ft_hear_11, _, i_Ft_hear_12, _, i_Ft_hear_15, rfl⟩
theorem i_Ft_heardAfter_0 : mj_Snd zG ("StreamWatch$FlowTable", "heardAfter", c_Ft_heardAfter, 5) 0 (x_const 0) 1 := mj_const (n := 0) (by decide) (by decide +kernel)
theorem i_Ft_heardAfter_1 : mj_Snd zG ("StreamWatch$FlowTable", "heardAfter", c_Ft_heardAfter, 5) 1 (x_istore 2) 2 := mj_istore_n (j := 2) rfl (by decide) (by decide +kernel)
theorem i_Ft_heardAfter_2 : mj_Snd zG ("StreamWatch$FlowTable", "heardAfter", c_Ft_heardAfter, 5) 2 (x_const 0) 3 := mj_const (n := 0) (by decide) (by decide +kernel)
theorem i_Ft_heardAfter_3 : mj_Snd zG ("StreamWatch$FlowTable", "heardAfter", c_Ft_heardAfter, 5) 3 (x_istore 3) 4 := mj_istore_n (j := 3) rfl (by decide) (by decide +kernel)
theorem i_Ft_heardAfter_4 : mj_Snd zG ("StreamWatch$FlowTable", "heardAfter", c_Ft_heardAfter, 5) 4 (x_iload 3) 5 := mj_iload_n (j := 3) rfl (by decide +kernel)
theorem i_Ft_heardAfter_5 : mj_Snd zG ("StreamWatch$FlowTable", "heardAfter", c_Ft_heardAfter, 5) 5 (x_const 4) 6 := mj_const (n := 4) (by decide) (by decide +kernel)
theorem d_Ft_heardAfter_6 : decode c_Ft_heardAfter 6 = .ok (.if_icmp .ge 36, 3) := by decide +kernel
theorem i_Ft_heardAfter_9 : mj_Snd zG ("StreamWatch$FlowTable", "heardAfter", c_Ft_heardAfter, 5) 9 (x_aload 0) 10 := mj_aload_n (j := 0) rfl (by decide +kernel)
theorem i_Ft_heardAfter_10 : mj_Snd zG ("StreamWatch$FlowTable", "heardAfter", c_Ft_heardAfter, 5) 10 (x_iload 3) 11 := mj_iload_n (j := 3) rfl (by decide +kernel)
theorem d_Ft_heardAfter_11 : decode c_Ft_heardAfter 11 = .ok (.invokevirtual 26, 3) := by decide +kernel
theorem i_Ft_heardAfter_14 : mj_Snd zG ("StreamWatch$FlowTable", "heardAfter", c_Ft_heardAfter, 5) 14 (x_astore 4) 16 := mj_astore (by decide) (by decide +kernel)
theorem i_Ft_heardAfter_16 : mj_Snd zG ("StreamWatch$FlowTable", "heardAfter", c_Ft_heardAfter, 5) 16 (x_aload 4) 18 := mj_aload (by decide +kernel)
theorem d_Ft_heardAfter_18 : decode c_Ft_heardAfter 18 = .ok (.ifnull 18, 3) := by decide +kernel
theorem i_Ft_heardAfter_21 : mj_Snd zG ("StreamWatch$FlowTable", "heardAfter", c_Ft_heardAfter, 5) 21 (x_aload 4) 23 := mj_aload (by decide +kernel)
theorem i_Ft_heardAfter_23 : mj_Snd zG ("StreamWatch$FlowTable", "heardAfter", c_Ft_heardAfter, 5) 23 (x_getf 1 4) 26 := mj_getf (T := T_Fl) rfl (by decide) u_Fl z1_136 (by decide +kernel)
theorem i_Ft_heardAfter_26 : mj_Snd zG ("StreamWatch$FlowTable", "heardAfter", c_Ft_heardAfter, 5) 26 (x_aload 1) 27 := mj_aload_n (j := 1) rfl (by decide +kernel)
theorem i_Ft_heardAfter_27 : mj_Snd zG ("StreamWatch$FlowTable", "heardAfter", c_Ft_heardAfter, 5) 27 (x_getf 1 4) 30 := mj_getf (T := T_Fl) rfl (by decide) u_Fl z1_136 (by decide +kernel)
theorem d_Ft_heardAfter_30 : decode c_Ft_heardAfter 30 = .ok (.if_icmp .le 6, 3) := by decide +kernel
theorem i_Ft_heardAfter_33 : mj_Snd zG ("StreamWatch$FlowTable", "heardAfter", c_Ft_heardAfter, 5) 33 (x_iinc 2 1) 36 := mj_iinc (n := 1) (by decide) (by decide) (by decide +kernel)
theorem i_Ft_heardAfter_36 : mj_Snd zG ("StreamWatch$FlowTable", "heardAfter", c_Ft_heardAfter, 5) 36 (x_iinc 3 1) 39 := mj_iinc (n := 1) (by decide) (by decide) (by decide +kernel)
theorem i_Ft_heardAfter_39 : mj_Snd zG ("StreamWatch$FlowTable", "heardAfter", c_Ft_heardAfter, 5) 39 (x_skip) 4 := mj_goto (off := (-35)) (by decide) (by decide +kernel)
theorem i_Ft_heardAfter_42 : mj_Snd zG ("StreamWatch$FlowTable", "heardAfter", c_Ft_heardAfter, 5) 42 (x_iload 2) 43 := mj_iload_n (j := 2) rfl (by decide +kernel)
theorem d_Ft_heardAfter_43 : decode c_Ft_heardAfter 43 = .ok (.ireturn, 1) := by decide +kernel
theorem b_Ft_heardAfter_0 : mj_Ch zG ("StreamWatch$FlowTable", "heardAfter", c_Ft_heardAfter, 5) 0 [x_const 0, x_istore 2, x_const 0, x_istore 3] 4 := ⟨_, i_Ft_heardAfter_0, _, i_Ft_heardAfter_1, _, i_Ft_heardAfter_2, _, i_Ft_heardAfter_3, rfl⟩
theorem b_Ft_heardAfter_4 : mj_Ch zG ("StreamWatch$FlowTable", "heardAfter", c_Ft_heardAfter, 5) 4 [x_iload 3, x_const 4] 6 := ⟨_, i_Ft_heardAfter_4, _, i_Ft_heardAfter_5, rfl⟩
theorem b_Ft_heardAfter_9 : mj_Ch zG ("StreamWatch$FlowTable", "heardAfter", c_Ft_heardAfter, 5) 9 [x_aload 0, x_iload 3] 11 := ⟨_, i_Ft_heardAfter_9, _, i_Ft_heardAfter_10, rfl⟩
theorem b_Ft_heardAfter_14 : mj_Ch zG ("StreamWatch$FlowTable", "heardAfter", c_Ft_heardAfter, 5) 14 [x_astore 4, x_aload 4] 18 := ⟨_, i_Ft_heardAfter_14, _, i_Ft_heardAfter_16, rfl⟩
theorem b_Ft_heardAfter_21 : mj_Ch zG ("StreamWatch$FlowTable", "heardAfter", c_Ft_heardAfter, 5) 21 [x_aload 4, x_getf 1 4, x_aload 1, x_getf 1 4] 30 := ⟨_, i_Ft_heardAfter_21, _, i_Ft_heardAfter_23, _, i_Ft_heardAfter_26, _, i_Ft_heardAfter_27, rfl⟩
theorem b_Ft_heardAfter_33 : mj_Ch zG ("StreamWatch$FlowTable", "heardAfter", c_Ft_heardAfter, 5) 33 [x_iinc 2 1] 36 := ⟨_, i_Ft_heardAfter_33, rfl⟩
theorem b_Ft_heardAfter_36 : mj_Ch zG ("StreamWatch$FlowTable", "heardAfter", c_Ft_heardAfter, 5) 36 [x_iinc 3 1, x_skip] 4 := ⟨_, i_Ft_heardAfter_36, _, i_Ft_heardAfter_39, rfl⟩
theorem b_Ft_heardAfter_42 : mj_Ch zG ("StreamWatch$FlowTable", "heardAfter", c_Ft_heardAfter, 5) 42 [x_iload 2] 43 := ⟨_, i_Ft_heardAfter_42, rfl⟩

theorem i_Ru_init_0 : mj_Snd zG ("StreamWatch$Rule", "<init>", c_Ru_init, 3) 0 (x_aload 0) 1 := mj_aload_n (j := 0) rfl (by decide +kernel)
theorem d_Ru_init_1 : decode c_Ru_init 1 = .ok (.invokespecial 3, 3) := by decide +kernel
theorem i_Ru_init_4 : mj_Snd zG ("StreamWatch$Rule", "<init>", c_Ru_init, 3) 4 (x_aload 0) 5 := mj_aload_n (j := 0) rfl (by decide +kernel)
theorem i_Ru_init_5 : mj_Snd zG ("StreamWatch$Rule", "<init>", c_Ru_init, 3) 5 (x_const 3) 6 := mj_const (n := 3) (by decide) (by decide +kernel)
theorem d_Ru_init_6 : decode c_Ru_init 6 = .ok (.anewarray 9, 3) := by decide +kernel
theorem i_Ru_init_9 : mj_Snd zG ("StreamWatch$Rule", "<init>", c_Ru_init, 3) 9 (x_putf 6 2 3) 12 := mj_putG (T := T_Ru) (ty0 := t_Ru) rfl (by decide) u_Ru t_Ru_ok n_Ru z3_238 (Or.inr ⟨rfl, rfl, rfl⟩) (by decide +kernel)
theorem i_Ru_init_12 : mj_Snd zG ("StreamWatch$Rule", "<init>", c_Ru_init, 3) 12 (x_aload 0) 13 := mj_aload_n (j := 0) rfl (by decide +kernel)
theorem i_Ru_init_13 : mj_Snd zG ("StreamWatch$Rule", "<init>", c_Ru_init, 3) 13 (x_const 0) 14 := mj_const (n := 0) (by decide) (by decide +kernel)
theorem i_Ru_init_14 : mj_Snd zG ("StreamWatch$Rule", "<init>", c_Ru_init, 3) 14 (x_putf 6 3 0) 17 := mj_putG (T := T_Ru) (ty0 := t_Ru) rfl (by decide) u_Ru t_Ru_ok n_Ru z3_239 (Or.inl rfl) (by decide +kernel)
theorem i_Ru_init_17 : mj_Snd zG ("StreamWatch$Rule", "<init>", c_Ru_init, 3) 17 (x_aload 0) 18 := mj_aload_n (j := 0) rfl (by decide +kernel)
theorem i_Ru_init_18 : mj_Snd zG ("StreamWatch$Rule", "<init>", c_Ru_init, 3) 18 (x_iload 1) 19 := mj_iload_n (j := 1) rfl (by decide +kernel)
theorem i_Ru_init_19 : mj_Snd zG ("StreamWatch$Rule", "<init>", c_Ru_init, 3) 19 (x_putf 6 0 0) 22 := mj_putG (T := T_Ru) (ty0 := t_Ru) rfl (by decide) u_Ru t_Ru_ok n_Ru z3_236 (Or.inr ⟨rfl, rfl, rfl⟩) (by decide +kernel)
theorem i_Ru_init_22 : mj_Snd zG ("StreamWatch$Rule", "<init>", c_Ru_init, 3) 22 (x_aload 0) 23 := mj_aload_n (j := 0) rfl (by decide +kernel)
theorem i_Ru_init_23 : mj_Snd zG ("StreamWatch$Rule", "<init>", c_Ru_init, 3) 23 (x_iload 2) 24 := mj_iload_n (j := 2) rfl (by decide +kernel)
theorem i_Ru_init_24 : mj_Snd zG ("StreamWatch$Rule", "<init>", c_Ru_init, 3) 24 (x_putf 6 1 0) 27 := mj_putG (T := T_Ru) (ty0 := t_Ru) rfl (by decide) u_Ru t_Ru_ok n_Ru z3_237 (Or.inr ⟨rfl, rfl, rfl⟩) (by decide +kernel)
theorem d_Ru_init_27 : decode c_Ru_init 27 = .ok (.return_, 1) := by decide +kernel
theorem b_Ru_init_0 : mj_Ch zG ("StreamWatch$Rule", "<init>", c_Ru_init, 3) 0 [x_aload 0] 1 := ⟨_, i_Ru_init_0, rfl⟩
theorem b_Ru_init_4 : mj_Ch zG ("StreamWatch$Rule", "<init>", c_Ru_init, 3) 4 [x_aload 0, x_const 3] 6 := ⟨_, i_Ru_init_4, _, i_Ru_init_5, rfl⟩
theorem b_Ru_init_9 : mj_Ch zG ("StreamWatch$Rule", "<init>", c_Ru_init, 3) 9 [x_putf 6 2 3, x_aload 0, x_const 0, x_putf 6 3 0, x_aload 0, x_iload 1, x_putf 6 0 0, x_aload 0, x_iload 2, x_putf 6 1 0] 27 := ⟨_, i_Ru_init_9, _, i_Ru_init_12, _, i_Ru_init_13, _, i_Ru_init_14, _, i_Ru_init_17, _, i_Ru_init_18, _, i_Ru_init_19, _, i_Ru_init_22, _, i_Ru_init_23, _, i_Ru_init_24, rfl⟩
theorem i_Ru_size_0 : mj_Snd zG ("StreamWatch$Rule", "size", c_Ru_size, 1) 0 (x_aload 0) 1 := mj_aload_n (j := 0) rfl (by decide +kernel)
theorem i_Ru_size_1 : mj_Snd zG ("StreamWatch$Rule", "size", c_Ru_size, 1) 1 (x_getf 6 3) 4 := mj_getf (T := T_Ru) rfl (by decide) u_Ru z3_239 (by decide +kernel)
theorem d_Ru_size_4 : decode c_Ru_size 4 = .ok (.ireturn, 1) := by decide +kernel
theorem b_Ru_size_0 : mj_Ch zG ("StreamWatch$Rule", "size", c_Ru_size, 1) 0 [x_aload 0, x_getf 6 3] 4 := ⟨_, i_Ru_size_0, _, i_Ru_size_1, rfl⟩
theorem i_Ru_add_0 : mj_Snd zG ("StreamWatch$Rule", "add", c_Ru_add, 2) 0 (x_aload 0) 1 := mj_aload_n (j := 0) rfl (by decide +kernel)
theorem i_Ru_add_1 : mj_Snd zG ("StreamWatch$Rule", "add", c_Ru_add, 2) 1 (x_getf 6 3) 4 := mj_getf (T := T_Ru) rfl (by decide) u_Ru z3_239 (by decide +kernel)
theorem i_Ru_add_4 : mj_Snd zG ("StreamWatch$Rule", "add", c_Ru_add, 2) 4 (x_const 3) 5 := mj_const (n := 3) (by decide) (by decide +kernel)
theorem d_Ru_add_5 : decode c_Ru_add 5 = .ok (.if_icmp .ge 23, 3) := by decide +kernel
theorem i_Ru_add_8 : mj_Snd zG ("StreamWatch$Rule", "add", c_Ru_add, 2) 8 (x_aload 0) 9 := mj_aload_n (j := 0) rfl (by decide +kernel)
theorem i_Ru_add_9 : mj_Snd zG ("StreamWatch$Rule", "add", c_Ru_add, 2) 9 (x_getf 6 2) 12 := mj_getf (T := T_Ru) rfl (by decide) u_Ru z3_238 (by decide +kernel)
theorem i_Ru_add_12 : mj_Snd zG ("StreamWatch$Rule", "add", c_Ru_add, 2) 12 (x_aload 0) 13 := mj_aload_n (j := 0) rfl (by decide +kernel)
theorem i_Ru_add_13 : mj_Snd zG ("StreamWatch$Rule", "add", c_Ru_add, 2) 13 (x_getf 6 3) 16 := mj_getf (T := T_Ru) rfl (by decide) u_Ru z3_239 (by decide +kernel)
theorem i_Ru_add_16 : mj_Snd zG ("StreamWatch$Rule", "add", c_Ru_add, 2) 16 (x_aload 1) 17 := mj_aload_n (j := 1) rfl (by decide +kernel)
theorem d_Ru_add_17 : decode c_Ru_add 17 = .ok (.aastore, 1) := by decide +kernel
theorem i_Ru_add_18 : mj_Snd zG ("StreamWatch$Rule", "add", c_Ru_add, 2) 18 (x_aload 0) 19 := mj_aload_n (j := 0) rfl (by decide +kernel)
theorem i_Ru_add_19 : mj_Snd zG ("StreamWatch$Rule", "add", c_Ru_add, 2) 19 (x_dup) 20 := mj_dup (by decide +kernel)
theorem i_Ru_add_20 : mj_Snd zG ("StreamWatch$Rule", "add", c_Ru_add, 2) 20 (x_getf 6 3) 23 := mj_getf (T := T_Ru) rfl (by decide) u_Ru z3_239 (by decide +kernel)
theorem i_Ru_add_23 : mj_Snd zG ("StreamWatch$Rule", "add", c_Ru_add, 2) 23 (x_const 1) 24 := mj_const (n := 1) (by decide) (by decide +kernel)
theorem i_Ru_add_24 : mj_Snd zG ("StreamWatch$Rule", "add", c_Ru_add, 2) 24 (x_iadd) 25 := mj_iadd (by decide +kernel)
theorem i_Ru_add_25 : mj_Snd zG ("StreamWatch$Rule", "add", c_Ru_add, 2) 25 (x_putf 6 3 0) 28 := mj_putG (T := T_Ru) (ty0 := t_Ru) rfl (by decide) u_Ru t_Ru_ok n_Ru z3_239 (Or.inl rfl) (by decide +kernel)
theorem d_Ru_add_28 : decode c_Ru_add 28 = .ok (.return_, 1) := by decide +kernel
theorem b_Ru_add_0 : mj_Ch zG ("StreamWatch$Rule", "add", c_Ru_add, 2) 0 [x_aload 0, x_getf 6 3, x_const 3] 5 := ⟨_, i_Ru_add_0, _, i_Ru_add_1, _, i_Ru_add_4, rfl⟩
theorem b_Ru_add_8 : mj_Ch zG ("StreamWatch$Rule", "add", c_Ru_add, 2) 8 [x_aload 0, x_getf 6 2, x_aload 0, x_getf 6 3, x_aload 1] 17 := ⟨_, i_Ru_add_8, _, i_Ru_add_9, _, i_Ru_add_12, _, i_Ru_add_13, _, i_Ru_add_16, rfl⟩
theorem b_Ru_add_18 : mj_Ch zG ("StreamWatch$Rule", "add", c_Ru_add, 2) 18 [x_aload 0, x_dup, x_getf 6 3, x_const 1, x_iadd, x_putf 6 3 0] 28 := ⟨_, i_Ru_add_18, _, i_Ru_add_19, _, i_Ru_add_20, _, i_Ru_add_23, _, i_Ru_add_24, _, i_Ru_add_25, rfl⟩
theorem i_Ru_at_0 : mj_Snd zG ("StreamWatch$Rule", "at", c_Ru_at, 2) 0 (x_iload 1) 1 := mj_iload_n (j := 1) rfl (by decide +kernel)
theorem d_Ru_at_1 : decode c_Ru_at 1 = .ok (.ifCond .lt 20, 3) := by decide +kernel
theorem i_Ru_at_4 : mj_Snd zG ("StreamWatch$Rule", "at", c_Ru_at, 2) 4 (x_iload 1) 5 := mj_iload_n (j := 1) rfl (by decide +kernel)
theorem i_Ru_at_5 : mj_Snd zG ("StreamWatch$Rule", "at", c_Ru_at, 2) 5 (x_aload 0) 6 := mj_aload_n (j := 0) rfl (by decide +kernel)
theorem i_Ru_at_6 : mj_Snd zG ("StreamWatch$Rule", "at", c_Ru_at, 2) 6 (x_getf 6 3) 9 := mj_getf (T := T_Ru) rfl (by decide) u_Ru z3_239 (by decide +kernel)
theorem d_Ru_at_9 : decode c_Ru_at 9 = .ok (.if_icmp .ge 12, 3) := by decide +kernel
theorem i_Ru_at_12 : mj_Snd zG ("StreamWatch$Rule", "at", c_Ru_at, 2) 12 (x_aload 0) 13 := mj_aload_n (j := 0) rfl (by decide +kernel)
theorem i_Ru_at_13 : mj_Snd zG ("StreamWatch$Rule", "at", c_Ru_at, 2) 13 (x_getf 6 2) 16 := mj_getf (T := T_Ru) rfl (by decide) u_Ru z3_238 (by decide +kernel)
theorem i_Ru_at_16 : mj_Snd zG ("StreamWatch$Rule", "at", c_Ru_at, 2) 16 (x_iload 1) 17 := mj_iload_n (j := 1) rfl (by decide +kernel)
theorem i_Ru_at_17 : mj_Snd zG ("StreamWatch$Rule", "at", c_Ru_at, 2) 17 (x_aald 5) 18 := mj_aald rfl (by decide +kernel)
theorem i_Ru_at_18 : mj_Snd zG ("StreamWatch$Rule", "at", c_Ru_at, 2) 18 (x_skip) 22 := mj_goto (off := 4) (by decide) (by decide +kernel)
theorem i_Ru_at_21 : mj_Snd zG ("StreamWatch$Rule", "at", c_Ru_at, 2) 21 (x_null) 22 := mj_null (by decide +kernel)
theorem d_Ru_at_22 : decode c_Ru_at 22 = .ok (.areturn, 1) := by decide +kernel
theorem b_Ru_at_0 : mj_Ch zG ("StreamWatch$Rule", "at", c_Ru_at, 2) 0 [x_iload 1] 1 := ⟨_, i_Ru_at_0, rfl⟩
theorem b_Ru_at_4 : mj_Ch zG ("StreamWatch$Rule", "at", c_Ru_at, 2) 4 [x_iload 1, x_aload 0, x_getf 6 3] 9 := ⟨_, i_Ru_at_4, _, i_Ru_at_5, _, i_Ru_at_6, rfl⟩
theorem b_Ru_at_12 : mj_Ch zG ("StreamWatch$Rule", "at", c_Ru_at, 2) 12 [x_aload 0, x_getf 6 2, x_iload 1, x_aald 5, x_skip] 22 := ⟨_, i_Ru_at_12, _, i_Ru_at_13, _, i_Ru_at_16, _, i_Ru_at_17, _, i_Ru_at_18, rfl⟩
theorem b_Ru_at_21 : mj_Ch zG ("StreamWatch$Rule", "at", c_Ru_at, 2) 21 [x_null] 22 := ⟨_, i_Ru_at_21, rfl⟩
theorem i_Ru_isFor_0 : mj_Snd zG ("StreamWatch$Rule", "isFor", c_Ru_isFor, 4) 0 (x_aload 0) 1 := mj_aload_n (j := 0) rfl (by decide +kernel)
theorem i_Ru_isFor_1 : mj_Snd zG ("StreamWatch$Rule", "isFor", c_Ru_isFor, 4) 1 (x_getf 6 0) 4 := mj_getf (T := T_Ru) rfl (by decide) u_Ru z3_236 (by decide +kernel)
theorem i_Ru_isFor_4 : mj_Snd zG ("StreamWatch$Rule", "isFor", c_Ru_isFor, 4) 4 (x_const 2) 5 := mj_const (n := 2) (by decide) (by decide +kernel)
theorem d_Ru_isFor_5 : decode c_Ru_isFor 5 = .ok (.if_icmp .eq 11, 3) := by decide +kernel
theorem i_Ru_isFor_8 : mj_Snd zG ("StreamWatch$Rule", "isFor", c_Ru_isFor, 4) 8 (x_aload 0) 9 := mj_aload_n (j := 0) rfl (by decide +kernel)
theorem i_Ru_isFor_9 : mj_Snd zG ("StreamWatch$Rule", "isFor", c_Ru_isFor, 4) 9 (x_getf 6 0) 12 := mj_getf (T := T_Ru) rfl (by decide) u_Ru z3_236 (by decide +kernel)
theorem i_Ru_isFor_12 : mj_Snd zG ("StreamWatch$Rule", "isFor", c_Ru_isFor, 4) 12 (x_iload 1) 13 := mj_iload_n (j := 1) rfl (by decide +kernel)
theorem d_Ru_isFor_13 : decode c_Ru_isFor 13 = .ok (.if_icmp .ne 7, 3) := by decide +kernel
theorem i_Ru_isFor_16 : mj_Snd zG ("StreamWatch$Rule", "isFor", c_Ru_isFor, 4) 16 (x_const 1) 17 := mj_const (n := 1) (by decide) (by decide +kernel)
theorem i_Ru_isFor_17 : mj_Snd zG ("StreamWatch$Rule", "isFor", c_Ru_isFor, 4) 17 (x_skip) 21 := mj_goto (off := 4) (by decide) (by decide +kernel)
theorem i_Ru_isFor_20 : mj_Snd zG ("StreamWatch$Rule", "isFor", c_Ru_isFor, 4) 20 (x_const 0) 21 := mj_const (n := 0) (by decide) (by decide +kernel)
theorem i_Ru_isFor_21 : mj_Snd zG ("StreamWatch$Rule", "isFor", c_Ru_isFor, 4) 21 (x_istore 3) 22 := mj_istore_n (j := 3) rfl (by decide) (by decide +kernel)
theorem i_Ru_isFor_22 : mj_Snd zG ("StreamWatch$Rule", "isFor", c_Ru_isFor, 4) 22 (x_iload 3) 23 := mj_iload_n (j := 3) rfl (by decide +kernel)
theorem d_Ru_isFor_23 : decode c_Ru_isFor 23 = .ok (.ifCond .eq 22, 3) := by decide +kernel
theorem i_Ru_isFor_26 : mj_Snd zG ("StreamWatch$Rule", "isFor", c_Ru_isFor, 4) 26 (x_aload 0) 27 := mj_aload_n (j := 0) rfl (by decide +kernel)
theorem i_Ru_isFor_27 : mj_Snd zG ("StreamWatch$Rule", "isFor", c_Ru_isFor, 4) 27 (x_getf 6 1) 30 := mj_getf (T := T_Ru) rfl (by decide) u_Ru z3_237 (by decide +kernel)
theorem d_Ru_isFor_30 : decode c_Ru_isFor 30 = .ok (.ifCond .eq 11, 3) := by decide +kernel
theorem i_Ru_isFor_33 : mj_Snd zG ("StreamWatch$Rule", "isFor", c_Ru_isFor, 4) 33 (x_aload 0) 34 := mj_aload_n (j := 0) rfl (by decide +kernel)
theorem i_Ru_isFor_34 : mj_Snd zG ("StreamWatch$Rule", "isFor", c_Ru_isFor, 4) 34 (x_getf 6 1) 37 := mj_getf (T := T_Ru) rfl (by decide) u_Ru z3_237 (by decide +kernel)
theorem i_Ru_isFor_37 : mj_Snd zG ("StreamWatch$Rule", "isFor", c_Ru_isFor, 4) 37 (x_iload 2) 38 := mj_iload_n (j := 2) rfl (by decide +kernel)
theorem d_Ru_isFor_38 : decode c_Ru_isFor 38 = .ok (.if_icmp .ne 7, 3) := by decide +kernel
theorem i_Ru_isFor_41 : mj_Snd zG ("StreamWatch$Rule", "isFor", c_Ru_isFor, 4) 41 (x_const 1) 42 := mj_const (n := 1) (by decide) (by decide +kernel)
theorem i_Ru_isFor_42 : mj_Snd zG ("StreamWatch$Rule", "isFor", c_Ru_isFor, 4) 42 (x_skip) 46 := mj_goto (off := 4) (by decide) (by decide +kernel)
theorem i_Ru_isFor_45 : mj_Snd zG ("StreamWatch$Rule", "isFor", c_Ru_isFor, 4) 45 (x_const 0) 46 := mj_const (n := 0) (by decide) (by decide +kernel)
theorem d_Ru_isFor_46 : decode c_Ru_isFor 46 = .ok (.ireturn, 1) := by decide +kernel
theorem b_Ru_isFor_0 : mj_Ch zG ("StreamWatch$Rule", "isFor", c_Ru_isFor, 4) 0 [x_aload 0, x_getf 6 0, x_const 2] 5 := ⟨_, i_Ru_isFor_0, _, i_Ru_isFor_1, _, i_Ru_isFor_4, rfl⟩
theorem b_Ru_isFor_8 : mj_Ch zG ("StreamWatch$Rule", "isFor", c_Ru_isFor, 4) 8 [x_aload 0, x_getf 6 0, x_iload 1] 13 := ⟨_, i_Ru_isFor_8, _, i_Ru_isFor_9, _, i_Ru_isFor_12, rfl⟩
theorem b_Ru_isFor_16 : mj_Ch zG ("StreamWatch$Rule", "isFor", c_Ru_isFor, 4) 16 [x_const 1, x_skip] 21 := ⟨_, i_Ru_isFor_16, _, i_Ru_isFor_17, rfl⟩
theorem b_Ru_isFor_20 : mj_Ch zG ("StreamWatch$Rule", "isFor", c_Ru_isFor, 4) 20 [x_const 0] 21 := ⟨_, i_Ru_isFor_20, rfl⟩
theorem b_Ru_isFor_21 : mj_Ch zG ("StreamWatch$Rule", "isFor", c_Ru_isFor, 4) 21 [x_istore 3, x_iload 3] 23 := ⟨_, i_Ru_isFor_21, _, i_Ru_isFor_22, rfl⟩
theorem b_Ru_isFor_26 : mj_Ch zG ("StreamWatch$Rule", "isFor", c_Ru_isFor, 4) 26 [x_aload 0, x_getf 6 1] 30 := ⟨_, i_Ru_isFor_26, _, i_Ru_isFor_27, rfl⟩
theorem b_Ru_isFor_33 : mj_Ch zG ("StreamWatch$Rule", "isFor", c_Ru_isFor, 4) 33 [x_aload 0, x_getf 6 1, x_iload 2] 38 := ⟨_, i_Ru_isFor_33, _, i_Ru_isFor_34, _, i_Ru_isFor_37, rfl⟩
theorem b_Ru_isFor_41 : mj_Ch zG ("StreamWatch$Rule", "isFor", c_Ru_isFor, 4) 41 [x_const 1, x_skip] 46 := ⟨_, i_Ru_isFor_41, _, i_Ru_isFor_42, rfl⟩
theorem b_Ru_isFor_45 : mj_Ch zG ("StreamWatch$Rule", "isFor", c_Ru_isFor, 4) 45 [x_const 0] 46 := ⟨_, i_Ru_isFor_45, rfl⟩

theorem i_Wi_init_0 : mj_Snd zG ("StreamWatch$Wire", "<init>", c_Wi_init, 1) 0 (x_aload 0) 1 := mj_aload_n (j := 0) rfl (by decide +kernel)
theorem d_Wi_init_1 : decode c_Wi_init 1 = .ok (.invokespecial 1, 3) := by decide +kernel
theorem i_Wi_init_4 : mj_Snd zG ("StreamWatch$Wire", "<init>", c_Wi_init, 1) 4 (x_aload 0) 5 := mj_aload_n (j := 0) rfl (by decide +kernel)
theorem i_Wi_init_5 : mj_Snd zG ("StreamWatch$Wire", "<init>", c_Wi_init, 1) 5 (x_const 100) 7 := mj_bipush (n := 100) (by decide) (by decide +kernel)
theorem d_Wi_init_7 : decode c_Wi_init 7 = .ok (.newarray .int, 2) := by decide +kernel
theorem i_Wi_init_9 : mj_Snd zG ("StreamWatch$Wire", "<init>", c_Wi_init, 1) 9 (x_putf 9 0 3) 12 := mj_putG (T := T_Wi) (ty0 := t_Wi) rfl (by decide) u_Wi t_Wi_ok n_Wi z1_33 (Or.inr ⟨rfl, rfl, rfl⟩) (by decide +kernel)
theorem i_Wi_init_12 : mj_Snd zG ("StreamWatch$Wire", "<init>", c_Wi_init, 1) 12 (x_aload 0) 13 := mj_aload_n (j := 0) rfl (by decide +kernel)
theorem i_Wi_init_13 : mj_Snd zG ("StreamWatch$Wire", "<init>", c_Wi_init, 1) 13 (x_const 0) 14 := mj_const (n := 0) (by decide) (by decide +kernel)
theorem i_Wi_init_14 : mj_Snd zG ("StreamWatch$Wire", "<init>", c_Wi_init, 1) 14 (x_putf 9 1 0) 17 := mj_putG (T := T_Wi) (ty0 := t_Wi) rfl (by decide) u_Wi t_Wi_ok n_Wi z1_34 (Or.inl rfl) (by decide +kernel)
theorem d_Wi_init_17 : decode c_Wi_init 17 = .ok (.return_, 1) := by decide +kernel
theorem b_Wi_init_0 : mj_Ch zG ("StreamWatch$Wire", "<init>", c_Wi_init, 1) 0 [x_aload 0] 1 := ⟨_, i_Wi_init_0, rfl⟩
theorem b_Wi_init_4 : mj_Ch zG ("StreamWatch$Wire", "<init>", c_Wi_init, 1) 4 [x_aload 0, x_const 100] 7 := ⟨_, i_Wi_init_4, _, i_Wi_init_5, rfl⟩
theorem b_Wi_init_9 : mj_Ch zG ("StreamWatch$Wire", "<init>", c_Wi_init, 1) 9 [x_putf 9 0 3, x_aload 0, x_const 0, x_putf 9 1 0] 17 := ⟨_, i_Wi_init_9, _, i_Wi_init_12, _, i_Wi_init_13, _, i_Wi_init_14, rfl⟩
theorem i_Wi_size_0 : mj_Snd zG ("StreamWatch$Wire", "size", c_Wi_size, 1) 0 (x_aload 0) 1 := mj_aload_n (j := 0) rfl (by decide +kernel)
theorem i_Wi_size_1 : mj_Snd zG ("StreamWatch$Wire", "size", c_Wi_size, 1) 1 (x_getf 9 1) 4 := mj_getf (T := T_Wi) rfl (by decide) u_Wi z1_34 (by decide +kernel)
theorem d_Wi_size_4 : decode c_Wi_size 4 = .ok (.ireturn, 1) := by decide +kernel
theorem b_Wi_size_0 : mj_Ch zG ("StreamWatch$Wire", "size", c_Wi_size, 1) 0 [x_aload 0, x_getf 9 1] 4 := ⟨_, i_Wi_size_0, _, i_Wi_size_1, rfl⟩
theorem i_Wi_has_0 : mj_Snd zG ("StreamWatch$Wire", "has", c_Wi_has, 2) 0 (x_iload 1) 1 := mj_iload_n (j := 1) rfl (by decide +kernel)
theorem d_Wi_has_1 : decode c_Wi_has 1 = .ok (.ifCond .lt 15, 3) := by decide +kernel
theorem i_Wi_has_4 : mj_Snd zG ("StreamWatch$Wire", "has", c_Wi_has, 2) 4 (x_iload 1) 5 := mj_iload_n (j := 1) rfl (by decide +kernel)
theorem i_Wi_has_5 : mj_Snd zG ("StreamWatch$Wire", "has", c_Wi_has, 2) 5 (x_aload 0) 6 := mj_aload_n (j := 0) rfl (by decide +kernel)
theorem i_Wi_has_6 : mj_Snd zG ("StreamWatch$Wire", "has", c_Wi_has, 2) 6 (x_getf 9 1) 9 := mj_getf (T := T_Wi) rfl (by decide) u_Wi z1_34 (by decide +kernel)
theorem d_Wi_has_9 : decode c_Wi_has 9 = .ok (.if_icmp .ge 7, 3) := by decide +kernel
theorem i_Wi_has_12 : mj_Snd zG ("StreamWatch$Wire", "has", c_Wi_has, 2) 12 (x_const 1) 13 := mj_const (n := 1) (by decide) (by decide +kernel)
theorem i_Wi_has_13 : mj_Snd zG ("StreamWatch$Wire", "has", c_Wi_has, 2) 13 (x_skip) 17 := mj_goto (off := 4) (by decide) (by decide +kernel)
theorem i_Wi_has_16 : mj_Snd zG ("StreamWatch$Wire", "has", c_Wi_has, 2) 16 (x_const 0) 17 := mj_const (n := 0) (by decide) (by decide +kernel)
theorem d_Wi_has_17 : decode c_Wi_has 17 = .ok (.ireturn, 1) := by decide +kernel
theorem b_Wi_has_0 : mj_Ch zG ("StreamWatch$Wire", "has", c_Wi_has, 2) 0 [x_iload 1] 1 := ⟨_, i_Wi_has_0, rfl⟩
theorem b_Wi_has_4 : mj_Ch zG ("StreamWatch$Wire", "has", c_Wi_has, 2) 4 [x_iload 1, x_aload 0, x_getf 9 1] 9 := ⟨_, i_Wi_has_4, _, i_Wi_has_5, _, i_Wi_has_6, rfl⟩
theorem b_Wi_has_12 : mj_Ch zG ("StreamWatch$Wire", "has", c_Wi_has, 2) 12 [x_const 1, x_skip] 17 := ⟨_, i_Wi_has_12, _, i_Wi_has_13, rfl⟩
theorem b_Wi_has_16 : mj_Ch zG ("StreamWatch$Wire", "has", c_Wi_has, 2) 16 [x_const 0] 17 := ⟨_, i_Wi_has_16, rfl⟩
theorem i_Wi_at_0 : mj_Snd zG ("StreamWatch$Wire", "at", c_Wi_at, 2) 0 (x_aload 0) 1 := mj_aload_n (j := 0) rfl (by decide +kernel)
theorem i_Wi_at_1 : mj_Snd zG ("StreamWatch$Wire", "at", c_Wi_at, 2) 1 (x_iload 1) 2 := mj_iload_n (j := 1) rfl (by decide +kernel)
theorem d_Wi_at_2 : decode c_Wi_at 2 = .ok (.invokevirtual 17, 3) := by decide +kernel
theorem d_Wi_at_5 : decode c_Wi_at 5 = .ok (.ifCond .eq 12, 3) := by decide +kernel
theorem i_Wi_at_8 : mj_Snd zG ("StreamWatch$Wire", "at", c_Wi_at, 2) 8 (x_aload 0) 9 := mj_aload_n (j := 0) rfl (by decide +kernel)
theorem i_Wi_at_9 : mj_Snd zG ("StreamWatch$Wire", "at", c_Wi_at, 2) 9 (x_getf 9 0) 12 := mj_getf (T := T_Wi) rfl (by decide) u_Wi z1_33 (by decide +kernel)
theorem i_Wi_at_12 : mj_Snd zG ("StreamWatch$Wire", "at", c_Wi_at, 2) 12 (x_iload 1) 13 := mj_iload_n (j := 1) rfl (by decide +kernel)
theorem i_Wi_at_13 : mj_Snd zG ("StreamWatch$Wire", "at", c_Wi_at, 2) 13 (x_iald 0) 14 := mj_iald rfl (by decide +kernel)
theorem i_Wi_at_14 : mj_Snd zG ("StreamWatch$Wire", "at", c_Wi_at, 2) 14 (x_skip) 18 := mj_goto (off := 4) (by decide) (by decide +kernel)
theorem i_Wi_at_17 : mj_Snd zG ("StreamWatch$Wire", "at", c_Wi_at, 2) 17 (x_const 0) 18 := mj_const (n := 0) (by decide) (by decide +kernel)
theorem d_Wi_at_18 : decode c_Wi_at 18 = .ok (.ireturn, 1) := by decide +kernel
theorem b_Wi_at_0 : mj_Ch zG ("StreamWatch$Wire", "at", c_Wi_at, 2) 0 [x_aload 0, x_iload 1] 2 := ⟨_, i_Wi_at_0, _, i_Wi_at_1, rfl⟩
theorem b_Wi_at_8 : mj_Ch zG ("StreamWatch$Wire", "at", c_Wi_at, 2) 8 [x_aload 0, x_getf 9 0, x_iload 1, x_iald 0, x_skip] 18 := ⟨_, i_Wi_at_8, _, i_Wi_at_9, _, i_Wi_at_12, _, i_Wi_at_13, _, i_Wi_at_14, rfl⟩
theorem b_Wi_at_17 : mj_Ch zG ("StreamWatch$Wire", "at", c_Wi_at, 2) 17 [x_const 0] 18 := ⟨_, i_Wi_at_17, rfl⟩
theorem i_Wi_clear_0 : mj_Snd zG ("StreamWatch$Wire", "clear", c_Wi_clear, 1) 0 (x_aload 0) 1 := mj_aload_n (j := 0) rfl (by decide +kernel)
theorem i_Wi_clear_1 : mj_Snd zG ("StreamWatch$Wire", "clear", c_Wi_clear, 1) 1 (x_const 0) 2 := mj_const (n := 0) (by decide) (by decide +kernel)
theorem i_Wi_clear_2 : mj_Snd zG ("StreamWatch$Wire", "clear", c_Wi_clear, 1) 2 (x_putf 9 1 0) 5 := mj_putG (T := T_Wi) (ty0 := t_Wi) rfl (by decide) u_Wi t_Wi_ok n_Wi z1_34 (Or.inl rfl) (by decide +kernel)
theorem d_Wi_clear_5 : decode c_Wi_clear 5 = .ok (.return_, 1) := by decide +kernel
theorem b_Wi_clear_0 : mj_Ch zG ("StreamWatch$Wire", "clear", c_Wi_clear, 1) 0 [x_aload 0, x_const 0, x_putf 9 1 0] 5 := ⟨_, i_Wi_clear_0, _, i_Wi_clear_1, _, i_Wi_clear_2, rfl⟩
theorem i_Wi_flip_0 : mj_Snd zG ("StreamWatch$Wire", "flip", c_Wi_flip, 3) 0 (x_aload 0) 1 := mj_aload_n (j := 0) rfl (by decide +kernel)
theorem i_Wi_flip_1 : mj_Snd zG ("StreamWatch$Wire", "flip", c_Wi_flip, 3) 1 (x_iload 1) 2 := mj_iload_n (j := 1) rfl (by decide +kernel)
theorem d_Wi_flip_2 : decode c_Wi_flip 2 = .ok (.invokevirtual 17, 3) := by decide +kernel
theorem d_Wi_flip_5 : decode c_Wi_flip 5 = .ok (.ifCond .ne 5, 3) := by decide +kernel
theorem i_Wi_flip_8 : mj_Snd zG ("StreamWatch$Wire", "flip", c_Wi_flip, 3) 8 (x_const 0) 9 := mj_const (n := 0) (by decide) (by decide +kernel)
theorem d_Wi_flip_9 : decode c_Wi_flip 9 = .ok (.ireturn, 1) := by decide +kernel
theorem i_Wi_flip_10 : mj_Snd zG ("StreamWatch$Wire", "flip", c_Wi_flip, 3) 10 (x_aload 0) 11 := mj_aload_n (j := 0) rfl (by decide +kernel)
theorem i_Wi_flip_11 : mj_Snd zG ("StreamWatch$Wire", "flip", c_Wi_flip, 3) 11 (x_getf 9 0) 14 := mj_getf (T := T_Wi) rfl (by decide) u_Wi z1_33 (by decide +kernel)
theorem i_Wi_flip_14 : mj_Snd zG ("StreamWatch$Wire", "flip", c_Wi_flip, 3) 14 (x_iload 1) 15 := mj_iload_n (j := 1) rfl (by decide +kernel)
theorem i_Wi_flip_15 : mj_Snd zG ("StreamWatch$Wire", "flip", c_Wi_flip, 3) 15 (x_dup2) 16 := mj_dup2 (by decide +kernel)
theorem i_Wi_flip_16 : mj_Snd zG ("StreamWatch$Wire", "flip", c_Wi_flip, 3) 16 (x_iald 0) 17 := mj_iald rfl (by decide +kernel)
theorem i_Wi_flip_17 : mj_Snd zG ("StreamWatch$Wire", "flip", c_Wi_flip, 3) 17 (x_iload 2) 18 := mj_iload_n (j := 2) rfl (by decide +kernel)
theorem i_Wi_flip_18 : mj_Snd zG ("StreamWatch$Wire", "flip", c_Wi_flip, 3) 18 (x_const 255) 21 := mj_sipush (n := 255) (by decide) (by decide +kernel)
theorem i_Wi_flip_21 : mj_Snd zG ("StreamWatch$Wire", "flip", c_Wi_flip, 3) 21 (x_iand) 22 := mj_iand (by decide +kernel)
theorem i_Wi_flip_22 : mj_Snd zG ("StreamWatch$Wire", "flip", c_Wi_flip, 3) 22 (x_ixor) 23 := mj_ixor (by decide +kernel)
theorem i_Wi_flip_23 : mj_Snd zG ("StreamWatch$Wire", "flip", c_Wi_flip, 3) 23 (x_iast 0) 24 := mj_iast rfl (by decide +kernel)
theorem i_Wi_flip_24 : mj_Snd zG ("StreamWatch$Wire", "flip", c_Wi_flip, 3) 24 (x_const 1) 25 := mj_const (n := 1) (by decide) (by decide +kernel)
theorem d_Wi_flip_25 : decode c_Wi_flip 25 = .ok (.ireturn, 1) := by decide +kernel
theorem b_Wi_flip_0 : mj_Ch zG ("StreamWatch$Wire", "flip", c_Wi_flip, 3) 0 [x_aload 0, x_iload 1] 2 := ⟨_, i_Wi_flip_0, _, i_Wi_flip_1, rfl⟩
theorem b_Wi_flip_8 : mj_Ch zG ("StreamWatch$Wire", "flip", c_Wi_flip, 3) 8 [x_const 0] 9 := ⟨_, i_Wi_flip_8, rfl⟩
theorem b_Wi_flip_10 : mj_Ch zG ("StreamWatch$Wire", "flip", c_Wi_flip, 3) 10 [x_aload 0, x_getf 9 0, x_iload 1, x_dup2, x_iald 0, x_iload 2, x_const 255, x_iand, x_ixor, x_iast 0, x_const 1] 25 := ⟨_, i_Wi_flip_10, _, i_Wi_flip_11, _, i_Wi_flip_14, _, i_Wi_flip_15, _, i_Wi_flip_16, _, i_Wi_flip_17, _, i_Wi_flip_18, _, i_Wi_flip_21, _, i_Wi_flip_22, _, i_Wi_flip_23, _, i_Wi_flip_24, rfl⟩
theorem i_Wi_append_0 : mj_Snd zG ("StreamWatch$Wire", "append", c_Wi_append, 5) 0 (x_iload 1) 1 := mj_iload_n (j := 1) rfl (by decide +kernel)
theorem i_Wi_append_1 : mj_Snd zG ("StreamWatch$Wire", "append", c_Wi_append, 5) 1 (x_const 100) 3 := mj_bipush (n := 100) (by decide) (by decide +kernel)
theorem i_Wi_append_3 : mj_Snd zG ("StreamWatch$Wire", "append", c_Wi_append, 5) 3 (x_aload 0) 4 := mj_aload_n (j := 0) rfl (by decide +kernel)
theorem i_Wi_append_4 : mj_Snd zG ("StreamWatch$Wire", "append", c_Wi_append, 5) 4 (x_getf 9 1) 7 := mj_getf (T := T_Wi) rfl (by decide) u_Wi z1_34 (by decide +kernel)
theorem i_Wi_append_7 : mj_Snd zG ("StreamWatch$Wire", "append", c_Wi_append, 5) 7 (x_isub) 8 := mj_isub (by decide +kernel)
theorem d_Wi_append_8 : decode c_Wi_append 8 = .ok (.if_icmp .le 5, 3) := by decide +kernel
theorem i_Wi_append_11 : mj_Snd zG ("StreamWatch$Wire", "append", c_Wi_append, 5) 11 (x_const 0) 12 := mj_const (n := 0) (by decide) (by decide +kernel)
theorem d_Wi_append_12 : decode c_Wi_append 12 = .ok (.ireturn, 1) := by decide +kernel
theorem i_Wi_append_13 : mj_Snd zG ("StreamWatch$Wire", "append", c_Wi_append, 5) 13 (x_iload 1) 14 := mj_iload_n (j := 1) rfl (by decide +kernel)
theorem i_Wi_append_14 : mj_Snd zG ("StreamWatch$Wire", "append", c_Wi_append, 5) 14 (x_const 1) 15 := mj_const (n := 1) (by decide) (by decide +kernel)
theorem i_Wi_append_15 : mj_Snd zG ("StreamWatch$Wire", "append", c_Wi_append, 5) 15 (x_isub) 16 := mj_isub (by decide +kernel)
theorem i_Wi_append_16 : mj_Snd zG ("StreamWatch$Wire", "append", c_Wi_append, 5) 16 (x_istore 4) 18 := mj_istore (by decide) (by decide +kernel)
theorem i_Wi_append_18 : mj_Snd zG ("StreamWatch$Wire", "append", c_Wi_append, 5) 18 (x_iload 4) 20 := mj_iload (by decide +kernel)
theorem d_Wi_append_20 : decode c_Wi_append 20 = .ok (.ifCond .lt 40, 3) := by decide +kernel
theorem i_Wi_append_23 : mj_Snd zG ("StreamWatch$Wire", "append", c_Wi_append, 5) 23 (x_aload 0) 24 := mj_aload_n (j := 0) rfl (by decide +kernel)
theorem i_Wi_append_24 : mj_Snd zG ("StreamWatch$Wire", "append", c_Wi_append, 5) 24 (x_getf 9 0) 27 := mj_getf (T := T_Wi) rfl (by decide) u_Wi z1_33 (by decide +kernel)
theorem i_Wi_append_27 : mj_Snd zG ("StreamWatch$Wire", "append", c_Wi_append, 5) 27 (x_aload 0) 28 := mj_aload_n (j := 0) rfl (by decide +kernel)
theorem i_Wi_append_28 : mj_Snd zG ("StreamWatch$Wire", "append", c_Wi_append, 5) 28 (x_getf 9 1) 31 := mj_getf (T := T_Wi) rfl (by decide) u_Wi z1_34 (by decide +kernel)
theorem i_Wi_append_31 : mj_Snd zG ("StreamWatch$Wire", "append", c_Wi_append, 5) 31 (x_lload 2) 32 := mj_lload_n (j := 2) rfl (by decide +kernel)
theorem i_Wi_append_32 : mj_Snd zG ("StreamWatch$Wire", "append", c_Wi_append, 5) 32 (x_const 8) 34 := mj_bipush (n := 8) (by decide) (by decide +kernel)
theorem i_Wi_append_34 : mj_Snd zG ("StreamWatch$Wire", "append", c_Wi_append, 5) 34 (x_iload 4) 36 := mj_iload (by decide +kernel)
theorem i_Wi_append_36 : mj_Snd zG ("StreamWatch$Wire", "append", c_Wi_append, 5) 36 (x_imul) 37 := mj_imul (by decide +kernel)
theorem i_Wi_append_37 : mj_Snd zG ("StreamWatch$Wire", "append", c_Wi_append, 5) 37 (x_lushr) 38 := mj_lushr (by decide +kernel)
theorem i_Wi_append_38 : mj_Snd zG ("StreamWatch$Wire", "append", c_Wi_append, 5) 38 (x_l2i) 39 := mj_l2i (by decide +kernel)
theorem i_Wi_append_39 : mj_Snd zG ("StreamWatch$Wire", "append", c_Wi_append, 5) 39 (x_const 255) 42 := mj_sipush (n := 255) (by decide) (by decide +kernel)
theorem i_Wi_append_42 : mj_Snd zG ("StreamWatch$Wire", "append", c_Wi_append, 5) 42 (x_iand) 43 := mj_iand (by decide +kernel)
theorem i_Wi_append_43 : mj_Snd zG ("StreamWatch$Wire", "append", c_Wi_append, 5) 43 (x_iast 0) 44 := mj_iast rfl (by decide +kernel)
theorem i_Wi_append_44 : mj_Snd zG ("StreamWatch$Wire", "append", c_Wi_append, 5) 44 (x_aload 0) 45 := mj_aload_n (j := 0) rfl (by decide +kernel)
theorem i_Wi_append_45 : mj_Snd zG ("StreamWatch$Wire", "append", c_Wi_append, 5) 45 (x_dup) 46 := mj_dup (by decide +kernel)
theorem i_Wi_append_46 : mj_Snd zG ("StreamWatch$Wire", "append", c_Wi_append, 5) 46 (x_getf 9 1) 49 := mj_getf (T := T_Wi) rfl (by decide) u_Wi z1_34 (by decide +kernel)
theorem i_Wi_append_49 : mj_Snd zG ("StreamWatch$Wire", "append", c_Wi_append, 5) 49 (x_const 1) 50 := mj_const (n := 1) (by decide) (by decide +kernel)
theorem i_Wi_append_50 : mj_Snd zG ("StreamWatch$Wire", "append", c_Wi_append, 5) 50 (x_iadd) 51 := mj_iadd (by decide +kernel)
theorem i_Wi_append_51 : mj_Snd zG ("StreamWatch$Wire", "append", c_Wi_append, 5) 51 (x_putf 9 1 0) 54 := mj_putG (T := T_Wi) (ty0 := t_Wi) rfl (by decide) u_Wi t_Wi_ok n_Wi z1_34 (Or.inl rfl) (by decide +kernel)
theorem i_Wi_append_54 : mj_Snd zG ("StreamWatch$Wire", "append", c_Wi_append, 5) 54 (x_iinc 4 (-1)) 57 := mj_iinc (n := (-1)) (by decide) (by decide) (by decide +kernel)
theorem i_Wi_append_57 : mj_Snd zG ("StreamWatch$Wire", "append", c_Wi_append, 5) 57 (x_skip) 18 := mj_goto (off := (-39)) (by decide) (by decide +kernel)
theorem i_Wi_append_60 : mj_Snd zG ("StreamWatch$Wire", "append", c_Wi_append, 5) 60 (x_const 1) 61 := mj_const (n := 1) (by decide) (by decide +kernel)
theorem d_Wi_append_61 : decode c_Wi_append 61 = .ok (.ireturn, 1) := by decide +kernel
theorem b_Wi_append_0 : mj_Ch zG ("StreamWatch$Wire", "append", c_Wi_append, 5) 0 [x_iload 1, x_const 100, x_aload 0, x_getf 9 1, x_isub] 8 := ⟨_, i_Wi_append_0, _, i_Wi_append_1, _, i_Wi_append_3, _, i_Wi_append_4, _, i_Wi_append_7, rfl⟩
theorem b_Wi_append_11 : mj_Ch zG ("StreamWatch$Wire", "append", c_Wi_append, 5) 11 [x_const 0] 12 := ⟨_, i_Wi_append_11, rfl⟩
theorem b_Wi_append_13 : mj_Ch zG ("StreamWatch$Wire", "append", c_Wi_append, 5) 13 [x_iload 1, x_const 1, x_isub, x_istore 4] 18 := ⟨_, i_Wi_append_13, _, i_Wi_append_14, _, i_Wi_append_15, _, i_Wi_append_16, rfl⟩
theorem b_Wi_append_18 : mj_Ch zG ("StreamWatch$Wire", "append", c_Wi_append, 5) 18 [x_iload 4] 20 := ⟨_, i_Wi_append_18, rfl⟩
theorem b_Wi_append_23 : mj_Ch zG ("StreamWatch$Wire", "append", c_Wi_append, 5) 23 [x_aload 0, x_getf 9 0, x_aload 0, x_getf 9 1, x_lload 2, x_const 8, x_iload 4, x_imul, x_lushr, x_l2i, x_const 255, x_iand, x_iast 0, x_aload 0, x_dup, x_getf 9 1, x_const 1, x_iadd, x_putf 9 1 0, x_iinc 4 (-1), x_skip] 18 := ⟨_, i_Wi_append_23, _, i_Wi_append_24, _, i_Wi_append_27, _, i_Wi_append_28, _, i_Wi_append_31, _, i_Wi_append_32, _, i_Wi_append_34, _, i_Wi_append_36, _, i_Wi_append_37, _, i_Wi_append_38, _, i_Wi_append_39, _, i_Wi_append_42, _, i_Wi_append_43, _, i_Wi_append_44, _, i_Wi_append_45, _, i_Wi_append_46, _, i_Wi_append_49, _, i_Wi_append_50, _, i_Wi_append_51, _, i_Wi_append_54, _, i_Wi_append_57, rfl⟩
theorem b_Wi_append_60 : mj_Ch zG ("StreamWatch$Wire", "append", c_Wi_append, 5) 60 [x_const 1] 61 := ⟨_, i_Wi_append_60, rfl⟩
theorem i_Wi_fault_0 : mj_Snd zG ("StreamWatch$Wire", "fault", c_Wi_fault, 2) 0 (x_aload 0) 1 := mj_aload_n (j := 0) rfl (by decide +kernel)
theorem i_Wi_fault_1 : mj_Snd zG ("StreamWatch$Wire", "fault", c_Wi_fault, 2) 1 (x_getf 9 1) 4 := mj_getf (T := T_Wi) rfl (by decide) u_Wi z1_34 (by decide +kernel)
theorem i_Wi_fault_4 : mj_Snd zG ("StreamWatch$Wire", "fault", c_Wi_fault, 2) 4 (x_const 20) 6 := mj_bipush (n := 20) (by decide) (by decide +kernel)
theorem d_Wi_fault_6 : decode c_Wi_fault 6 = .ok (.if_icmp .ge 5, 3) := by decide +kernel
theorem i_Wi_fault_9 : mj_Snd zG ("StreamWatch$Wire", "fault", c_Wi_fault, 2) 9 (x_const 1) 10 := mj_const (n := 1) (by decide) (by decide +kernel)
theorem d_Wi_fault_10 : decode c_Wi_fault 10 = .ok (.ireturn, 1) := by decide +kernel
theorem i_Wi_fault_11 : mj_Snd zG ("StreamWatch$Wire", "fault", c_Wi_fault, 2) 11 (x_aload 0) 12 := mj_aload_n (j := 0) rfl (by decide +kernel)
theorem i_Wi_fault_12 : mj_Snd zG ("StreamWatch$Wire", "fault", c_Wi_fault, 2) 12 (x_const 0) 13 := mj_const (n := 0) (by decide) (by decide +kernel)
theorem d_Wi_fault_13 : decode c_Wi_fault 13 = .ok (.invokevirtual 21, 3) := by decide +kernel
theorem i_Wi_fault_16 : mj_Snd zG ("StreamWatch$Wire", "fault", c_Wi_fault, 2) 16 (x_const 69) 18 := mj_bipush (n := 69) (by decide) (by decide +kernel)
theorem d_Wi_fault_18 : decode c_Wi_fault 18 = .ok (.if_icmp .lt 13, 3) := by decide +kernel
theorem i_Wi_fault_21 : mj_Snd zG ("StreamWatch$Wire", "fault", c_Wi_fault, 2) 21 (x_aload 0) 22 := mj_aload_n (j := 0) rfl (by decide +kernel)
theorem i_Wi_fault_22 : mj_Snd zG ("StreamWatch$Wire", "fault", c_Wi_fault, 2) 22 (x_const 0) 23 := mj_const (n := 0) (by decide) (by decide +kernel)
theorem d_Wi_fault_23 : decode c_Wi_fault 23 = .ok (.invokevirtual 21, 3) := by decide +kernel
theorem i_Wi_fault_26 : mj_Snd zG ("StreamWatch$Wire", "fault", c_Wi_fault, 2) 26 (x_const 71) 28 := mj_bipush (n := 71) (by decide) (by decide +kernel)
theorem d_Wi_fault_28 : decode c_Wi_fault 28 = .ok (.if_icmp .le 5, 3) := by decide +kernel
theorem i_Wi_fault_31 : mj_Snd zG ("StreamWatch$Wire", "fault", c_Wi_fault, 2) 31 (x_const 2) 32 := mj_const (n := 2) (by decide) (by decide +kernel)
theorem d_Wi_fault_32 : decode c_Wi_fault 32 = .ok (.ireturn, 1) := by decide +kernel
theorem i_Wi_fault_33 : mj_Snd zG ("StreamWatch$Wire", "fault", c_Wi_fault, 2) 33 (x_aload 0) 34 := mj_aload_n (j := 0) rfl (by decide +kernel)
theorem d_Wi_fault_34 : decode c_Wi_fault 34 = .ok (.invokevirtual 25, 3) := by decide +kernel
theorem i_Wi_fault_37 : mj_Snd zG ("StreamWatch$Wire", "fault", c_Wi_fault, 2) 37 (x_aload 0) 38 := mj_aload_n (j := 0) rfl (by decide +kernel)
theorem i_Wi_fault_38 : mj_Snd zG ("StreamWatch$Wire", "fault", c_Wi_fault, 2) 38 (x_getf 9 1) 41 := mj_getf (T := T_Wi) rfl (by decide) u_Wi z1_34 (by decide +kernel)
theorem d_Wi_fault_41 : decode c_Wi_fault 41 = .ok (.if_icmp .gt 17, 3) := by decide +kernel
theorem i_Wi_fault_44 : mj_Snd zG ("StreamWatch$Wire", "fault", c_Wi_fault, 2) 44 (x_aload 0) 45 := mj_aload_n (j := 0) rfl (by decide +kernel)
theorem d_Wi_fault_45 : decode c_Wi_fault 45 = .ok (.invokevirtual 25, 3) := by decide +kernel
theorem i_Wi_fault_48 : mj_Snd zG ("StreamWatch$Wire", "fault", c_Wi_fault, 2) 48 (x_aload 0) 49 := mj_aload_n (j := 0) rfl (by decide +kernel)
theorem d_Wi_fault_49 : decode c_Wi_fault 49 = .ok (.invokevirtual 29, 3) := by decide +kernel
theorem i_Wi_fault_52 : mj_Snd zG ("StreamWatch$Wire", "fault", c_Wi_fault, 2) 52 (x_const 20) 54 := mj_bipush (n := 20) (by decide) (by decide +kernel)
theorem i_Wi_fault_54 : mj_Snd zG ("StreamWatch$Wire", "fault", c_Wi_fault, 2) 54 (x_iadd) 55 := mj_iadd (by decide +kernel)
theorem d_Wi_fault_55 : decode c_Wi_fault 55 = .ok (.if_icmp .ge 5, 3) := by decide +kernel
theorem i_Wi_fault_58 : mj_Snd zG ("StreamWatch$Wire", "fault", c_Wi_fault, 2) 58 (x_const 3) 59 := mj_const (n := 3) (by decide) (by decide +kernel)
theorem d_Wi_fault_59 : decode c_Wi_fault 59 = .ok (.ireturn, 1) := by decide +kernel
theorem i_Wi_fault_60 : mj_Snd zG ("StreamWatch$Wire", "fault", c_Wi_fault, 2) 60 (x_iload 1) 61 := mj_iload_n (j := 1) rfl (by decide +kernel)
theorem d_Wi_fault_61 : decode c_Wi_fault 61 = .ok (.ifCond .eq 14, 3) := by decide +kernel
theorem i_Wi_fault_64 : mj_Snd zG ("StreamWatch$Wire", "fault", c_Wi_fault, 2) 64 (x_aload 0) 65 := mj_aload_n (j := 0) rfl (by decide +kernel)
theorem d_Wi_fault_65 : decode c_Wi_fault 65 = .ok (.invokevirtual 32, 3) := by decide +kernel
theorem i_Wi_fault_68 : mj_Snd zG ("StreamWatch$Wire", "fault", c_Wi_fault, 2) 68 (x_const 65535) 70 := mj_ldc z2_60 (by decide +kernel)
theorem d_Wi_fault_70 : decode c_Wi_fault 70 = .ok (.if_icmp .eq 5, 3) := by decide +kernel
theorem i_Wi_fault_73 : mj_Snd zG ("StreamWatch$Wire", "fault", c_Wi_fault, 2) 73 (x_const 4) 74 := mj_const (n := 4) (by decide) (by decide +kernel)
theorem d_Wi_fault_74 : decode c_Wi_fault 74 = .ok (.ireturn, 1) := by decide +kernel
theorem i_Wi_fault_75 : mj_Snd zG ("StreamWatch$Wire", "fault", c_Wi_fault, 2) 75 (x_aload 0) 76 := mj_aload_n (j := 0) rfl (by decide +kernel)
theorem i_Wi_fault_76 : mj_Snd zG ("StreamWatch$Wire", "fault", c_Wi_fault, 2) 76 (x_const 6) 78 := mj_bipush (n := 6) (by decide) (by decide +kernel)
theorem d_Wi_fault_78 : decode c_Wi_fault 78 = .ok (.invokevirtual 36, 3) := by decide +kernel
theorem i_Wi_fault_81 : mj_Snd zG ("StreamWatch$Wire", "fault", c_Wi_fault, 2) 81 (x_const 16383) 84 := mj_sipush (n := 16383) (by decide) (by decide +kernel)
theorem i_Wi_fault_84 : mj_Snd zG ("StreamWatch$Wire", "fault", c_Wi_fault, 2) 84 (x_iand) 85 := mj_iand (by decide +kernel)
theorem d_Wi_fault_85 : decode c_Wi_fault 85 = .ok (.ifCond .eq 5, 3) := by decide +kernel
theorem i_Wi_fault_88 : mj_Snd zG ("StreamWatch$Wire", "fault", c_Wi_fault, 2) 88 (x_const 5) 89 := mj_const (n := 5) (by decide) (by decide +kernel)
theorem d_Wi_fault_89 : decode c_Wi_fault 89 = .ok (.ireturn, 1) := by decide +kernel
theorem i_Wi_fault_90 : mj_Snd zG ("StreamWatch$Wire", "fault", c_Wi_fault, 2) 90 (x_aload 0) 91 := mj_aload_n (j := 0) rfl (by decide +kernel)
theorem i_Wi_fault_91 : mj_Snd zG ("StreamWatch$Wire", "fault", c_Wi_fault, 2) 91 (x_const 9) 93 := mj_bipush (n := 9) (by decide) (by decide +kernel)
theorem d_Wi_fault_93 : decode c_Wi_fault 93 = .ok (.invokevirtual 21, 3) := by decide +kernel
theorem i_Wi_fault_96 : mj_Snd zG ("StreamWatch$Wire", "fault", c_Wi_fault, 2) 96 (x_const 6) 98 := mj_bipush (n := 6) (by decide) (by decide +kernel)
theorem d_Wi_fault_98 : decode c_Wi_fault 98 = .ok (.if_icmp .eq 6, 3) := by decide +kernel
theorem i_Wi_fault_101 : mj_Snd zG ("StreamWatch$Wire", "fault", c_Wi_fault, 2) 101 (x_const 6) 103 := mj_bipush (n := 6) (by decide) (by decide +kernel)
theorem d_Wi_fault_103 : decode c_Wi_fault 103 = .ok (.ireturn, 1) := by decide +kernel
theorem i_Wi_fault_104 : mj_Snd zG ("StreamWatch$Wire", "fault", c_Wi_fault, 2) 104 (x_aload 0) 105 := mj_aload_n (j := 0) rfl (by decide +kernel)
theorem d_Wi_fault_105 : decode c_Wi_fault 105 = .ok (.invokevirtual 39, 3) := by decide +kernel
theorem i_Wi_fault_108 : mj_Snd zG ("StreamWatch$Wire", "fault", c_Wi_fault, 2) 108 (x_const 5) 109 := mj_const (n := 5) (by decide) (by decide +kernel)
theorem d_Wi_fault_109 : decode c_Wi_fault 109 = .ok (.if_icmp .lt 23, 3) := by decide +kernel
theorem i_Wi_fault_112 : mj_Snd zG ("StreamWatch$Wire", "fault", c_Wi_fault, 2) 112 (x_aload 0) 113 := mj_aload_n (j := 0) rfl (by decide +kernel)
theorem d_Wi_fault_113 : decode c_Wi_fault 113 = .ok (.invokevirtual 39, 3) := by decide +kernel
theorem i_Wi_fault_116 : mj_Snd zG ("StreamWatch$Wire", "fault", c_Wi_fault, 2) 116 (x_const 8) 118 := mj_bipush (n := 8) (by decide) (by decide +kernel)
theorem d_Wi_fault_118 : decode c_Wi_fault 118 = .ok (.if_icmp .gt 14, 3) := by decide +kernel
theorem i_Wi_fault_121 : mj_Snd zG ("StreamWatch$Wire", "fault", c_Wi_fault, 2) 121 (x_aload 0) 122 := mj_aload_n (j := 0) rfl (by decide +kernel)
theorem d_Wi_fault_122 : decode c_Wi_fault 122 = .ok (.invokevirtual 42, 3) := by decide +kernel
theorem i_Wi_fault_125 : mj_Snd zG ("StreamWatch$Wire", "fault", c_Wi_fault, 2) 125 (x_aload 0) 126 := mj_aload_n (j := 0) rfl (by decide +kernel)
theorem d_Wi_fault_126 : decode c_Wi_fault 126 = .ok (.invokevirtual 25, 3) := by decide +kernel
theorem d_Wi_fault_129 : decode c_Wi_fault 129 = .ok (.if_icmp .le 6, 3) := by decide +kernel
theorem i_Wi_fault_132 : mj_Snd zG ("StreamWatch$Wire", "fault", c_Wi_fault, 2) 132 (x_const 7) 134 := mj_bipush (n := 7) (by decide) (by decide +kernel)
theorem d_Wi_fault_134 : decode c_Wi_fault 134 = .ok (.ireturn, 1) := by decide +kernel
theorem i_Wi_fault_135 : mj_Snd zG ("StreamWatch$Wire", "fault", c_Wi_fault, 2) 135 (x_iload 1) 136 := mj_iload_n (j := 1) rfl (by decide +kernel)
theorem d_Wi_fault_136 : decode c_Wi_fault 136 = .ok (.ifCond .eq 15, 3) := by decide +kernel
theorem i_Wi_fault_139 : mj_Snd zG ("StreamWatch$Wire", "fault", c_Wi_fault, 2) 139 (x_aload 0) 140 := mj_aload_n (j := 0) rfl (by decide +kernel)
theorem d_Wi_fault_140 : decode c_Wi_fault 140 = .ok (.invokevirtual 45, 3) := by decide +kernel
theorem i_Wi_fault_143 : mj_Snd zG ("StreamWatch$Wire", "fault", c_Wi_fault, 2) 143 (x_const 65535) 145 := mj_ldc z2_60 (by decide +kernel)
theorem d_Wi_fault_145 : decode c_Wi_fault 145 = .ok (.if_icmp .eq 6, 3) := by decide +kernel
theorem i_Wi_fault_148 : mj_Snd zG ("StreamWatch$Wire", "fault", c_Wi_fault, 2) 148 (x_const 8) 150 := mj_bipush (n := 8) (by decide) (by decide +kernel)
theorem d_Wi_fault_150 : decode c_Wi_fault 150 = .ok (.ireturn, 1) := by decide +kernel
theorem i_Wi_fault_151 : mj_Snd zG ("StreamWatch$Wire", "fault", c_Wi_fault, 2) 151 (x_const 0) 152 := mj_const (n := 0) (by decide) (by decide +kernel)
theorem d_Wi_fault_152 : decode c_Wi_fault 152 = .ok (.ireturn, 1) := by decide +kernel
theorem b_Wi_fault_0 : mj_Ch zG ("StreamWatch$Wire", "fault", c_Wi_fault, 2) 0 [x_aload 0, x_getf 9 1, x_const 20] 6 := ⟨_, i_Wi_fault_0, _, i_Wi_fault_1, _, i_Wi_fault_4, rfl⟩
theorem b_Wi_fault_9 : mj_Ch zG ("StreamWatch$Wire", "fault", c_Wi_fault, 2) 9 [x_const 1] 10 := ⟨_, i_Wi_fault_9, rfl⟩
theorem b_Wi_fault_11 : mj_Ch zG ("StreamWatch$Wire", "fault", c_Wi_fault, 2) 11 [x_aload 0, x_const 0] 13 := ⟨_, i_Wi_fault_11, _, i_Wi_fault_12, rfl⟩
theorem b_Wi_fault_16 : mj_Ch zG ("StreamWatch$Wire", "fault", c_Wi_fault, 2) 16 [x_const 69] 18 := ⟨_, i_Wi_fault_16, rfl⟩
theorem b_Wi_fault_21 : mj_Ch zG ("StreamWatch$Wire", "fault", c_Wi_fault, 2) 21 [x_aload 0, x_const 0] 23 := ⟨_, i_Wi_fault_21, _, i_Wi_fault_22, rfl⟩
theorem b_Wi_fault_26 : mj_Ch zG ("StreamWatch$Wire", "fault", c_Wi_fault, 2) 26 [x_const 71] 28 := ⟨_, i_Wi_fault_26, rfl⟩
theorem b_Wi_fault_31 : mj_Ch zG ("StreamWatch$Wire", "fault", c_Wi_fault, 2) 31 [x_const 2] 32 := ⟨_, i_Wi_fault_31, rfl⟩
theorem b_Wi_fault_33 : mj_Ch zG ("StreamWatch$Wire", "fault", c_Wi_fault, 2) 33 [x_aload 0] 34 := ⟨_, i_Wi_fault_33, rfl⟩
theorem b_Wi_fault_37 : mj_Ch zG ("StreamWatch$Wire", "fault", c_Wi_fault, 2) 37 [x_aload 0, x_getf 9 1] 41 := ⟨_, i_Wi_fault_37, _, i_Wi_fault_38, rfl⟩
theorem b_Wi_fault_44 : mj_Ch zG ("StreamWatch$Wire", "fault", c_Wi_fault, 2) 44 [x_aload 0] 45 := ⟨_, i_Wi_fault_44, rfl⟩
theorem b_Wi_fault_48 : mj_Ch zG ("StreamWatch$Wire", "fault", c_Wi_fault, 2) 48 [x_aload 0] 49 := ⟨_, i_Wi_fault_48, rfl⟩
theorem b_Wi_fault_52 : mj_Ch zG ("StreamWatch$Wire", "fault", c_Wi_fault, 2) 52 [x_const 20, x_iadd] 55 := ⟨_, i_Wi_fault_52, _, i_Wi_fault_54, rfl⟩
theorem b_Wi_fault_58 : mj_Ch zG ("StreamWatch$Wire", "fault", c_Wi_fault, 2) 58 [x_const 3] 59 := ⟨_, i_Wi_fault_58, rfl⟩
theorem b_Wi_fault_60 : mj_Ch zG ("StreamWatch$Wire", "fault", c_Wi_fault, 2) 60 [x_iload 1] 61 := ⟨_, i_Wi_fault_60, rfl⟩
theorem b_Wi_fault_64 : mj_Ch zG ("StreamWatch$Wire", "fault", c_Wi_fault, 2) 64 [x_aload 0] 65 := ⟨_, i_Wi_fault_64, rfl⟩
theorem b_Wi_fault_68 : mj_Ch zG ("StreamWatch$Wire", "fault", c_Wi_fault, 2) 68 [x_const 65535] 70 := ⟨_, i_Wi_fault_68, rfl⟩
theorem b_Wi_fault_73 : mj_Ch zG ("StreamWatch$Wire", "fault", c_Wi_fault, 2) 73 [x_const 4] 74 := ⟨_, i_Wi_fault_73, rfl⟩
theorem b_Wi_fault_75 : mj_Ch zG ("StreamWatch$Wire", "fault", c_Wi_fault, 2) 75 [x_aload 0, x_const 6] 78 := ⟨_, i_Wi_fault_75, _, i_Wi_fault_76, rfl⟩
theorem b_Wi_fault_81 : mj_Ch zG ("StreamWatch$Wire", "fault", c_Wi_fault, 2) 81 [x_const 16383, x_iand] 85 := ⟨_, i_Wi_fault_81, _, i_Wi_fault_84, rfl⟩
theorem b_Wi_fault_88 : mj_Ch zG ("StreamWatch$Wire", "fault", c_Wi_fault, 2) 88 [x_const 5] 89 := ⟨_, i_Wi_fault_88, rfl⟩
theorem b_Wi_fault_90 : mj_Ch zG ("StreamWatch$Wire", "fault", c_Wi_fault, 2) 90 [x_aload 0, x_const 9] 93 := ⟨_, i_Wi_fault_90, _, i_Wi_fault_91, rfl⟩
theorem b_Wi_fault_96 : mj_Ch zG ("StreamWatch$Wire", "fault", c_Wi_fault, 2) 96 [x_const 6] 98 := ⟨_, i_Wi_fault_96, rfl⟩
theorem b_Wi_fault_101 : mj_Ch zG ("StreamWatch$Wire", "fault", c_Wi_fault, 2) 101 [x_const 6] 103 := ⟨_, i_Wi_fault_101, rfl⟩
theorem b_Wi_fault_104 : mj_Ch zG ("StreamWatch$Wire", "fault", c_Wi_fault, 2) 104 [x_aload 0] 105 := ⟨_, i_Wi_fault_104, rfl⟩
theorem b_Wi_fault_108 : mj_Ch zG ("StreamWatch$Wire", "fault", c_Wi_fault, 2) 108 [x_const 5] 109 := ⟨_, i_Wi_fault_108, rfl⟩
theorem b_Wi_fault_112 : mj_Ch zG ("StreamWatch$Wire", "fault", c_Wi_fault, 2) 112 [x_aload 0] 113 := ⟨_, i_Wi_fault_112, rfl⟩
theorem b_Wi_fault_116 : mj_Ch zG ("StreamWatch$Wire", "fault", c_Wi_fault, 2) 116 [x_const 8] 118 := ⟨_, i_Wi_fault_116, rfl⟩
theorem b_Wi_fault_121 : mj_Ch zG ("StreamWatch$Wire", "fault", c_Wi_fault, 2) 121 [x_aload 0] 122 := ⟨_, i_Wi_fault_121, rfl⟩
theorem b_Wi_fault_125 : mj_Ch zG ("StreamWatch$Wire", "fault", c_Wi_fault, 2) 125 [x_aload 0] 126 := ⟨_, i_Wi_fault_125, rfl⟩
theorem b_Wi_fault_132 : mj_Ch zG ("StreamWatch$Wire", "fault", c_Wi_fault, 2) 132 [x_const 7] 134 := ⟨_, i_Wi_fault_132, rfl⟩
theorem b_Wi_fault_135 : mj_Ch zG ("StreamWatch$Wire", "fault", c_Wi_fault, 2) 135 [x_iload 1] 136 := ⟨_, i_Wi_fault_135, rfl⟩
theorem b_Wi_fault_139 : mj_Ch zG ("StreamWatch$Wire", "fault", c_Wi_fault, 2) 139 [x_aload 0] 140 := ⟨_, i_Wi_fault_139, rfl⟩
theorem b_Wi_fault_143 : mj_Ch zG ("StreamWatch$Wire", "fault", c_Wi_fault, 2) 143 [x_const 65535] 145 := ⟨_, i_Wi_fault_143, rfl⟩
theorem b_Wi_fault_148 : mj_Ch zG ("StreamWatch$Wire", "fault", c_Wi_fault, 2) 148 [x_const 8] 150 := ⟨_, i_Wi_fault_148, rfl⟩
theorem b_Wi_fault_151 : mj_Ch zG ("StreamWatch$Wire", "fault", c_Wi_fault, 2) 151 [x_const 0] 152 := ⟨_, i_Wi_fault_151, rfl⟩
theorem i_Wi_makeSumsRight_0 : mj_Snd zG ("StreamWatch$Wire", "makeSumsRight", c_Wi_makeSumsRight, 2) 0 (x_aload 0) 1 := mj_aload_n (j := 0) rfl (by decide +kernel)
theorem d_Wi_makeSumsRight_1 : decode c_Wi_makeSumsRight 1 = .ok (.invokevirtual 29, 3) := by decide +kernel
theorem i_Wi_makeSumsRight_4 : mj_Snd zG ("StreamWatch$Wire", "makeSumsRight", c_Wi_makeSumsRight, 2) 4 (x_const 16) 6 := mj_bipush (n := 16) (by decide) (by decide +kernel)
theorem i_Wi_makeSumsRight_6 : mj_Snd zG ("StreamWatch$Wire", "makeSumsRight", c_Wi_makeSumsRight, 2) 6 (x_iadd) 7 := mj_iadd (by decide +kernel)
theorem i_Wi_makeSumsRight_7 : mj_Snd zG ("StreamWatch$Wire", "makeSumsRight", c_Wi_makeSumsRight, 2) 7 (x_istore 1) 8 := mj_istore_n (j := 1) rfl (by decide) (by decide +kernel)
theorem i_Wi_makeSumsRight_8 : mj_Snd zG ("StreamWatch$Wire", "makeSumsRight", c_Wi_makeSumsRight, 2) 8 (x_aload 0) 9 := mj_aload_n (j := 0) rfl (by decide +kernel)
theorem i_Wi_makeSumsRight_9 : mj_Snd zG ("StreamWatch$Wire", "makeSumsRight", c_Wi_makeSumsRight, 2) 9 (x_const 10) 11 := mj_bipush (n := 10) (by decide) (by decide +kernel)
theorem i_Wi_makeSumsRight_11 : mj_Snd zG ("StreamWatch$Wire", "makeSumsRight", c_Wi_makeSumsRight, 2) 11 (x_const 0) 12 := mj_const (n := 0) (by decide) (by decide +kernel)
theorem d_Wi_makeSumsRight_12 : decode c_Wi_makeSumsRight 12 = .ok (.invokevirtual 48, 3) := by decide +kernel
theorem i_Wi_makeSumsRight_15 : mj_Snd zG ("StreamWatch$Wire", "makeSumsRight", c_Wi_makeSumsRight, 2) 15 (x_aload 0) 16 := mj_aload_n (j := 0) rfl (by decide +kernel)
theorem i_Wi_makeSumsRight_16 : mj_Snd zG ("StreamWatch$Wire", "makeSumsRight", c_Wi_makeSumsRight, 2) 16 (x_const 10) 18 := mj_bipush (n := 10) (by decide) (by decide +kernel)
theorem i_Wi_makeSumsRight_18 : mj_Snd zG ("StreamWatch$Wire", "makeSumsRight", c_Wi_makeSumsRight, 2) 18 (x_const 65535) 20 := mj_ldc z2_60 (by decide +kernel)
theorem i_Wi_makeSumsRight_20 : mj_Snd zG ("StreamWatch$Wire", "makeSumsRight", c_Wi_makeSumsRight, 2) 20 (x_aload 0) 21 := mj_aload_n (j := 0) rfl (by decide +kernel)
theorem d_Wi_makeSumsRight_21 : decode c_Wi_makeSumsRight 21 = .ok (.invokevirtual 32, 3) := by decide +kernel
theorem i_Wi_makeSumsRight_24 : mj_Snd zG ("StreamWatch$Wire", "makeSumsRight", c_Wi_makeSumsRight, 2) 24 (x_isub) 25 := mj_isub (by decide +kernel)
theorem d_Wi_makeSumsRight_25 : decode c_Wi_makeSumsRight 25 = .ok (.invokevirtual 48, 3) := by decide +kernel
theorem i_Wi_makeSumsRight_28 : mj_Snd zG ("StreamWatch$Wire", "makeSumsRight", c_Wi_makeSumsRight, 2) 28 (x_aload 0) 29 := mj_aload_n (j := 0) rfl (by decide +kernel)
theorem i_Wi_makeSumsRight_29 : mj_Snd zG ("StreamWatch$Wire", "makeSumsRight", c_Wi_makeSumsRight, 2) 29 (x_iload 1) 30 := mj_iload_n (j := 1) rfl (by decide +kernel)
theorem i_Wi_makeSumsRight_30 : mj_Snd zG ("StreamWatch$Wire", "makeSumsRight", c_Wi_makeSumsRight, 2) 30 (x_const 0) 31 := mj_const (n := 0) (by decide) (by decide +kernel)
theorem d_Wi_makeSumsRight_31 : decode c_Wi_makeSumsRight 31 = .ok (.invokevirtual 48, 3) := by decide +kernel
theorem i_Wi_makeSumsRight_34 : mj_Snd zG ("StreamWatch$Wire", "makeSumsRight", c_Wi_makeSumsRight, 2) 34 (x_aload 0) 35 := mj_aload_n (j := 0) rfl (by decide +kernel)
theorem i_Wi_makeSumsRight_35 : mj_Snd zG ("StreamWatch$Wire", "makeSumsRight", c_Wi_makeSumsRight, 2) 35 (x_iload 1) 36 := mj_iload_n (j := 1) rfl (by decide +kernel)
theorem i_Wi_makeSumsRight_36 : mj_Snd zG ("StreamWatch$Wire", "makeSumsRight", c_Wi_makeSumsRight, 2) 36 (x_const 65535) 38 := mj_ldc z2_60 (by decide +kernel)
theorem i_Wi_makeSumsRight_38 : mj_Snd zG ("StreamWatch$Wire", "makeSumsRight", c_Wi_makeSumsRight, 2) 38 (x_aload 0) 39 := mj_aload_n (j := 0) rfl (by decide +kernel)
theorem d_Wi_makeSumsRight_39 : decode c_Wi_makeSumsRight 39 = .ok (.invokevirtual 45, 3) := by decide +kernel
theorem i_Wi_makeSumsRight_42 : mj_Snd zG ("StreamWatch$Wire", "makeSumsRight", c_Wi_makeSumsRight, 2) 42 (x_isub) 43 := mj_isub (by decide +kernel)
theorem d_Wi_makeSumsRight_43 : decode c_Wi_makeSumsRight 43 = .ok (.invokevirtual 48, 3) := by decide +kernel
theorem d_Wi_makeSumsRight_46 : decode c_Wi_makeSumsRight 46 = .ok (.return_, 1) := by decide +kernel
theorem b_Wi_makeSumsRight_0 : mj_Ch zG ("StreamWatch$Wire", "makeSumsRight", c_Wi_makeSumsRight, 2) 0 [x_aload 0] 1 := ⟨_, i_Wi_makeSumsRight_0, rfl⟩
theorem b_Wi_makeSumsRight_4 : mj_Ch zG ("StreamWatch$Wire", "makeSumsRight", c_Wi_makeSumsRight, 2) 4 [x_const 16, x_iadd, x_istore 1, x_aload 0, x_const 10, x_const 0] 12 := ⟨_, i_Wi_makeSumsRight_4, _, i_Wi_makeSumsRight_6, _, i_Wi_makeSumsRight_7, _, i_Wi_makeSumsRight_8, _, i_Wi_makeSumsRight_9, _, i_Wi_makeSumsRight_11, rfl⟩
theorem b_Wi_makeSumsRight_15 : mj_Ch zG ("StreamWatch$Wire", "makeSumsRight", c_Wi_makeSumsRight, 2) 15 [x_aload 0, x_const 10, x_const 65535, x_aload 0] 21 := ⟨_, i_Wi_makeSumsRight_15, _, i_Wi_makeSumsRight_16, _, i_Wi_makeSumsRight_18, _, i_Wi_makeSumsRight_20, rfl⟩
theorem b_Wi_makeSumsRight_24 : mj_Ch zG ("StreamWatch$Wire", "makeSumsRight", c_Wi_makeSumsRight, 2) 24 [x_isub] 25 := ⟨_, i_Wi_makeSumsRight_24, rfl⟩
theorem b_Wi_makeSumsRight_28 : mj_Ch zG ("StreamWatch$Wire", "makeSumsRight", c_Wi_makeSumsRight, 2) 28 [x_aload 0, x_iload 1, x_const 0] 31 := ⟨_, i_Wi_makeSumsRight_28, _, i_Wi_makeSumsRight_29, _, i_Wi_makeSumsRight_30, rfl⟩
theorem b_Wi_makeSumsRight_34 : mj_Ch zG ("StreamWatch$Wire", "makeSumsRight", c_Wi_makeSumsRight, 2) 34 [x_aload 0, x_iload 1, x_const 65535, x_aload 0] 39 := ⟨_, i_Wi_makeSumsRight_34, _, i_Wi_makeSumsRight_35, _, i_Wi_makeSumsRight_36, _, i_Wi_makeSumsRight_38, rfl⟩
theorem b_Wi_makeSumsRight_42 : mj_Ch zG ("StreamWatch$Wire", "makeSumsRight", c_Wi_makeSumsRight, 2) 42 [x_isub] 43 := ⟨_, i_Wi_makeSumsRight_42, rfl⟩
theorem i_Wi_ipSize_0 : mj_Snd zG ("StreamWatch$Wire", "ipSize", c_Wi_ipSize, 1) 0 (x_aload 0) 1 := mj_aload_n (j := 0) rfl (by decide +kernel)
theorem i_Wi_ipSize_1 : mj_Snd zG ("StreamWatch$Wire", "ipSize", c_Wi_ipSize, 1) 1 (x_const 0) 2 := mj_const (n := 0) (by decide) (by decide +kernel)
theorem d_Wi_ipSize_2 : decode c_Wi_ipSize 2 = .ok (.invokevirtual 21, 3) := by decide +kernel
theorem i_Wi_ipSize_5 : mj_Snd zG ("StreamWatch$Wire", "ipSize", c_Wi_ipSize, 1) 5 (x_const 15) 7 := mj_bipush (n := 15) (by decide) (by decide +kernel)
theorem i_Wi_ipSize_7 : mj_Snd zG ("StreamWatch$Wire", "ipSize", c_Wi_ipSize, 1) 7 (x_iand) 8 := mj_iand (by decide +kernel)
theorem i_Wi_ipSize_8 : mj_Snd zG ("StreamWatch$Wire", "ipSize", c_Wi_ipSize, 1) 8 (x_const 4) 9 := mj_const (n := 4) (by decide) (by decide +kernel)
theorem i_Wi_ipSize_9 : mj_Snd zG ("StreamWatch$Wire", "ipSize", c_Wi_ipSize, 1) 9 (x_imul) 10 := mj_imul (by decide +kernel)
theorem d_Wi_ipSize_10 : decode c_Wi_ipSize 10 = .ok (.ireturn, 1) := by decide +kernel
theorem b_Wi_ipSize_0 : mj_Ch zG ("StreamWatch$Wire", "ipSize", c_Wi_ipSize, 1) 0 [x_aload 0, x_const 0] 2 := ⟨_, i_Wi_ipSize_0, _, i_Wi_ipSize_1, rfl⟩
theorem b_Wi_ipSize_5 : mj_Ch zG ("StreamWatch$Wire", "ipSize", c_Wi_ipSize, 1) 5 [x_const 15, x_iand, x_const 4, x_imul] 10 := ⟨_, i_Wi_ipSize_5, _, i_Wi_ipSize_7, _, i_Wi_ipSize_8, _, i_Wi_ipSize_9, rfl⟩
theorem i_Wi_length_0 : mj_Snd zG ("StreamWatch$Wire", "length", c_Wi_length, 1) 0 (x_aload 0) 1 := mj_aload_n (j := 0) rfl (by decide +kernel)
theorem i_Wi_length_1 : mj_Snd zG ("StreamWatch$Wire", "length", c_Wi_length, 1) 1 (x_const 2) 2 := mj_const (n := 2) (by decide) (by decide +kernel)
theorem d_Wi_length_2 : decode c_Wi_length 2 = .ok (.invokevirtual 36, 3) := by decide +kernel
theorem d_Wi_length_5 : decode c_Wi_length 5 = .ok (.ireturn, 1) := by decide +kernel
theorem b_Wi_length_0 : mj_Ch zG ("StreamWatch$Wire", "length", c_Wi_length, 1) 0 [x_aload 0, x_const 2] 2 := ⟨_, i_Wi_length_0, _, i_Wi_length_1, rfl⟩
theorem i_Wi_dataStart_0 : mj_Snd zG ("StreamWatch$Wire", "dataStart", c_Wi_dataStart, 1) 0 (x_aload 0) 1 := mj_aload_n (j := 0) rfl (by decide +kernel)
theorem d_Wi_dataStart_1 : decode c_Wi_dataStart 1 = .ok (.invokevirtual 29, 3) := by decide +kernel
theorem i_Wi_dataStart_4 : mj_Snd zG ("StreamWatch$Wire", "dataStart", c_Wi_dataStart, 1) 4 (x_aload 0) 5 := mj_aload_n (j := 0) rfl (by decide +kernel)
theorem d_Wi_dataStart_5 : decode c_Wi_dataStart 5 = .ok (.invokevirtual 39, 3) := by decide +kernel
theorem i_Wi_dataStart_8 : mj_Snd zG ("StreamWatch$Wire", "dataStart", c_Wi_dataStart, 1) 8 (x_const 4) 9 := mj_const (n := 4) (by decide) (by decide +kernel)
theorem i_Wi_dataStart_9 : mj_Snd zG ("StreamWatch$Wire", "dataStart", c_Wi_dataStart, 1) 9 (x_imul) 10 := mj_imul (by decide +kernel)
theorem i_Wi_dataStart_10 : mj_Snd zG ("StreamWatch$Wire", "dataStart", c_Wi_dataStart, 1) 10 (x_iadd) 11 := mj_iadd (by decide +kernel)
theorem d_Wi_dataStart_11 : decode c_Wi_dataStart 11 = .ok (.ireturn, 1) := by decide +kernel
theorem b_Wi_dataStart_0 : mj_Ch zG ("StreamWatch$Wire", "dataStart", c_Wi_dataStart, 1) 0 [x_aload 0] 1 := ⟨_, i_Wi_dataStart_0, rfl⟩
theorem b_Wi_dataStart_4 : mj_Ch zG ("StreamWatch$Wire", "dataStart", c_Wi_dataStart, 1) 4 [x_aload 0] 5 := ⟨_, i_Wi_dataStart_4, rfl⟩
theorem b_Wi_dataStart_8 : mj_Ch zG ("StreamWatch$Wire", "dataStart", c_Wi_dataStart, 1) 8 [x_const 4, x_imul, x_iadd] 11 := ⟨_, i_Wi_dataStart_8, _, i_Wi_dataStart_9, _, i_Wi_dataStart_10, rfl⟩
theorem i_Wi_pairAt_0 : mj_Snd zG ("StreamWatch$Wire", "pairAt", c_Wi_pairAt, 2) 0 (x_aload 0) 1 := mj_aload_n (j := 0) rfl (by decide +kernel)
theorem i_Wi_pairAt_1 : mj_Snd zG ("StreamWatch$Wire", "pairAt", c_Wi_pairAt, 2) 1 (x_iload 1) 2 := mj_iload_n (j := 1) rfl (by decide +kernel)
theorem d_Wi_pairAt_2 : decode c_Wi_pairAt 2 = .ok (.invokevirtual 21, 3) := by decide +kernel
theorem i_Wi_pairAt_5 : mj_Snd zG ("StreamWatch$Wire", "pairAt", c_Wi_pairAt, 2) 5 (x_const 8) 7 := mj_bipush (n := 8) (by decide) (by decide +kernel)
theorem i_Wi_pairAt_7 : mj_Snd zG ("StreamWatch$Wire", "pairAt", c_Wi_pairAt, 2) 7 (x_ishl) 8 := mj_ishl (by decide +kernel)
theorem i_Wi_pairAt_8 : mj_Snd zG ("StreamWatch$Wire", "pairAt", c_Wi_pairAt, 2) 8 (x_aload 0) 9 := mj_aload_n (j := 0) rfl (by decide +kernel)
theorem i_Wi_pairAt_9 : mj_Snd zG ("StreamWatch$Wire", "pairAt", c_Wi_pairAt, 2) 9 (x_iload 1) 10 := mj_iload_n (j := 1) rfl (by decide +kernel)
theorem i_Wi_pairAt_10 : mj_Snd zG ("StreamWatch$Wire", "pairAt", c_Wi_pairAt, 2) 10 (x_const 1) 11 := mj_const (n := 1) (by decide) (by decide +kernel)
theorem i_Wi_pairAt_11 : mj_Snd zG ("StreamWatch$Wire", "pairAt", c_Wi_pairAt, 2) 11 (x_iadd) 12 := mj_iadd (by decide +kernel)
theorem d_Wi_pairAt_12 : decode c_Wi_pairAt 12 = .ok (.invokevirtual 21, 3) := by decide +kernel
theorem i_Wi_pairAt_15 : mj_Snd zG ("StreamWatch$Wire", "pairAt", c_Wi_pairAt, 2) 15 (x_ior) 16 := mj_ior (by decide +kernel)
theorem d_Wi_pairAt_16 : decode c_Wi_pairAt 16 = .ok (.ireturn, 1) := by decide +kernel
theorem b_Wi_pairAt_0 : mj_Ch zG ("StreamWatch$Wire", "pairAt", c_Wi_pairAt, 2) 0 [x_aload 0, x_iload 1] 2 := ⟨_, i_Wi_pairAt_0, _, i_Wi_pairAt_1, rfl⟩
theorem b_Wi_pairAt_5 : mj_Ch zG ("StreamWatch$Wire", "pairAt", c_Wi_pairAt, 2) 5 [x_const 8, x_ishl, x_aload 0, x_iload 1, x_const 1, x_iadd] 12 := ⟨_, i_Wi_pairAt_5, _, i_Wi_pairAt_7, _, i_Wi_pairAt_8, _, i_Wi_pairAt_9, _, i_Wi_pairAt_10, _, i_Wi_pairAt_11, rfl⟩
theorem b_Wi_pairAt_15 : mj_Ch zG ("StreamWatch$Wire", "pairAt", c_Wi_pairAt, 2) 15 [x_ior] 16 := ⟨_, i_Wi_pairAt_15, rfl⟩
theorem i_Wi_quadAt_0 : mj_Snd zG ("StreamWatch$Wire", "quadAt", c_Wi_quadAt, 2) 0 (x_aload 0) 1 := mj_aload_n (j := 0) rfl (by decide +kernel)
theorem i_Wi_quadAt_1 : mj_Snd zG ("StreamWatch$Wire", "quadAt", c_Wi_quadAt, 2) 1 (x_iload 1) 2 := mj_iload_n (j := 1) rfl (by decide +kernel)
theorem d_Wi_quadAt_2 : decode c_Wi_quadAt 2 = .ok (.invokevirtual 36, 3) := by decide +kernel
theorem i_Wi_quadAt_5 : mj_Snd zG ("StreamWatch$Wire", "quadAt", c_Wi_quadAt, 2) 5 (x_const 16) 7 := mj_bipush (n := 16) (by decide) (by decide +kernel)
theorem i_Wi_quadAt_7 : mj_Snd zG ("StreamWatch$Wire", "quadAt", c_Wi_quadAt, 2) 7 (x_ishl) 8 := mj_ishl (by decide +kernel)
theorem i_Wi_quadAt_8 : mj_Snd zG ("StreamWatch$Wire", "quadAt", c_Wi_quadAt, 2) 8 (x_aload 0) 9 := mj_aload_n (j := 0) rfl (by decide +kernel)
theorem i_Wi_quadAt_9 : mj_Snd zG ("StreamWatch$Wire", "quadAt", c_Wi_quadAt, 2) 9 (x_iload 1) 10 := mj_iload_n (j := 1) rfl (by decide +kernel)
theorem i_Wi_quadAt_10 : mj_Snd zG ("StreamWatch$Wire", "quadAt", c_Wi_quadAt, 2) 10 (x_const 2) 11 := mj_const (n := 2) (by decide) (by decide +kernel)
theorem i_Wi_quadAt_11 : mj_Snd zG ("StreamWatch$Wire", "quadAt", c_Wi_quadAt, 2) 11 (x_iadd) 12 := mj_iadd (by decide +kernel)
theorem d_Wi_quadAt_12 : decode c_Wi_quadAt 12 = .ok (.invokevirtual 36, 3) := by decide +kernel
theorem i_Wi_quadAt_15 : mj_Snd zG ("StreamWatch$Wire", "quadAt", c_Wi_quadAt, 2) 15 (x_ior) 16 := mj_ior (by decide +kernel)
theorem d_Wi_quadAt_16 : decode c_Wi_quadAt 16 = .ok (.ireturn, 1) := by decide +kernel
theorem b_Wi_quadAt_0 : mj_Ch zG ("StreamWatch$Wire", "quadAt", c_Wi_quadAt, 2) 0 [x_aload 0, x_iload 1] 2 := ⟨_, i_Wi_quadAt_0, _, i_Wi_quadAt_1, rfl⟩
theorem b_Wi_quadAt_5 : mj_Ch zG ("StreamWatch$Wire", "quadAt", c_Wi_quadAt, 2) 5 [x_const 16, x_ishl, x_aload 0, x_iload 1, x_const 2, x_iadd] 12 := ⟨_, i_Wi_quadAt_5, _, i_Wi_quadAt_7, _, i_Wi_quadAt_8, _, i_Wi_quadAt_9, _, i_Wi_quadAt_10, _, i_Wi_quadAt_11, rfl⟩
theorem b_Wi_quadAt_15 : mj_Ch zG ("StreamWatch$Wire", "quadAt", c_Wi_quadAt, 2) 15 [x_ior] 16 := ⟨_, i_Wi_quadAt_15, rfl⟩
theorem i_Wi_tcpWords_0 : mj_Snd zG ("StreamWatch$Wire", "tcpWords", c_Wi_tcpWords, 1) 0 (x_aload 0) 1 := mj_aload_n (j := 0) rfl (by decide +kernel)
theorem i_Wi_tcpWords_1 : mj_Snd zG ("StreamWatch$Wire", "tcpWords", c_Wi_tcpWords, 1) 1 (x_aload 0) 2 := mj_aload_n (j := 0) rfl (by decide +kernel)
theorem d_Wi_tcpWords_2 : decode c_Wi_tcpWords 2 = .ok (.invokevirtual 29, 3) := by decide +kernel
theorem i_Wi_tcpWords_5 : mj_Snd zG ("StreamWatch$Wire", "tcpWords", c_Wi_tcpWords, 1) 5 (x_const 12) 7 := mj_bipush (n := 12) (by decide) (by decide +kernel)
theorem i_Wi_tcpWords_7 : mj_Snd zG ("StreamWatch$Wire", "tcpWords", c_Wi_tcpWords, 1) 7 (x_iadd) 8 := mj_iadd (by decide +kernel)
theorem d_Wi_tcpWords_8 : decode c_Wi_tcpWords 8 = .ok (.invokevirtual 21, 3) := by decide +kernel
theorem i_Wi_tcpWords_11 : mj_Snd zG ("StreamWatch$Wire", "tcpWords", c_Wi_tcpWords, 1) 11 (x_const 4) 12 := mj_const (n := 4) (by decide) (by decide +kernel)
theorem i_Wi_tcpWords_12 : mj_Snd zG ("StreamWatch$Wire", "tcpWords", c_Wi_tcpWords, 1) 12 (x_ishr) 13 := mj_ishr (by decide +kernel)
theorem d_Wi_tcpWords_13 : decode c_Wi_tcpWords 13 = .ok (.ireturn, 1) := by decide +kernel
theorem b_Wi_tcpWords_0 : mj_Ch zG ("StreamWatch$Wire", "tcpWords", c_Wi_tcpWords, 1) 0 [x_aload 0, x_aload 0] 2 := ⟨_, i_Wi_tcpWords_0, _, i_Wi_tcpWords_1, rfl⟩
theorem b_Wi_tcpWords_5 : mj_Ch zG ("StreamWatch$Wire", "tcpWords", c_Wi_tcpWords, 1) 5 [x_const 12, x_iadd] 8 := ⟨_, i_Wi_tcpWords_5, _, i_Wi_tcpWords_7, rfl⟩
theorem b_Wi_tcpWords_11 : mj_Ch zG ("StreamWatch$Wire", "tcpWords", c_Wi_tcpWords, 1) 11 [x_const 4, x_ishr] 13 := ⟨_, i_Wi_tcpWords_11, _, i_Wi_tcpWords_12, rfl⟩
theorem i_Wi_ipSum_0 : mj_Snd zG ("StreamWatch$Wire", "ipSum", c_Wi_ipSum, 1) 0 (x_aload 0) 1 := mj_aload_n (j := 0) rfl (by decide +kernel)
theorem i_Wi_ipSum_1 : mj_Snd zG ("StreamWatch$Wire", "ipSum", c_Wi_ipSum, 1) 1 (x_const 0) 2 := mj_const (n := 0) (by decide) (by decide +kernel)
theorem i_Wi_ipSum_2 : mj_Snd zG ("StreamWatch$Wire", "ipSum", c_Wi_ipSum, 1) 2 (x_aload 0) 3 := mj_aload_n (j := 0) rfl (by decide +kernel)
theorem d_Wi_ipSum_3 : decode c_Wi_ipSum 3 = .ok (.invokevirtual 29, 3) := by decide +kernel
theorem i_Wi_ipSum_6 : mj_Snd zG ("StreamWatch$Wire", "ipSum", c_Wi_ipSum, 1) 6 (x_const 0) 7 := mj_const (n := 0) (by decide) (by decide +kernel)
theorem d_Wi_ipSum_7 : decode c_Wi_ipSum 7 = .ok (.invokevirtual 52, 3) := by decide +kernel
theorem d_Wi_ipSum_10 : decode c_Wi_ipSum 10 = .ok (.ireturn, 1) := by decide +kernel
theorem b_Wi_ipSum_0 : mj_Ch zG ("StreamWatch$Wire", "ipSum", c_Wi_ipSum, 1) 0 [x_aload 0, x_const 0, x_aload 0] 3 := ⟨_, i_Wi_ipSum_0, _, i_Wi_ipSum_1, _, i_Wi_ipSum_2, rfl⟩
theorem b_Wi_ipSum_6 : mj_Ch zG ("StreamWatch$Wire", "ipSum", c_Wi_ipSum, 1) 6 [x_const 0] 7 := ⟨_, i_Wi_ipSum_6, rfl⟩
theorem i_Wi_tcpSum_0 : mj_Snd zG ("StreamWatch$Wire", "tcpSum", c_Wi_tcpSum, 2) 0 (x_aload 0) 1 := mj_aload_n (j := 0) rfl (by decide +kernel)
theorem i_Wi_tcpSum_1 : mj_Snd zG ("StreamWatch$Wire", "tcpSum", c_Wi_tcpSum, 2) 1 (x_const 12) 3 := mj_bipush (n := 12) (by decide) (by decide +kernel)
theorem i_Wi_tcpSum_3 : mj_Snd zG ("StreamWatch$Wire", "tcpSum", c_Wi_tcpSum, 2) 3 (x_const 20) 5 := mj_bipush (n := 20) (by decide) (by decide +kernel)
theorem i_Wi_tcpSum_5 : mj_Snd zG ("StreamWatch$Wire", "tcpSum", c_Wi_tcpSum, 2) 5 (x_const 0) 6 := mj_const (n := 0) (by decide) (by decide +kernel)
theorem d_Wi_tcpSum_6 : decode c_Wi_tcpSum 6 = .ok (.invokevirtual 52, 3) := by decide +kernel
theorem i_Wi_tcpSum_9 : mj_Snd zG ("StreamWatch$Wire", "tcpSum", c_Wi_tcpSum, 2) 9 (x_istore 1) 10 := mj_istore_n (j := 1) rfl (by decide) (by decide +kernel)
theorem i_Wi_tcpSum_10 : mj_Snd zG ("StreamWatch$Wire", "tcpSum", c_Wi_tcpSum, 2) 10 (x_iload 1) 11 := mj_iload_n (j := 1) rfl (by decide +kernel)
theorem i_Wi_tcpSum_11 : mj_Snd zG ("StreamWatch$Wire", "tcpSum", c_Wi_tcpSum, 2) 11 (x_const 6) 13 := mj_bipush (n := 6) (by decide) (by decide +kernel)
theorem d_Wi_tcpSum_13 : decode c_Wi_tcpSum 13 = .ok (.invokestatic 56, 3) := by decide +kernel
theorem i_Wi_tcpSum_16 : mj_Snd zG ("StreamWatch$Wire", "tcpSum", c_Wi_tcpSum, 2) 16 (x_istore 1) 17 := mj_istore_n (j := 1) rfl (by decide) (by decide +kernel)
theorem i_Wi_tcpSum_17 : mj_Snd zG ("StreamWatch$Wire", "tcpSum", c_Wi_tcpSum, 2) 17 (x_iload 1) 18 := mj_iload_n (j := 1) rfl (by decide +kernel)
theorem i_Wi_tcpSum_18 : mj_Snd zG ("StreamWatch$Wire", "tcpSum", c_Wi_tcpSum, 2) 18 (x_aload 0) 19 := mj_aload_n (j := 0) rfl (by decide +kernel)
theorem d_Wi_tcpSum_19 : decode c_Wi_tcpSum 19 = .ok (.invokevirtual 25, 3) := by decide +kernel
theorem i_Wi_tcpSum_22 : mj_Snd zG ("StreamWatch$Wire", "tcpSum", c_Wi_tcpSum, 2) 22 (x_aload 0) 23 := mj_aload_n (j := 0) rfl (by decide +kernel)
theorem d_Wi_tcpSum_23 : decode c_Wi_tcpSum 23 = .ok (.invokevirtual 29, 3) := by decide +kernel
theorem i_Wi_tcpSum_26 : mj_Snd zG ("StreamWatch$Wire", "tcpSum", c_Wi_tcpSum, 2) 26 (x_isub) 27 := mj_isub (by decide +kernel)
theorem d_Wi_tcpSum_27 : decode c_Wi_tcpSum 27 = .ok (.invokestatic 56, 3) := by decide +kernel
theorem i_Wi_tcpSum_30 : mj_Snd zG ("StreamWatch$Wire", "tcpSum", c_Wi_tcpSum, 2) 30 (x_istore 1) 31 := mj_istore_n (j := 1) rfl (by decide) (by decide +kernel)
theorem i_Wi_tcpSum_31 : mj_Snd zG ("StreamWatch$Wire", "tcpSum", c_Wi_tcpSum, 2) 31 (x_aload 0) 32 := mj_aload_n (j := 0) rfl (by decide +kernel)
theorem i_Wi_tcpSum_32 : mj_Snd zG ("StreamWatch$Wire", "tcpSum", c_Wi_tcpSum, 2) 32 (x_aload 0) 33 := mj_aload_n (j := 0) rfl (by decide +kernel)
theorem d_Wi_tcpSum_33 : decode c_Wi_tcpSum 33 = .ok (.invokevirtual 29, 3) := by decide +kernel
theorem i_Wi_tcpSum_36 : mj_Snd zG ("StreamWatch$Wire", "tcpSum", c_Wi_tcpSum, 2) 36 (x_aload 0) 37 := mj_aload_n (j := 0) rfl (by decide +kernel)
theorem d_Wi_tcpSum_37 : decode c_Wi_tcpSum 37 = .ok (.invokevirtual 25, 3) := by decide +kernel
theorem i_Wi_tcpSum_40 : mj_Snd zG ("StreamWatch$Wire", "tcpSum", c_Wi_tcpSum, 2) 40 (x_iload 1) 41 := mj_iload_n (j := 1) rfl (by decide +kernel)
theorem d_Wi_tcpSum_41 : decode c_Wi_tcpSum 41 = .ok (.invokevirtual 52, 3) := by decide +kernel
theorem d_Wi_tcpSum_44 : decode c_Wi_tcpSum 44 = .ok (.ireturn, 1) := by decide +kernel
theorem b_Wi_tcpSum_0 : mj_Ch zG ("StreamWatch$Wire", "tcpSum", c_Wi_tcpSum, 2) 0 [x_aload 0, x_const 12, x_const 20, x_const 0] 6 := ⟨_, i_Wi_tcpSum_0, _, i_Wi_tcpSum_1, _, i_Wi_tcpSum_3, _, i_Wi_tcpSum_5, rfl⟩
theorem b_Wi_tcpSum_9 : mj_Ch zG ("StreamWatch$Wire", "tcpSum", c_Wi_tcpSum, 2) 9 [x_istore 1, x_iload 1, x_const 6] 13 := ⟨_, i_Wi_tcpSum_9, _, i_Wi_tcpSum_10, _, i_Wi_tcpSum_11, rfl⟩
theorem b_Wi_tcpSum_16 : mj_Ch zG ("StreamWatch$Wire", "tcpSum", c_Wi_tcpSum, 2) 16 [x_istore 1, x_iload 1, x_aload 0] 19 := ⟨_, i_Wi_tcpSum_16, _, i_Wi_tcpSum_17, _, i_Wi_tcpSum_18, rfl⟩
theorem b_Wi_tcpSum_22 : mj_Ch zG ("StreamWatch$Wire", "tcpSum", c_Wi_tcpSum, 2) 22 [x_aload 0] 23 := ⟨_, i_Wi_tcpSum_22, rfl⟩
theorem b_Wi_tcpSum_26 : mj_Ch zG ("StreamWatch$Wire", "tcpSum", c_Wi_tcpSum, 2) 26 [x_isub] 27 := ⟨_, i_Wi_tcpSum_26, rfl⟩
theorem b_Wi_tcpSum_30 : mj_Ch zG ("StreamWatch$Wire", "tcpSum", c_Wi_tcpSum, 2) 30 [x_istore 1, x_aload 0, x_aload 0] 33 := ⟨_, i_Wi_tcpSum_30, _, i_Wi_tcpSum_31, _, i_Wi_tcpSum_32, rfl⟩
theorem b_Wi_tcpSum_36 : mj_Ch zG ("StreamWatch$Wire", "tcpSum", c_Wi_tcpSum, 2) 36 [x_aload 0] 37 := ⟨_, i_Wi_tcpSum_36, rfl⟩
theorem b_Wi_tcpSum_40 : mj_Ch zG ("StreamWatch$Wire", "tcpSum", c_Wi_tcpSum, 2) 40 [x_iload 1] 41 := ⟨_, i_Wi_tcpSum_40, rfl⟩
theorem i_Wi_sumOf_0 : mj_Snd zG ("StreamWatch$Wire", "sumOf", c_Wi_sumOf, 7) 0 (x_iload 3) 1 := mj_iload_n (j := 3) rfl (by decide +kernel)
theorem i_Wi_sumOf_1 : mj_Snd zG ("StreamWatch$Wire", "sumOf", c_Wi_sumOf, 7) 1 (x_istore 4) 3 := mj_istore (by decide) (by decide +kernel)
theorem i_Wi_sumOf_3 : mj_Snd zG ("StreamWatch$Wire", "sumOf", c_Wi_sumOf, 7) 3 (x_iload 1) 4 := mj_iload_n (j := 1) rfl (by decide +kernel)
theorem i_Wi_sumOf_4 : mj_Snd zG ("StreamWatch$Wire", "sumOf", c_Wi_sumOf, 7) 4 (x_istore 5) 6 := mj_istore (by decide) (by decide +kernel)
theorem i_Wi_sumOf_6 : mj_Snd zG ("StreamWatch$Wire", "sumOf", c_Wi_sumOf, 7) 6 (x_iload 5) 8 := mj_iload (by decide +kernel)
theorem i_Wi_sumOf_8 : mj_Snd zG ("StreamWatch$Wire", "sumOf", c_Wi_sumOf, 7) 8 (x_iload 2) 9 := mj_iload_n (j := 2) rfl (by decide +kernel)
theorem d_Wi_sumOf_9 : decode c_Wi_sumOf 9 = .ok (.if_icmp .ge 50, 3) := by decide +kernel
theorem i_Wi_sumOf_12 : mj_Snd zG ("StreamWatch$Wire", "sumOf", c_Wi_sumOf, 7) 12 (x_iload 5) 14 := mj_iload (by decide +kernel)
theorem i_Wi_sumOf_14 : mj_Snd zG ("StreamWatch$Wire", "sumOf", c_Wi_sumOf, 7) 14 (x_const 1) 15 := mj_const (n := 1) (by decide) (by decide +kernel)
theorem i_Wi_sumOf_15 : mj_Snd zG ("StreamWatch$Wire", "sumOf", c_Wi_sumOf, 7) 15 (x_iadd) 16 := mj_iadd (by decide +kernel)
theorem i_Wi_sumOf_16 : mj_Snd zG ("StreamWatch$Wire", "sumOf", c_Wi_sumOf, 7) 16 (x_iload 2) 17 := mj_iload_n (j := 2) rfl (by decide +kernel)
theorem d_Wi_sumOf_17 : decode c_Wi_sumOf 17 = .ok (.if_icmp .ge 14, 3) := by decide +kernel
theorem i_Wi_sumOf_20 : mj_Snd zG ("StreamWatch$Wire", "sumOf", c_Wi_sumOf, 7) 20 (x_aload 0) 21 := mj_aload_n (j := 0) rfl (by decide +kernel)
theorem i_Wi_sumOf_21 : mj_Snd zG ("StreamWatch$Wire", "sumOf", c_Wi_sumOf, 7) 21 (x_iload 5) 23 := mj_iload (by decide +kernel)
theorem i_Wi_sumOf_23 : mj_Snd zG ("StreamWatch$Wire", "sumOf", c_Wi_sumOf, 7) 23 (x_const 1) 24 := mj_const (n := 1) (by decide) (by decide +kernel)
theorem i_Wi_sumOf_24 : mj_Snd zG ("StreamWatch$Wire", "sumOf", c_Wi_sumOf, 7) 24 (x_iadd) 25 := mj_iadd (by decide +kernel)
theorem d_Wi_sumOf_25 : decode c_Wi_sumOf 25 = .ok (.invokevirtual 21, 3) := by decide +kernel
theorem i_Wi_sumOf_28 : mj_Snd zG ("StreamWatch$Wire", "sumOf", c_Wi_sumOf, 7) 28 (x_skip) 32 := mj_goto (off := 4) (by decide) (by decide +kernel)
theorem i_Wi_sumOf_31 : mj_Snd zG ("StreamWatch$Wire", "sumOf", c_Wi_sumOf, 7) 31 (x_const 0) 32 := mj_const (n := 0) (by decide) (by decide +kernel)
theorem i_Wi_sumOf_32 : mj_Snd zG ("StreamWatch$Wire", "sumOf", c_Wi_sumOf, 7) 32 (x_istore 6) 34 := mj_istore (by decide) (by decide +kernel)
theorem i_Wi_sumOf_34 : mj_Snd zG ("StreamWatch$Wire", "sumOf", c_Wi_sumOf, 7) 34 (x_iload 4) 36 := mj_iload (by decide +kernel)
theorem i_Wi_sumOf_36 : mj_Snd zG ("StreamWatch$Wire", "sumOf", c_Wi_sumOf, 7) 36 (x_aload 0) 37 := mj_aload_n (j := 0) rfl (by decide +kernel)
theorem i_Wi_sumOf_37 : mj_Snd zG ("StreamWatch$Wire", "sumOf", c_Wi_sumOf, 7) 37 (x_iload 5) 39 := mj_iload (by decide +kernel)
theorem d_Wi_sumOf_39 : decode c_Wi_sumOf 39 = .ok (.invokevirtual 21, 3) := by decide +kernel
theorem i_Wi_sumOf_42 : mj_Snd zG ("StreamWatch$Wire", "sumOf", c_Wi_sumOf, 7) 42 (x_const 8) 44 := mj_bipush (n := 8) (by decide) (by decide +kernel)
theorem i_Wi_sumOf_44 : mj_Snd zG ("StreamWatch$Wire", "sumOf", c_Wi_sumOf, 7) 44 (x_ishl) 45 := mj_ishl (by decide +kernel)
theorem i_Wi_sumOf_45 : mj_Snd zG ("StreamWatch$Wire", "sumOf", c_Wi_sumOf, 7) 45 (x_iload 6) 47 := mj_iload (by decide +kernel)
theorem i_Wi_sumOf_47 : mj_Snd zG ("StreamWatch$Wire", "sumOf", c_Wi_sumOf, 7) 47 (x_ior) 48 := mj_ior (by decide +kernel)
theorem d_Wi_sumOf_48 : decode c_Wi_sumOf 48 = .ok (.invokestatic 56, 3) := by decide +kernel
theorem i_Wi_sumOf_51 : mj_Snd zG ("StreamWatch$Wire", "sumOf", c_Wi_sumOf, 7) 51 (x_istore 4) 53 := mj_istore (by decide) (by decide +kernel)
theorem i_Wi_sumOf_53 : mj_Snd zG ("StreamWatch$Wire", "sumOf", c_Wi_sumOf, 7) 53 (x_iinc 5 2) 56 := mj_iinc (n := 2) (by decide) (by decide) (by decide +kernel)
theorem i_Wi_sumOf_56 : mj_Snd zG ("StreamWatch$Wire", "sumOf", c_Wi_sumOf, 7) 56 (x_skip) 6 := mj_goto (off := (-50)) (by decide) (by decide +kernel)
theorem i_Wi_sumOf_59 : mj_Snd zG ("StreamWatch$Wire", "sumOf", c_Wi_sumOf, 7) 59 (x_iload 4) 61 := mj_iload (by decide +kernel)
theorem d_Wi_sumOf_61 : decode c_Wi_sumOf 61 = .ok (.ireturn, 1) := by decide +kernel
theorem b_Wi_sumOf_0 : mj_Ch zG ("StreamWatch$Wire", "sumOf", c_Wi_sumOf, 7) 0 [x_iload 3, x_istore 4, x_iload 1, x_istore 5] 6 := ⟨_, i_Wi_sumOf_0, _, i_Wi_sumOf_1, _, i_Wi_sumOf_3, _, i_Wi_sumOf_4, rfl⟩
theorem b_Wi_sumOf_6 : mj_Ch zG ("StreamWatch$Wire", "sumOf", c_Wi_sumOf, 7) 6 [x_iload 5, x_iload 2] 9 := ⟨_, i_Wi_sumOf_6, _, i_Wi_sumOf_8, rfl⟩
theorem b_Wi_sumOf_12 : mj_Ch zG ("StreamWatch$Wire", "sumOf", c_Wi_sumOf, 7) 12 [x_iload 5, x_const 1, x_iadd, x_iload 2] 17 := ⟨_, i_Wi_sumOf_12, _, i_Wi_sumOf_14, _, i_Wi_sumOf_15, _, i_Wi_sumOf_16, rfl⟩
theorem b_Wi_sumOf_20 : mj_Ch zG ("StreamWatch$Wire", "sumOf", c_Wi_sumOf, 7) 20 [x_aload 0, x_iload 5, x_const 1, x_iadd] 25 := ⟨_, i_Wi_sumOf_20, _, i_Wi_sumOf_21, _, i_Wi_sumOf_23, _, i_Wi_sumOf_24, rfl⟩
theorem b_Wi_sumOf_28 : mj_Ch zG ("StreamWatch$Wire", "sumOf", c_Wi_sumOf, 7) 28 [x_skip] 32 := ⟨_, i_Wi_sumOf_28, rfl⟩
theorem b_Wi_sumOf_31 : mj_Ch zG ("StreamWatch$Wire", "sumOf", c_Wi_sumOf, 7) 31 [x_const 0] 32 := ⟨_, i_Wi_sumOf_31, rfl⟩
theorem b_Wi_sumOf_32 : mj_Ch zG ("StreamWatch$Wire", "sumOf", c_Wi_sumOf, 7) 32 [x_istore 6, x_iload 4, x_aload 0, x_iload 5] 39 := ⟨_, i_Wi_sumOf_32, _, i_Wi_sumOf_34, _, i_Wi_sumOf_36, _, i_Wi_sumOf_37, rfl⟩
theorem b_Wi_sumOf_42 : mj_Ch zG ("StreamWatch$Wire", "sumOf", c_Wi_sumOf, 7) 42 [x_const 8, x_ishl, x_iload 6, x_ior] 48 := ⟨_, i_Wi_sumOf_42, _, i_Wi_sumOf_44, _, i_Wi_sumOf_45, _, i_Wi_sumOf_47, rfl⟩
theorem b_Wi_sumOf_51 : mj_Ch zG ("StreamWatch$Wire", "sumOf", c_Wi_sumOf, 7) 51 [x_istore 4, x_iinc 5 2, x_skip] 6 := ⟨_, i_Wi_sumOf_51, _, i_Wi_sumOf_53, _, i_Wi_sumOf_56, rfl⟩
theorem b_Wi_sumOf_59 : mj_Ch zG ("StreamWatch$Wire", "sumOf", c_Wi_sumOf, 7) 59 [x_iload 4] 61 := ⟨_, i_Wi_sumOf_59, rfl⟩
theorem i_Wi_addToSum_0 : mj_Snd zG ("StreamWatch$Wire", "addToSum", c_Wi_addToSum, 3) 0 (x_iload 0) 1 := mj_iload_n (j := 0) rfl (by decide +kernel)
theorem i_Wi_addToSum_1 : mj_Snd zG ("StreamWatch$Wire", "addToSum", c_Wi_addToSum, 3) 1 (x_iload 1) 2 := mj_iload_n (j := 1) rfl (by decide +kernel)
theorem i_Wi_addToSum_2 : mj_Snd zG ("StreamWatch$Wire", "addToSum", c_Wi_addToSum, 3) 2 (x_iadd) 3 := mj_iadd (by decide +kernel)
theorem i_Wi_addToSum_3 : mj_Snd zG ("StreamWatch$Wire", "addToSum", c_Wi_addToSum, 3) 3 (x_istore 2) 4 := mj_istore_n (j := 2) rfl (by decide) (by decide +kernel)
theorem i_Wi_addToSum_4 : mj_Snd zG ("StreamWatch$Wire", "addToSum", c_Wi_addToSum, 3) 4 (x_iload 2) 5 := mj_iload_n (j := 2) rfl (by decide +kernel)
theorem i_Wi_addToSum_5 : mj_Snd zG ("StreamWatch$Wire", "addToSum", c_Wi_addToSum, 3) 5 (x_const 65535) 7 := mj_ldc z2_60 (by decide +kernel)
theorem i_Wi_addToSum_7 : mj_Snd zG ("StreamWatch$Wire", "addToSum", c_Wi_addToSum, 3) 7 (x_iand) 8 := mj_iand (by decide +kernel)
theorem i_Wi_addToSum_8 : mj_Snd zG ("StreamWatch$Wire", "addToSum", c_Wi_addToSum, 3) 8 (x_iload 2) 9 := mj_iload_n (j := 2) rfl (by decide +kernel)
theorem i_Wi_addToSum_9 : mj_Snd zG ("StreamWatch$Wire", "addToSum", c_Wi_addToSum, 3) 9 (x_const 16) 11 := mj_bipush (n := 16) (by decide) (by decide +kernel)
theorem i_Wi_addToSum_11 : mj_Snd zG ("StreamWatch$Wire", "addToSum", c_Wi_addToSum, 3) 11 (x_iushr) 12 := mj_iushr (by decide +kernel)
theorem i_Wi_addToSum_12 : mj_Snd zG ("StreamWatch$Wire", "addToSum", c_Wi_addToSum, 3) 12 (x_iadd) 13 := mj_iadd (by decide +kernel)
theorem d_Wi_addToSum_13 : decode c_Wi_addToSum 13 = .ok (.ireturn, 1) := by decide +kernel
theorem b_Wi_addToSum_0 : mj_Ch zG ("StreamWatch$Wire", "addToSum", c_Wi_addToSum, 3) 0 [x_iload 0, x_iload 1, x_iadd, x_istore 2, x_iload 2, x_const 65535, x_iand, x_iload 2, x_const 16, x_iushr, x_iadd] 13 := ⟨_, i_Wi_addToSum_0, _, i_Wi_addToSum_1, _, i_Wi_addToSum_2, _, i_Wi_addToSum_3, _, i_Wi_addToSum_4, _, i_Wi_addToSum_5, _, i_Wi_addToSum_7, _, i_Wi_addToSum_8, _, i_Wi_addToSum_9, _, i_Wi_addToSum_11, _, i_Wi_addToSum_12, rfl⟩
theorem i_Wi_setPair_0 : mj_Snd zG ("StreamWatch$Wire", "setPair", c_Wi_setPair, 3) 0 (x_aload 0) 1 := mj_aload_n (j := 0) rfl (by decide +kernel)
theorem i_Wi_setPair_1 : mj_Snd zG ("StreamWatch$Wire", "setPair", c_Wi_setPair, 3) 1 (x_iload 1) 2 := mj_iload_n (j := 1) rfl (by decide +kernel)
theorem d_Wi_setPair_2 : decode c_Wi_setPair 2 = .ok (.invokevirtual 17, 3) := by decide +kernel
theorem d_Wi_setPair_5 : decode c_Wi_setPair 5 = .ok (.ifCond .eq 40, 3) := by decide +kernel
theorem i_Wi_setPair_8 : mj_Snd zG ("StreamWatch$Wire", "setPair", c_Wi_setPair, 3) 8 (x_aload 0) 9 := mj_aload_n (j := 0) rfl (by decide +kernel)
theorem i_Wi_setPair_9 : mj_Snd zG ("StreamWatch$Wire", "setPair", c_Wi_setPair, 3) 9 (x_iload 1) 10 := mj_iload_n (j := 1) rfl (by decide +kernel)
theorem i_Wi_setPair_10 : mj_Snd zG ("StreamWatch$Wire", "setPair", c_Wi_setPair, 3) 10 (x_const 1) 11 := mj_const (n := 1) (by decide) (by decide +kernel)
theorem i_Wi_setPair_11 : mj_Snd zG ("StreamWatch$Wire", "setPair", c_Wi_setPair, 3) 11 (x_iadd) 12 := mj_iadd (by decide +kernel)
theorem d_Wi_setPair_12 : decode c_Wi_setPair 12 = .ok (.invokevirtual 17, 3) := by decide +kernel
theorem d_Wi_setPair_15 : decode c_Wi_setPair 15 = .ok (.ifCond .eq 30, 3) := by decide +kernel
theorem i_Wi_setPair_18 : mj_Snd zG ("StreamWatch$Wire", "setPair", c_Wi_setPair, 3) 18 (x_aload 0) 19 := mj_aload_n (j := 0) rfl (by decide +kernel)
theorem i_Wi_setPair_19 : mj_Snd zG ("StreamWatch$Wire", "setPair", c_Wi_setPair, 3) 19 (x_getf 9 0) 22 := mj_getf (T := T_Wi) rfl (by decide) u_Wi z1_33 (by decide +kernel)
theorem i_Wi_setPair_22 : mj_Snd zG ("StreamWatch$Wire", "setPair", c_Wi_setPair, 3) 22 (x_iload 1) 23 := mj_iload_n (j := 1) rfl (by decide +kernel)
theorem i_Wi_setPair_23 : mj_Snd zG ("StreamWatch$Wire", "setPair", c_Wi_setPair, 3) 23 (x_iload 2) 24 := mj_iload_n (j := 2) rfl (by decide +kernel)
theorem i_Wi_setPair_24 : mj_Snd zG ("StreamWatch$Wire", "setPair", c_Wi_setPair, 3) 24 (x_const 8) 26 := mj_bipush (n := 8) (by decide) (by decide +kernel)
theorem i_Wi_setPair_26 : mj_Snd zG ("StreamWatch$Wire", "setPair", c_Wi_setPair, 3) 26 (x_ishr) 27 := mj_ishr (by decide +kernel)
theorem i_Wi_setPair_27 : mj_Snd zG ("StreamWatch$Wire", "setPair", c_Wi_setPair, 3) 27 (x_const 255) 30 := mj_sipush (n := 255) (by decide) (by decide +kernel)
theorem i_Wi_setPair_30 : mj_Snd zG ("StreamWatch$Wire", "setPair", c_Wi_setPair, 3) 30 (x_iand) 31 := mj_iand (by decide +kernel)
theorem i_Wi_setPair_31 : mj_Snd zG ("StreamWatch$Wire", "setPair", c_Wi_setPair, 3) 31 (x_iast 0) 32 := mj_iast rfl (by decide +kernel)
theorem i_Wi_setPair_32 : mj_Snd zG ("StreamWatch$Wire", "setPair", c_Wi_setPair, 3) 32 (x_aload 0) 33 := mj_aload_n (j := 0) rfl (by decide +kernel)
theorem i_Wi_setPair_33 : mj_Snd zG ("StreamWatch$Wire", "setPair", c_Wi_setPair, 3) 33 (x_getf 9 0) 36 := mj_getf (T := T_Wi) rfl (by decide) u_Wi z1_33 (by decide +kernel)
theorem i_Wi_setPair_36 : mj_Snd zG ("StreamWatch$Wire", "setPair", c_Wi_setPair, 3) 36 (x_iload 1) 37 := mj_iload_n (j := 1) rfl (by decide +kernel)
theorem i_Wi_setPair_37 : mj_Snd zG ("StreamWatch$Wire", "setPair", c_Wi_setPair, 3) 37 (x_const 1) 38 := mj_const (n := 1) (by decide) (by decide +kernel)
theorem i_Wi_setPair_38 : mj_Snd zG ("StreamWatch$Wire", "setPair", c_Wi_setPair, 3) 38 (x_iadd) 39 := mj_iadd (by decide +kernel)
theorem i_Wi_setPair_39 : mj_Snd zG ("StreamWatch$Wire", "setPair", c_Wi_setPair, 3) 39 (x_iload 2) 40 := mj_iload_n (j := 2) rfl (by decide +kernel)
theorem i_Wi_setPair_40 : mj_Snd zG ("StreamWatch$Wire", "setPair", c_Wi_setPair, 3) 40 (x_const 255) 43 := mj_sipush (n := 255) (by decide) (by decide +kernel)
theorem i_Wi_setPair_43 : mj_Snd zG ("StreamWatch$Wire", "setPair", c_Wi_setPair, 3) 43 (x_iand) 44 := mj_iand (by decide +kernel)
theorem i_Wi_setPair_44 : mj_Snd zG ("StreamWatch$Wire", "setPair", c_Wi_setPair, 3) 44 (x_iast 0) 45 := mj_iast rfl (by decide +kernel)
theorem d_Wi_setPair_45 : decode c_Wi_setPair 45 = .ok (.return_, 1) := by decide +kernel
theorem b_Wi_setPair_0 : mj_Ch zG ("StreamWatch$Wire", "setPair", c_Wi_setPair, 3) 0 [x_aload 0, x_iload 1] 2 := ⟨_, i_Wi_setPair_0, _, i_Wi_setPair_1, rfl⟩
theorem b_Wi_setPair_8 : mj_Ch zG ("StreamWatch$Wire", "setPair", c_Wi_setPair, 3) 8 [x_aload 0, x_iload 1, x_const 1, x_iadd] 12 := ⟨_, i_Wi_setPair_8, _, i_Wi_setPair_9, _, i_Wi_setPair_10, _, i_Wi_setPair_11, rfl⟩
theorem b_Wi_setPair_18 : mj_Ch zG ("StreamWatch$Wire", "setPair", c_Wi_setPair, 3) 18 [x_aload 0, x_getf 9 0, x_iload 1, x_iload 2, x_const 8, x_ishr, x_const 255, x_iand, x_iast 0, x_aload 0, x_getf 9 0, x_iload 1, x_const 1, x_iadd, x_iload 2, x_const 255, x_iand, x_iast 0] 45 := ⟨_, i_Wi_setPair_18, _, i_Wi_setPair_19, _, i_Wi_setPair_22, _, i_Wi_setPair_23, _, i_Wi_setPair_24, _, i_Wi_setPair_26, _, i_Wi_setPair_27, _, i_Wi_setPair_30, _, i_Wi_setPair_31, _, i_Wi_setPair_32, _, i_Wi_setPair_33, _, i_Wi_setPair_36, _, i_Wi_setPair_37, _, i_Wi_setPair_38, _, i_Wi_setPair_39, _, i_Wi_setPair_40, _, i_Wi_setPair_43, _, i_Wi_setPair_44, rfl⟩

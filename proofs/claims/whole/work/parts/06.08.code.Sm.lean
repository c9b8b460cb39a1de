theorem i_Sm_init_0 : mj_Snd zG ("StreamWatch$Stream", "<init>", c_Sm_init, 1) 0 (x_aload 0) 1 := mj_aload_n (j := 0) rfl (by decide +kernel)
theorem d_Sm_init_1 : decode c_Sm_init 1 = .ok (.invokespecial 3, 3) := by decide +kernel
theorem i_Sm_init_4 : mj_Snd zG ("StreamWatch$Stream", "<init>", c_Sm_init, 1) 4 (x_aload 0) 5 := mj_aload_n (j := 0) rfl (by decide +kernel)
theorem i_Sm_init_5 : mj_Snd zG ("StreamWatch$Stream", "<init>", c_Sm_init, 1) 5 (x_const 80) 7 := mj_bipush (n := 80) (by decide) (by decide +kernel)
theorem d_Sm_init_7 : decode c_Sm_init 7 = .ok (.newarray .int, 2) := by decide +kernel
theorem i_Sm_init_9 : mj_Snd zG ("StreamWatch$Stream", "<init>", c_Sm_init, 1) 9 (x_putf 8 0 3) 12 := mj_putG (T := T_Sm) (ty0 := t_Sm) rfl (by decide) u_Sm t_Sm_ok n_Sm z1_102 (Or.inr ⟨rfl, rfl, rfl⟩) (by decide +kernel)
theorem i_Sm_init_12 : mj_Snd zG ("StreamWatch$Stream", "<init>", c_Sm_init, 1) 12 (x_aload 0) 13 := mj_aload_n (j := 0) rfl (by decide +kernel)
theorem i_Sm_init_13 : mj_Snd zG ("StreamWatch$Stream", "<init>", c_Sm_init, 1) 13 (x_const 32) 15 := mj_bipush (n := 32) (by decide) (by decide +kernel)
theorem d_Sm_init_15 : decode c_Sm_init 15 = .ok (.newarray .int, 2) := by decide +kernel
theorem i_Sm_init_17 : mj_Snd zG ("StreamWatch$Stream", "<init>", c_Sm_init, 1) 17 (x_putf 8 1 3) 20 := mj_putG (T := T_Sm) (ty0 := t_Sm) rfl (by decide) u_Sm t_Sm_ok n_Sm z1_103 (Or.inr ⟨rfl, rfl, rfl⟩) (by decide +kernel)
theorem i_Sm_init_20 : mj_Snd zG ("StreamWatch$Stream", "<init>", c_Sm_init, 1) 20 (x_aload 0) 21 := mj_aload_n (j := 0) rfl (by decide +kernel)
theorem i_Sm_init_21 : mj_Snd zG ("StreamWatch$Stream", "<init>", c_Sm_init, 1) 21 (x_const 0) 22 := mj_const (n := 0) (by decide) (by decide +kernel)
theorem i_Sm_init_22 : mj_Snd zG ("StreamWatch$Stream", "<init>", c_Sm_init, 1) 22 (x_putf 8 2 0) 25 := mj_putG (T := T_Sm) (ty0 := t_Sm) rfl (by decide) u_Sm t_Sm_ok n_Sm z1_104 (Or.inl rfl) (by decide +kernel)
theorem i_Sm_init_25 : mj_Snd zG ("StreamWatch$Stream", "<init>", c_Sm_init, 1) 25 (x_aload 0) 26 := mj_aload_n (j := 0) rfl (by decide +kernel)
theorem i_Sm_init_26 : mj_Snd zG ("StreamWatch$Stream", "<init>", c_Sm_init, 1) 26 (x_const 0) 27 := mj_const (n := 0) (by decide) (by decide +kernel)
theorem i_Sm_init_27 : mj_Snd zG ("StreamWatch$Stream", "<init>", c_Sm_init, 1) 27 (x_putf 8 3 0) 30 := mj_putG (T := T_Sm) (ty0 := t_Sm) rfl (by decide) u_Sm t_Sm_ok n_Sm z1_105 (Or.inl rfl) (by decide +kernel)
theorem i_Sm_init_30 : mj_Snd zG ("StreamWatch$Stream", "<init>", c_Sm_init, 1) 30 (x_aload 0) 31 := mj_aload_n (j := 0) rfl (by decide +kernel)
theorem i_Sm_init_31 : mj_Snd zG ("StreamWatch$Stream", "<init>", c_Sm_init, 1) 31 (x_const 0) 32 := mj_const (n := 0) (by decide) (by decide +kernel)
theorem i_Sm_init_32 : mj_Snd zG ("StreamWatch$Stream", "<init>", c_Sm_init, 1) 32 (x_putf 8 4 0) 35 := mj_putG (T := T_Sm) (ty0 := t_Sm) rfl (by decide) u_Sm t_Sm_ok n_Sm z1_106 (Or.inl rfl) (by decide +kernel)
theorem i_Sm_init_35 : mj_Snd zG ("StreamWatch$Stream", "<init>", c_Sm_init, 1) 35 (x_aload 0) 36 := mj_aload_n (j := 0) rfl (by decide +kernel)
theorem i_Sm_init_36 : mj_Snd zG ("StreamWatch$Stream", "<init>", c_Sm_init, 1) 36 (x_const 0) 37 := mj_const (n := 0) (by decide) (by decide +kernel)
theorem i_Sm_init_37 : mj_Snd zG ("StreamWatch$Stream", "<init>", c_Sm_init, 1) 37 (x_putf 8 5 0) 40 := mj_putG (T := T_Sm) (ty0 := t_Sm) rfl (by decide) u_Sm t_Sm_ok n_Sm z1_107 (Or.inl rfl) (by decide +kernel)
theorem i_Sm_init_40 : mj_Snd zG ("StreamWatch$Stream", "<init>", c_Sm_init, 1) 40 (x_aload 0) 41 := mj_aload_n (j := 0) rfl (by decide +kernel)
theorem i_Sm_init_41 : mj_Snd zG ("StreamWatch$Stream", "<init>", c_Sm_init, 1) 41 (x_const 0) 42 := mj_const (n := 0) (by decide) (by decide +kernel)
theorem i_Sm_init_42 : mj_Snd zG ("StreamWatch$Stream", "<init>", c_Sm_init, 1) 42 (x_putf 8 6 1) 45 := mj_putG (T := T_Sm) (ty0 := t_Sm) rfl (by decide) u_Sm t_Sm_ok n_Sm z1_108 (Or.inl rfl) (by decide +kernel)
theorem i_Sm_init_45 : mj_Snd zG ("StreamWatch$Stream", "<init>", c_Sm_init, 1) 45 (x_aload 0) 46 := mj_aload_n (j := 0) rfl (by decide +kernel)
theorem i_Sm_init_46 : mj_Snd zG ("StreamWatch$Stream", "<init>", c_Sm_init, 1) 46 (x_const 0) 47 := mj_const (n := 0) (by decide) (by decide +kernel)
theorem i_Sm_init_47 : mj_Snd zG ("StreamWatch$Stream", "<init>", c_Sm_init, 1) 47 (x_putf 8 7 1) 50 := mj_putG (T := T_Sm) (ty0 := t_Sm) rfl (by decide) u_Sm t_Sm_ok n_Sm z1_109 (Or.inl rfl) (by decide +kernel)
theorem i_Sm_init_50 : mj_Snd zG ("StreamWatch$Stream", "<init>", c_Sm_init, 1) 50 (x_aload 0) 51 := mj_aload_n (j := 0) rfl (by decide +kernel)
theorem d_Sm_init_51 : decode c_Sm_init 51 = .ok (.invokevirtual 38, 3) := by decide +kernel
theorem d_Sm_init_54 : decode c_Sm_init 54 = .ok (.return_, 1) := by decide +kernel
theorem b_Sm_init_0 : mj_Ch zG ("StreamWatch$Stream", "<init>", c_Sm_init, 1) 0 [x_aload 0] 1 := ⟨_, i_Sm_init_0, rfl⟩
theorem b_Sm_init_4 : mj_Ch zG ("StreamWatch$Stream", "<init>", c_Sm_init, 1) 4 [x_aload 0, x_const 80] 7 := ⟨_, i_Sm_init_4, _, i_Sm_init_5, rfl⟩
theorem b_Sm_init_9 : mj_Ch zG ("StreamWatch$Stream", "<init>", c_Sm_init, 1) 9 [x_putf 8 0 3, x_aload 0, x_const 32] 15 := ⟨_, i_Sm_init_9, _, i_Sm_init_12, _, i_Sm_init_13, rfl⟩
theorem b_Sm_init_17 : mj_Ch zG ("StreamWatch$Stream", "<init>", c_Sm_init, 1) 17 [x_putf 8 1 3, x_aload 0, x_const 0, x_putf 8 2 0, x_aload 0, x_const 0, x_putf 8 3 0, x_aload 0, x_const 0, x_putf 8 4 0, x_aload 0, x_const 0, x_putf 8 5 0, x_aload 0, x_const 0, x_putf 8 6 1, x_aload 0, x_const 0, x_putf 8 7 1, x_aload 0] 51 := ⟨_, i_Sm_init_17, _, i_Sm_init_20, _, i_Sm_init_21, _, i_Sm_init_22, _, i_Sm_init_25, _, i_Sm_init_26, _, i_Sm_init_27, _, i_Sm_init_30, _, i_Sm_init_31, _, i_Sm_init_32, _, i_Sm_init_35, _, i_Sm_init_36, _, i_Sm_init_37, _, i_Sm_init_40, _, i_Sm_init_41, _, i_Sm_init_42, _, i_Sm_init_45, _, i_Sm_init_46, _, i_Sm_init_47, _, i_Sm_init_50, rfl⟩
theorem i_Sm_reset_0 : mj_Snd zG ("StreamWatch$Stream", "reset", c_Sm_reset, 1) 0 (x_aload 0) 1 := mj_aload_n (j := 0) rfl (by decide +kernel)
theorem d_Sm_reset_1 : decode c_Sm_reset 1 = .ok (.invokevirtual 38, 3) := by decide +kernel
theorem i_Sm_reset_4 : mj_Snd zG ("StreamWatch$Stream", "reset", c_Sm_reset, 1) 4 (x_aload 0) 5 := mj_aload_n (j := 0) rfl (by decide +kernel)
theorem i_Sm_reset_5 : mj_Snd zG ("StreamWatch$Stream", "reset", c_Sm_reset, 1) 5 (x_const 0) 6 := mj_const (n := 0) (by decide) (by decide +kernel)
theorem i_Sm_reset_6 : mj_Snd zG ("StreamWatch$Stream", "reset", c_Sm_reset, 1) 6 (x_putf 8 2 0) 9 := mj_putG (T := T_Sm) (ty0 := t_Sm) rfl (by decide) u_Sm t_Sm_ok n_Sm z1_104 (Or.inl rfl) (by decide +kernel)
theorem i_Sm_reset_9 : mj_Snd zG ("StreamWatch$Stream", "reset", c_Sm_reset, 1) 9 (x_aload 0) 10 := mj_aload_n (j := 0) rfl (by decide +kernel)
theorem i_Sm_reset_10 : mj_Snd zG ("StreamWatch$Stream", "reset", c_Sm_reset, 1) 10 (x_const 0) 11 := mj_const (n := 0) (by decide) (by decide +kernel)
theorem i_Sm_reset_11 : mj_Snd zG ("StreamWatch$Stream", "reset", c_Sm_reset, 1) 11 (x_putf 8 4 0) 14 := mj_putG (T := T_Sm) (ty0 := t_Sm) rfl (by decide) u_Sm t_Sm_ok n_Sm z1_106 (Or.inl rfl) (by decide +kernel)
theorem i_Sm_reset_14 : mj_Snd zG ("StreamWatch$Stream", "reset", c_Sm_reset, 1) 14 (x_aload 0) 15 := mj_aload_n (j := 0) rfl (by decide +kernel)
theorem i_Sm_reset_15 : mj_Snd zG ("StreamWatch$Stream", "reset", c_Sm_reset, 1) 15 (x_const 0) 16 := mj_const (n := 0) (by decide) (by decide +kernel)
theorem i_Sm_reset_16 : mj_Snd zG ("StreamWatch$Stream", "reset", c_Sm_reset, 1) 16 (x_putf 8 5 0) 19 := mj_putG (T := T_Sm) (ty0 := t_Sm) rfl (by decide) u_Sm t_Sm_ok n_Sm z1_107 (Or.inl rfl) (by decide +kernel)
theorem i_Sm_reset_19 : mj_Snd zG ("StreamWatch$Stream", "reset", c_Sm_reset, 1) 19 (x_aload 0) 20 := mj_aload_n (j := 0) rfl (by decide +kernel)
theorem i_Sm_reset_20 : mj_Snd zG ("StreamWatch$Stream", "reset", c_Sm_reset, 1) 20 (x_const 0) 21 := mj_const (n := 0) (by decide) (by decide +kernel)
theorem i_Sm_reset_21 : mj_Snd zG ("StreamWatch$Stream", "reset", c_Sm_reset, 1) 21 (x_putf 8 6 1) 24 := mj_putG (T := T_Sm) (ty0 := t_Sm) rfl (by decide) u_Sm t_Sm_ok n_Sm z1_108 (Or.inl rfl) (by decide +kernel)
theorem i_Sm_reset_24 : mj_Snd zG ("StreamWatch$Stream", "reset", c_Sm_reset, 1) 24 (x_aload 0) 25 := mj_aload_n (j := 0) rfl (by decide +kernel)
theorem i_Sm_reset_25 : mj_Snd zG ("StreamWatch$Stream", "reset", c_Sm_reset, 1) 25 (x_const 0) 26 := mj_const (n := 0) (by decide) (by decide +kernel)
theorem i_Sm_reset_26 : mj_Snd zG ("StreamWatch$Stream", "reset", c_Sm_reset, 1) 26 (x_putf 8 7 1) 29 := mj_putG (T := T_Sm) (ty0 := t_Sm) rfl (by decide) u_Sm t_Sm_ok n_Sm z1_109 (Or.inl rfl) (by decide +kernel)
theorem d_Sm_reset_29 : decode c_Sm_reset 29 = .ok (.return_, 1) := by decide +kernel
theorem b_Sm_reset_0 : mj_Ch zG ("StreamWatch$Stream", "reset", c_Sm_reset, 1) 0 [x_aload 0] 1 := ⟨_, i_Sm_reset_0, rfl⟩
theorem b_Sm_reset_4 : mj_Ch zG ("StreamWatch$Stream", "reset", c_Sm_reset, 1) 4 [x_aload 0, x_const 0, x_putf 8 2 0, x_aload 0, x_const 0, x_putf 8 4 0, x_aload 0, x_const 0, x_putf 8 5 0, x_aload 0, x_const 0, x_putf 8 6 1, x_aload 0, x_const 0, x_putf 8 7 1] 29 := ⟨_, i_Sm_reset_4, _, i_Sm_reset_5, _, i_Sm_reset_6, _, i_Sm_reset_9, _, i_Sm_reset_10, _, i_Sm_reset_11, _, i_Sm_reset_14, _, i_Sm_reset_15, _, i_Sm_reset_16, _, i_Sm_reset_19, _, i_Sm_reset_20, _, i_Sm_reset_21, _, i_Sm_reset_24, _, i_Sm_reset_25, _, i_Sm_reset_26, rfl⟩
theorem i_Sm_begin_0 : mj_Snd zG ("StreamWatch$Stream", "begin", c_Sm_begin, 2) 0 (x_aload 0) 1 := mj_aload_n (j := 0) rfl (by decide +kernel)
theorem i_Sm_begin_1 : mj_Snd zG ("StreamWatch$Stream", "begin", c_Sm_begin, 2) 1 (x_getf 8 6) 4 := mj_getf (T := T_Sm) rfl (by decide) u_Sm z1_108 (by decide +kernel)
theorem d_Sm_begin_4 : decode c_Sm_begin 4 = .ok (.ifCond .ne 13, 3) := by decide +kernel
theorem i_Sm_begin_7 : mj_Snd zG ("StreamWatch$Stream", "begin", c_Sm_begin, 2) 7 (x_aload 0) 8 := mj_aload_n (j := 0) rfl (by decide +kernel)
theorem i_Sm_begin_8 : mj_Snd zG ("StreamWatch$Stream", "begin", c_Sm_begin, 2) 8 (x_const 1) 9 := mj_const (n := 1) (by decide) (by decide +kernel)
theorem i_Sm_begin_9 : mj_Snd zG ("StreamWatch$Stream", "begin", c_Sm_begin, 2) 9 (x_putf 8 6 1) 12 := mj_putG (T := T_Sm) (ty0 := t_Sm) rfl (by decide) u_Sm t_Sm_ok n_Sm z1_108 (Or.inl rfl) (by decide +kernel)
theorem i_Sm_begin_12 : mj_Snd zG ("StreamWatch$Stream", "begin", c_Sm_begin, 2) 12 (x_aload 0) 13 := mj_aload_n (j := 0) rfl (by decide +kernel)
theorem i_Sm_begin_13 : mj_Snd zG ("StreamWatch$Stream", "begin", c_Sm_begin, 2) 13 (x_iload 1) 14 := mj_iload_n (j := 1) rfl (by decide +kernel)
theorem i_Sm_begin_14 : mj_Snd zG ("StreamWatch$Stream", "begin", c_Sm_begin, 2) 14 (x_putf 8 4 0) 17 := mj_putG (T := T_Sm) (ty0 := t_Sm) rfl (by decide) u_Sm t_Sm_ok n_Sm z1_106 (Or.inl rfl) (by decide +kernel)
theorem d_Sm_begin_17 : decode c_Sm_begin 17 = .ok (.return_, 1) := by decide +kernel
theorem b_Sm_begin_0 : mj_Ch zG ("StreamWatch$Stream", "begin", c_Sm_begin, 2) 0 [x_aload 0, x_getf 8 6] 4 := ⟨_, i_Sm_begin_0, _, i_Sm_begin_1, rfl⟩
theorem b_Sm_begin_7 : mj_Ch zG ("StreamWatch$Stream", "begin", c_Sm_begin, 2) 7 [x_aload 0, x_const 1, x_putf 8 6 1, x_aload 0, x_iload 1, x_putf 8 4 0] 17 := ⟨_, i_Sm_begin_7, _, i_Sm_begin_8, _, i_Sm_begin_9, _, i_Sm_begin_12, _, i_Sm_begin_13, _, i_Sm_begin_14, rfl⟩
theorem i_Sm_hold_0 : mj_Snd zG ("StreamWatch$Stream", "hold", c_Sm_hold, 6) 0 (x_iload 1) 1 := mj_iload_n (j := 1) rfl (by decide +kernel)
theorem i_Sm_hold_1 : mj_Snd zG ("StreamWatch$Stream", "hold", c_Sm_hold, 6) 1 (x_aload 0) 2 := mj_aload_n (j := 0) rfl (by decide +kernel)
theorem i_Sm_hold_2 : mj_Snd zG ("StreamWatch$Stream", "hold", c_Sm_hold, 6) 2 (x_getf 8 4) 5 := mj_getf (T := T_Sm) rfl (by decide) u_Sm z1_106 (by decide +kernel)
theorem i_Sm_hold_5 : mj_Snd zG ("StreamWatch$Stream", "hold", c_Sm_hold, 6) 5 (x_isub) 6 := mj_isub (by decide +kernel)
theorem i_Sm_hold_6 : mj_Snd zG ("StreamWatch$Stream", "hold", c_Sm_hold, 6) 6 (x_istore 4) 8 := mj_istore (by decide) (by decide +kernel)
theorem i_Sm_hold_8 : mj_Snd zG ("StreamWatch$Stream", "hold", c_Sm_hold, 6) 8 (x_iload 4) 10 := mj_iload (by decide +kernel)
theorem d_Sm_hold_10 : decode c_Sm_hold 10 = .ok (.ifCond .lt 10, 3) := by decide +kernel
theorem i_Sm_hold_13 : mj_Snd zG ("StreamWatch$Stream", "hold", c_Sm_hold, 6) 13 (x_iload 4) 15 := mj_iload (by decide +kernel)
theorem i_Sm_hold_15 : mj_Snd zG ("StreamWatch$Stream", "hold", c_Sm_hold, 6) 15 (x_const 32) 17 := mj_bipush (n := 32) (by decide) (by decide +kernel)
theorem d_Sm_hold_17 : decode c_Sm_hold 17 = .ok (.if_icmp .lt 4, 3) := by decide +kernel
theorem d_Sm_hold_20 : decode c_Sm_hold 20 = .ok (.return_, 1) := by decide +kernel
theorem i_Sm_hold_21 : mj_Snd zG ("StreamWatch$Stream", "hold", c_Sm_hold, 6) 21 (x_iload 1) 22 := mj_iload_n (j := 1) rfl (by decide +kernel)
theorem d_Sm_hold_22 : decode c_Sm_hold 22 = .ok (.invokestatic 41, 3) := by decide +kernel
theorem i_Sm_hold_25 : mj_Snd zG ("StreamWatch$Stream", "hold", c_Sm_hold, 6) 25 (x_istore 5) 27 := mj_istore (by decide) (by decide +kernel)
theorem i_Sm_hold_27 : mj_Snd zG ("StreamWatch$Stream", "hold", c_Sm_hold, 6) 27 (x_aload 0) 28 := mj_aload_n (j := 0) rfl (by decide +kernel)
theorem i_Sm_hold_28 : mj_Snd zG ("StreamWatch$Stream", "hold", c_Sm_hold, 6) 28 (x_getf 8 1) 31 := mj_getf (T := T_Sm) rfl (by decide) u_Sm z1_103 (by decide +kernel)
theorem i_Sm_hold_31 : mj_Snd zG ("StreamWatch$Stream", "hold", c_Sm_hold, 6) 31 (x_iload 5) 33 := mj_iload (by decide +kernel)
theorem i_Sm_hold_33 : mj_Snd zG ("StreamWatch$Stream", "hold", c_Sm_hold, 6) 33 (x_iald 0) 34 := mj_iald rfl (by decide +kernel)
theorem i_Sm_hold_34 : mj_Snd zG ("StreamWatch$Stream", "hold", c_Sm_hold, 6) 34 (x_const (-1)) 35 := mj_const (n := (-1)) (by decide) (by decide +kernel)
theorem d_Sm_hold_35 : decode c_Sm_hold 35 = .ok (.if_icmp .ne 24, 3) := by decide +kernel
theorem i_Sm_hold_38 : mj_Snd zG ("StreamWatch$Stream", "hold", c_Sm_hold, 6) 38 (x_aload 0) 39 := mj_aload_n (j := 0) rfl (by decide +kernel)
theorem i_Sm_hold_39 : mj_Snd zG ("StreamWatch$Stream", "hold", c_Sm_hold, 6) 39 (x_getf 8 1) 42 := mj_getf (T := T_Sm) rfl (by decide) u_Sm z1_103 (by decide +kernel)
theorem i_Sm_hold_42 : mj_Snd zG ("StreamWatch$Stream", "hold", c_Sm_hold, 6) 42 (x_iload 5) 44 := mj_iload (by decide +kernel)
theorem i_Sm_hold_44 : mj_Snd zG ("StreamWatch$Stream", "hold", c_Sm_hold, 6) 44 (x_iload 2) 45 := mj_iload_n (j := 2) rfl (by decide +kernel)
theorem i_Sm_hold_45 : mj_Snd zG ("StreamWatch$Stream", "hold", c_Sm_hold, 6) 45 (x_iast 0) 46 := mj_iast rfl (by decide +kernel)
theorem i_Sm_hold_46 : mj_Snd zG ("StreamWatch$Stream", "hold", c_Sm_hold, 6) 46 (x_aload 0) 47 := mj_aload_n (j := 0) rfl (by decide +kernel)
theorem i_Sm_hold_47 : mj_Snd zG ("StreamWatch$Stream", "hold", c_Sm_hold, 6) 47 (x_dup) 48 := mj_dup (by decide +kernel)
theorem i_Sm_hold_48 : mj_Snd zG ("StreamWatch$Stream", "hold", c_Sm_hold, 6) 48 (x_getf 8 3) 51 := mj_getf (T := T_Sm) rfl (by decide) u_Sm z1_105 (by decide +kernel)
theorem i_Sm_hold_51 : mj_Snd zG ("StreamWatch$Stream", "hold", c_Sm_hold, 6) 51 (x_const 1) 52 := mj_const (n := 1) (by decide) (by decide +kernel)
theorem i_Sm_hold_52 : mj_Snd zG ("StreamWatch$Stream", "hold", c_Sm_hold, 6) 52 (x_iadd) 53 := mj_iadd (by decide +kernel)
theorem i_Sm_hold_53 : mj_Snd zG ("StreamWatch$Stream", "hold", c_Sm_hold, 6) 53 (x_putf 8 3 0) 56 := mj_putG (T := T_Sm) (ty0 := t_Sm) rfl (by decide) u_Sm t_Sm_ok n_Sm z1_105 (Or.inl rfl) (by decide +kernel)
theorem i_Sm_hold_56 : mj_Snd zG ("StreamWatch$Stream", "hold", c_Sm_hold, 6) 56 (x_skip) 71 := mj_goto (off := 15) (by decide) (by decide +kernel)
theorem i_Sm_hold_59 : mj_Snd zG ("StreamWatch$Stream", "hold", c_Sm_hold, 6) 59 (x_iload 3) 60 := mj_iload_n (j := 3) rfl (by decide +kernel)
theorem d_Sm_hold_60 : decode c_Sm_hold 60 = .ok (.ifCond .eq 11, 3) := by decide +kernel
theorem i_Sm_hold_63 : mj_Snd zG ("StreamWatch$Stream", "hold", c_Sm_hold, 6) 63 (x_aload 0) 64 := mj_aload_n (j := 0) rfl (by decide +kernel)
theorem i_Sm_hold_64 : mj_Snd zG ("StreamWatch$Stream", "hold", c_Sm_hold, 6) 64 (x_getf 8 1) 67 := mj_getf (T := T_Sm) rfl (by decide) u_Sm z1_103 (by decide +kernel)
theorem i_Sm_hold_67 : mj_Snd zG ("StreamWatch$Stream", "hold", c_Sm_hold, 6) 67 (x_iload 5) 69 := mj_iload (by decide +kernel)
theorem i_Sm_hold_69 : mj_Snd zG ("StreamWatch$Stream", "hold", c_Sm_hold, 6) 69 (x_iload 2) 70 := mj_iload_n (j := 2) rfl (by decide +kernel)
theorem i_Sm_hold_70 : mj_Snd zG ("StreamWatch$Stream", "hold", c_Sm_hold, 6) 70 (x_iast 0) 71 := mj_iast rfl (by decide +kernel)
theorem d_Sm_hold_71 : decode c_Sm_hold 71 = .ok (.return_, 1) := by decide +kernel
theorem b_Sm_hold_0 : mj_Ch zG ("StreamWatch$Stream", "hold", c_Sm_hold, 6) 0 [x_iload 1, x_aload 0, x_getf 8 4, x_isub, x_istore 4, x_iload 4] 10 := ⟨_, i_Sm_hold_0, _, i_Sm_hold_1, _, i_Sm_hold_2, _, i_Sm_hold_5, _, i_Sm_hold_6, _, i_Sm_hold_8, rfl⟩
theorem b_Sm_hold_13 : mj_Ch zG ("StreamWatch$Stream", "hold", c_Sm_hold, 6) 13 [x_iload 4, x_const 32] 17 := ⟨_, i_Sm_hold_13, _, i_Sm_hold_15, rfl⟩
theorem b_Sm_hold_21 : mj_Ch zG ("StreamWatch$Stream", "hold", c_Sm_hold, 6) 21 [x_iload 1] 22 := ⟨_, i_Sm_hold_21, rfl⟩
theorem b_Sm_hold_25 : mj_Ch zG ("StreamWatch$Stream", "hold", c_Sm_hold, 6) 25 [x_istore 5, x_aload 0, x_getf 8 1, x_iload 5, x_iald 0, x_const (-1)] 35 := ⟨_, i_Sm_hold_25, _, i_Sm_hold_27, _, i_Sm_hold_28, _, i_Sm_hold_31, _, i_Sm_hold_33, _, i_Sm_hold_34, rfl⟩
theorem b_Sm_hold_38 : mj_Ch zG ("StreamWatch$Stream", "hold", c_Sm_hold, 6) 38 [x_aload 0, x_getf 8 1, x_iload 5, x_iload 2, x_iast 0, x_aload 0, x_dup, x_getf 8 3, x_const 1, x_iadd, x_putf 8 3 0, x_skip] 71 := ⟨_, i_Sm_hold_38, _, i_Sm_hold_39, _, i_Sm_hold_42, _, i_Sm_hold_44, _, i_Sm_hold_45, _, i_Sm_hold_46, _, i_Sm_hold_47, _, i_Sm_hold_48, _, i_Sm_hold_51, _, i_Sm_hold_52, _, i_Sm_hold_53, _, i_Sm_hold_56, rfl⟩
theorem b_Sm_hold_59 : mj_Ch zG ("StreamWatch$Stream", "hold", c_Sm_hold, 6) 59 [x_iload 3] 60 := ⟨_, i_Sm_hold_59, rfl⟩
theorem b_Sm_hold_63 : mj_Ch zG ("StreamWatch$Stream", "hold", c_Sm_hold, 6) 63 [x_aload 0, x_getf 8 1, x_iload 5, x_iload 2, x_iast 0] 71 := ⟨_, i_Sm_hold_63, _, i_Sm_hold_64, _, i_Sm_hold_67, _, i_Sm_hold_69, _, i_Sm_hold_70, rfl⟩
theorem i_Sm_isNextHeld_0 : mj_Snd zG ("StreamWatch$Stream", "isNextHeld", c_Sm_isNextHeld, 1) 0 (x_aload 0) 1 := mj_aload_n (j := 0) rfl (by decide +kernel)
theorem i_Sm_isNextHeld_1 : mj_Snd zG ("StreamWatch$Stream", "isNextHeld", c_Sm_isNextHeld, 1) 1 (x_getf 8 1) 4 := mj_getf (T := T_Sm) rfl (by decide) u_Sm z1_103 (by decide +kernel)
theorem i_Sm_isNextHeld_4 : mj_Snd zG ("StreamWatch$Stream", "isNextHeld", c_Sm_isNextHeld, 1) 4 (x_aload 0) 5 := mj_aload_n (j := 0) rfl (by decide +kernel)
theorem i_Sm_isNextHeld_5 : mj_Snd zG ("StreamWatch$Stream", "isNextHeld", c_Sm_isNextHeld, 1) 5 (x_getf 8 4) 8 := mj_getf (T := T_Sm) rfl (by decide) u_Sm z1_106 (by decide +kernel)
theorem d_Sm_isNextHeld_8 : decode c_Sm_isNextHeld 8 = .ok (.invokestatic 41, 3) := by decide +kernel
theorem i_Sm_isNextHeld_11 : mj_Snd zG ("StreamWatch$Stream", "isNextHeld", c_Sm_isNextHeld, 1) 11 (x_iald 0) 12 := mj_iald rfl (by decide +kernel)
theorem i_Sm_isNextHeld_12 : mj_Snd zG ("StreamWatch$Stream", "isNextHeld", c_Sm_isNextHeld, 1) 12 (x_const (-1)) 13 := mj_const (n := (-1)) (by decide) (by decide +kernel)
theorem d_Sm_isNextHeld_13 : decode c_Sm_isNextHeld 13 = .ok (.if_icmp .eq 7, 3) := by decide +kernel
theorem i_Sm_isNextHeld_16 : mj_Snd zG ("StreamWatch$Stream", "isNextHeld", c_Sm_isNextHeld, 1) 16 (x_const 1) 17 := mj_const (n := 1) (by decide) (by decide +kernel)
theorem i_Sm_isNextHeld_17 : mj_Snd zG ("StreamWatch$Stream", "isNextHeld", c_Sm_isNextHeld, 1) 17 (x_skip) 21 := mj_goto (off := 4) (by decide) (by decide +kernel)
theorem i_Sm_isNextHeld_20 : mj_Snd zG ("StreamWatch$Stream", "isNextHeld", c_Sm_isNextHeld, 1) 20 (x_const 0) 21 := mj_const (n := 0) (by decide) (by decide +kernel)
theorem d_Sm_isNextHeld_21 : decode c_Sm_isNextHeld 21 = .ok (.ireturn, 1) := by decide +kernel
theorem b_Sm_isNextHeld_0 : mj_Ch zG ("StreamWatch$Stream", "isNextHeld", c_Sm_isNextHeld, 1) 0 [x_aload 0, x_getf 8 1, x_aload 0, x_getf 8 4] 8 := ⟨_, i_Sm_isNextHeld_0, _, i_Sm_isNextHeld_1, _, i_Sm_isNextHeld_4, _, i_Sm_isNextHeld_5, rfl⟩
theorem b_Sm_isNextHeld_11 : mj_Ch zG ("StreamWatch$Stream", "isNextHeld", c_Sm_isNextHeld, 1) 11 [x_iald 0, x_const (-1)] 13 := ⟨_, i_Sm_isNextHeld_11, _, i_Sm_isNextHeld_12, rfl⟩
theorem b_Sm_isNextHeld_16 : mj_Ch zG ("StreamWatch$Stream", "isNextHeld", c_Sm_isNextHeld, 1) 16 [x_const 1, x_skip] 21 := ⟨_, i_Sm_isNextHeld_16, _, i_Sm_isNextHeld_17, rfl⟩
theorem b_Sm_isNextHeld_20 : mj_Ch zG ("StreamWatch$Stream", "isNextHeld", c_Sm_isNextHeld, 1) 20 [x_const 0] 21 := ⟨_, i_Sm_isNextHeld_20, rfl⟩
theorem i_Sm_takeNext_0 : mj_Snd zG ("StreamWatch$Stream", "takeNext", c_Sm_takeNext, 3) 0 (x_aload 0) 1 := mj_aload_n (j := 0) rfl (by decide +kernel)
theorem i_Sm_takeNext_1 : mj_Snd zG ("StreamWatch$Stream", "takeNext", c_Sm_takeNext, 3) 1 (x_getf 8 4) 4 := mj_getf (T := T_Sm) rfl (by decide) u_Sm z1_106 (by decide +kernel)
theorem d_Sm_takeNext_4 : decode c_Sm_takeNext 4 = .ok (.invokestatic 41, 3) := by decide +kernel
theorem i_Sm_takeNext_7 : mj_Snd zG ("StreamWatch$Stream", "takeNext", c_Sm_takeNext, 3) 7 (x_istore 1) 8 := mj_istore_n (j := 1) rfl (by decide) (by decide +kernel)
theorem i_Sm_takeNext_8 : mj_Snd zG ("StreamWatch$Stream", "takeNext", c_Sm_takeNext, 3) 8 (x_aload 0) 9 := mj_aload_n (j := 0) rfl (by decide +kernel)
theorem i_Sm_takeNext_9 : mj_Snd zG ("StreamWatch$Stream", "takeNext", c_Sm_takeNext, 3) 9 (x_getf 8 2) 12 := mj_getf (T := T_Sm) rfl (by decide) u_Sm z1_104 (by decide +kernel)
theorem i_Sm_takeNext_12 : mj_Snd zG ("StreamWatch$Stream", "takeNext", c_Sm_takeNext, 3) 12 (x_const 80) 14 := mj_bipush (n := 80) (by decide) (by decide +kernel)
theorem d_Sm_takeNext_14 : decode c_Sm_takeNext 14 = .ok (.if_icmp .ge 7, 3) := by decide +kernel
theorem i_Sm_takeNext_17 : mj_Snd zG ("StreamWatch$Stream", "takeNext", c_Sm_takeNext, 3) 17 (x_const 1) 18 := mj_const (n := 1) (by decide) (by decide +kernel)
theorem i_Sm_takeNext_18 : mj_Snd zG ("StreamWatch$Stream", "takeNext", c_Sm_takeNext, 3) 18 (x_skip) 22 := mj_goto (off := 4) (by decide) (by decide +kernel)
theorem i_Sm_takeNext_21 : mj_Snd zG ("StreamWatch$Stream", "takeNext", c_Sm_takeNext, 3) 21 (x_const 0) 22 := mj_const (n := 0) (by decide) (by decide +kernel)
theorem i_Sm_takeNext_22 : mj_Snd zG ("StreamWatch$Stream", "takeNext", c_Sm_takeNext, 3) 22 (x_istore 2) 23 := mj_istore_n (j := 2) rfl (by decide) (by decide +kernel)
theorem i_Sm_takeNext_23 : mj_Snd zG ("StreamWatch$Stream", "takeNext", c_Sm_takeNext, 3) 23 (x_iload 2) 24 := mj_iload_n (j := 2) rfl (by decide +kernel)
theorem d_Sm_takeNext_24 : decode c_Sm_takeNext 24 = .ok (.ifCond .eq 28, 3) := by decide +kernel
theorem i_Sm_takeNext_27 : mj_Snd zG ("StreamWatch$Stream", "takeNext", c_Sm_takeNext, 3) 27 (x_aload 0) 28 := mj_aload_n (j := 0) rfl (by decide +kernel)
theorem i_Sm_takeNext_28 : mj_Snd zG ("StreamWatch$Stream", "takeNext", c_Sm_takeNext, 3) 28 (x_getf 8 0) 31 := mj_getf (T := T_Sm) rfl (by decide) u_Sm z1_102 (by decide +kernel)
theorem i_Sm_takeNext_31 : mj_Snd zG ("StreamWatch$Stream", "takeNext", c_Sm_takeNext, 3) 31 (x_aload 0) 32 := mj_aload_n (j := 0) rfl (by decide +kernel)
theorem i_Sm_takeNext_32 : mj_Snd zG ("StreamWatch$Stream", "takeNext", c_Sm_takeNext, 3) 32 (x_getf 8 2) 35 := mj_getf (T := T_Sm) rfl (by decide) u_Sm z1_104 (by decide +kernel)
theorem i_Sm_takeNext_35 : mj_Snd zG ("StreamWatch$Stream", "takeNext", c_Sm_takeNext, 3) 35 (x_aload 0) 36 := mj_aload_n (j := 0) rfl (by decide +kernel)
theorem i_Sm_takeNext_36 : mj_Snd zG ("StreamWatch$Stream", "takeNext", c_Sm_takeNext, 3) 36 (x_getf 8 1) 39 := mj_getf (T := T_Sm) rfl (by decide) u_Sm z1_103 (by decide +kernel)
theorem i_Sm_takeNext_39 : mj_Snd zG ("StreamWatch$Stream", "takeNext", c_Sm_takeNext, 3) 39 (x_iload 1) 40 := mj_iload_n (j := 1) rfl (by decide +kernel)
theorem i_Sm_takeNext_40 : mj_Snd zG ("StreamWatch$Stream", "takeNext", c_Sm_takeNext, 3) 40 (x_iald 0) 41 := mj_iald rfl (by decide +kernel)
theorem i_Sm_takeNext_41 : mj_Snd zG ("StreamWatch$Stream", "takeNext", c_Sm_takeNext, 3) 41 (x_iast 0) 42 := mj_iast rfl (by decide +kernel)
theorem i_Sm_takeNext_42 : mj_Snd zG ("StreamWatch$Stream", "takeNext", c_Sm_takeNext, 3) 42 (x_aload 0) 43 := mj_aload_n (j := 0) rfl (by decide +kernel)
theorem i_Sm_takeNext_43 : mj_Snd zG ("StreamWatch$Stream", "takeNext", c_Sm_takeNext, 3) 43 (x_dup) 44 := mj_dup (by decide +kernel)
theorem i_Sm_takeNext_44 : mj_Snd zG ("StreamWatch$Stream", "takeNext", c_Sm_takeNext, 3) 44 (x_getf 8 2) 47 := mj_getf (T := T_Sm) rfl (by decide) u_Sm z1_104 (by decide +kernel)
theorem i_Sm_takeNext_47 : mj_Snd zG ("StreamWatch$Stream", "takeNext", c_Sm_takeNext, 3) 47 (x_const 1) 48 := mj_const (n := 1) (by decide) (by decide +kernel)
theorem i_Sm_takeNext_48 : mj_Snd zG ("StreamWatch$Stream", "takeNext", c_Sm_takeNext, 3) 48 (x_iadd) 49 := mj_iadd (by decide +kernel)
theorem i_Sm_takeNext_49 : mj_Snd zG ("StreamWatch$Stream", "takeNext", c_Sm_takeNext, 3) 49 (x_putf 8 2 0) 52 := mj_putG (T := T_Sm) (ty0 := t_Sm) rfl (by decide) u_Sm t_Sm_ok n_Sm z1_104 (Or.inl rfl) (by decide +kernel)
theorem i_Sm_takeNext_52 : mj_Snd zG ("StreamWatch$Stream", "takeNext", c_Sm_takeNext, 3) 52 (x_aload 0) 53 := mj_aload_n (j := 0) rfl (by decide +kernel)
theorem i_Sm_takeNext_53 : mj_Snd zG ("StreamWatch$Stream", "takeNext", c_Sm_takeNext, 3) 53 (x_getf 8 1) 56 := mj_getf (T := T_Sm) rfl (by decide) u_Sm z1_103 (by decide +kernel)
theorem i_Sm_takeNext_56 : mj_Snd zG ("StreamWatch$Stream", "takeNext", c_Sm_takeNext, 3) 56 (x_iload 1) 57 := mj_iload_n (j := 1) rfl (by decide +kernel)
theorem i_Sm_takeNext_57 : mj_Snd zG ("StreamWatch$Stream", "takeNext", c_Sm_takeNext, 3) 57 (x_const (-1)) 58 := mj_const (n := (-1)) (by decide) (by decide +kernel)
theorem i_Sm_takeNext_58 : mj_Snd zG ("StreamWatch$Stream", "takeNext", c_Sm_takeNext, 3) 58 (x_iast 0) 59 := mj_iast rfl (by decide +kernel)
theorem i_Sm_takeNext_59 : mj_Snd zG ("StreamWatch$Stream", "takeNext", c_Sm_takeNext, 3) 59 (x_aload 0) 60 := mj_aload_n (j := 0) rfl (by decide +kernel)
theorem i_Sm_takeNext_60 : mj_Snd zG ("StreamWatch$Stream", "takeNext", c_Sm_takeNext, 3) 60 (x_dup) 61 := mj_dup (by decide +kernel)
theorem i_Sm_takeNext_61 : mj_Snd zG ("StreamWatch$Stream", "takeNext", c_Sm_takeNext, 3) 61 (x_getf 8 3) 64 := mj_getf (T := T_Sm) rfl (by decide) u_Sm z1_105 (by decide +kernel)
theorem i_Sm_takeNext_64 : mj_Snd zG ("StreamWatch$Stream", "takeNext", c_Sm_takeNext, 3) 64 (x_const 1) 65 := mj_const (n := 1) (by decide) (by decide +kernel)
theorem i_Sm_takeNext_65 : mj_Snd zG ("StreamWatch$Stream", "takeNext", c_Sm_takeNext, 3) 65 (x_isub) 66 := mj_isub (by decide +kernel)
theorem i_Sm_takeNext_66 : mj_Snd zG ("StreamWatch$Stream", "takeNext", c_Sm_takeNext, 3) 66 (x_putf 8 3 0) 69 := mj_putG (T := T_Sm) (ty0 := t_Sm) rfl (by decide) u_Sm t_Sm_ok n_Sm z1_105 (Or.inl rfl) (by decide +kernel)
theorem i_Sm_takeNext_69 : mj_Snd zG ("StreamWatch$Stream", "takeNext", c_Sm_takeNext, 3) 69 (x_aload 0) 70 := mj_aload_n (j := 0) rfl (by decide +kernel)
theorem i_Sm_takeNext_70 : mj_Snd zG ("StreamWatch$Stream", "takeNext", c_Sm_takeNext, 3) 70 (x_dup) 71 := mj_dup (by decide +kernel)
theorem i_Sm_takeNext_71 : mj_Snd zG ("StreamWatch$Stream", "takeNext", c_Sm_takeNext, 3) 71 (x_getf 8 4) 74 := mj_getf (T := T_Sm) rfl (by decide) u_Sm z1_106 (by decide +kernel)
theorem i_Sm_takeNext_74 : mj_Snd zG ("StreamWatch$Stream", "takeNext", c_Sm_takeNext, 3) 74 (x_const 1) 75 := mj_const (n := 1) (by decide) (by decide +kernel)
theorem i_Sm_takeNext_75 : mj_Snd zG ("StreamWatch$Stream", "takeNext", c_Sm_takeNext, 3) 75 (x_iadd) 76 := mj_iadd (by decide +kernel)
theorem i_Sm_takeNext_76 : mj_Snd zG ("StreamWatch$Stream", "takeNext", c_Sm_takeNext, 3) 76 (x_putf 8 4 0) 79 := mj_putG (T := T_Sm) (ty0 := t_Sm) rfl (by decide) u_Sm t_Sm_ok n_Sm z1_106 (Or.inl rfl) (by decide +kernel)
theorem i_Sm_takeNext_79 : mj_Snd zG ("StreamWatch$Stream", "takeNext", c_Sm_takeNext, 3) 79 (x_iload 2) 80 := mj_iload_n (j := 2) rfl (by decide +kernel)
theorem d_Sm_takeNext_80 : decode c_Sm_takeNext 80 = .ok (.ireturn, 1) := by decide +kernel
theorem b_Sm_takeNext_0 : mj_Ch zG ("StreamWatch$Stream", "takeNext", c_Sm_takeNext, 3) 0 [x_aload 0, x_getf 8 4] 4 := ⟨_, i_Sm_takeNext_0, _, i_Sm_takeNext_1, rfl⟩
theorem b_Sm_takeNext_7 : mj_Ch zG ("StreamWatch$Stream", "takeNext", c_Sm_takeNext, 3) 7 [x_istore 1, x_aload 0, x_getf 8 2, x_const 80] 14 := ⟨_, i_Sm_takeNext_7, _, i_Sm_takeNext_8, _, i_Sm_takeNext_9, _, i_Sm_takeNext_12, rfl⟩
theorem b_Sm_takeNext_17 : mj_Ch zG ("StreamWatch$Stream", "takeNext", c_Sm_takeNext, 3) 17 [x_const 1, x_skip] 22 := ⟨_, i_Sm_takeNext_17, _, i_Sm_takeNext_18, rfl⟩
theorem b_Sm_takeNext_21 : mj_Ch zG ("StreamWatch$Stream", "takeNext", c_Sm_takeNext, 3) 21 [x_const 0] 22 := ⟨_, i_Sm_takeNext_21, rfl⟩
theorem b_Sm_takeNext_22 : mj_Ch zG ("StreamWatch$Stream", "takeNext", c_Sm_takeNext, 3) 22 [x_istore 2, x_iload 2] 24 := ⟨_, i_Sm_takeNext_22, _, i_Sm_takeNext_23, rfl⟩
theorem b_Sm_takeNext_27 : mj_Ch zG ("StreamWatch$Stream", "takeNext", c_Sm_takeNext, 3) 27 [x_aload 0, x_getf 8 0, x_aload 0, x_getf 8 2, x_aload 0, x_getf 8 1, x_iload 1, x_iald 0, x_iast 0, x_aload 0, x_dup, x_getf 8 2, x_const 1, x_iadd, x_putf 8 2 0] 52 := ⟨_, i_Sm_takeNext_27, _, i_Sm_takeNext_28, _, i_Sm_takeNext_31, _, i_Sm_takeNext_32, _, i_Sm_takeNext_35, _, i_Sm_takeNext_36, _, i_Sm_takeNext_39, _, i_Sm_takeNext_40, _, i_Sm_takeNext_41, _, i_Sm_takeNext_42, _, i_Sm_takeNext_43, _, i_Sm_takeNext_44, _, i_Sm_takeNext_47, _, i_Sm_takeNext_48, _, i_Sm_takeNext_49, rfl⟩
theorem b_Sm_takeNext_52 : mj_Ch zG ("StreamWatch$Stream", "takeNext", c_Sm_takeNext, 3) 52 [x_aload 0, x_getf 8 1, x_iload 1, x_const (-1), x_iast 0, x_aload 0, x_dup, x_getf 8 3, x_const 1, x_isub, x_putf 8 3 0, x_aload 0, x_dup, x_getf 8 4, x_const 1, x_iadd, x_putf 8 4 0, x_iload 2] 80 := ⟨_, i_Sm_takeNext_52, _, i_Sm_takeNext_53, _, i_Sm_takeNext_56, _, i_Sm_takeNext_57, _, i_Sm_takeNext_58, _, i_Sm_takeNext_59, _, i_Sm_takeNext_60, _, i_Sm_takeNext_61, _, i_Sm_takeNext_64, _, i_Sm_takeNext_65, _, i_Sm_takeNext_66, _, i_Sm_takeNext_69, _, i_Sm_takeNext_70, _, i_Sm_takeNext_71, _, i_Sm_takeNext_74, _, i_Sm_takeNext_75, _, i_Sm_takeNext_76, _, i_Sm_takeNext_79, rfl⟩
theorem i_Sm_end_0 : mj_Snd zG ("StreamWatch$Stream", "end", c_Sm_end, 1) 0 (x_aload 0) 1 := mj_aload_n (j := 0) rfl (by decide +kernel)
theorem i_Sm_end_1 : mj_Snd zG ("StreamWatch$Stream", "end", c_Sm_end, 1) 1 (x_const 1) 2 := mj_const (n := 1) (by decide) (by decide +kernel)
theorem i_Sm_end_2 : mj_Snd zG ("StreamWatch$Stream", "end", c_Sm_end, 1) 2 (x_putf 8 7 1) 5 := mj_putG (T := T_Sm) (ty0 := t_Sm) rfl (by decide) u_Sm t_Sm_ok n_Sm z1_109 (Or.inl rfl) (by decide +kernel)
theorem d_Sm_end_5 : decode c_Sm_end 5 = .ok (.return_, 1) := by decide +kernel
theorem b_Sm_end_0 : mj_Ch zG ("StreamWatch$Stream", "end", c_Sm_end, 1) 0 [x_aload 0, x_const 1, x_putf 8 7 1] 5 := ⟨_, i_Sm_end_0, _, i_Sm_end_1, _, i_Sm_end_2, rfl⟩
theorem i_Sm_hasEnded_0 : mj_Snd zG ("StreamWatch$Stream", "hasEnded", c_Sm_hasEnded, 1) 0 (x_aload 0) 1 := mj_aload_n (j := 0) rfl (by decide +kernel)
theorem i_Sm_hasEnded_1 : mj_Snd zG ("StreamWatch$Stream", "hasEnded", c_Sm_hasEnded, 1) 1 (x_getf 8 7) 4 := mj_getf (T := T_Sm) rfl (by decide) u_Sm z1_109 (by decide +kernel)
theorem d_Sm_hasEnded_4 : decode c_Sm_hasEnded 4 = .ok (.ireturn, 1) := by decide +kernel
theorem b_Sm_hasEnded_0 : mj_Ch zG ("StreamWatch$Stream", "hasEnded", c_Sm_hasEnded, 1) 0 [x_aload 0, x_getf 8 7] 4 := ⟨_, i_Sm_hasEnded_0, _, i_Sm_hasEnded_1, rfl⟩
theorem i_Sm_size_0 : mj_Snd zG ("StreamWatch$Stream", "size", c_Sm_size, 1) 0 (x_aload 0) 1 := mj_aload_n (j := 0) rfl (by decide +kernel)
theorem i_Sm_size_1 : mj_Snd zG ("StreamWatch$Stream", "size", c_Sm_size, 1) 1 (x_getf 8 2) 4 := mj_getf (T := T_Sm) rfl (by decide) u_Sm z1_104 (by decide +kernel)
theorem d_Sm_size_4 : decode c_Sm_size 4 = .ok (.ireturn, 1) := by decide +kernel
theorem b_Sm_size_0 : mj_Ch zG ("StreamWatch$Stream", "size", c_Sm_size, 1) 0 [x_aload 0, x_getf 8 2] 4 := ⟨_, i_Sm_size_0, _, i_Sm_size_1, rfl⟩
theorem i_Sm_next_0 : mj_Snd zG ("StreamWatch$Stream", "next", c_Sm_next, 1) 0 (x_aload 0) 1 := mj_aload_n (j := 0) rfl (by decide +kernel)
theorem i_Sm_next_1 : mj_Snd zG ("StreamWatch$Stream", "next", c_Sm_next, 1) 1 (x_getf 8 4) 4 := mj_getf (T := T_Sm) rfl (by decide) u_Sm z1_106 (by decide +kernel)
theorem d_Sm_next_4 : decode c_Sm_next 4 = .ok (.ireturn, 1) := by decide +kernel
theorem b_Sm_next_0 : mj_Ch zG ("StreamWatch$Stream", "next", c_Sm_next, 1) 0 [x_aload 0, x_getf 8 4] 4 := ⟨_, i_Sm_next_0, _, i_Sm_next_1, rfl⟩
theorem i_Sm_heldCount_0 : mj_Snd zG ("StreamWatch$Stream", "heldCount", c_Sm_heldCount, 1) 0 (x_aload 0) 1 := mj_aload_n (j := 0) rfl (by decide +kernel)
theorem i_Sm_heldCount_1 : mj_Snd zG ("StreamWatch$Stream", "heldCount", c_Sm_heldCount, 1) 1 (x_getf 8 3) 4 := mj_getf (T := T_Sm) rfl (by decide) u_Sm z1_105 (by decide +kernel)
theorem d_Sm_heldCount_4 : decode c_Sm_heldCount 4 = .ok (.ireturn, 1) := by decide +kernel
theorem b_Sm_heldCount_0 : mj_Ch zG ("StreamWatch$Stream", "heldCount", c_Sm_heldCount, 1) 0 [x_aload 0, x_getf 8 3] 4 := ⟨_, i_Sm_heldCount_0, _, i_Sm_heldCount_1, rfl⟩
theorem i_Sm_byteAt_0 : mj_Snd zG ("StreamWatch$Stream", "byteAt", c_Sm_byteAt, 2) 0 (x_iload 1) 1 := mj_iload_n (j := 1) rfl (by decide +kernel)
theorem d_Sm_byteAt_1 : decode c_Sm_byteAt 1 = .ok (.ifCond .lt 20, 3) := by decide +kernel
theorem i_Sm_byteAt_4 : mj_Snd zG ("StreamWatch$Stream", "byteAt", c_Sm_byteAt, 2) 4 (x_iload 1) 5 := mj_iload_n (j := 1) rfl (by decide +kernel)
theorem i_Sm_byteAt_5 : mj_Snd zG ("StreamWatch$Stream", "byteAt", c_Sm_byteAt, 2) 5 (x_aload 0) 6 := mj_aload_n (j := 0) rfl (by decide +kernel)
theorem i_Sm_byteAt_6 : mj_Snd zG ("StreamWatch$Stream", "byteAt", c_Sm_byteAt, 2) 6 (x_getf 8 2) 9 := mj_getf (T := T_Sm) rfl (by decide) u_Sm z1_104 (by decide +kernel)
theorem d_Sm_byteAt_9 : decode c_Sm_byteAt 9 = .ok (.if_icmp .ge 12, 3) := by decide +kernel
theorem i_Sm_byteAt_12 : mj_Snd zG ("StreamWatch$Stream", "byteAt", c_Sm_byteAt, 2) 12 (x_aload 0) 13 := mj_aload_n (j := 0) rfl (by decide +kernel)
theorem i_Sm_byteAt_13 : mj_Snd zG ("StreamWatch$Stream", "byteAt", c_Sm_byteAt, 2) 13 (x_getf 8 0) 16 := mj_getf (T := T_Sm) rfl (by decide) u_Sm z1_102 (by decide +kernel)
theorem i_Sm_byteAt_16 : mj_Snd zG ("StreamWatch$Stream", "byteAt", c_Sm_byteAt, 2) 16 (x_iload 1) 17 := mj_iload_n (j := 1) rfl (by decide +kernel)
theorem i_Sm_byteAt_17 : mj_Snd zG ("StreamWatch$Stream", "byteAt", c_Sm_byteAt, 2) 17 (x_iald 0) 18 := mj_iald rfl (by decide +kernel)
theorem i_Sm_byteAt_18 : mj_Snd zG ("StreamWatch$Stream", "byteAt", c_Sm_byteAt, 2) 18 (x_skip) 22 := mj_goto (off := 4) (by decide) (by decide +kernel)
theorem i_Sm_byteAt_21 : mj_Snd zG ("StreamWatch$Stream", "byteAt", c_Sm_byteAt, 2) 21 (x_const (-1)) 22 := mj_const (n := (-1)) (by decide) (by decide +kernel)
theorem d_Sm_byteAt_22 : decode c_Sm_byteAt 22 = .ok (.ireturn, 1) := by decide +kernel
theorem b_Sm_byteAt_0 : mj_Ch zG ("StreamWatch$Stream", "byteAt", c_Sm_byteAt, 2) 0 [x_iload 1] 1 := ⟨_, i_Sm_byteAt_0, rfl⟩
theorem b_Sm_byteAt_4 : mj_Ch zG ("StreamWatch$Stream", "byteAt", c_Sm_byteAt, 2) 4 [x_iload 1, x_aload 0, x_getf 8 2] 9 := ⟨_, i_Sm_byteAt_4, _, i_Sm_byteAt_5, _, i_Sm_byteAt_6, rfl⟩
theorem b_Sm_byteAt_12 : mj_Ch zG ("StreamWatch$Stream", "byteAt", c_Sm_byteAt, 2) 12 [x_aload 0, x_getf 8 0, x_iload 1, x_iald 0, x_skip] 22 := ⟨_, i_Sm_byteAt_12, _, i_Sm_byteAt_13, _, i_Sm_byteAt_16, _, i_Sm_byteAt_17, _, i_Sm_byteAt_18, rfl⟩
theorem b_Sm_byteAt_21 : mj_Ch zG ("StreamWatch$Stream", "byteAt", c_Sm_byteAt, 2) 21 [x_const (-1)] 22 := ⟨_, i_Sm_byteAt_21, rfl⟩
theorem i_Sm_hasRaised_0 : mj_Snd zG ("StreamWatch$Stream", "hasRaised", c_Sm_hasRaised, 2) 0 (x_aload 0) 1 := mj_aload_n (j := 0) rfl (by decide +kernel)
theorem i_Sm_hasRaised_1 : mj_Snd zG ("StreamWatch$Stream", "hasRaised", c_Sm_hasRaised, 2) 1 (x_getf 8 5) 4 := mj_getf (T := T_Sm) rfl (by decide) u_Sm z1_107 (by decide +kernel)
theorem i_Sm_hasRaised_4 : mj_Snd zG ("StreamWatch$Stream", "hasRaised", c_Sm_hasRaised, 2) 4 (x_const 1) 5 := mj_const (n := 1) (by decide) (by decide +kernel)
theorem i_Sm_hasRaised_5 : mj_Snd zG ("StreamWatch$Stream", "hasRaised", c_Sm_hasRaised, 2) 5 (x_iload 1) 6 := mj_iload_n (j := 1) rfl (by decide +kernel)
theorem i_Sm_hasRaised_6 : mj_Snd zG ("StreamWatch$Stream", "hasRaised", c_Sm_hasRaised, 2) 6 (x_ishl) 7 := mj_ishl (by decide +kernel)
theorem i_Sm_hasRaised_7 : mj_Snd zG ("StreamWatch$Stream", "hasRaised", c_Sm_hasRaised, 2) 7 (x_iand) 8 := mj_iand (by decide +kernel)
theorem d_Sm_hasRaised_8 : decode c_Sm_hasRaised 8 = .ok (.ifCond .eq 7, 3) := by decide +kernel
theorem i_Sm_hasRaised_11 : mj_Snd zG ("StreamWatch$Stream", "hasRaised", c_Sm_hasRaised, 2) 11 (x_const 1) 12 := mj_const (n := 1) (by decide) (by decide +kernel)
theorem i_Sm_hasRaised_12 : mj_Snd zG ("StreamWatch$Stream", "hasRaised", c_Sm_hasRaised, 2) 12 (x_skip) 16 := mj_goto (off := 4) (by decide) (by decide +kernel)
theorem i_Sm_hasRaised_15 : mj_Snd zG ("StreamWatch$Stream", "hasRaised", c_Sm_hasRaised, 2) 15 (x_const 0) 16 := mj_const (n := 0) (by decide) (by decide +kernel)
theorem d_Sm_hasRaised_16 : decode c_Sm_hasRaised 16 = .ok (.ireturn, 1) := by decide +kernel
theorem b_Sm_hasRaised_0 : mj_Ch zG ("StreamWatch$Stream", "hasRaised", c_Sm_hasRaised, 2) 0 [x_aload 0, x_getf 8 5, x_const 1, x_iload 1, x_ishl, x_iand] 8 := ⟨_, i_Sm_hasRaised_0, _, i_Sm_hasRaised_1, _, i_Sm_hasRaised_4, _, i_Sm_hasRaised_5, _, i_Sm_hasRaised_6, _, i_Sm_hasRaised_7, rfl⟩
theorem b_Sm_hasRaised_11 : mj_Ch zG ("StreamWatch$Stream", "hasRaised", c_Sm_hasRaised, 2) 11 [x_const 1, x_skip] 16 := ⟨_, i_Sm_hasRaised_11, _, i_Sm_hasRaised_12, rfl⟩
theorem b_Sm_hasRaised_15 : mj_Ch zG ("StreamWatch$Stream", "hasRaised", c_Sm_hasRaised, 2) 15 [x_const 0] 16 := ⟨_, i_Sm_hasRaised_15, rfl⟩
theorem i_Sm_setRaised_0 : mj_Snd zG ("StreamWatch$Stream", "setRaised", c_Sm_setRaised, 2) 0 (x_aload 0) 1 := mj_aload_n (j := 0) rfl (by decide +kernel)
theorem i_Sm_setRaised_1 : mj_Snd zG ("StreamWatch$Stream", "setRaised", c_Sm_setRaised, 2) 1 (x_dup) 2 := mj_dup (by decide +kernel)
theorem i_Sm_setRaised_2 : mj_Snd zG ("StreamWatch$Stream", "setRaised", c_Sm_setRaised, 2) 2 (x_getf 8 5) 5 := mj_getf (T := T_Sm) rfl (by decide) u_Sm z1_107 (by decide +kernel)
theorem i_Sm_setRaised_5 : mj_Snd zG ("StreamWatch$Stream", "setRaised", c_Sm_setRaised, 2) 5 (x_const 1) 6 := mj_const (n := 1) (by decide) (by decide +kernel)
theorem i_Sm_setRaised_6 : mj_Snd zG ("StreamWatch$Stream", "setRaised", c_Sm_setRaised, 2) 6 (x_iload 1) 7 := mj_iload_n (j := 1) rfl (by decide +kernel)
theorem i_Sm_setRaised_7 : mj_Snd zG ("StreamWatch$Stream", "setRaised", c_Sm_setRaised, 2) 7 (x_ishl) 8 := mj_ishl (by decide +kernel)
theorem i_Sm_setRaised_8 : mj_Snd zG ("StreamWatch$Stream", "setRaised", c_Sm_setRaised, 2) 8 (x_ior) 9 := mj_ior (by decide +kernel)
theorem i_Sm_setRaised_9 : mj_Snd zG ("StreamWatch$Stream", "setRaised", c_Sm_setRaised, 2) 9 (x_putf 8 5 0) 12 := mj_putG (T := T_Sm) (ty0 := t_Sm) rfl (by decide) u_Sm t_Sm_ok n_Sm z1_107 (Or.inl rfl) (by decide +kernel)
theorem d_Sm_setRaised_12 : decode c_Sm_setRaised 12 = .ok (.return_, 1) := by decide +kernel
theorem b_Sm_setRaised_0 : mj_Ch zG ("StreamWatch$Stream", "setRaised", c_Sm_setRaised, 2) 0 [x_aload 0, x_dup, x_getf 8 5, x_const 1, x_iload 1, x_ishl, x_ior, x_putf 8 5 0] 12 := ⟨_, i_Sm_setRaised_0, _, i_Sm_setRaised_1, _, i_Sm_setRaised_2, _, i_Sm_setRaised_5, _, i_Sm_setRaised_6, _, i_Sm_setRaised_7, _, i_Sm_setRaised_8, _, i_Sm_setRaised_9, rfl⟩
theorem i_Sm_emptyWindow_0 : mj_Snd zG ("StreamWatch$Stream", "emptyWindow", c_Sm_emptyWindow, 2) 0 (x_const 0) 1 := mj_const (n := 0) (by decide) (by decide +kernel)
theorem i_Sm_emptyWindow_1 : mj_Snd zG ("StreamWatch$Stream", "emptyWindow", c_Sm_emptyWindow, 2) 1 (x_istore 1) 2 := mj_istore_n (j := 1) rfl (by decide) (by decide +kernel)
theorem i_Sm_emptyWindow_2 : mj_Snd zG ("StreamWatch$Stream", "emptyWindow", c_Sm_emptyWindow, 2) 2 (x_iload 1) 3 := mj_iload_n (j := 1) rfl (by decide +kernel)
theorem i_Sm_emptyWindow_3 : mj_Snd zG ("StreamWatch$Stream", "emptyWindow", c_Sm_emptyWindow, 2) 3 (x_const 32) 5 := mj_bipush (n := 32) (by decide) (by decide +kernel)
theorem d_Sm_emptyWindow_5 : decode c_Sm_emptyWindow 5 = .ok (.if_icmp .ge 16, 3) := by decide +kernel
theorem i_Sm_emptyWindow_8 : mj_Snd zG ("StreamWatch$Stream", "emptyWindow", c_Sm_emptyWindow, 2) 8 (x_aload 0) 9 := mj_aload_n (j := 0) rfl (by decide +kernel)
theorem i_Sm_emptyWindow_9 : mj_Snd zG ("StreamWatch$Stream", "emptyWindow", c_Sm_emptyWindow, 2) 9 (x_getf 8 1) 12 := mj_getf (T := T_Sm) rfl (by decide) u_Sm z1_103 (by decide +kernel)
theorem i_Sm_emptyWindow_12 : mj_Snd zG ("StreamWatch$Stream", "emptyWindow", c_Sm_emptyWindow, 2) 12 (x_iload 1) 13 := mj_iload_n (j := 1) rfl (by decide +kernel)
theorem i_Sm_emptyWindow_13 : mj_Snd zG ("StreamWatch$Stream", "emptyWindow", c_Sm_emptyWindow, 2) 13 (x_const (-1)) 14 := mj_const (n := (-1)) (by decide) (by decide +kernel)
theorem i_Sm_emptyWindow_14 : mj_Snd zG ("StreamWatch$Stream", "emptyWindow", c_Sm_emptyWindow, 2) 14 (x_iast 0) 15 := mj_iast rfl (by decide +kernel)
theorem i_Sm_emptyWindow_15 : mj_Snd zG ("StreamWatch$Stream", "emptyWindow", c_Sm_emptyWindow, 2) 15 (x_iinc 1 1) 18 := mj_iinc (n := 1) (by decide) (by decide) (by decide +kernel)
theorem i_Sm_emptyWindow_18 : mj_Snd zG ("StreamWatch$Stream", "emptyWindow", c_Sm_emptyWindow, 2) 18 (x_skip) 2 := mj_goto (off := (-16)) (by decide) (by decide +kernel)
theorem i_Sm_emptyWindow_21 : mj_Snd zG ("StreamWatch$Stream", "emptyWindow", c_Sm_emptyWindow, 2) 21 (x_aload 0) 22 := mj_aload_n (j := 0) rfl (by decide +kernel)
theorem i_Sm_emptyWindow_22 : mj_Snd zG ("StreamWatch$Stream", "emptyWindow", c_Sm_emptyWindow, 2) 22 (x_const 0) 23 := mj_const (n := 0) (by decide) (by decide +kernel)
theorem i_Sm_emptyWindow_23 : mj_Snd zG ("StreamWatch$Stream", "emptyWindow", c_Sm_emptyWindow, 2) 23 (x_putf 8 3 0) 26 := mj_putG (T := T_Sm) (ty0 := t_Sm) rfl (by decide) u_Sm t_Sm_ok n_Sm z1_105 (Or.inl rfl) (by decide +kernel)
theorem d_Sm_emptyWindow_26 : decode c_Sm_emptyWindow 26 = .ok (.return_, 1) := by decide +kernel
theorem b_Sm_emptyWindow_0 : mj_Ch zG ("StreamWatch$Stream", "emptyWindow", c_Sm_emptyWindow, 2) 0 [x_const 0, x_istore 1] 2 := ⟨_, i_Sm_emptyWindow_0, _, i_Sm_emptyWindow_1, rfl⟩
theorem b_Sm_emptyWindow_2 : mj_Ch zG ("StreamWatch$Stream", "emptyWindow", c_Sm_emptyWindow, 2) 2 [x_iload 1, x_const 32] 5 := ⟨_, i_Sm_emptyWindow_2, _, i_Sm_emptyWindow_3, rfl⟩
theorem b_Sm_emptyWindow_8 : mj_Ch zG ("StreamWatch$Stream", "emptyWindow", c_Sm_emptyWindow, 2) 8 [x_aload 0, x_getf 8 1, x_iload 1, x_const (-1), x_iast 0, x_iinc 1 1, x_skip] 2 := ⟨_, i_Sm_emptyWindow_8, _, i_Sm_emptyWindow_9, _, i_Sm_emptyWindow_12, _, i_Sm_emptyWindow_13, _, i_Sm_emptyWindow_14, _, i_Sm_emptyWindow_15, _, i_Sm_emptyWindow_18, rfl⟩
theorem b_Sm_emptyWindow_21 : mj_Ch zG ("StreamWatch$Stream", "emptyWindow", c_Sm_emptyWindow, 2) 21 [x_aload 0, x_const 0, x_putf 8 3 0] 26 := ⟨_, i_Sm_emptyWindow_21, _, i_Sm_emptyWindow_22, _, i_Sm_emptyWindow_23, rfl⟩
theorem i_Sm_placeOf_0 : mj_Snd zG ("StreamWatch$Stream", "placeOf", c_Sm_placeOf, 1) 0 (x_iload 0) 1 := mj_iload_n (j := 0) rfl (by decide +kernel)
theorem i_Sm_placeOf_1 : mj_Snd zG ("StreamWatch$Stream", "placeOf", c_Sm_placeOf, 1) 1 (x_const 31) 3 := mj_bipush (n := 31) (by decide) (by decide +kernel)
theorem i_Sm_placeOf_3 : mj_Snd zG ("StreamWatch$Stream", "placeOf", c_Sm_placeOf, 1) 3 (x_iand) 4 := mj_iand (by decide +kernel)
theorem d_Sm_placeOf_4 : decode c_Sm_placeOf 4 = .ok (.ireturn, 1) := by decide +kernel
theorem b_Sm_placeOf_0 : mj_Ch zG ("StreamWatch$Stream", "placeOf", c_Sm_placeOf, 1) 0 [x_iload 0, x_const 31, x_iand] 4 := ⟨_, i_Sm_placeOf_0, _, i_Sm_placeOf_1, _, i_Sm_placeOf_3, rfl⟩

theorem i_Fl_init_0 : mj_Snd zG ("StreamWatch$Flow", "<init>", c_Fl_init, 1) 0 (x_aload 0) 1 := mj_aload_n (j := 0) rfl (by decide +kernel)
theorem d_Fl_init_1 : decode c_Fl_init 1 = .ok (.invokespecial 3, 3) := by decide +kernel
theorem i_Fl_init_4 : mj_Snd zG ("StreamWatch$Flow", "<init>", c_Fl_init, 1) 4 (x_aload 0) 5 := mj_aload_n (j := 0) rfl (by decide +kernel)
theorem i_Fl_init_5 : mj_Snd zG ("StreamWatch$Flow", "<init>", c_Fl_init, 1) 5 (x_const 0) 6 := mj_const (n := 0) (by decide) (by decide +kernel)
theorem i_Fl_init_6 : mj_Snd zG ("StreamWatch$Flow", "<init>", c_Fl_init, 1) 6 (x_putf 1 0 0) 9 := mj_putG (T := T_Fl) (ty0 := t_Fl) rfl (by decide) u_Fl t_Fl_ok n_Fl z1_127 (Or.inl rfl) (by decide +kernel)
theorem i_Fl_init_9 : mj_Snd zG ("StreamWatch$Flow", "<init>", c_Fl_init, 1) 9 (x_aload 0) 10 := mj_aload_n (j := 0) rfl (by decide +kernel)
theorem i_Fl_init_10 : mj_Snd zG ("StreamWatch$Flow", "<init>", c_Fl_init, 1) 10 (x_const 0) 11 := mj_const (n := 0) (by decide) (by decide +kernel)
theorem i_Fl_init_11 : mj_Snd zG ("StreamWatch$Flow", "<init>", c_Fl_init, 1) 11 (x_putf 1 1 0) 14 := mj_putG (T := T_Fl) (ty0 := t_Fl) rfl (by decide) u_Fl t_Fl_ok n_Fl z1_129 (Or.inl rfl) (by decide +kernel)
theorem i_Fl_init_14 : mj_Snd zG ("StreamWatch$Flow", "<init>", c_Fl_init, 1) 14 (x_aload 0) 15 := mj_aload_n (j := 0) rfl (by decide +kernel)
theorem i_Fl_init_15 : mj_Snd zG ("StreamWatch$Flow", "<init>", c_Fl_init, 1) 15 (x_const 0) 16 := mj_const (n := 0) (by decide) (by decide +kernel)
theorem i_Fl_init_16 : mj_Snd zG ("StreamWatch$Flow", "<init>", c_Fl_init, 1) 16 (x_putf 1 2 0) 19 := mj_putG (T := T_Fl) (ty0 := t_Fl) rfl (by decide) u_Fl t_Fl_ok n_Fl z1_131 (Or.inl rfl) (by decide +kernel)
theorem i_Fl_init_19 : mj_Snd zG ("StreamWatch$Flow", "<init>", c_Fl_init, 1) 19 (x_aload 0) 20 := mj_aload_n (j := 0) rfl (by decide +kernel)
theorem i_Fl_init_20 : mj_Snd zG ("StreamWatch$Flow", "<init>", c_Fl_init, 1) 20 (x_const 0) 21 := mj_const (n := 0) (by decide) (by decide +kernel)
theorem i_Fl_init_21 : mj_Snd zG ("StreamWatch$Flow", "<init>", c_Fl_init, 1) 21 (x_putf 1 3 0) 24 := mj_putG (T := T_Fl) (ty0 := t_Fl) rfl (by decide) u_Fl t_Fl_ok n_Fl z1_133 (Or.inl rfl) (by decide +kernel)
theorem i_Fl_init_24 : mj_Snd zG ("StreamWatch$Flow", "<init>", c_Fl_init, 1) 24 (x_aload 0) 25 := mj_aload_n (j := 0) rfl (by decide +kernel)
theorem i_Fl_init_25 : mj_Snd zG ("StreamWatch$Flow", "<init>", c_Fl_init, 1) 25 (x_const 0) 26 := mj_const (n := 0) (by decide) (by decide +kernel)
theorem i_Fl_init_26 : mj_Snd zG ("StreamWatch$Flow", "<init>", c_Fl_init, 1) 26 (x_putf 1 4 0) 29 := mj_putG (T := T_Fl) (ty0 := t_Fl) rfl (by decide) u_Fl t_Fl_ok n_Fl z1_135 (Or.inl rfl) (by decide +kernel)
theorem i_Fl_init_29 : mj_Snd zG ("StreamWatch$Flow", "<init>", c_Fl_init, 1) 29 (x_aload 0) 30 := mj_aload_n (j := 0) rfl (by decide +kernel)
theorem d_Fl_init_30 : decode c_Fl_init 30 = .ok (.new 27, 3) := by decide +kernel
theorem i_Fl_init_33 : mj_Snd zG ("StreamWatch$Flow", "<init>", c_Fl_init, 1) 33 (x_dup) 34 := mj_dup (by decide +kernel)
theorem d_Fl_init_34 : decode c_Fl_init 34 = .ok (.invokespecial 29, 3) := by decide +kernel
theorem i_Fl_init_37 : mj_Snd zG ("StreamWatch$Flow", "<init>", c_Fl_init, 1) 37 (x_putf 1 5 3) 40 := mj_putG (T := T_Fl) (ty0 := t_Fl) rfl (by decide) u_Fl t_Fl_ok n_Fl z1_137 (Or.inr ⟨rfl, rfl, rfl⟩) (by decide +kernel)
theorem i_Fl_init_40 : mj_Snd zG ("StreamWatch$Flow", "<init>", c_Fl_init, 1) 40 (x_aload 0) 41 := mj_aload_n (j := 0) rfl (by decide +kernel)
theorem d_Fl_init_41 : decode c_Fl_init 41 = .ok (.new 27, 3) := by decide +kernel
theorem i_Fl_init_44 : mj_Snd zG ("StreamWatch$Flow", "<init>", c_Fl_init, 1) 44 (x_dup) 45 := mj_dup (by decide +kernel)
theorem d_Fl_init_45 : decode c_Fl_init 45 = .ok (.invokespecial 29, 3) := by decide +kernel
theorem i_Fl_init_48 : mj_Snd zG ("StreamWatch$Flow", "<init>", c_Fl_init, 1) 48 (x_putf 1 6 3) 51 := mj_putG (T := T_Fl) (ty0 := t_Fl) rfl (by decide) u_Fl t_Fl_ok n_Fl z1_138 (Or.inr ⟨rfl, rfl, rfl⟩) (by decide +kernel)
theorem i_Fl_init_51 : mj_Snd zG ("StreamWatch$Flow", "<init>", c_Fl_init, 1) 51 (x_aload 0) 52 := mj_aload_n (j := 0) rfl (by decide +kernel)
theorem i_Fl_init_52 : mj_Snd zG ("StreamWatch$Flow", "<init>", c_Fl_init, 1) 52 (x_const 0) 53 := mj_const (n := 0) (by decide) (by decide +kernel)
theorem i_Fl_init_53 : mj_Snd zG ("StreamWatch$Flow", "<init>", c_Fl_init, 1) 53 (x_putf 1 7 1) 56 := mj_putG (T := T_Fl) (ty0 := t_Fl) rfl (by decide) u_Fl t_Fl_ok n_Fl z1_139 (Or.inl rfl) (by decide +kernel)
theorem d_Fl_init_56 : decode c_Fl_init 56 = .ok (.return_, 1) := by decide +kernel
theorem b_Fl_init_0 : mj_Ch zG ("StreamWatch$Flow", "<init>", c_Fl_init, 1) 0 [x_aload 0] 1 := ⟨_, i_Fl_init_0, rfl⟩
theorem b_Fl_init_4 : mj_Ch zG ("StreamWatch$Flow", "<init>", c_Fl_init, 1) 4 [x_aload 0, x_const 0, x_putf 1 0 0, x_aload 0, x_const 0, x_putf 1 1 0, x_aload 0, x_const 0, x_putf 1 2 0, x_aload 0, x_const 0, x_putf 1 3 0, x_aload 0, x_const 0, x_putf 1 4 0, x_aload 0] 30 := ⟨_, i_Fl_init_4, _, i_Fl_init_5, _, i_Fl_init_6, _, i_Fl_init_9, _, i_Fl_init_10, _, i_Fl_init_11, _, i_Fl_init_14, _, i_Fl_init_15, _, i_Fl_init_16, _, i_Fl_init_19, _, i_Fl_init_20, _, i_Fl_init_21, _, i_Fl_init_24, _, i_Fl_init_25, _, i_Fl_init_26, _, i_Fl_init_29, rfl⟩
theorem b_Fl_init_33 : mj_Ch zG ("StreamWatch$Flow", "<init>", c_Fl_init, 1) 33 [x_dup] 34 := ⟨_, i_Fl_init_33, rfl⟩
theorem b_Fl_init_37 : mj_Ch zG ("StreamWatch$Flow", "<init>", c_Fl_init, 1) 37 [x_putf 1 5 3, x_aload 0] 41 := ⟨_, i_Fl_init_37, _, i_Fl_init_40, rfl⟩
theorem b_Fl_init_44 : mj_Ch zG ("StreamWatch$Flow", "<init>", c_Fl_init, 1) 44 [x_dup] 45 := ⟨_, i_Fl_init_44, rfl⟩
theorem b_Fl_init_48 : mj_Ch zG ("StreamWatch$Flow", "<init>", c_Fl_init, 1) 48 [x_putf 1 6 3, x_aload 0, x_const 0, x_putf 1 7 1] 56 := ⟨_, i_Fl_init_48, _, i_Fl_init_51, _, i_Fl_init_52, _, i_Fl_init_53, rfl⟩
theorem i_Fl_isLive_0 : mj_Snd zG ("StreamWatch$Flow", "isLive", c_Fl_isLive, 1) 0 (x_aload 0) 1 := mj_aload_n (j := 0) rfl (by decide +kernel)
theorem i_Fl_isLive_1 : mj_Snd zG ("StreamWatch$Flow", "isLive", c_Fl_isLive, 1) 1 (x_getf 1 7) 4 := mj_getf (T := T_Fl) rfl (by decide) u_Fl z1_139 (by decide +kernel)
theorem d_Fl_isLive_4 : decode c_Fl_isLive 4 = .ok (.ireturn, 1) := by decide +kernel
theorem b_Fl_isLive_0 : mj_Ch zG ("StreamWatch$Flow", "isLive", c_Fl_isLive, 1) 0 [x_aload 0, x_getf 1 7] 4 := ⟨_, i_Fl_isLive_0, _, i_Fl_isLive_1, rfl⟩
theorem i_Fl_open_0 : mj_Snd zG ("StreamWatch$Flow", "open", c_Fl_open, 2) 0 (x_aload 0) 1 := mj_aload_n (j := 0) rfl (by decide +kernel)
theorem i_Fl_open_1 : mj_Snd zG ("StreamWatch$Flow", "open", c_Fl_open, 2) 1 (x_const 1) 2 := mj_const (n := 1) (by decide) (by decide +kernel)
theorem i_Fl_open_2 : mj_Snd zG ("StreamWatch$Flow", "open", c_Fl_open, 2) 2 (x_putf 1 7 1) 5 := mj_putG (T := T_Fl) (ty0 := t_Fl) rfl (by decide) u_Fl t_Fl_ok n_Fl z1_139 (Or.inl rfl) (by decide +kernel)
theorem i_Fl_open_5 : mj_Snd zG ("StreamWatch$Flow", "open", c_Fl_open, 2) 5 (x_aload 0) 6 := mj_aload_n (j := 0) rfl (by decide +kernel)
theorem i_Fl_open_6 : mj_Snd zG ("StreamWatch$Flow", "open", c_Fl_open, 2) 6 (x_aload 1) 7 := mj_aload_n (j := 1) rfl (by decide +kernel)
theorem i_Fl_open_7 : mj_Snd zG ("StreamWatch$Flow", "open", c_Fl_open, 2) 7 (x_getf 5 0) 10 := mj_getf (T := T_Pk) rfl (by decide) u_Pk z1_48 (by decide +kernel)
theorem i_Fl_open_10 : mj_Snd zG ("StreamWatch$Flow", "open", c_Fl_open, 2) 10 (x_putf 1 0 0) 13 := mj_putG (T := T_Fl) (ty0 := t_Fl) rfl (by decide) u_Fl t_Fl_ok n_Fl z1_127 (Or.inl rfl) (by decide +kernel)
theorem i_Fl_open_13 : mj_Snd zG ("StreamWatch$Flow", "open", c_Fl_open, 2) 13 (x_aload 0) 14 := mj_aload_n (j := 0) rfl (by decide +kernel)
theorem i_Fl_open_14 : mj_Snd zG ("StreamWatch$Flow", "open", c_Fl_open, 2) 14 (x_aload 1) 15 := mj_aload_n (j := 1) rfl (by decide +kernel)
theorem i_Fl_open_15 : mj_Snd zG ("StreamWatch$Flow", "open", c_Fl_open, 2) 15 (x_getf 5 1) 18 := mj_getf (T := T_Pk) rfl (by decide) u_Pk z1_50 (by decide +kernel)
theorem i_Fl_open_18 : mj_Snd zG ("StreamWatch$Flow", "open", c_Fl_open, 2) 18 (x_putf 1 1 0) 21 := mj_putG (T := T_Fl) (ty0 := t_Fl) rfl (by decide) u_Fl t_Fl_ok n_Fl z1_129 (Or.inl rfl) (by decide +kernel)
theorem i_Fl_open_21 : mj_Snd zG ("StreamWatch$Flow", "open", c_Fl_open, 2) 21 (x_aload 0) 22 := mj_aload_n (j := 0) rfl (by decide +kernel)
theorem i_Fl_open_22 : mj_Snd zG ("StreamWatch$Flow", "open", c_Fl_open, 2) 22 (x_aload 1) 23 := mj_aload_n (j := 1) rfl (by decide +kernel)
theorem i_Fl_open_23 : mj_Snd zG ("StreamWatch$Flow", "open", c_Fl_open, 2) 23 (x_getf 5 2) 26 := mj_getf (T := T_Pk) rfl (by decide) u_Pk z1_52 (by decide +kernel)
theorem i_Fl_open_26 : mj_Snd zG ("StreamWatch$Flow", "open", c_Fl_open, 2) 26 (x_putf 1 2 0) 29 := mj_putG (T := T_Fl) (ty0 := t_Fl) rfl (by decide) u_Fl t_Fl_ok n_Fl z1_131 (Or.inl rfl) (by decide +kernel)
theorem i_Fl_open_29 : mj_Snd zG ("StreamWatch$Flow", "open", c_Fl_open, 2) 29 (x_aload 0) 30 := mj_aload_n (j := 0) rfl (by decide +kernel)
theorem i_Fl_open_30 : mj_Snd zG ("StreamWatch$Flow", "open", c_Fl_open, 2) 30 (x_aload 1) 31 := mj_aload_n (j := 1) rfl (by decide +kernel)
theorem i_Fl_open_31 : mj_Snd zG ("StreamWatch$Flow", "open", c_Fl_open, 2) 31 (x_getf 5 3) 34 := mj_getf (T := T_Pk) rfl (by decide) u_Pk z1_54 (by decide +kernel)
theorem i_Fl_open_34 : mj_Snd zG ("StreamWatch$Flow", "open", c_Fl_open, 2) 34 (x_putf 1 3 0) 37 := mj_putG (T := T_Fl) (ty0 := t_Fl) rfl (by decide) u_Fl t_Fl_ok n_Fl z1_133 (Or.inl rfl) (by decide +kernel)
theorem i_Fl_open_37 : mj_Snd zG ("StreamWatch$Flow", "open", c_Fl_open, 2) 37 (x_aload 0) 38 := mj_aload_n (j := 0) rfl (by decide +kernel)
theorem i_Fl_open_38 : mj_Snd zG ("StreamWatch$Flow", "open", c_Fl_open, 2) 38 (x_getf 1 5) 41 := mj_getf (T := T_Fl) rfl (by decide) u_Fl z1_137 (by decide +kernel)
theorem d_Fl_open_41 : decode c_Fl_open 41 = .ok (.invokevirtual 55, 3) := by decide +kernel
theorem i_Fl_open_44 : mj_Snd zG ("StreamWatch$Flow", "open", c_Fl_open, 2) 44 (x_aload 0) 45 := mj_aload_n (j := 0) rfl (by decide +kernel)
theorem i_Fl_open_45 : mj_Snd zG ("StreamWatch$Flow", "open", c_Fl_open, 2) 45 (x_getf 1 6) 48 := mj_getf (T := T_Fl) rfl (by decide) u_Fl z1_138 (by decide +kernel)
theorem d_Fl_open_48 : decode c_Fl_open 48 = .ok (.invokevirtual 55, 3) := by decide +kernel
theorem d_Fl_open_51 : decode c_Fl_open 51 = .ok (.return_, 1) := by decide +kernel
theorem b_Fl_open_0 : mj_Ch zG ("StreamWatch$Flow", "open", c_Fl_open, 2) 0 [x_aload 0, x_const 1, x_putf 1 7 1, x_aload 0, x_aload 1, x_getf 5 0, x_putf 1 0 0, x_aload 0, x_aload 1, x_getf 5 1, x_putf 1 1 0, x_aload 0, x_aload 1, x_getf 5 2, x_putf 1 2 0, x_aload 0, x_aload 1, x_getf 5 3, x_putf 1 3 0, x_aload 0, x_getf 1 5] 41 := ⟨_, i_Fl_open_0, _, i_Fl_open_1, _, i_Fl_open_2, _, i_Fl_open_5, _, i_Fl_open_6, _, i_Fl_open_7, _, i_Fl_open_10, _, i_Fl_open_13, _, i_Fl_open_14, _, i_Fl_open_15, _, i_Fl_open_18, _, i_Fl_open_21, _, i_Fl_open_22, _, i_Fl_open_23, _, i_Fl_open_26, _, i_Fl_open_29, _, i_Fl_open_30, _, i_Fl_open_31, _, i_Fl_open_34, _, i_Fl_open_37, _, i_Fl_open_38, rfl⟩
theorem b_Fl_open_44 : mj_Ch zG ("StreamWatch$Flow", "open", c_Fl_open, 2) 44 [x_aload 0, x_getf 1 6] 48 := ⟨_, i_Fl_open_44, _, i_Fl_open_45, rfl⟩
theorem i_Fl_free_0 : mj_Snd zG ("StreamWatch$Flow", "free", c_Fl_free, 1) 0 (x_aload 0) 1 := mj_aload_n (j := 0) rfl (by decide +kernel)
theorem i_Fl_free_1 : mj_Snd zG ("StreamWatch$Flow", "free", c_Fl_free, 1) 1 (x_const 0) 2 := mj_const (n := 0) (by decide) (by decide +kernel)
theorem i_Fl_free_2 : mj_Snd zG ("StreamWatch$Flow", "free", c_Fl_free, 1) 2 (x_putf 1 7 1) 5 := mj_putG (T := T_Fl) (ty0 := t_Fl) rfl (by decide) u_Fl t_Fl_ok n_Fl z1_139 (Or.inl rfl) (by decide +kernel)
theorem d_Fl_free_5 : decode c_Fl_free 5 = .ok (.return_, 1) := by decide +kernel
theorem b_Fl_free_0 : mj_Ch zG ("StreamWatch$Flow", "free", c_Fl_free, 1) 0 [x_aload 0, x_const 0, x_putf 1 7 1] 5 := ⟨_, i_Fl_free_0, _, i_Fl_free_1, _, i_Fl_free_2, rfl⟩
theorem i_Fl_freeIfBothEnded_0 : mj_Snd zG ("StreamWatch$Flow", "freeIfBothEnded", c_Fl_freeIfBothEnded, 1) 0 (x_aload 0) 1 := mj_aload_n (j := 0) rfl (by decide +kernel)
theorem i_Fl_freeIfBothEnded_1 : mj_Snd zG ("StreamWatch$Flow", "freeIfBothEnded", c_Fl_freeIfBothEnded, 1) 1 (x_getf 1 5) 4 := mj_getf (T := T_Fl) rfl (by decide) u_Fl z1_137 (by decide +kernel)
theorem d_Fl_freeIfBothEnded_4 : decode c_Fl_freeIfBothEnded 4 = .ok (.invokevirtual 58, 3) := by decide +kernel
theorem d_Fl_freeIfBothEnded_7 : decode c_Fl_freeIfBothEnded 7 = .ok (.ifCond .eq 17, 3) := by decide +kernel
theorem i_Fl_freeIfBothEnded_10 : mj_Snd zG ("StreamWatch$Flow", "freeIfBothEnded", c_Fl_freeIfBothEnded, 1) 10 (x_aload 0) 11 := mj_aload_n (j := 0) rfl (by decide +kernel)
theorem i_Fl_freeIfBothEnded_11 : mj_Snd zG ("StreamWatch$Flow", "freeIfBothEnded", c_Fl_freeIfBothEnded, 1) 11 (x_getf 1 6) 14 := mj_getf (T := T_Fl) rfl (by decide) u_Fl z1_138 (by decide +kernel)
theorem d_Fl_freeIfBothEnded_14 : decode c_Fl_freeIfBothEnded 14 = .ok (.invokevirtual 58, 3) := by decide +kernel
theorem d_Fl_freeIfBothEnded_17 : decode c_Fl_freeIfBothEnded 17 = .ok (.ifCond .eq 7, 3) := by decide +kernel
theorem i_Fl_freeIfBothEnded_20 : mj_Snd zG ("StreamWatch$Flow", "freeIfBothEnded", c_Fl_freeIfBothEnded, 1) 20 (x_aload 0) 21 := mj_aload_n (j := 0) rfl (by decide +kernel)
theorem d_Fl_freeIfBothEnded_21 : decode c_Fl_freeIfBothEnded 21 = .ok (.invokevirtual 62, 3) := by decide +kernel
theorem d_Fl_freeIfBothEnded_24 : decode c_Fl_freeIfBothEnded 24 = .ok (.return_, 1) := by decide +kernel
theorem b_Fl_freeIfBothEnded_0 : mj_Ch zG ("StreamWatch$Flow", "freeIfBothEnded", c_Fl_freeIfBothEnded, 1) 0 [x_aload 0, x_getf 1 5] 4 := ⟨_, i_Fl_freeIfBothEnded_0, _, i_Fl_freeIfBothEnded_1, rfl⟩
theorem b_Fl_freeIfBothEnded_10 : mj_Ch zG ("StreamWatch$Flow", "freeIfBothEnded", c_Fl_freeIfBothEnded, 1) 10 [x_aload 0, x_getf 1 6] 14 := ⟨_, i_Fl_freeIfBothEnded_10, _, i_Fl_freeIfBothEnded_11, rfl⟩
theorem b_Fl_freeIfBothEnded_20 : mj_Ch zG ("StreamWatch$Flow", "freeIfBothEnded", c_Fl_freeIfBothEnded, 1) 20 [x_aload 0] 21 := ⟨_, i_Fl_freeIfBothEnded_20, rfl⟩
theorem i_Fl_wayOf_0 : mj_Snd zG ("StreamWatch$Flow", "wayOf", c_Fl_wayOf, 4) 0 (x_aload 0) 1 := mj_aload_n (j := 0) rfl (by decide +kernel)
theorem i_Fl_wayOf_1 : mj_Snd zG ("StreamWatch$Flow", "wayOf", c_Fl_wayOf, 4) 1 (x_aload 1) 2 := mj_aload_n (j := 1) rfl (by decide +kernel)
theorem i_Fl_wayOf_2 : mj_Snd zG ("StreamWatch$Flow", "wayOf", c_Fl_wayOf, 4) 2 (x_getf 5 0) 5 := mj_getf (T := T_Pk) rfl (by decide) u_Pk z1_48 (by decide +kernel)
theorem i_Fl_wayOf_5 : mj_Snd zG ("StreamWatch$Flow", "wayOf", c_Fl_wayOf, 4) 5 (x_aload 1) 6 := mj_aload_n (j := 1) rfl (by decide +kernel)
theorem i_Fl_wayOf_6 : mj_Snd zG ("StreamWatch$Flow", "wayOf", c_Fl_wayOf, 4) 6 (x_getf 5 1) 9 := mj_getf (T := T_Pk) rfl (by decide) u_Pk z1_50 (by decide +kernel)
theorem d_Fl_wayOf_9 : decode c_Fl_wayOf 9 = .ok (.invokevirtual 65, 3) := by decide +kernel
theorem i_Fl_wayOf_12 : mj_Snd zG ("StreamWatch$Flow", "wayOf", c_Fl_wayOf, 4) 12 (x_istore 2) 13 := mj_istore_n (j := 2) rfl (by decide) (by decide +kernel)
theorem i_Fl_wayOf_13 : mj_Snd zG ("StreamWatch$Flow", "wayOf", c_Fl_wayOf, 4) 13 (x_iload 2) 14 := mj_iload_n (j := 2) rfl (by decide +kernel)
theorem d_Fl_wayOf_14 : decode c_Fl_wayOf 14 = .ok (.ifCond .eq 20, 3) := by decide +kernel
theorem i_Fl_wayOf_17 : mj_Snd zG ("StreamWatch$Flow", "wayOf", c_Fl_wayOf, 4) 17 (x_aload 0) 18 := mj_aload_n (j := 0) rfl (by decide +kernel)
theorem i_Fl_wayOf_18 : mj_Snd zG ("StreamWatch$Flow", "wayOf", c_Fl_wayOf, 4) 18 (x_aload 1) 19 := mj_aload_n (j := 1) rfl (by decide +kernel)
theorem i_Fl_wayOf_19 : mj_Snd zG ("StreamWatch$Flow", "wayOf", c_Fl_wayOf, 4) 19 (x_getf 5 2) 22 := mj_getf (T := T_Pk) rfl (by decide) u_Pk z1_52 (by decide +kernel)
theorem i_Fl_wayOf_22 : mj_Snd zG ("StreamWatch$Flow", "wayOf", c_Fl_wayOf, 4) 22 (x_aload 1) 23 := mj_aload_n (j := 1) rfl (by decide +kernel)
theorem i_Fl_wayOf_23 : mj_Snd zG ("StreamWatch$Flow", "wayOf", c_Fl_wayOf, 4) 23 (x_getf 5 3) 26 := mj_getf (T := T_Pk) rfl (by decide) u_Pk z1_54 (by decide +kernel)
theorem d_Fl_wayOf_26 : decode c_Fl_wayOf 26 = .ok (.invokevirtual 69, 3) := by decide +kernel
theorem d_Fl_wayOf_29 : decode c_Fl_wayOf 29 = .ok (.ifCond .eq 5, 3) := by decide +kernel
theorem i_Fl_wayOf_32 : mj_Snd zG ("StreamWatch$Flow", "wayOf", c_Fl_wayOf, 4) 32 (x_const 0) 33 := mj_const (n := 0) (by decide) (by decide +kernel)
theorem d_Fl_wayOf_33 : decode c_Fl_wayOf 33 = .ok (.ireturn, 1) := by decide +kernel
theorem i_Fl_wayOf_34 : mj_Snd zG ("StreamWatch$Flow", "wayOf", c_Fl_wayOf, 4) 34 (x_aload 0) 35 := mj_aload_n (j := 0) rfl (by decide +kernel)
theorem i_Fl_wayOf_35 : mj_Snd zG ("StreamWatch$Flow", "wayOf", c_Fl_wayOf, 4) 35 (x_aload 1) 36 := mj_aload_n (j := 1) rfl (by decide +kernel)
theorem i_Fl_wayOf_36 : mj_Snd zG ("StreamWatch$Flow", "wayOf", c_Fl_wayOf, 4) 36 (x_getf 5 0) 39 := mj_getf (T := T_Pk) rfl (by decide) u_Pk z1_48 (by decide +kernel)
theorem i_Fl_wayOf_39 : mj_Snd zG ("StreamWatch$Flow", "wayOf", c_Fl_wayOf, 4) 39 (x_aload 1) 40 := mj_aload_n (j := 1) rfl (by decide +kernel)
theorem i_Fl_wayOf_40 : mj_Snd zG ("StreamWatch$Flow", "wayOf", c_Fl_wayOf, 4) 40 (x_getf 5 1) 43 := mj_getf (T := T_Pk) rfl (by decide) u_Pk z1_50 (by decide +kernel)
theorem d_Fl_wayOf_43 : decode c_Fl_wayOf 43 = .ok (.invokevirtual 69, 3) := by decide +kernel
theorem i_Fl_wayOf_46 : mj_Snd zG ("StreamWatch$Flow", "wayOf", c_Fl_wayOf, 4) 46 (x_istore 3) 47 := mj_istore_n (j := 3) rfl (by decide) (by decide +kernel)
theorem i_Fl_wayOf_47 : mj_Snd zG ("StreamWatch$Flow", "wayOf", c_Fl_wayOf, 4) 47 (x_iload 3) 48 := mj_iload_n (j := 3) rfl (by decide +kernel)
theorem d_Fl_wayOf_48 : decode c_Fl_wayOf 48 = .ok (.ifCond .eq 20, 3) := by decide +kernel
theorem i_Fl_wayOf_51 : mj_Snd zG ("StreamWatch$Flow", "wayOf", c_Fl_wayOf, 4) 51 (x_aload 0) 52 := mj_aload_n (j := 0) rfl (by decide +kernel)
theorem i_Fl_wayOf_52 : mj_Snd zG ("StreamWatch$Flow", "wayOf", c_Fl_wayOf, 4) 52 (x_aload 1) 53 := mj_aload_n (j := 1) rfl (by decide +kernel)
theorem i_Fl_wayOf_53 : mj_Snd zG ("StreamWatch$Flow", "wayOf", c_Fl_wayOf, 4) 53 (x_getf 5 2) 56 := mj_getf (T := T_Pk) rfl (by decide) u_Pk z1_52 (by decide +kernel)
theorem i_Fl_wayOf_56 : mj_Snd zG ("StreamWatch$Flow", "wayOf", c_Fl_wayOf, 4) 56 (x_aload 1) 57 := mj_aload_n (j := 1) rfl (by decide +kernel)
theorem i_Fl_wayOf_57 : mj_Snd zG ("StreamWatch$Flow", "wayOf", c_Fl_wayOf, 4) 57 (x_getf 5 3) 60 := mj_getf (T := T_Pk) rfl (by decide) u_Pk z1_54 (by decide +kernel)
theorem d_Fl_wayOf_60 : decode c_Fl_wayOf 60 = .ok (.invokevirtual 65, 3) := by decide +kernel
theorem d_Fl_wayOf_63 : decode c_Fl_wayOf 63 = .ok (.ifCond .eq 5, 3) := by decide +kernel
theorem i_Fl_wayOf_66 : mj_Snd zG ("StreamWatch$Flow", "wayOf", c_Fl_wayOf, 4) 66 (x_const 1) 67 := mj_const (n := 1) (by decide) (by decide +kernel)
theorem d_Fl_wayOf_67 : decode c_Fl_wayOf 67 = .ok (.ireturn, 1) := by decide +kernel
theorem i_Fl_wayOf_68 : mj_Snd zG ("StreamWatch$Flow", "wayOf", c_Fl_wayOf, 4) 68 (x_const (-1)) 69 := mj_const (n := (-1)) (by decide) (by decide +kernel)
theorem d_Fl_wayOf_69 : decode c_Fl_wayOf 69 = .ok (.ireturn, 1) := by decide +kernel
theorem b_Fl_wayOf_0 : mj_Ch zG ("StreamWatch$Flow", "wayOf", c_Fl_wayOf, 4) 0 [x_aload 0, x_aload 1, x_getf 5 0, x_aload 1, x_getf 5 1] 9 := ⟨_, i_Fl_wayOf_0, _, i_Fl_wayOf_1, _, i_Fl_wayOf_2, _, i_Fl_wayOf_5, _, i_Fl_wayOf_6, rfl⟩
theorem b_Fl_wayOf_12 : mj_Ch zG ("StreamWatch$Flow", "wayOf", c_Fl_wayOf, 4) 12 [x_istore 2, x_iload 2] 14 := ⟨_, i_Fl_wayOf_12, _, i_Fl_wayOf_13, rfl⟩
theorem b_Fl_wayOf_17 : mj_Ch zG ("StreamWatch$Flow", "wayOf", c_Fl_wayOf, 4) 17 [x_aload 0, x_aload 1, x_getf 5 2, x_aload 1, x_getf 5 3] 26 := ⟨_, i_Fl_wayOf_17, _, i_Fl_wayOf_18, _, i_Fl_wayOf_19, _, i_Fl_wayOf_22, _, i_Fl_wayOf_23, rfl⟩
theorem b_Fl_wayOf_32 : mj_Ch zG ("StreamWatch$Flow", "wayOf", c_Fl_wayOf, 4) 32 [x_const 0] 33 := ⟨_, i_Fl_wayOf_32, rfl⟩
theorem b_Fl_wayOf_34 : mj_Ch zG ("StreamWatch$Flow", "wayOf", c_Fl_wayOf, 4) 34 [x_aload 0, x_aload 1, x_getf 5 0, x_aload 1, x_getf 5 1] 43 := ⟨_, i_Fl_wayOf_34, _, i_Fl_wayOf_35, _, i_Fl_wayOf_36, _, i_Fl_wayOf_39, _, i_Fl_wayOf_40, rfl⟩
theorem b_Fl_wayOf_46 : mj_Ch zG ("StreamWatch$Flow", "wayOf", c_Fl_wayOf, 4) 46 [x_istore 3, x_iload 3] 48 := ⟨_, i_Fl_wayOf_46, _, i_Fl_wayOf_47, rfl⟩
theorem b_Fl_wayOf_51 : mj_Ch zG ("StreamWatch$Flow", "wayOf", c_Fl_wayOf, 4) 51 [x_aload 0, x_aload 1, x_getf 5 2, x_aload 1, x_getf 5 3] 60 := ⟨_, i_Fl_wayOf_51, _, i_Fl_wayOf_52, _, i_Fl_wayOf_53, _, i_Fl_wayOf_56, _, i_Fl_wayOf_57, rfl⟩
theorem b_Fl_wayOf_66 : mj_Ch zG ("StreamWatch$Flow", "wayOf", c_Fl_wayOf, 4) 66 [x_const 1] 67 := ⟨_, i_Fl_wayOf_66, rfl⟩
theorem b_Fl_wayOf_68 : mj_Ch zG ("StreamWatch$Flow", "wayOf", c_Fl_wayOf, 4) 68 [x_const (-1)] 69 := ⟨_, i_Fl_wayOf_68, rfl⟩
theorem i_Fl_streamOf_0 : mj_Snd zG ("StreamWatch$Flow", "streamOf", c_Fl_streamOf, 2) 0 (x_iload 1) 1 := mj_iload_n (j := 1) rfl (by decide +kernel)
theorem d_Fl_streamOf_1 : decode c_Fl_streamOf 1 = .ok (.ifCond .ne 8, 3) := by decide +kernel
theorem i_Fl_streamOf_4 : mj_Snd zG ("StreamWatch$Flow", "streamOf", c_Fl_streamOf, 2) 4 (x_aload 0) 5 := mj_aload_n (j := 0) rfl (by decide +kernel)
theorem i_Fl_streamOf_5 : mj_Snd zG ("StreamWatch$Flow", "streamOf", c_Fl_streamOf, 2) 5 (x_getf 1 5) 8 := mj_getf (T := T_Fl) rfl (by decide) u_Fl z1_137 (by decide +kernel)
theorem d_Fl_streamOf_8 : decode c_Fl_streamOf 8 = .ok (.areturn, 1) := by decide +kernel
theorem i_Fl_streamOf_9 : mj_Snd zG ("StreamWatch$Flow", "streamOf", c_Fl_streamOf, 2) 9 (x_iload 1) 10 := mj_iload_n (j := 1) rfl (by decide +kernel)
theorem i_Fl_streamOf_10 : mj_Snd zG ("StreamWatch$Flow", "streamOf", c_Fl_streamOf, 2) 10 (x_const 1) 11 := mj_const (n := 1) (by decide) (by decide +kernel)
theorem d_Fl_streamOf_11 : decode c_Fl_streamOf 11 = .ok (.if_icmp .ne 10, 3) := by decide +kernel
theorem i_Fl_streamOf_14 : mj_Snd zG ("StreamWatch$Flow", "streamOf", c_Fl_streamOf, 2) 14 (x_aload 0) 15 := mj_aload_n (j := 0) rfl (by decide +kernel)
theorem i_Fl_streamOf_15 : mj_Snd zG ("StreamWatch$Flow", "streamOf", c_Fl_streamOf, 2) 15 (x_getf 1 6) 18 := mj_getf (T := T_Fl) rfl (by decide) u_Fl z1_138 (by decide +kernel)
theorem i_Fl_streamOf_18 : mj_Snd zG ("StreamWatch$Flow", "streamOf", c_Fl_streamOf, 2) 18 (x_skip) 22 := mj_goto (off := 4) (by decide) (by decide +kernel)
theorem i_Fl_streamOf_21 : mj_Snd zG ("StreamWatch$Flow", "streamOf", c_Fl_streamOf, 2) 21 (x_null) 22 := mj_null (by decide +kernel)
theorem d_Fl_streamOf_22 : decode c_Fl_streamOf 22 = .ok (.areturn, 1) := by decide +kernel
theorem b_Fl_streamOf_0 : mj_Ch zG ("StreamWatch$Flow", "streamOf", c_Fl_streamOf, 2) 0 [x_iload 1] 1 := ⟨_, i_Fl_streamOf_0, rfl⟩
theorem b_Fl_streamOf_4 : mj_Ch zG ("StreamWatch$Flow", "streamOf", c_Fl_streamOf, 2) 4 [x_aload 0, x_getf 1 5] 8 := ⟨_, i_Fl_streamOf_4, _, i_Fl_streamOf_5, rfl⟩
theorem b_Fl_streamOf_9 : mj_Ch zG ("StreamWatch$Flow", "streamOf", c_Fl_streamOf, 2) 9 [x_iload 1, x_const 1] 11 := ⟨_, i_Fl_streamOf_9, _, i_Fl_streamOf_10, rfl⟩
theorem b_Fl_streamOf_14 : mj_Ch zG ("StreamWatch$Flow", "streamOf", c_Fl_streamOf, 2) 14 [x_aload 0, x_getf 1 6, x_skip] 22 := ⟨_, i_Fl_streamOf_14, _, i_Fl_streamOf_15, _, i_Fl_streamOf_18, rfl⟩
theorem b_Fl_streamOf_21 : mj_Ch zG ("StreamWatch$Flow", "streamOf", c_Fl_streamOf, 2) 21 [x_null] 22 := ⟨_, i_Fl_streamOf_21, rfl⟩
theorem i_Fl_isClient_0 : mj_Snd zG ("StreamWatch$Flow", "isClient", c_Fl_isClient, 3) 0 (x_aload 0) 1 := mj_aload_n (j := 0) rfl (by decide +kernel)
theorem i_Fl_isClient_1 : mj_Snd zG ("StreamWatch$Flow", "isClient", c_Fl_isClient, 3) 1 (x_getf 1 0) 4 := mj_getf (T := T_Fl) rfl (by decide) u_Fl z1_127 (by decide +kernel)
theorem i_Fl_isClient_4 : mj_Snd zG ("StreamWatch$Flow", "isClient", c_Fl_isClient, 3) 4 (x_iload 1) 5 := mj_iload_n (j := 1) rfl (by decide +kernel)
theorem d_Fl_isClient_5 : decode c_Fl_isClient 5 = .ok (.if_icmp .ne 15, 3) := by decide +kernel
theorem i_Fl_isClient_8 : mj_Snd zG ("StreamWatch$Flow", "isClient", c_Fl_isClient, 3) 8 (x_aload 0) 9 := mj_aload_n (j := 0) rfl (by decide +kernel)
theorem i_Fl_isClient_9 : mj_Snd zG ("StreamWatch$Flow", "isClient", c_Fl_isClient, 3) 9 (x_getf 1 1) 12 := mj_getf (T := T_Fl) rfl (by decide) u_Fl z1_129 (by decide +kernel)
theorem i_Fl_isClient_12 : mj_Snd zG ("StreamWatch$Flow", "isClient", c_Fl_isClient, 3) 12 (x_iload 2) 13 := mj_iload_n (j := 2) rfl (by decide +kernel)
theorem d_Fl_isClient_13 : decode c_Fl_isClient 13 = .ok (.if_icmp .ne 7, 3) := by decide +kernel
theorem i_Fl_isClient_16 : mj_Snd zG ("StreamWatch$Flow", "isClient", c_Fl_isClient, 3) 16 (x_const 1) 17 := mj_const (n := 1) (by decide) (by decide +kernel)
theorem i_Fl_isClient_17 : mj_Snd zG ("StreamWatch$Flow", "isClient", c_Fl_isClient, 3) 17 (x_skip) 21 := mj_goto (off := 4) (by decide) (by decide +kernel)
theorem i_Fl_isClient_20 : mj_Snd zG ("StreamWatch$Flow", "isClient", c_Fl_isClient, 3) 20 (x_const 0) 21 := mj_const (n := 0) (by decide) (by decide +kernel)
theorem d_Fl_isClient_21 : decode c_Fl_isClient 21 = .ok (.ireturn, 1) := by decide +kernel
theorem b_Fl_isClient_0 : mj_Ch zG ("StreamWatch$Flow", "isClient", c_Fl_isClient, 3) 0 [x_aload 0, x_getf 1 0, x_iload 1] 5 := ⟨_, i_Fl_isClient_0, _, i_Fl_isClient_1, _, i_Fl_isClient_4, rfl⟩
theorem b_Fl_isClient_8 : mj_Ch zG ("StreamWatch$Flow", "isClient", c_Fl_isClient, 3) 8 [x_aload 0, x_getf 1 1, x_iload 2] 13 := ⟨_, i_Fl_isClient_8, _, i_Fl_isClient_9, _, i_Fl_isClient_12, rfl⟩
theorem b_Fl_isClient_16 : mj_Ch zG ("StreamWatch$Flow", "isClient", c_Fl_isClient, 3) 16 [x_const 1, x_skip] 21 := ⟨_, i_Fl_isClient_16, _, i_Fl_isClient_17, rfl⟩
theorem b_Fl_isClient_20 : mj_Ch zG ("StreamWatch$Flow", "isClient", c_Fl_isClient, 3) 20 [x_const 0] 21 := ⟨_, i_Fl_isClient_20, rfl⟩
theorem i_Fl_isServer_0 : mj_Snd zG ("StreamWatch$Flow", "isServer", c_Fl_isServer, 3) 0 (x_aload 0) 1 := mj_aload_n (j := 0) rfl (by decide +kernel)
theorem i_Fl_isServer_1 : mj_Snd zG ("StreamWatch$Flow", "isServer", c_Fl_isServer, 3) 1 (x_getf 1 2) 4 := mj_getf (T := T_Fl) rfl (by decide) u_Fl z1_131 (by decide +kernel)
theorem i_Fl_isServer_4 : mj_Snd zG ("StreamWatch$Flow", "isServer", c_Fl_isServer, 3) 4 (x_iload 1) 5 := mj_iload_n (j := 1) rfl (by decide +kernel)
theorem d_Fl_isServer_5 : decode c_Fl_isServer 5 = .ok (.if_icmp .ne 15, 3) := by decide +kernel
theorem i_Fl_isServer_8 : mj_Snd zG ("StreamWatch$Flow", "isServer", c_Fl_isServer, 3) 8 (x_aload 0) 9 := mj_aload_n (j := 0) rfl (by decide +kernel)
theorem i_Fl_isServer_9 : mj_Snd zG ("StreamWatch$Flow", "isServer", c_Fl_isServer, 3) 9 (x_getf 1 3) 12 := mj_getf (T := T_Fl) rfl (by decide) u_Fl z1_133 (by decide +kernel)
theorem i_Fl_isServer_12 : mj_Snd zG ("StreamWatch$Flow", "isServer", c_Fl_isServer, 3) 12 (x_iload 2) 13 := mj_iload_n (j := 2) rfl (by decide +kernel)
theorem d_Fl_isServer_13 : decode c_Fl_isServer 13 = .ok (.if_icmp .ne 7, 3) := by decide +kernel
theorem i_Fl_isServer_16 : mj_Snd zG ("StreamWatch$Flow", "isServer", c_Fl_isServer, 3) 16 (x_const 1) 17 := mj_const (n := 1) (by decide) (by decide +kernel)
theorem i_Fl_isServer_17 : mj_Snd zG ("StreamWatch$Flow", "isServer", c_Fl_isServer, 3) 17 (x_skip) 21 := mj_goto (off := 4) (by decide) (by decide +kernel)
theorem i_Fl_isServer_20 : mj_Snd zG ("StreamWatch$Flow", "isServer", c_Fl_isServer, 3) 20 (x_const 0) 21 := mj_const (n := 0) (by decide) (by decide +kernel)
theorem d_Fl_isServer_21 : decode c_Fl_isServer 21 = .ok (.ireturn, 1) := by decide +kernel
theorem b_Fl_isServer_0 : mj_Ch zG ("StreamWatch$Flow", "isServer", c_Fl_isServer, 3) 0 [x_aload 0, x_getf 1 2, x_iload 1] 5 := ⟨_, i_Fl_isServer_0, _, i_Fl_isServer_1, _, i_Fl_isServer_4, rfl⟩
theorem b_Fl_isServer_8 : mj_Ch zG ("StreamWatch$Flow", "isServer", c_Fl_isServer, 3) 8 [x_aload 0, x_getf 1 3, x_iload 2] 13 := ⟨_, i_Fl_isServer_8, _, i_Fl_isServer_9, _, i_Fl_isServer_12, rfl⟩
theorem b_Fl_isServer_16 : mj_Ch zG ("StreamWatch$Flow", "isServer", c_Fl_isServer, 3) 16 [x_const 1, x_skip] 21 := ⟨_, i_Fl_isServer_16, _, i_Fl_isServer_17, rfl⟩
theorem b_Fl_isServer_20 : mj_Ch zG ("StreamWatch$Flow", "isServer", c_Fl_isServer, 3) 20 [x_const 0] 21 := ⟨_, i_Fl_isServer_20, rfl⟩

theorem i_Pk_init_0 : mj_Snd zG ("StreamWatch$Packet", "<init>", c_Pk_init, 1) 0 (x_aload 0) 1 := mj_aload_n (j := 0) rfl (by decide +kernel)
theorem d_Pk_init_1 : decode c_Pk_init 1 = .ok (.invokespecial 3, 3) := by decide +kernel
theorem i_Pk_init_4 : mj_Snd zG ("StreamWatch$Packet", "<init>", c_Pk_init, 1) 4 (x_aload 0) 5 := mj_aload_n (j := 0) rfl (by decide +kernel)
theorem i_Pk_init_5 : mj_Snd zG ("StreamWatch$Packet", "<init>", c_Pk_init, 1) 5 (x_const 0) 6 := mj_const (n := 0) (by decide) (by decide +kernel)
theorem i_Pk_init_6 : mj_Snd zG ("StreamWatch$Packet", "<init>", c_Pk_init, 1) 6 (x_putf 5 0 0) 9 := mj_putG (T := T_Pk) (ty0 := t_Pk) rfl (by decide) u_Pk t_Pk_ok n_Pk z1_47 (Or.inl rfl) (by decide +kernel)
theorem i_Pk_init_9 : mj_Snd zG ("StreamWatch$Packet", "<init>", c_Pk_init, 1) 9 (x_aload 0) 10 := mj_aload_n (j := 0) rfl (by decide +kernel)
theorem i_Pk_init_10 : mj_Snd zG ("StreamWatch$Packet", "<init>", c_Pk_init, 1) 10 (x_const 0) 11 := mj_const (n := 0) (by decide) (by decide +kernel)
theorem i_Pk_init_11 : mj_Snd zG ("StreamWatch$Packet", "<init>", c_Pk_init, 1) 11 (x_putf 5 1 0) 14 := mj_putG (T := T_Pk) (ty0 := t_Pk) rfl (by decide) u_Pk t_Pk_ok n_Pk z1_49 (Or.inl rfl) (by decide +kernel)
theorem i_Pk_init_14 : mj_Snd zG ("StreamWatch$Packet", "<init>", c_Pk_init, 1) 14 (x_aload 0) 15 := mj_aload_n (j := 0) rfl (by decide +kernel)
theorem i_Pk_init_15 : mj_Snd zG ("StreamWatch$Packet", "<init>", c_Pk_init, 1) 15 (x_const 0) 16 := mj_const (n := 0) (by decide) (by decide +kernel)
theorem i_Pk_init_16 : mj_Snd zG ("StreamWatch$Packet", "<init>", c_Pk_init, 1) 16 (x_putf 5 2 0) 19 := mj_putG (T := T_Pk) (ty0 := t_Pk) rfl (by decide) u_Pk t_Pk_ok n_Pk z1_51 (Or.inl rfl) (by decide +kernel)
theorem i_Pk_init_19 : mj_Snd zG ("StreamWatch$Packet", "<init>", c_Pk_init, 1) 19 (x_aload 0) 20 := mj_aload_n (j := 0) rfl (by decide +kernel)
theorem i_Pk_init_20 : mj_Snd zG ("StreamWatch$Packet", "<init>", c_Pk_init, 1) 20 (x_const 0) 21 := mj_const (n := 0) (by decide) (by decide +kernel)
theorem i_Pk_init_21 : mj_Snd zG ("StreamWatch$Packet", "<init>", c_Pk_init, 1) 21 (x_putf 5 3 0) 24 := mj_putG (T := T_Pk) (ty0 := t_Pk) rfl (by decide) u_Pk t_Pk_ok n_Pk z1_53 (Or.inl rfl) (by decide +kernel)
theorem i_Pk_init_24 : mj_Snd zG ("StreamWatch$Packet", "<init>", c_Pk_init, 1) 24 (x_aload 0) 25 := mj_aload_n (j := 0) rfl (by decide +kernel)
theorem i_Pk_init_25 : mj_Snd zG ("StreamWatch$Packet", "<init>", c_Pk_init, 1) 25 (x_const 0) 26 := mj_const (n := 0) (by decide) (by decide +kernel)
theorem i_Pk_init_26 : mj_Snd zG ("StreamWatch$Packet", "<init>", c_Pk_init, 1) 26 (x_putf 5 4 0) 29 := mj_putG (T := T_Pk) (ty0 := t_Pk) rfl (by decide) u_Pk t_Pk_ok n_Pk z1_55 (Or.inl rfl) (by decide +kernel)
theorem i_Pk_init_29 : mj_Snd zG ("StreamWatch$Packet", "<init>", c_Pk_init, 1) 29 (x_aload 0) 30 := mj_aload_n (j := 0) rfl (by decide +kernel)
theorem i_Pk_init_30 : mj_Snd zG ("StreamWatch$Packet", "<init>", c_Pk_init, 1) 30 (x_const 0) 31 := mj_const (n := 0) (by decide) (by decide +kernel)
theorem i_Pk_init_31 : mj_Snd zG ("StreamWatch$Packet", "<init>", c_Pk_init, 1) 31 (x_putf 5 5 0) 34 := mj_putG (T := T_Pk) (ty0 := t_Pk) rfl (by decide) u_Pk t_Pk_ok n_Pk z1_57 (Or.inl rfl) (by decide +kernel)
theorem i_Pk_init_34 : mj_Snd zG ("StreamWatch$Packet", "<init>", c_Pk_init, 1) 34 (x_aload 0) 35 := mj_aload_n (j := 0) rfl (by decide +kernel)
theorem i_Pk_init_35 : mj_Snd zG ("StreamWatch$Packet", "<init>", c_Pk_init, 1) 35 (x_const 0) 36 := mj_const (n := 0) (by decide) (by decide +kernel)
theorem i_Pk_init_36 : mj_Snd zG ("StreamWatch$Packet", "<init>", c_Pk_init, 1) 36 (x_putf 5 6 0) 39 := mj_putG (T := T_Pk) (ty0 := t_Pk) rfl (by decide) u_Pk t_Pk_ok n_Pk z1_59 (Or.inl rfl) (by decide +kernel)
theorem i_Pk_init_39 : mj_Snd zG ("StreamWatch$Packet", "<init>", c_Pk_init, 1) 39 (x_aload 0) 40 := mj_aload_n (j := 0) rfl (by decide +kernel)
theorem i_Pk_init_40 : mj_Snd zG ("StreamWatch$Packet", "<init>", c_Pk_init, 1) 40 (x_const 0) 41 := mj_const (n := 0) (by decide) (by decide +kernel)
theorem i_Pk_init_41 : mj_Snd zG ("StreamWatch$Packet", "<init>", c_Pk_init, 1) 41 (x_putf 5 7 0) 44 := mj_putG (T := T_Pk) (ty0 := t_Pk) rfl (by decide) u_Pk t_Pk_ok n_Pk z1_61 (Or.inl rfl) (by decide +kernel)
theorem d_Pk_init_44 : decode c_Pk_init 44 = .ok (.return_, 1) := by decide +kernel
theorem b_Pk_init_0 : mj_Ch zG ("StreamWatch$Packet", "<init>", c_Pk_init, 1) 0 [x_aload 0] 1 := ⟨_, i_Pk_init_0, rfl⟩
theorem b_Pk_init_4 : mj_Ch zG ("StreamWatch$Packet", "<init>", c_Pk_init, 1) 4 [x_aload 0, x_const 0, x_putf 5 0 0, x_aload 0, x_const 0, x_putf 5 1 0, x_aload 0, x_const 0, x_putf 5 2 0, x_aload 0, x_const 0, x_putf 5 3 0, x_aload 0, x_const 0, x_putf 5 4 0, x_aload 0, x_const 0, x_putf 5 5 0, x_aload 0, x_const 0, x_putf 5 6 0, x_aload 0, x_const 0, x_putf 5 7 0] 44 := ⟨_, i_Pk_init_4, _, i_Pk_init_5, _, i_Pk_init_6, _, i_Pk_init_9, _, i_Pk_init_10, _, i_Pk_init_11, _, i_Pk_init_14, _, i_Pk_init_15, _, i_Pk_init_16, _, i_Pk_init_19, _, i_Pk_init_20, _, i_Pk_init_21, _, i_Pk_init_24, _, i_Pk_init_25, _, i_Pk_init_26, _, i_Pk_init_29, _, i_Pk_init_30, _, i_Pk_init_31, _, i_Pk_init_34, _, i_Pk_init_35, _, i_Pk_init_36, _, i_Pk_init_39, _, i_Pk_init_40, _, i_Pk_init_41, rfl⟩
theorem i_Pk_read_0 : mj_Snd zG ("StreamWatch$Packet", "read", c_Pk_read, 3) 0 (x_aload 1) 1 := mj_aload_n (j := 1) rfl (by decide +kernel)
theorem d_Pk_read_1 : decode c_Pk_read 1 = .ok (.invokevirtual 36, 3) := by decide +kernel
theorem i_Pk_read_4 : mj_Snd zG ("StreamWatch$Packet", "read", c_Pk_read, 3) 4 (x_istore 2) 5 := mj_istore_n (j := 2) rfl (by decide) (by decide +kernel)
theorem i_Pk_read_5 : mj_Snd zG ("StreamWatch$Packet", "read", c_Pk_read, 3) 5 (x_aload 0) 6 := mj_aload_n (j := 0) rfl (by decide +kernel)
theorem i_Pk_read_6 : mj_Snd zG ("StreamWatch$Packet", "read", c_Pk_read, 3) 6 (x_aload 1) 7 := mj_aload_n (j := 1) rfl (by decide +kernel)
theorem i_Pk_read_7 : mj_Snd zG ("StreamWatch$Packet", "read", c_Pk_read, 3) 7 (x_const 12) 9 := mj_bipush (n := 12) (by decide) (by decide +kernel)
theorem d_Pk_read_9 : decode c_Pk_read 9 = .ok (.invokevirtual 42, 3) := by decide +kernel
theorem i_Pk_read_12 : mj_Snd zG ("StreamWatch$Packet", "read", c_Pk_read, 3) 12 (x_putf 5 0 0) 15 := mj_putG (T := T_Pk) (ty0 := t_Pk) rfl (by decide) u_Pk t_Pk_ok n_Pk z1_47 (Or.inl rfl) (by decide +kernel)
theorem i_Pk_read_15 : mj_Snd zG ("StreamWatch$Packet", "read", c_Pk_read, 3) 15 (x_aload 0) 16 := mj_aload_n (j := 0) rfl (by decide +kernel)
theorem i_Pk_read_16 : mj_Snd zG ("StreamWatch$Packet", "read", c_Pk_read, 3) 16 (x_aload 1) 17 := mj_aload_n (j := 1) rfl (by decide +kernel)
theorem i_Pk_read_17 : mj_Snd zG ("StreamWatch$Packet", "read", c_Pk_read, 3) 17 (x_const 16) 19 := mj_bipush (n := 16) (by decide) (by decide +kernel)
theorem d_Pk_read_19 : decode c_Pk_read 19 = .ok (.invokevirtual 42, 3) := by decide +kernel
theorem i_Pk_read_22 : mj_Snd zG ("StreamWatch$Packet", "read", c_Pk_read, 3) 22 (x_putf 5 2 0) 25 := mj_putG (T := T_Pk) (ty0 := t_Pk) rfl (by decide) u_Pk t_Pk_ok n_Pk z1_51 (Or.inl rfl) (by decide +kernel)
theorem i_Pk_read_25 : mj_Snd zG ("StreamWatch$Packet", "read", c_Pk_read, 3) 25 (x_aload 0) 26 := mj_aload_n (j := 0) rfl (by decide +kernel)
theorem i_Pk_read_26 : mj_Snd zG ("StreamWatch$Packet", "read", c_Pk_read, 3) 26 (x_aload 1) 27 := mj_aload_n (j := 1) rfl (by decide +kernel)
theorem i_Pk_read_27 : mj_Snd zG ("StreamWatch$Packet", "read", c_Pk_read, 3) 27 (x_iload 2) 28 := mj_iload_n (j := 2) rfl (by decide +kernel)
theorem d_Pk_read_28 : decode c_Pk_read 28 = .ok (.invokevirtual 46, 3) := by decide +kernel
theorem i_Pk_read_31 : mj_Snd zG ("StreamWatch$Packet", "read", c_Pk_read, 3) 31 (x_putf 5 1 0) 34 := mj_putG (T := T_Pk) (ty0 := t_Pk) rfl (by decide) u_Pk t_Pk_ok n_Pk z1_49 (Or.inl rfl) (by decide +kernel)
theorem i_Pk_read_34 : mj_Snd zG ("StreamWatch$Packet", "read", c_Pk_read, 3) 34 (x_aload 0) 35 := mj_aload_n (j := 0) rfl (by decide +kernel)
theorem i_Pk_read_35 : mj_Snd zG ("StreamWatch$Packet", "read", c_Pk_read, 3) 35 (x_aload 1) 36 := mj_aload_n (j := 1) rfl (by decide +kernel)
theorem i_Pk_read_36 : mj_Snd zG ("StreamWatch$Packet", "read", c_Pk_read, 3) 36 (x_iload 2) 37 := mj_iload_n (j := 2) rfl (by decide +kernel)
theorem i_Pk_read_37 : mj_Snd zG ("StreamWatch$Packet", "read", c_Pk_read, 3) 37 (x_const 2) 38 := mj_const (n := 2) (by decide) (by decide +kernel)
theorem i_Pk_read_38 : mj_Snd zG ("StreamWatch$Packet", "read", c_Pk_read, 3) 38 (x_iadd) 39 := mj_iadd (by decide +kernel)
theorem d_Pk_read_39 : decode c_Pk_read 39 = .ok (.invokevirtual 46, 3) := by decide +kernel
theorem i_Pk_read_42 : mj_Snd zG ("StreamWatch$Packet", "read", c_Pk_read, 3) 42 (x_putf 5 3 0) 45 := mj_putG (T := T_Pk) (ty0 := t_Pk) rfl (by decide) u_Pk t_Pk_ok n_Pk z1_53 (Or.inl rfl) (by decide +kernel)
theorem i_Pk_read_45 : mj_Snd zG ("StreamWatch$Packet", "read", c_Pk_read, 3) 45 (x_aload 0) 46 := mj_aload_n (j := 0) rfl (by decide +kernel)
theorem i_Pk_read_46 : mj_Snd zG ("StreamWatch$Packet", "read", c_Pk_read, 3) 46 (x_aload 1) 47 := mj_aload_n (j := 1) rfl (by decide +kernel)
theorem i_Pk_read_47 : mj_Snd zG ("StreamWatch$Packet", "read", c_Pk_read, 3) 47 (x_iload 2) 48 := mj_iload_n (j := 2) rfl (by decide +kernel)
theorem i_Pk_read_48 : mj_Snd zG ("StreamWatch$Packet", "read", c_Pk_read, 3) 48 (x_const 13) 50 := mj_bipush (n := 13) (by decide) (by decide +kernel)
theorem i_Pk_read_50 : mj_Snd zG ("StreamWatch$Packet", "read", c_Pk_read, 3) 50 (x_iadd) 51 := mj_iadd (by decide +kernel)
theorem d_Pk_read_51 : decode c_Pk_read 51 = .ok (.invokevirtual 49, 3) := by decide +kernel
theorem i_Pk_read_54 : mj_Snd zG ("StreamWatch$Packet", "read", c_Pk_read, 3) 54 (x_putf 5 7 0) 57 := mj_putG (T := T_Pk) (ty0 := t_Pk) rfl (by decide) u_Pk t_Pk_ok n_Pk z1_61 (Or.inl rfl) (by decide +kernel)
theorem i_Pk_read_57 : mj_Snd zG ("StreamWatch$Packet", "read", c_Pk_read, 3) 57 (x_aload 0) 58 := mj_aload_n (j := 0) rfl (by decide +kernel)
theorem i_Pk_read_58 : mj_Snd zG ("StreamWatch$Packet", "read", c_Pk_read, 3) 58 (x_aload 1) 59 := mj_aload_n (j := 1) rfl (by decide +kernel)
theorem i_Pk_read_59 : mj_Snd zG ("StreamWatch$Packet", "read", c_Pk_read, 3) 59 (x_iload 2) 60 := mj_iload_n (j := 2) rfl (by decide +kernel)
theorem i_Pk_read_60 : mj_Snd zG ("StreamWatch$Packet", "read", c_Pk_read, 3) 60 (x_const 4) 61 := mj_const (n := 4) (by decide) (by decide +kernel)
theorem i_Pk_read_61 : mj_Snd zG ("StreamWatch$Packet", "read", c_Pk_read, 3) 61 (x_iadd) 62 := mj_iadd (by decide +kernel)
theorem d_Pk_read_62 : decode c_Pk_read 62 = .ok (.invokevirtual 42, 3) := by decide +kernel
theorem i_Pk_read_65 : mj_Snd zG ("StreamWatch$Packet", "read", c_Pk_read, 3) 65 (x_aload 0) 66 := mj_aload_n (j := 0) rfl (by decide +kernel)
theorem i_Pk_read_66 : mj_Snd zG ("StreamWatch$Packet", "read", c_Pk_read, 3) 66 (x_const 2) 67 := mj_const (n := 2) (by decide) (by decide +kernel)
theorem d_Pk_read_67 : decode c_Pk_read 67 = .ok (.invokevirtual 52, 3) := by decide +kernel
theorem d_Pk_read_70 : decode c_Pk_read 70 = .ok (.ifCond .eq 7, 3) := by decide +kernel
theorem i_Pk_read_73 : mj_Snd zG ("StreamWatch$Packet", "read", c_Pk_read, 3) 73 (x_const 1) 74 := mj_const (n := 1) (by decide) (by decide +kernel)
theorem i_Pk_read_74 : mj_Snd zG ("StreamWatch$Packet", "read", c_Pk_read, 3) 74 (x_skip) 78 := mj_goto (off := 4) (by decide) (by decide +kernel)
theorem i_Pk_read_77 : mj_Snd zG ("StreamWatch$Packet", "read", c_Pk_read, 3) 77 (x_const 0) 78 := mj_const (n := 0) (by decide) (by decide +kernel)
theorem i_Pk_read_78 : mj_Snd zG ("StreamWatch$Packet", "read", c_Pk_read, 3) 78 (x_iadd) 79 := mj_iadd (by decide +kernel)
theorem i_Pk_read_79 : mj_Snd zG ("StreamWatch$Packet", "read", c_Pk_read, 3) 79 (x_putf 5 4 0) 82 := mj_putG (T := T_Pk) (ty0 := t_Pk) rfl (by decide) u_Pk t_Pk_ok n_Pk z1_55 (Or.inl rfl) (by decide +kernel)
theorem i_Pk_read_82 : mj_Snd zG ("StreamWatch$Packet", "read", c_Pk_read, 3) 82 (x_aload 0) 83 := mj_aload_n (j := 0) rfl (by decide +kernel)
theorem i_Pk_read_83 : mj_Snd zG ("StreamWatch$Packet", "read", c_Pk_read, 3) 83 (x_aload 1) 84 := mj_aload_n (j := 1) rfl (by decide +kernel)
theorem d_Pk_read_84 : decode c_Pk_read 84 = .ok (.invokevirtual 56, 3) := by decide +kernel
theorem i_Pk_read_87 : mj_Snd zG ("StreamWatch$Packet", "read", c_Pk_read, 3) 87 (x_putf 5 5 0) 90 := mj_putG (T := T_Pk) (ty0 := t_Pk) rfl (by decide) u_Pk t_Pk_ok n_Pk z1_57 (Or.inl rfl) (by decide +kernel)
theorem i_Pk_read_90 : mj_Snd zG ("StreamWatch$Packet", "read", c_Pk_read, 3) 90 (x_aload 0) 91 := mj_aload_n (j := 0) rfl (by decide +kernel)
theorem i_Pk_read_91 : mj_Snd zG ("StreamWatch$Packet", "read", c_Pk_read, 3) 91 (x_aload 1) 92 := mj_aload_n (j := 1) rfl (by decide +kernel)
theorem d_Pk_read_92 : decode c_Pk_read 92 = .ok (.invokevirtual 58, 3) := by decide +kernel
theorem i_Pk_read_95 : mj_Snd zG ("StreamWatch$Packet", "read", c_Pk_read, 3) 95 (x_aload 0) 96 := mj_aload_n (j := 0) rfl (by decide +kernel)
theorem i_Pk_read_96 : mj_Snd zG ("StreamWatch$Packet", "read", c_Pk_read, 3) 96 (x_getf 5 5) 99 := mj_getf (T := T_Pk) rfl (by decide) u_Pk z1_57 (by decide +kernel)
theorem i_Pk_read_99 : mj_Snd zG ("StreamWatch$Packet", "read", c_Pk_read, 3) 99 (x_isub) 100 := mj_isub (by decide +kernel)
theorem i_Pk_read_100 : mj_Snd zG ("StreamWatch$Packet", "read", c_Pk_read, 3) 100 (x_putf 5 6 0) 103 := mj_putG (T := T_Pk) (ty0 := t_Pk) rfl (by decide) u_Pk t_Pk_ok n_Pk z1_59 (Or.inl rfl) (by decide +kernel)
theorem d_Pk_read_103 : decode c_Pk_read 103 = .ok (.return_, 1) := by decide +kernel
theorem b_Pk_read_0 : mj_Ch zG ("StreamWatch$Packet", "read", c_Pk_read, 3) 0 [x_aload 1] 1 := ⟨_, i_Pk_read_0, rfl⟩
theorem b_Pk_read_4 : mj_Ch zG ("StreamWatch$Packet", "read", c_Pk_read, 3) 4 [x_istore 2, x_aload 0, x_aload 1, x_const 12] 9 := ⟨_, i_Pk_read_4, _, i_Pk_read_5, _, i_Pk_read_6, _, i_Pk_read_7, rfl⟩
theorem b_Pk_read_12 : mj_Ch zG ("StreamWatch$Packet", "read", c_Pk_read, 3) 12 [x_putf 5 0 0, x_aload 0, x_aload 1, x_const 16] 19 := ⟨_, i_Pk_read_12, _, i_Pk_read_15, _, i_Pk_read_16, _, i_Pk_read_17, rfl⟩
theorem b_Pk_read_22 : mj_Ch zG ("StreamWatch$Packet", "read", c_Pk_read, 3) 22 [x_putf 5 2 0, x_aload 0, x_aload 1, x_iload 2] 28 := ⟨_, i_Pk_read_22, _, i_Pk_read_25, _, i_Pk_read_26, _, i_Pk_read_27, rfl⟩
theorem b_Pk_read_31 : mj_Ch zG ("StreamWatch$Packet", "read", c_Pk_read, 3) 31 [x_putf 5 1 0, x_aload 0, x_aload 1, x_iload 2, x_const 2, x_iadd] 39 := ⟨_, i_Pk_read_31, _, i_Pk_read_34, _, i_Pk_read_35, _, i_Pk_read_36, _, i_Pk_read_37, _, i_Pk_read_38, rfl⟩
theorem b_Pk_read_42 : mj_Ch zG ("StreamWatch$Packet", "read", c_Pk_read, 3) 42 [x_putf 5 3 0, x_aload 0, x_aload 1, x_iload 2, x_const 13, x_iadd] 51 := ⟨_, i_Pk_read_42, _, i_Pk_read_45, _, i_Pk_read_46, _, i_Pk_read_47, _, i_Pk_read_48, _, i_Pk_read_50, rfl⟩
theorem b_Pk_read_54 : mj_Ch zG ("StreamWatch$Packet", "read", c_Pk_read, 3) 54 [x_putf 5 7 0, x_aload 0, x_aload 1, x_iload 2, x_const 4, x_iadd] 62 := ⟨_, i_Pk_read_54, _, i_Pk_read_57, _, i_Pk_read_58, _, i_Pk_read_59, _, i_Pk_read_60, _, i_Pk_read_61, rfl⟩
theorem b_Pk_read_65 : mj_Ch zG ("StreamWatch$Packet", "read", c_Pk_read, 3) 65 [x_aload 0, x_const 2] 67 := ⟨_, i_Pk_read_65, _, i_Pk_read_66, rfl⟩
theorem b_Pk_read_73 : mj_Ch zG ("StreamWatch$Packet", "read", c_Pk_read, 3) 73 [x_const 1, x_skip] 78 := ⟨_, i_Pk_read_73, _, i_Pk_read_74, rfl⟩
theorem b_Pk_read_77 : mj_Ch zG ("StreamWatch$Packet", "read", c_Pk_read, 3) 77 [x_const 0] 78 := ⟨_, i_Pk_read_77, rfl⟩
theorem b_Pk_read_78 : mj_Ch zG ("StreamWatch$Packet", "read", c_Pk_read, 3) 78 [x_iadd, x_putf 5 4 0, x_aload 0, x_aload 1] 84 := ⟨_, i_Pk_read_78, _, i_Pk_read_79, _, i_Pk_read_82, _, i_Pk_read_83, rfl⟩
theorem b_Pk_read_87 : mj_Ch zG ("StreamWatch$Packet", "read", c_Pk_read, 3) 87 [x_putf 5 5 0, x_aload 0, x_aload 1] 92 := ⟨_, i_Pk_read_87, _, i_Pk_read_90, _, i_Pk_read_91, rfl⟩
theorem b_Pk_read_95 : mj_Ch zG ("StreamWatch$Packet", "read", c_Pk_read, 3) 95 [x_aload 0, x_getf 5 5, x_isub, x_putf 5 6 0] 103 := ⟨_, i_Pk_read_95, _, i_Pk_read_96, _, i_Pk_read_99, _, i_Pk_read_100, rfl⟩
theorem i_Pk_hasFlag_0 : mj_Snd zG ("StreamWatch$Packet", "hasFlag", c_Pk_hasFlag, 2) 0 (x_aload 0) 1 := mj_aload_n (j := 0) rfl (by decide +kernel)
theorem i_Pk_hasFlag_1 : mj_Snd zG ("StreamWatch$Packet", "hasFlag", c_Pk_hasFlag, 2) 1 (x_getf 5 7) 4 := mj_getf (T := T_Pk) rfl (by decide) u_Pk z1_61 (by decide +kernel)
theorem i_Pk_hasFlag_4 : mj_Snd zG ("StreamWatch$Packet", "hasFlag", c_Pk_hasFlag, 2) 4 (x_iload 1) 5 := mj_iload_n (j := 1) rfl (by decide +kernel)
theorem i_Pk_hasFlag_5 : mj_Snd zG ("StreamWatch$Packet", "hasFlag", c_Pk_hasFlag, 2) 5 (x_iand) 6 := mj_iand (by decide +kernel)
theorem d_Pk_hasFlag_6 : decode c_Pk_hasFlag 6 = .ok (.ifCond .eq 7, 3) := by decide +kernel
theorem i_Pk_hasFlag_9 : mj_Snd zG ("StreamWatch$Packet", "hasFlag", c_Pk_hasFlag, 2) 9 (x_const 1) 10 := mj_const (n := 1) (by decide) (by decide +kernel)
theorem i_Pk_hasFlag_10 : mj_Snd zG ("StreamWatch$Packet", "hasFlag", c_Pk_hasFlag, 2) 10 (x_skip) 14 := mj_goto (off := 4) (by decide) (by decide +kernel)
theorem i_Pk_hasFlag_13 : mj_Snd zG ("StreamWatch$Packet", "hasFlag", c_Pk_hasFlag, 2) 13 (x_const 0) 14 := mj_const (n := 0) (by decide) (by decide +kernel)
theorem d_Pk_hasFlag_14 : decode c_Pk_hasFlag 14 = .ok (.ireturn, 1) := by decide +kernel
theorem b_Pk_hasFlag_0 : mj_Ch zG ("StreamWatch$Packet", "hasFlag", c_Pk_hasFlag, 2) 0 [x_aload 0, x_getf 5 7, x_iload 1, x_iand] 6 := ⟨_, i_Pk_hasFlag_0, _, i_Pk_hasFlag_1, _, i_Pk_hasFlag_4, _, i_Pk_hasFlag_5, rfl⟩
theorem b_Pk_hasFlag_9 : mj_Ch zG ("StreamWatch$Packet", "hasFlag", c_Pk_hasFlag, 2) 9 [x_const 1, x_skip] 14 := ⟨_, i_Pk_hasFlag_9, _, i_Pk_hasFlag_10, rfl⟩
theorem b_Pk_hasFlag_13 : mj_Ch zG ("StreamWatch$Packet", "hasFlag", c_Pk_hasFlag, 2) 13 [x_const 0] 14 := ⟨_, i_Pk_hasFlag_13, rfl⟩

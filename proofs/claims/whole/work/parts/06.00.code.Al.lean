theorem i_Al_init_0 : mj_Snd zG ("StreamWatch$AlertLog", "<init>", c_Al_init, 1) 0 (x_aload 0) 1 := mj_aload_n (j := 0) rfl (by decide +kernel)
theorem d_Al_init_1 : decode c_Al_init 1 = .ok (.invokespecial 3, 3) := by decide +kernel
theorem i_Al_init_4 : mj_Snd zG ("StreamWatch$AlertLog", "<init>", c_Al_init, 1) 4 (x_aload 0) 5 := mj_aload_n (j := 0) rfl (by decide +kernel)
theorem i_Al_init_5 : mj_Snd zG ("StreamWatch$AlertLog", "<init>", c_Al_init, 1) 5 (x_const 96) 7 := mj_bipush (n := 96) (by decide) (by decide +kernel)
theorem d_Al_init_7 : decode c_Al_init 7 = .ok (.newarray .int, 2) := by decide +kernel
theorem i_Al_init_9 : mj_Snd zG ("StreamWatch$AlertLog", "<init>", c_Al_init, 1) 9 (x_putf 0 0 3) 12 := mj_putG (T := T_Al) (ty0 := t_Al) rfl (by decide) u_Al t_Al_ok n_Al z1_202 (Or.inr ⟨rfl, rfl, rfl⟩) (by decide +kernel)
theorem i_Al_init_12 : mj_Snd zG ("StreamWatch$AlertLog", "<init>", c_Al_init, 1) 12 (x_aload 0) 13 := mj_aload_n (j := 0) rfl (by decide +kernel)
theorem i_Al_init_13 : mj_Snd zG ("StreamWatch$AlertLog", "<init>", c_Al_init, 1) 13 (x_const 0) 14 := mj_const (n := 0) (by decide) (by decide +kernel)
theorem i_Al_init_14 : mj_Snd zG ("StreamWatch$AlertLog", "<init>", c_Al_init, 1) 14 (x_putf 0 1 0) 17 := mj_putG (T := T_Al) (ty0 := t_Al) rfl (by decide) u_Al t_Al_ok n_Al z1_203 (Or.inl rfl) (by decide +kernel)
theorem i_Al_init_17 : mj_Snd zG ("StreamWatch$AlertLog", "<init>", c_Al_init, 1) 17 (x_aload 0) 18 := mj_aload_n (j := 0) rfl (by decide +kernel)
theorem i_Al_init_18 : mj_Snd zG ("StreamWatch$AlertLog", "<init>", c_Al_init, 1) 18 (x_const (-1)) 19 := mj_const (n := (-1)) (by decide) (by decide +kernel)
theorem i_Al_init_19 : mj_Snd zG ("StreamWatch$AlertLog", "<init>", c_Al_init, 1) 19 (x_putf 0 2 0) 22 := mj_putG (T := T_Al) (ty0 := t_Al) rfl (by decide) u_Al t_Al_ok n_Al z1_204 (Or.inl rfl) (by decide +kernel)
theorem d_Al_init_22 : decode c_Al_init 22 = .ok (.return_, 1) := by decide +kernel
theorem b_Al_init_0 : mj_Ch zG ("StreamWatch$AlertLog", "<init>", c_Al_init, 1) 0 [x_aload 0] 1 := ⟨_, i_Al_init_0, rfl⟩
theorem b_Al_init_4 : mj_Ch zG ("StreamWatch$AlertLog", "<init>", c_Al_init, 1) 4 [x_aload 0, x_const 96] 7 := ⟨_, i_Al_init_4, _, i_Al_init_5, rfl⟩
theorem b_Al_init_9 : mj_Ch zG ("StreamWatch$AlertLog", "<init>", c_Al_init, 1) 9 [x_putf 0 0 3, x_aload 0, x_const 0, x_putf 0 1 0, x_aload 0, x_const (-1), x_putf 0 2 0] 22 := ⟨_, i_Al_init_9, _, i_Al_init_12, _, i_Al_init_13, _, i_Al_init_14, _, i_Al_init_17, _, i_Al_init_18, _, i_Al_init_19, rfl⟩
theorem i_Al_total_0 : mj_Snd zG ("StreamWatch$AlertLog", "total", c_Al_total, 1) 0 (x_aload 0) 1 := mj_aload_n (j := 0) rfl (by decide +kernel)
theorem i_Al_total_1 : mj_Snd zG ("StreamWatch$AlertLog", "total", c_Al_total, 1) 1 (x_getf 0 1) 4 := mj_getf (T := T_Al) rfl (by decide) u_Al z1_203 (by decide +kernel)
theorem d_Al_total_4 : decode c_Al_total 4 = .ok (.ireturn, 1) := by decide +kernel
theorem b_Al_total_0 : mj_Ch zG ("StreamWatch$AlertLog", "total", c_Al_total, 1) 0 [x_aload 0, x_getf 0 1] 4 := ⟨_, i_Al_total_0, _, i_Al_total_1, rfl⟩
theorem i_Al_add_0 : mj_Snd zG ("StreamWatch$AlertLog", "add", c_Al_add, 6) 0 (x_aload 0) 1 := mj_aload_n (j := 0) rfl (by decide +kernel)
theorem i_Al_add_1 : mj_Snd zG ("StreamWatch$AlertLog", "add", c_Al_add, 6) 1 (x_aload 0) 2 := mj_aload_n (j := 0) rfl (by decide +kernel)
theorem i_Al_add_2 : mj_Snd zG ("StreamWatch$AlertLog", "add", c_Al_add, 6) 2 (x_getf 0 2) 5 := mj_getf (T := T_Al) rfl (by decide) u_Al z1_204 (by decide +kernel)
theorem i_Al_add_5 : mj_Snd zG ("StreamWatch$AlertLog", "add", c_Al_add, 6) 5 (x_const 1) 6 := mj_const (n := 1) (by decide) (by decide +kernel)
theorem i_Al_add_6 : mj_Snd zG ("StreamWatch$AlertLog", "add", c_Al_add, 6) 6 (x_iadd) 7 := mj_iadd (by decide +kernel)
theorem i_Al_add_7 : mj_Snd zG ("StreamWatch$AlertLog", "add", c_Al_add, 6) 7 (x_const 24) 9 := mj_bipush (n := 24) (by decide) (by decide +kernel)
theorem d_Al_add_9 : decode c_Al_add 9 = .ok (.if_icmp .ge 12, 3) := by decide +kernel
theorem i_Al_add_12 : mj_Snd zG ("StreamWatch$AlertLog", "add", c_Al_add, 6) 12 (x_aload 0) 13 := mj_aload_n (j := 0) rfl (by decide +kernel)
theorem i_Al_add_13 : mj_Snd zG ("StreamWatch$AlertLog", "add", c_Al_add, 6) 13 (x_getf 0 2) 16 := mj_getf (T := T_Al) rfl (by decide) u_Al z1_204 (by decide +kernel)
theorem i_Al_add_16 : mj_Snd zG ("StreamWatch$AlertLog", "add", c_Al_add, 6) 16 (x_const 1) 17 := mj_const (n := 1) (by decide) (by decide +kernel)
theorem i_Al_add_17 : mj_Snd zG ("StreamWatch$AlertLog", "add", c_Al_add, 6) 17 (x_iadd) 18 := mj_iadd (by decide +kernel)
theorem i_Al_add_18 : mj_Snd zG ("StreamWatch$AlertLog", "add", c_Al_add, 6) 18 (x_skip) 22 := mj_goto (off := 4) (by decide) (by decide +kernel)
theorem i_Al_add_21 : mj_Snd zG ("StreamWatch$AlertLog", "add", c_Al_add, 6) 21 (x_const 0) 22 := mj_const (n := 0) (by decide) (by decide +kernel)
theorem i_Al_add_22 : mj_Snd zG ("StreamWatch$AlertLog", "add", c_Al_add, 6) 22 (x_putf 0 2 0) 25 := mj_putG (T := T_Al) (ty0 := t_Al) rfl (by decide) u_Al t_Al_ok n_Al z1_204 (Or.inl rfl) (by decide +kernel)
theorem i_Al_add_25 : mj_Snd zG ("StreamWatch$AlertLog", "add", c_Al_add, 6) 25 (x_aload 0) 26 := mj_aload_n (j := 0) rfl (by decide +kernel)
theorem i_Al_add_26 : mj_Snd zG ("StreamWatch$AlertLog", "add", c_Al_add, 6) 26 (x_dup) 27 := mj_dup (by decide +kernel)
theorem i_Al_add_27 : mj_Snd zG ("StreamWatch$AlertLog", "add", c_Al_add, 6) 27 (x_getf 0 1) 30 := mj_getf (T := T_Al) rfl (by decide) u_Al z1_203 (by decide +kernel)
theorem i_Al_add_30 : mj_Snd zG ("StreamWatch$AlertLog", "add", c_Al_add, 6) 30 (x_const 1) 31 := mj_const (n := 1) (by decide) (by decide +kernel)
theorem i_Al_add_31 : mj_Snd zG ("StreamWatch$AlertLog", "add", c_Al_add, 6) 31 (x_iadd) 32 := mj_iadd (by decide +kernel)
theorem i_Al_add_32 : mj_Snd zG ("StreamWatch$AlertLog", "add", c_Al_add, 6) 32 (x_putf 0 1 0) 35 := mj_putG (T := T_Al) (ty0 := t_Al) rfl (by decide) u_Al t_Al_ok n_Al z1_203 (Or.inl rfl) (by decide +kernel)
theorem i_Al_add_35 : mj_Snd zG ("StreamWatch$AlertLog", "add", c_Al_add, 6) 35 (x_aload 0) 36 := mj_aload_n (j := 0) rfl (by decide +kernel)
theorem i_Al_add_36 : mj_Snd zG ("StreamWatch$AlertLog", "add", c_Al_add, 6) 36 (x_getf 0 2) 39 := mj_getf (T := T_Al) rfl (by decide) u_Al z1_204 (by decide +kernel)
theorem i_Al_add_39 : mj_Snd zG ("StreamWatch$AlertLog", "add", c_Al_add, 6) 39 (x_const 4) 40 := mj_const (n := 4) (by decide) (by decide +kernel)
theorem i_Al_add_40 : mj_Snd zG ("StreamWatch$AlertLog", "add", c_Al_add, 6) 40 (x_imul) 41 := mj_imul (by decide +kernel)
theorem i_Al_add_41 : mj_Snd zG ("StreamWatch$AlertLog", "add", c_Al_add, 6) 41 (x_istore 5) 43 := mj_istore (by decide) (by decide +kernel)
theorem i_Al_add_43 : mj_Snd zG ("StreamWatch$AlertLog", "add", c_Al_add, 6) 43 (x_aload 0) 44 := mj_aload_n (j := 0) rfl (by decide +kernel)
theorem i_Al_add_44 : mj_Snd zG ("StreamWatch$AlertLog", "add", c_Al_add, 6) 44 (x_getf 0 0) 47 := mj_getf (T := T_Al) rfl (by decide) u_Al z1_202 (by decide +kernel)
theorem i_Al_add_47 : mj_Snd zG ("StreamWatch$AlertLog", "add", c_Al_add, 6) 47 (x_iload 5) 49 := mj_iload (by decide +kernel)
theorem i_Al_add_49 : mj_Snd zG ("StreamWatch$AlertLog", "add", c_Al_add, 6) 49 (x_iload 1) 50 := mj_iload_n (j := 1) rfl (by decide +kernel)
theorem i_Al_add_50 : mj_Snd zG ("StreamWatch$AlertLog", "add", c_Al_add, 6) 50 (x_iast 0) 51 := mj_iast rfl (by decide +kernel)
theorem i_Al_add_51 : mj_Snd zG ("StreamWatch$AlertLog", "add", c_Al_add, 6) 51 (x_aload 0) 52 := mj_aload_n (j := 0) rfl (by decide +kernel)
theorem i_Al_add_52 : mj_Snd zG ("StreamWatch$AlertLog", "add", c_Al_add, 6) 52 (x_getf 0 0) 55 := mj_getf (T := T_Al) rfl (by decide) u_Al z1_202 (by decide +kernel)
theorem i_Al_add_55 : mj_Snd zG ("StreamWatch$AlertLog", "add", c_Al_add, 6) 55 (x_iload 5) 57 := mj_iload (by decide +kernel)
theorem i_Al_add_57 : mj_Snd zG ("StreamWatch$AlertLog", "add", c_Al_add, 6) 57 (x_const 1) 58 := mj_const (n := 1) (by decide) (by decide +kernel)
theorem i_Al_add_58 : mj_Snd zG ("StreamWatch$AlertLog", "add", c_Al_add, 6) 58 (x_iadd) 59 := mj_iadd (by decide +kernel)
theorem i_Al_add_59 : mj_Snd zG ("StreamWatch$AlertLog", "add", c_Al_add, 6) 59 (x_iload 2) 60 := mj_iload_n (j := 2) rfl (by decide +kernel)
theorem i_Al_add_60 : mj_Snd zG ("StreamWatch$AlertLog", "add", c_Al_add, 6) 60 (x_iast 0) 61 := mj_iast rfl (by decide +kernel)
theorem i_Al_add_61 : mj_Snd zG ("StreamWatch$AlertLog", "add", c_Al_add, 6) 61 (x_aload 0) 62 := mj_aload_n (j := 0) rfl (by decide +kernel)
theorem i_Al_add_62 : mj_Snd zG ("StreamWatch$AlertLog", "add", c_Al_add, 6) 62 (x_getf 0 0) 65 := mj_getf (T := T_Al) rfl (by decide) u_Al z1_202 (by decide +kernel)
theorem i_Al_add_65 : mj_Snd zG ("StreamWatch$AlertLog", "add", c_Al_add, 6) 65 (x_iload 5) 67 := mj_iload (by decide +kernel)
theorem i_Al_add_67 : mj_Snd zG ("StreamWatch$AlertLog", "add", c_Al_add, 6) 67 (x_const 2) 68 := mj_const (n := 2) (by decide) (by decide +kernel)
theorem i_Al_add_68 : mj_Snd zG ("StreamWatch$AlertLog", "add", c_Al_add, 6) 68 (x_iadd) 69 := mj_iadd (by decide +kernel)
theorem i_Al_add_69 : mj_Snd zG ("StreamWatch$AlertLog", "add", c_Al_add, 6) 69 (x_iload 3) 70 := mj_iload_n (j := 3) rfl (by decide +kernel)
theorem i_Al_add_70 : mj_Snd zG ("StreamWatch$AlertLog", "add", c_Al_add, 6) 70 (x_iast 0) 71 := mj_iast rfl (by decide +kernel)
theorem i_Al_add_71 : mj_Snd zG ("StreamWatch$AlertLog", "add", c_Al_add, 6) 71 (x_aload 0) 72 := mj_aload_n (j := 0) rfl (by decide +kernel)
theorem i_Al_add_72 : mj_Snd zG ("StreamWatch$AlertLog", "add", c_Al_add, 6) 72 (x_getf 0 0) 75 := mj_getf (T := T_Al) rfl (by decide) u_Al z1_202 (by decide +kernel)
theorem i_Al_add_75 : mj_Snd zG ("StreamWatch$AlertLog", "add", c_Al_add, 6) 75 (x_iload 5) 77 := mj_iload (by decide +kernel)
theorem i_Al_add_77 : mj_Snd zG ("StreamWatch$AlertLog", "add", c_Al_add, 6) 77 (x_const 3) 78 := mj_const (n := 3) (by decide) (by decide +kernel)
theorem i_Al_add_78 : mj_Snd zG ("StreamWatch$AlertLog", "add", c_Al_add, 6) 78 (x_iadd) 79 := mj_iadd (by decide +kernel)
theorem i_Al_add_79 : mj_Snd zG ("StreamWatch$AlertLog", "add", c_Al_add, 6) 79 (x_iload 4) 81 := mj_iload (by decide +kernel)
theorem i_Al_add_81 : mj_Snd zG ("StreamWatch$AlertLog", "add", c_Al_add, 6) 81 (x_iast 0) 82 := mj_iast rfl (by decide +kernel)
theorem d_Al_add_82 : decode c_Al_add 82 = .ok (.return_, 1) := by decide +kernel
theorem b_Al_add_0 : mj_Ch zG ("StreamWatch$AlertLog", "add", c_Al_add, 6) 0 [x_aload 0, x_aload 0, x_getf 0 2, x_const 1, x_iadd, x_const 24] 9 := ⟨_, i_Al_add_0, _, i_Al_add_1, _, i_Al_add_2, _, i_Al_add_5, _, i_Al_add_6, _, i_Al_add_7, rfl⟩
theorem b_Al_add_12 : mj_Ch zG ("StreamWatch$AlertLog", "add", c_Al_add, 6) 12 [x_aload 0, x_getf 0 2, x_const 1, x_iadd, x_skip] 22 := ⟨_, i_Al_add_12, _, i_Al_add_13, _, i_Al_add_16, _, i_Al_add_17, _, i_Al_add_18, rfl⟩
theorem b_Al_add_21 : mj_Ch zG ("StreamWatch$AlertLog", "add", c_Al_add, 6) 21 [x_const 0] 22 := ⟨_, i_Al_add_21, rfl⟩
theorem b_Al_add_22 : mj_Ch zG ("StreamWatch$AlertLog", "add", c_Al_add, 6) 22 [x_putf 0 2 0, x_aload 0, x_dup, x_getf 0 1, x_const 1, x_iadd, x_putf 0 1 0, x_aload 0, x_getf 0 2, x_const 4, x_imul, x_istore 5, x_aload 0, x_getf 0 0, x_iload 5, x_iload 1, x_iast 0, x_aload 0, x_getf 0 0, x_iload 5, x_const 1, x_iadd, x_iload 2, x_iast 0, x_aload 0, x_getf 0 0, x_iload 5, x_const 2, x_iadd, x_iload 3, x_iast 0, x_aload 0, x_getf 0 0, x_iload 5, x_const 3, x_iadd, x_iload 4, x_iast 0] 82 := ⟨_, i_Al_add_22, _, i_Al_add_25, _, i_Al_add_26, _, i_Al_add_27, _, i_Al_add_30, _, i_Al_add_31, _, i_Al_add_32, _, i_Al_add_35, _, i_Al_add_36, _, i_Al_add_39, _, i_Al_add_40, _, i_Al_add_41, _, i_Al_add_43, _, i_Al_add_44, _, i_Al_add_47, _, i_Al_add_49, _, i_Al_add_50, _, i_Al_add_51, _, i_Al_add_52, _, i_Al_add_55, _, i_Al_add_57, _, i_Al_add_58, _, i_Al_add_59, _, i_Al_add_60, _, i_Al_add_61, _, i_Al_add_62, _, i_Al_add_65, _, i_Al_add_67, _, i_Al_add_68, _, i_Al_add_69, _, i_Al_add_70, _, i_Al_add_71, _, i_Al_add_72, _, i_Al_add_75, _, i_Al_add_77, _, i_Al_add_78, _, i_Al_add_79, _, i_Al_add_81, rfl⟩
theorem i_Al_read_0 : mj_Snd zG ("StreamWatch$AlertLog", "read", c_Al_read, 5) 0 (x_iload 1) 1 := mj_iload_n (j := 1) rfl (by decide +kernel)
theorem d_Al_read_1 : decode c_Al_read 1 = .ok (.ifCond .lt 20, 3) := by decide +kernel
theorem i_Al_read_4 : mj_Snd zG ("StreamWatch$AlertLog", "read", c_Al_read, 5) 4 (x_iload 1) 5 := mj_iload_n (j := 1) rfl (by decide +kernel)
theorem i_Al_read_5 : mj_Snd zG ("StreamWatch$AlertLog", "read", c_Al_read, 5) 5 (x_aload 0) 6 := mj_aload_n (j := 0) rfl (by decide +kernel)
theorem i_Al_read_6 : mj_Snd zG ("StreamWatch$AlertLog", "read", c_Al_read, 5) 6 (x_getf 0 1) 9 := mj_getf (T := T_Al) rfl (by decide) u_Al z1_203 (by decide +kernel)
theorem i_Al_read_9 : mj_Snd zG ("StreamWatch$AlertLog", "read", c_Al_read, 5) 9 (x_const 24) 11 := mj_bipush (n := 24) (by decide) (by decide +kernel)
theorem d_Al_read_11 : decode c_Al_read 11 = .ok (.invokestatic 22, 3) := by decide +kernel
theorem d_Al_read_14 : decode c_Al_read 14 = .ok (.if_icmp .ge 7, 3) := by decide +kernel
theorem i_Al_read_17 : mj_Snd zG ("StreamWatch$AlertLog", "read", c_Al_read, 5) 17 (x_const 1) 18 := mj_const (n := 1) (by decide) (by decide +kernel)
theorem i_Al_read_18 : mj_Snd zG ("StreamWatch$AlertLog", "read", c_Al_read, 5) 18 (x_skip) 22 := mj_goto (off := 4) (by decide) (by decide +kernel)
theorem i_Al_read_21 : mj_Snd zG ("StreamWatch$AlertLog", "read", c_Al_read, 5) 21 (x_const 0) 22 := mj_const (n := 0) (by decide) (by decide +kernel)
theorem i_Al_read_22 : mj_Snd zG ("StreamWatch$AlertLog", "read", c_Al_read, 5) 22 (x_istore 3) 23 := mj_istore_n (j := 3) rfl (by decide) (by decide +kernel)
theorem i_Al_read_23 : mj_Snd zG ("StreamWatch$AlertLog", "read", c_Al_read, 5) 23 (x_iload 3) 24 := mj_iload_n (j := 3) rfl (by decide +kernel)
theorem d_Al_read_24 : decode c_Al_read 24 = .ok (.ifCond .eq 12, 3) := by decide +kernel
theorem i_Al_read_27 : mj_Snd zG ("StreamWatch$AlertLog", "read", c_Al_read, 5) 27 (x_iload 2) 28 := mj_iload_n (j := 2) rfl (by decide +kernel)
theorem d_Al_read_28 : decode c_Al_read 28 = .ok (.ifCond .lt 8, 3) := by decide +kernel
theorem i_Al_read_31 : mj_Snd zG ("StreamWatch$AlertLog", "read", c_Al_read, 5) 31 (x_iload 2) 32 := mj_iload_n (j := 2) rfl (by decide +kernel)
theorem i_Al_read_32 : mj_Snd zG ("StreamWatch$AlertLog", "read", c_Al_read, 5) 32 (x_const 4) 33 := mj_const (n := 4) (by decide) (by decide +kernel)
theorem d_Al_read_33 : decode c_Al_read 33 = .ok (.if_icmp .lt 5, 3) := by decide +kernel
theorem i_Al_read_36 : mj_Snd zG ("StreamWatch$AlertLog", "read", c_Al_read, 5) 36 (x_const (-1)) 37 := mj_const (n := (-1)) (by decide) (by decide +kernel)
theorem d_Al_read_37 : decode c_Al_read 37 = .ok (.ireturn, 1) := by decide +kernel
theorem i_Al_read_38 : mj_Snd zG ("StreamWatch$AlertLog", "read", c_Al_read, 5) 38 (x_aload 0) 39 := mj_aload_n (j := 0) rfl (by decide +kernel)
theorem i_Al_read_39 : mj_Snd zG ("StreamWatch$AlertLog", "read", c_Al_read, 5) 39 (x_getf 0 2) 42 := mj_getf (T := T_Al) rfl (by decide) u_Al z1_204 (by decide +kernel)
theorem i_Al_read_42 : mj_Snd zG ("StreamWatch$AlertLog", "read", c_Al_read, 5) 42 (x_iload 1) 43 := mj_iload_n (j := 1) rfl (by decide +kernel)
theorem d_Al_read_43 : decode c_Al_read 43 = .ok (.if_icmp .lt 12, 3) := by decide +kernel
theorem i_Al_read_46 : mj_Snd zG ("StreamWatch$AlertLog", "read", c_Al_read, 5) 46 (x_aload 0) 47 := mj_aload_n (j := 0) rfl (by decide +kernel)
theorem i_Al_read_47 : mj_Snd zG ("StreamWatch$AlertLog", "read", c_Al_read, 5) 47 (x_getf 0 2) 50 := mj_getf (T := T_Al) rfl (by decide) u_Al z1_204 (by decide +kernel)
theorem i_Al_read_50 : mj_Snd zG ("StreamWatch$AlertLog", "read", c_Al_read, 5) 50 (x_iload 1) 51 := mj_iload_n (j := 1) rfl (by decide +kernel)
theorem i_Al_read_51 : mj_Snd zG ("StreamWatch$AlertLog", "read", c_Al_read, 5) 51 (x_isub) 52 := mj_isub (by decide +kernel)
theorem i_Al_read_52 : mj_Snd zG ("StreamWatch$AlertLog", "read", c_Al_read, 5) 52 (x_skip) 64 := mj_goto (off := 12) (by decide) (by decide +kernel)
theorem i_Al_read_55 : mj_Snd zG ("StreamWatch$AlertLog", "read", c_Al_read, 5) 55 (x_aload 0) 56 := mj_aload_n (j := 0) rfl (by decide +kernel)
theorem i_Al_read_56 : mj_Snd zG ("StreamWatch$AlertLog", "read", c_Al_read, 5) 56 (x_getf 0 2) 59 := mj_getf (T := T_Al) rfl (by decide) u_Al z1_204 (by decide +kernel)
theorem i_Al_read_59 : mj_Snd zG ("StreamWatch$AlertLog", "read", c_Al_read, 5) 59 (x_iload 1) 60 := mj_iload_n (j := 1) rfl (by decide +kernel)
theorem i_Al_read_60 : mj_Snd zG ("StreamWatch$AlertLog", "read", c_Al_read, 5) 60 (x_isub) 61 := mj_isub (by decide +kernel)
theorem i_Al_read_61 : mj_Snd zG ("StreamWatch$AlertLog", "read", c_Al_read, 5) 61 (x_const 24) 63 := mj_bipush (n := 24) (by decide) (by decide +kernel)
theorem i_Al_read_63 : mj_Snd zG ("StreamWatch$AlertLog", "read", c_Al_read, 5) 63 (x_iadd) 64 := mj_iadd (by decide +kernel)
theorem i_Al_read_64 : mj_Snd zG ("StreamWatch$AlertLog", "read", c_Al_read, 5) 64 (x_istore 4) 66 := mj_istore (by decide) (by decide +kernel)
theorem i_Al_read_66 : mj_Snd zG ("StreamWatch$AlertLog", "read", c_Al_read, 5) 66 (x_aload 0) 67 := mj_aload_n (j := 0) rfl (by decide +kernel)
theorem i_Al_read_67 : mj_Snd zG ("StreamWatch$AlertLog", "read", c_Al_read, 5) 67 (x_getf 0 0) 70 := mj_getf (T := T_Al) rfl (by decide) u_Al z1_202 (by decide +kernel)
theorem i_Al_read_70 : mj_Snd zG ("StreamWatch$AlertLog", "read", c_Al_read, 5) 70 (x_iload 4) 72 := mj_iload (by decide +kernel)
theorem i_Al_read_72 : mj_Snd zG ("StreamWatch$AlertLog", "read", c_Al_read, 5) 72 (x_const 4) 73 := mj_const (n := 4) (by decide) (by decide +kernel)
theorem i_Al_read_73 : mj_Snd zG ("StreamWatch$AlertLog", "read", c_Al_read, 5) 73 (x_imul) 74 := mj_imul (by decide +kernel)
theorem i_Al_read_74 : mj_Snd zG ("StreamWatch$AlertLog", "read", c_Al_read, 5) 74 (x_iload 2) 75 := mj_iload_n (j := 2) rfl (by decide +kernel)
theorem i_Al_read_75 : mj_Snd zG ("StreamWatch$AlertLog", "read", c_Al_read, 5) 75 (x_iadd) 76 := mj_iadd (by decide +kernel)
theorem i_Al_read_76 : mj_Snd zG ("StreamWatch$AlertLog", "read", c_Al_read, 5) 76 (x_iald 0) 77 := mj_iald rfl (by decide +kernel)
theorem d_Al_read_77 : decode c_Al_read 77 = .ok (.ireturn, 1) := by decide +kernel
theorem b_Al_read_0 : mj_Ch zG ("StreamWatch$AlertLog", "read", c_Al_read, 5) 0 [x_iload 1] 1 := ⟨_, i_Al_read_0, rfl⟩
theorem b_Al_read_4 : mj_Ch zG ("StreamWatch$AlertLog", "read", c_Al_read, 5) 4 [x_iload 1, x_aload 0, x_getf 0 1, x_const 24] 11 := ⟨_, i_Al_read_4, _, i_Al_read_5, _, i_Al_read_6, _, i_Al_read_9, rfl⟩
theorem b_Al_read_17 : mj_Ch zG ("StreamWatch$AlertLog", "read", c_Al_read, 5) 17 [x_const 1, x_skip] 22 := ⟨_, i_Al_read_17, _, i_Al_read_18, rfl⟩
theorem b_Al_read_21 : mj_Ch zG ("StreamWatch$AlertLog", "read", c_Al_read, 5) 21 [x_const 0] 22 := ⟨_, i_Al_read_21, rfl⟩
theorem b_Al_read_22 : mj_Ch zG ("StreamWatch$AlertLog", "read", c_Al_read, 5) 22 [x_istore 3, x_iload 3] 24 := ⟨_, i_Al_read_22, _, i_Al_read_23, rfl⟩
theorem b_Al_read_27 : mj_Ch zG ("StreamWatch$AlertLog", "read", c_Al_read, 5) 27 [x_iload 2] 28 := ⟨_, i_Al_read_27, rfl⟩
theorem b_Al_read_31 : mj_Ch zG ("StreamWatch$AlertLog", "read", c_Al_read, 5) 31 [x_iload 2, x_const 4] 33 := ⟨_, i_Al_read_31, _, i_Al_read_32, rfl⟩
theorem b_Al_read_36 : mj_Ch zG ("StreamWatch$AlertLog", "read", c_Al_read, 5) 36 [x_const (-1)] 37 := ⟨_, i_Al_read_36, rfl⟩
theorem b_Al_read_38 : mj_Ch zG ("StreamWatch$AlertLog", "read", c_Al_read, 5) 38 [x_aload 0, x_getf 0 2, x_iload 1] 43 := ⟨_, i_Al_read_38, _, i_Al_read_39, _, i_Al_read_42, rfl⟩
theorem b_Al_read_46 : mj_Ch zG ("StreamWatch$AlertLog", "read", c_Al_read, 5) 46 [x_aload 0, x_getf 0 2, x_iload 1, x_isub, x_skip] 64 := ⟨_, i_Al_read_46, _, i_Al_read_47, _, i_Al_read_50, _, i_Al_read_51, _, i_Al_read_52, rfl⟩
theorem b_Al_read_55 : mj_Ch zG ("StreamWatch$AlertLog", "read", c_Al_read, 5) 55 [x_aload 0, x_getf 0 2, x_iload 1, x_isub, x_const 24, x_iadd] 64 := ⟨_, i_Al_read_55, _, i_Al_read_56, _, i_Al_read_59, _, i_Al_read_60, _, i_Al_read_61, _, i_Al_read_63, rfl⟩
theorem b_Al_read_64 : mj_Ch zG ("StreamWatch$AlertLog", "read", c_Al_read, 5) 64 [x_istore 4, x_aload 0, x_getf 0 0, x_iload 4, x_const 4, x_imul, x_iload 2, x_iadd, x_iald 0] 77 := ⟨_, i_Al_read_64, _, i_Al_read_66, _, i_Al_read_67, _, i_Al_read_70, _, i_Al_read_72, _, i_Al_read_73, _, i_Al_read_74, _, i_Al_read_75, _, i_Al_read_76, rfl⟩

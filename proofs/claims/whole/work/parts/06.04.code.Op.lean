theorem i_Op_init_0 : mj_Snd zG ("StreamWatch$Option", "<init>", c_Op_init, 7) 0 (x_aload 0) 1 := mj_aload_n (j := 0) rfl (by decide +kernel)
theorem d_Op_init_1 : decode c_Op_init 1 = .ok (.invokespecial 3, 3) := by decide +kernel
theorem i_Op_init_4 : mj_Snd zG ("StreamWatch$Option", "<init>", c_Op_init, 7) 4 (x_aload 0) 5 := mj_aload_n (j := 0) rfl (by decide +kernel)
theorem i_Op_init_5 : mj_Snd zG ("StreamWatch$Option", "<init>", c_Op_init, 7) 5 (x_iload 1) 6 := mj_iload_n (j := 1) rfl (by decide +kernel)
theorem i_Op_init_6 : mj_Snd zG ("StreamWatch$Option", "<init>", c_Op_init, 7) 6 (x_putf 4 4 0) 9 := mj_putG (T := T_Op) (ty0 := t_Op) rfl (by decide) u_Op t_Op_ok n_Op z4_36 (Or.inr ⟨rfl, rfl, rfl⟩) (by decide +kernel)
theorem i_Op_init_9 : mj_Snd zG ("StreamWatch$Option", "<init>", c_Op_init, 7) 9 (x_aload 0) 10 := mj_aload_n (j := 0) rfl (by decide +kernel)
theorem i_Op_init_10 : mj_Snd zG ("StreamWatch$Option", "<init>", c_Op_init, 7) 10 (x_lload 2) 11 := mj_lload_n (j := 2) rfl (by decide +kernel)
theorem i_Op_init_11 : mj_Snd zG ("StreamWatch$Option", "<init>", c_Op_init, 7) 11 (x_putf 4 5 2) 14 := mj_putG (T := T_Op) (ty0 := t_Op) rfl (by decide) u_Op t_Op_ok n_Op z4_38 (Or.inr ⟨rfl, rfl, rfl⟩) (by decide +kernel)
theorem i_Op_init_14 : mj_Snd zG ("StreamWatch$Option", "<init>", c_Op_init, 7) 14 (x_aload 0) 15 := mj_aload_n (j := 0) rfl (by decide +kernel)
theorem i_Op_init_15 : mj_Snd zG ("StreamWatch$Option", "<init>", c_Op_init, 7) 15 (x_iload 4) 17 := mj_iload (by decide +kernel)
theorem i_Op_init_17 : mj_Snd zG ("StreamWatch$Option", "<init>", c_Op_init, 7) 17 (x_const 1) 18 := mj_const (n := 1) (by decide) (by decide +kernel)
theorem i_Op_init_18 : mj_Snd zG ("StreamWatch$Option", "<init>", c_Op_init, 7) 18 (x_iand) 19 := mj_iand (by decide +kernel)
theorem d_Op_init_19 : decode c_Op_init 19 = .ok (.ifCond .eq 7, 3) := by decide +kernel
theorem i_Op_init_22 : mj_Snd zG ("StreamWatch$Option", "<init>", c_Op_init, 7) 22 (x_const 1) 23 := mj_const (n := 1) (by decide) (by decide +kernel)
theorem i_Op_init_23 : mj_Snd zG ("StreamWatch$Option", "<init>", c_Op_init, 7) 23 (x_skip) 27 := mj_goto (off := 4) (by decide) (by decide +kernel)
theorem i_Op_init_26 : mj_Snd zG ("StreamWatch$Option", "<init>", c_Op_init, 7) 26 (x_const 0) 27 := mj_const (n := 0) (by decide) (by decide +kernel)
theorem i_Op_init_27 : mj_Snd zG ("StreamWatch$Option", "<init>", c_Op_init, 7) 27 (x_putf 4 6 1) 30 := mj_putG (T := T_Op) (ty0 := t_Op) rfl (by decide) u_Op t_Op_ok n_Op z4_39 (Or.inr ⟨rfl, rfl, rfl⟩) (by decide +kernel)
theorem i_Op_init_30 : mj_Snd zG ("StreamWatch$Option", "<init>", c_Op_init, 7) 30 (x_aload 0) 31 := mj_aload_n (j := 0) rfl (by decide +kernel)
theorem i_Op_init_31 : mj_Snd zG ("StreamWatch$Option", "<init>", c_Op_init, 7) 31 (x_iload 4) 33 := mj_iload (by decide +kernel)
theorem i_Op_init_33 : mj_Snd zG ("StreamWatch$Option", "<init>", c_Op_init, 7) 33 (x_const 2) 34 := mj_const (n := 2) (by decide) (by decide +kernel)
theorem i_Op_init_34 : mj_Snd zG ("StreamWatch$Option", "<init>", c_Op_init, 7) 34 (x_iand) 35 := mj_iand (by decide +kernel)
theorem d_Op_init_35 : decode c_Op_init 35 = .ok (.ifCond .eq 7, 3) := by decide +kernel
theorem i_Op_init_38 : mj_Snd zG ("StreamWatch$Option", "<init>", c_Op_init, 7) 38 (x_const 1) 39 := mj_const (n := 1) (by decide) (by decide +kernel)
theorem i_Op_init_39 : mj_Snd zG ("StreamWatch$Option", "<init>", c_Op_init, 7) 39 (x_skip) 43 := mj_goto (off := 4) (by decide) (by decide +kernel)
theorem i_Op_init_42 : mj_Snd zG ("StreamWatch$Option", "<init>", c_Op_init, 7) 42 (x_const 0) 43 := mj_const (n := 0) (by decide) (by decide +kernel)
theorem i_Op_init_43 : mj_Snd zG ("StreamWatch$Option", "<init>", c_Op_init, 7) 43 (x_putf 4 0 1) 46 := mj_putG (T := T_Op) (ty0 := t_Op) rfl (by decide) u_Op t_Op_ok n_Op z4_28 (Or.inr ⟨rfl, rfl, rfl⟩) (by decide +kernel)
theorem i_Op_init_46 : mj_Snd zG ("StreamWatch$Option", "<init>", c_Op_init, 7) 46 (x_aload 0) 47 := mj_aload_n (j := 0) rfl (by decide +kernel)
theorem i_Op_init_47 : mj_Snd zG ("StreamWatch$Option", "<init>", c_Op_init, 7) 47 (x_iload 4) 49 := mj_iload (by decide +kernel)
theorem i_Op_init_49 : mj_Snd zG ("StreamWatch$Option", "<init>", c_Op_init, 7) 49 (x_const 4) 50 := mj_const (n := 4) (by decide) (by decide +kernel)
theorem i_Op_init_50 : mj_Snd zG ("StreamWatch$Option", "<init>", c_Op_init, 7) 50 (x_iand) 51 := mj_iand (by decide +kernel)
theorem d_Op_init_51 : decode c_Op_init 51 = .ok (.ifCond .eq 7, 3) := by decide +kernel
theorem i_Op_init_54 : mj_Snd zG ("StreamWatch$Option", "<init>", c_Op_init, 7) 54 (x_const 1) 55 := mj_const (n := 1) (by decide) (by decide +kernel)
theorem i_Op_init_55 : mj_Snd zG ("StreamWatch$Option", "<init>", c_Op_init, 7) 55 (x_skip) 59 := mj_goto (off := 4) (by decide) (by decide +kernel)
theorem i_Op_init_58 : mj_Snd zG ("StreamWatch$Option", "<init>", c_Op_init, 7) 58 (x_const 0) 59 := mj_const (n := 0) (by decide) (by decide +kernel)
theorem i_Op_init_59 : mj_Snd zG ("StreamWatch$Option", "<init>", c_Op_init, 7) 59 (x_putf 4 1 1) 62 := mj_putG (T := T_Op) (ty0 := t_Op) rfl (by decide) u_Op t_Op_ok n_Op z4_30 (Or.inr ⟨rfl, rfl, rfl⟩) (by decide +kernel)
theorem i_Op_init_62 : mj_Snd zG ("StreamWatch$Option", "<init>", c_Op_init, 7) 62 (x_aload 0) 63 := mj_aload_n (j := 0) rfl (by decide +kernel)
theorem i_Op_init_63 : mj_Snd zG ("StreamWatch$Option", "<init>", c_Op_init, 7) 63 (x_iload 5) 65 := mj_iload (by decide +kernel)
theorem i_Op_init_65 : mj_Snd zG ("StreamWatch$Option", "<init>", c_Op_init, 7) 65 (x_putf 4 2 0) 68 := mj_putG (T := T_Op) (ty0 := t_Op) rfl (by decide) u_Op t_Op_ok n_Op z4_32 (Or.inr ⟨rfl, rfl, rfl⟩) (by decide +kernel)
theorem i_Op_init_68 : mj_Snd zG ("StreamWatch$Option", "<init>", c_Op_init, 7) 68 (x_aload 0) 69 := mj_aload_n (j := 0) rfl (by decide +kernel)
theorem i_Op_init_69 : mj_Snd zG ("StreamWatch$Option", "<init>", c_Op_init, 7) 69 (x_iload 6) 71 := mj_iload (by decide +kernel)
theorem d_Op_init_71 : decode c_Op_init 71 = .ok (.ifCond .ne 8, 3) := by decide +kernel
theorem i_Op_init_74 : mj_Snd zG ("StreamWatch$Option", "<init>", c_Op_init, 7) 74 (x_const 80) 76 := mj_bipush (n := 80) (by decide) (by decide +kernel)
theorem i_Op_init_76 : mj_Snd zG ("StreamWatch$Option", "<init>", c_Op_init, 7) 76 (x_skip) 86 := mj_goto (off := 10) (by decide) (by decide +kernel)
theorem i_Op_init_79 : mj_Snd zG ("StreamWatch$Option", "<init>", c_Op_init, 7) 79 (x_iload 5) 81 := mj_iload (by decide +kernel)
theorem i_Op_init_81 : mj_Snd zG ("StreamWatch$Option", "<init>", c_Op_init, 7) 81 (x_iload 6) 83 := mj_iload (by decide +kernel)
theorem i_Op_init_83 : mj_Snd zG ("StreamWatch$Option", "<init>", c_Op_init, 7) 83 (x_iadd) 84 := mj_iadd (by decide +kernel)
theorem i_Op_init_84 : mj_Snd zG ("StreamWatch$Option", "<init>", c_Op_init, 7) 84 (x_iload 1) 85 := mj_iload_n (j := 1) rfl (by decide +kernel)
theorem i_Op_init_85 : mj_Snd zG ("StreamWatch$Option", "<init>", c_Op_init, 7) 85 (x_isub) 86 := mj_isub (by decide +kernel)
theorem i_Op_init_86 : mj_Snd zG ("StreamWatch$Option", "<init>", c_Op_init, 7) 86 (x_putf 4 3 0) 89 := mj_putG (T := T_Op) (ty0 := t_Op) rfl (by decide) u_Op t_Op_ok n_Op z4_34 (Or.inr ⟨rfl, rfl, rfl⟩) (by decide +kernel)
theorem d_Op_init_89 : decode c_Op_init 89 = .ok (.return_, 1) := by decide +kernel
theorem b_Op_init_0 : mj_Ch zG ("StreamWatch$Option", "<init>", c_Op_init, 7) 0 [x_aload 0] 1 := ⟨_, i_Op_init_0, rfl⟩
theorem b_Op_init_4 : mj_Ch zG ("StreamWatch$Option", "<init>", c_Op_init, 7) 4 [x_aload 0, x_iload 1, x_putf 4 4 0, x_aload 0, x_lload 2, x_putf 4 5 2, x_aload 0, x_iload 4, x_const 1, x_iand] 19 := ⟨_, i_Op_init_4, _, i_Op_init_5, _, i_Op_init_6, _, i_Op_init_9, _, i_Op_init_10, _, i_Op_init_11, _, i_Op_init_14, _, i_Op_init_15, _, i_Op_init_17, _, i_Op_init_18, rfl⟩
theorem b_Op_init_22 : mj_Ch zG ("StreamWatch$Option", "<init>", c_Op_init, 7) 22 [x_const 1, x_skip] 27 := ⟨_, i_Op_init_22, _, i_Op_init_23, rfl⟩
theorem b_Op_init_26 : mj_Ch zG ("StreamWatch$Option", "<init>", c_Op_init, 7) 26 [x_const 0] 27 := ⟨_, i_Op_init_26, rfl⟩
theorem b_Op_init_27 : mj_Ch zG ("StreamWatch$Option", "<init>", c_Op_init, 7) 27 [x_putf 4 6 1, x_aload 0, x_iload 4, x_const 2, x_iand] 35 := ⟨_, i_Op_init_27, _, i_Op_init_30, _, i_Op_init_31, _, i_Op_init_33, _, i_Op_init_34, rfl⟩
theorem b_Op_init_38 : mj_Ch zG ("StreamWatch$Option", "<init>", c_Op_init, 7) 38 [x_const 1, x_skip] 43 := ⟨_, i_Op_init_38, _, i_Op_init_39, rfl⟩
theorem b_Op_init_42 : mj_Ch zG ("StreamWatch$Option", "<init>", c_Op_init, 7) 42 [x_const 0] 43 := ⟨_, i_Op_init_42, rfl⟩
theorem b_Op_init_43 : mj_Ch zG ("StreamWatch$Option", "<init>", c_Op_init, 7) 43 [x_putf 4 0 1, x_aload 0, x_iload 4, x_const 4, x_iand] 51 := ⟨_, i_Op_init_43, _, i_Op_init_46, _, i_Op_init_47, _, i_Op_init_49, _, i_Op_init_50, rfl⟩
theorem b_Op_init_54 : mj_Ch zG ("StreamWatch$Option", "<init>", c_Op_init, 7) 54 [x_const 1, x_skip] 59 := ⟨_, i_Op_init_54, _, i_Op_init_55, rfl⟩
theorem b_Op_init_58 : mj_Ch zG ("StreamWatch$Option", "<init>", c_Op_init, 7) 58 [x_const 0] 59 := ⟨_, i_Op_init_58, rfl⟩
theorem b_Op_init_59 : mj_Ch zG ("StreamWatch$Option", "<init>", c_Op_init, 7) 59 [x_putf 4 1 1, x_aload 0, x_iload 5, x_putf 4 2 0, x_aload 0, x_iload 6] 71 := ⟨_, i_Op_init_59, _, i_Op_init_62, _, i_Op_init_63, _, i_Op_init_65, _, i_Op_init_68, _, i_Op_init_69, rfl⟩
theorem b_Op_init_74 : mj_Ch zG ("StreamWatch$Option", "<init>", c_Op_init, 7) 74 [x_const 80, x_skip] 86 := ⟨_, i_Op_init_74, _, i_Op_init_76, rfl⟩
theorem b_Op_init_79 : mj_Ch zG ("StreamWatch$Option", "<init>", c_Op_init, 7) 79 [x_iload 5, x_iload 6, x_iadd, x_iload 1, x_isub] 86 := ⟨_, i_Op_init_79, _, i_Op_init_81, _, i_Op_init_83, _, i_Op_init_84, _, i_Op_init_85, rfl⟩
theorem b_Op_init_86 : mj_Ch zG ("StreamWatch$Option", "<init>", c_Op_init, 7) 86 [x_putf 4 3 0] 89 := ⟨_, i_Op_init_86, rfl⟩
theorem i_Op_standsAt_0 : mj_Snd zG ("StreamWatch$Option", "standsAt", c_Op_standsAt, 5) 0 (x_iload 1) 1 := mj_iload_n (j := 1) rfl (by decide +kernel)
theorem i_Op_standsAt_1 : mj_Snd zG ("StreamWatch$Option", "standsAt", c_Op_standsAt, 5) 1 (x_aload 0) 2 := mj_aload_n (j := 0) rfl (by decide +kernel)
theorem i_Op_standsAt_2 : mj_Snd zG ("StreamWatch$Option", "standsAt", c_Op_standsAt, 5) 2 (x_getf 4 4) 5 := mj_getf (T := T_Op) rfl (by decide) u_Op z4_36 (by decide +kernel)
theorem i_Op_standsAt_5 : mj_Snd zG ("StreamWatch$Option", "standsAt", c_Op_standsAt, 5) 5 (x_iadd) 6 := mj_iadd (by decide +kernel)
theorem i_Op_standsAt_6 : mj_Snd zG ("StreamWatch$Option", "standsAt", c_Op_standsAt, 5) 6 (x_aload 2) 7 := mj_aload_n (j := 2) rfl (by decide +kernel)
theorem d_Op_standsAt_7 : decode c_Op_standsAt 7 = .ok (.invokevirtual 35, 3) := by decide +kernel
theorem d_Op_standsAt_10 : decode c_Op_standsAt 10 = .ok (.if_icmp .le 5, 3) := by decide +kernel
theorem i_Op_standsAt_13 : mj_Snd zG ("StreamWatch$Option", "standsAt", c_Op_standsAt, 5) 13 (x_const 0) 14 := mj_const (n := 0) (by decide) (by decide +kernel)
theorem d_Op_standsAt_14 : decode c_Op_standsAt 14 = .ok (.ireturn, 1) := by decide +kernel
theorem i_Op_standsAt_15 : mj_Snd zG ("StreamWatch$Option", "standsAt", c_Op_standsAt, 5) 15 (x_const 0) 16 := mj_const (n := 0) (by decide) (by decide +kernel)
theorem i_Op_standsAt_16 : mj_Snd zG ("StreamWatch$Option", "standsAt", c_Op_standsAt, 5) 16 (x_istore 3) 17 := mj_istore_n (j := 3) rfl (by decide) (by decide +kernel)
theorem i_Op_standsAt_17 : mj_Snd zG ("StreamWatch$Option", "standsAt", c_Op_standsAt, 5) 17 (x_iload 3) 18 := mj_iload_n (j := 3) rfl (by decide +kernel)
theorem i_Op_standsAt_18 : mj_Snd zG ("StreamWatch$Option", "standsAt", c_Op_standsAt, 5) 18 (x_aload 0) 19 := mj_aload_n (j := 0) rfl (by decide +kernel)
theorem i_Op_standsAt_19 : mj_Snd zG ("StreamWatch$Option", "standsAt", c_Op_standsAt, 5) 19 (x_getf 4 4) 22 := mj_getf (T := T_Op) rfl (by decide) u_Op z4_36 (by decide +kernel)
theorem d_Op_standsAt_22 : decode c_Op_standsAt 22 = .ok (.if_icmp .ge 54, 3) := by decide +kernel
theorem i_Op_standsAt_25 : mj_Snd zG ("StreamWatch$Option", "standsAt", c_Op_standsAt, 5) 25 (x_aload 0) 26 := mj_aload_n (j := 0) rfl (by decide +kernel)
theorem i_Op_standsAt_26 : mj_Snd zG ("StreamWatch$Option", "standsAt", c_Op_standsAt, 5) 26 (x_getf 4 5) 29 := mj_getf (T := T_Op) rfl (by decide) u_Op z4_38 (by decide +kernel)
theorem i_Op_standsAt_29 : mj_Snd zG ("StreamWatch$Option", "standsAt", c_Op_standsAt, 5) 29 (x_const 8) 31 := mj_bipush (n := 8) (by decide) (by decide +kernel)
theorem i_Op_standsAt_31 : mj_Snd zG ("StreamWatch$Option", "standsAt", c_Op_standsAt, 5) 31 (x_aload 0) 32 := mj_aload_n (j := 0) rfl (by decide +kernel)
theorem i_Op_standsAt_32 : mj_Snd zG ("StreamWatch$Option", "standsAt", c_Op_standsAt, 5) 32 (x_getf 4 4) 35 := mj_getf (T := T_Op) rfl (by decide) u_Op z4_36 (by decide +kernel)
theorem i_Op_standsAt_35 : mj_Snd zG ("StreamWatch$Option", "standsAt", c_Op_standsAt, 5) 35 (x_const 1) 36 := mj_const (n := 1) (by decide) (by decide +kernel)
theorem i_Op_standsAt_36 : mj_Snd zG ("StreamWatch$Option", "standsAt", c_Op_standsAt, 5) 36 (x_isub) 37 := mj_isub (by decide +kernel)
theorem i_Op_standsAt_37 : mj_Snd zG ("StreamWatch$Option", "standsAt", c_Op_standsAt, 5) 37 (x_iload 3) 38 := mj_iload_n (j := 3) rfl (by decide +kernel)
theorem i_Op_standsAt_38 : mj_Snd zG ("StreamWatch$Option", "standsAt", c_Op_standsAt, 5) 38 (x_isub) 39 := mj_isub (by decide +kernel)
theorem i_Op_standsAt_39 : mj_Snd zG ("StreamWatch$Option", "standsAt", c_Op_standsAt, 5) 39 (x_imul) 40 := mj_imul (by decide +kernel)
theorem i_Op_standsAt_40 : mj_Snd zG ("StreamWatch$Option", "standsAt", c_Op_standsAt, 5) 40 (x_lushr) 41 := mj_lushr (by decide +kernel)
theorem i_Op_standsAt_41 : mj_Snd zG ("StreamWatch$Option", "standsAt", c_Op_standsAt, 5) 41 (x_l2i) 42 := mj_l2i (by decide +kernel)
theorem i_Op_standsAt_42 : mj_Snd zG ("StreamWatch$Option", "standsAt", c_Op_standsAt, 5) 42 (x_const 255) 45 := mj_sipush (n := 255) (by decide) (by decide +kernel)
theorem i_Op_standsAt_45 : mj_Snd zG ("StreamWatch$Option", "standsAt", c_Op_standsAt, 5) 45 (x_iand) 46 := mj_iand (by decide +kernel)
theorem i_Op_standsAt_46 : mj_Snd zG ("StreamWatch$Option", "standsAt", c_Op_standsAt, 5) 46 (x_istore 4) 48 := mj_istore (by decide) (by decide +kernel)
theorem i_Op_standsAt_48 : mj_Snd zG ("StreamWatch$Option", "standsAt", c_Op_standsAt, 5) 48 (x_aload 0) 49 := mj_aload_n (j := 0) rfl (by decide +kernel)
theorem i_Op_standsAt_49 : mj_Snd zG ("StreamWatch$Option", "standsAt", c_Op_standsAt, 5) 49 (x_aload 2) 50 := mj_aload_n (j := 2) rfl (by decide +kernel)
theorem i_Op_standsAt_50 : mj_Snd zG ("StreamWatch$Option", "standsAt", c_Op_standsAt, 5) 50 (x_iload 1) 51 := mj_iload_n (j := 1) rfl (by decide +kernel)
theorem i_Op_standsAt_51 : mj_Snd zG ("StreamWatch$Option", "standsAt", c_Op_standsAt, 5) 51 (x_iload 3) 52 := mj_iload_n (j := 3) rfl (by decide +kernel)
theorem i_Op_standsAt_52 : mj_Snd zG ("StreamWatch$Option", "standsAt", c_Op_standsAt, 5) 52 (x_iadd) 53 := mj_iadd (by decide +kernel)
theorem d_Op_standsAt_53 : decode c_Op_standsAt 53 = .ok (.invokevirtual 40, 3) := by decide +kernel
theorem d_Op_standsAt_56 : decode c_Op_standsAt 56 = .ok (.invokevirtual 44, 3) := by decide +kernel
theorem i_Op_standsAt_59 : mj_Snd zG ("StreamWatch$Option", "standsAt", c_Op_standsAt, 5) 59 (x_aload 0) 60 := mj_aload_n (j := 0) rfl (by decide +kernel)
theorem i_Op_standsAt_60 : mj_Snd zG ("StreamWatch$Option", "standsAt", c_Op_standsAt, 5) 60 (x_iload 4) 62 := mj_iload (by decide +kernel)
theorem d_Op_standsAt_62 : decode c_Op_standsAt 62 = .ok (.invokevirtual 44, 3) := by decide +kernel
theorem d_Op_standsAt_65 : decode c_Op_standsAt 65 = .ok (.if_icmp .eq 5, 3) := by decide +kernel
theorem i_Op_standsAt_68 : mj_Snd zG ("StreamWatch$Option", "standsAt", c_Op_standsAt, 5) 68 (x_const 0) 69 := mj_const (n := 0) (by decide) (by decide +kernel)
theorem d_Op_standsAt_69 : decode c_Op_standsAt 69 = .ok (.ireturn, 1) := by decide +kernel
theorem i_Op_standsAt_70 : mj_Snd zG ("StreamWatch$Option", "standsAt", c_Op_standsAt, 5) 70 (x_iinc 3 1) 73 := mj_iinc (n := 1) (by decide) (by decide) (by decide +kernel)
theorem i_Op_standsAt_73 : mj_Snd zG ("StreamWatch$Option", "standsAt", c_Op_standsAt, 5) 73 (x_skip) 17 := mj_goto (off := (-56)) (by decide) (by decide +kernel)
theorem i_Op_standsAt_76 : mj_Snd zG ("StreamWatch$Option", "standsAt", c_Op_standsAt, 5) 76 (x_const 1) 77 := mj_const (n := 1) (by decide) (by decide +kernel)
theorem d_Op_standsAt_77 : decode c_Op_standsAt 77 = .ok (.ireturn, 1) := by decide +kernel
theorem b_Op_standsAt_0 : mj_Ch zG ("StreamWatch$Option", "standsAt", c_Op_standsAt, 5) 0 [x_iload 1, x_aload 0, x_getf 4 4, x_iadd, x_aload 2] 7 := ⟨_, i_Op_standsAt_0, _, i_Op_standsAt_1, _, i_Op_standsAt_2, _, i_Op_standsAt_5, _, i_Op_standsAt_6, rfl⟩
theorem b_Op_standsAt_13 : mj_Ch zG ("StreamWatch$Option", "standsAt", c_Op_standsAt, 5) 13 [x_const 0] 14 := ⟨_, i_Op_standsAt_13, rfl⟩
theorem b_Op_standsAt_15 : mj_Ch zG ("StreamWatch$Option", "standsAt", c_Op_standsAt, 5) 15 [x_const 0, x_istore 3] 17 := ⟨_, i_Op_standsAt_15, _, i_Op_standsAt_16, rfl⟩
theorem b_Op_standsAt_17 : mj_Ch zG ("StreamWatch$Option", "standsAt", c_Op_standsAt, 5) 17 [x_iload 3, x_aload 0, x_getf 4 4] 22 := ⟨_, i_Op_standsAt_17, _, i_Op_standsAt_18, _, i_Op_standsAt_19, rfl⟩
theorem b_Op_standsAt_25 : mj_Ch zG ("StreamWatch$Option", "standsAt", c_Op_standsAt, 5) 25 [x_aload 0, x_getf 4 5, x_const 8, x_aload 0, x_getf 4 4, x_const 1, x_isub, x_iload 3, x_isub, x_imul, x_lushr, x_l2i, x_const 255, x_iand, x_istore 4, x_aload 0, x_aload 2, x_iload 1, x_iload 3, x_iadd] 53 := ⟨_, i_Op_standsAt_25, _, i_Op_standsAt_26, _, i_Op_standsAt_29, _, i_Op_standsAt_31, _, i_Op_standsAt_32, _, i_Op_standsAt_35, _, i_Op_standsAt_36, _, i_Op_standsAt_37, _, i_Op_standsAt_38, _, i_Op_standsAt_39, _, i_Op_standsAt_40, _, i_Op_standsAt_41, _, i_Op_standsAt_42, _, i_Op_standsAt_45, _, i_Op_standsAt_46, _, i_Op_standsAt_48, _, i_Op_standsAt_49, _, i_Op_standsAt_50, _, i_Op_standsAt_51, _, i_Op_standsAt_52, rfl⟩
theorem b_Op_standsAt_59 : mj_Ch zG ("StreamWatch$Option", "standsAt", c_Op_standsAt, 5) 59 [x_aload 0, x_iload 4] 62 := ⟨_, i_Op_standsAt_59, _, i_Op_standsAt_60, rfl⟩
theorem b_Op_standsAt_68 : mj_Ch zG ("StreamWatch$Option", "standsAt", c_Op_standsAt, 5) 68 [x_const 0] 69 := ⟨_, i_Op_standsAt_68, rfl⟩
theorem b_Op_standsAt_70 : mj_Ch zG ("StreamWatch$Option", "standsAt", c_Op_standsAt, 5) 70 [x_iinc 3 1, x_skip] 17 := ⟨_, i_Op_standsAt_70, _, i_Op_standsAt_73, rfl⟩
theorem b_Op_standsAt_76 : mj_Ch zG ("StreamWatch$Option", "standsAt", c_Op_standsAt, 5) 76 [x_const 1] 77 := ⟨_, i_Op_standsAt_76, rfl⟩
theorem i_Op_folded_0 : mj_Snd zG ("StreamWatch$Option", "folded", c_Op_folded, 2) 0 (x_aload 0) 1 := mj_aload_n (j := 0) rfl (by decide +kernel)
theorem i_Op_folded_1 : mj_Snd zG ("StreamWatch$Option", "folded", c_Op_folded, 2) 1 (x_getf 4 6) 4 := mj_getf (T := T_Op) rfl (by decide) u_Op z4_39 (by decide +kernel)
theorem d_Op_folded_4 : decode c_Op_folded 4 = .ok (.ifCond .eq 25, 3) := by decide +kernel
theorem i_Op_folded_7 : mj_Snd zG ("StreamWatch$Option", "folded", c_Op_folded, 2) 7 (x_iload 1) 8 := mj_iload_n (j := 1) rfl (by decide +kernel)
theorem i_Op_folded_8 : mj_Snd zG ("StreamWatch$Option", "folded", c_Op_folded, 2) 8 (x_const 65) 10 := mj_bipush (n := 65) (by decide) (by decide +kernel)
theorem d_Op_folded_10 : decode c_Op_folded 10 = .ok (.if_icmp .lt 19, 3) := by decide +kernel
theorem i_Op_folded_13 : mj_Snd zG ("StreamWatch$Option", "folded", c_Op_folded, 2) 13 (x_iload 1) 14 := mj_iload_n (j := 1) rfl (by decide +kernel)
theorem i_Op_folded_14 : mj_Snd zG ("StreamWatch$Option", "folded", c_Op_folded, 2) 14 (x_const 90) 16 := mj_bipush (n := 90) (by decide) (by decide +kernel)
theorem d_Op_folded_16 : decode c_Op_folded 16 = .ok (.if_icmp .gt 13, 3) := by decide +kernel
theorem i_Op_folded_19 : mj_Snd zG ("StreamWatch$Option", "folded", c_Op_folded, 2) 19 (x_iload 1) 20 := mj_iload_n (j := 1) rfl (by decide +kernel)
theorem i_Op_folded_20 : mj_Snd zG ("StreamWatch$Option", "folded", c_Op_folded, 2) 20 (x_const 65) 22 := mj_bipush (n := 65) (by decide) (by decide +kernel)
theorem i_Op_folded_22 : mj_Snd zG ("StreamWatch$Option", "folded", c_Op_folded, 2) 22 (x_isub) 23 := mj_isub (by decide +kernel)
theorem i_Op_folded_23 : mj_Snd zG ("StreamWatch$Option", "folded", c_Op_folded, 2) 23 (x_const 97) 25 := mj_bipush (n := 97) (by decide) (by decide +kernel)
theorem i_Op_folded_25 : mj_Snd zG ("StreamWatch$Option", "folded", c_Op_folded, 2) 25 (x_iadd) 26 := mj_iadd (by decide +kernel)
theorem i_Op_folded_26 : mj_Snd zG ("StreamWatch$Option", "folded", c_Op_folded, 2) 26 (x_skip) 30 := mj_goto (off := 4) (by decide) (by decide +kernel)
theorem i_Op_folded_29 : mj_Snd zG ("StreamWatch$Option", "folded", c_Op_folded, 2) 29 (x_iload 1) 30 := mj_iload_n (j := 1) rfl (by decide +kernel)
theorem d_Op_folded_30 : decode c_Op_folded 30 = .ok (.ireturn, 1) := by decide +kernel
theorem b_Op_folded_0 : mj_Ch zG ("StreamWatch$Option", "folded", c_Op_folded, 2) 0 [x_aload 0, x_getf 4 6] 4 := ⟨_, i_Op_folded_0, _, i_Op_folded_1, rfl⟩
theorem b_Op_folded_7 : mj_Ch zG ("StreamWatch$Option", "folded", c_Op_folded, 2) 7 [x_iload 1, x_const 65] 10 := ⟨_, i_Op_folded_7, _, i_Op_folded_8, rfl⟩
theorem b_Op_folded_13 : mj_Ch zG ("StreamWatch$Option", "folded", c_Op_folded, 2) 13 [x_iload 1, x_const 90] 16 := ⟨_, i_Op_folded_13, _, i_Op_folded_14, rfl⟩
theorem b_Op_folded_19 : mj_Ch zG ("StreamWatch$Option", "folded", c_Op_folded, 2) 19 [x_iload 1, x_const 65, x_isub, x_const 97, x_iadd, x_skip] 30 := ⟨_, i_Op_folded_19, _, i_Op_folded_20, _, i_Op_folded_22, _, i_Op_folded_23, _, i_Op_folded_25, _, i_Op_folded_26, rfl⟩
theorem b_Op_folded_29 : mj_Ch zG ("StreamWatch$Option", "folded", c_Op_folded, 2) 29 [x_iload 1] 30 := ⟨_, i_Op_folded_29, rfl⟩

theorem i_Sw_init_0 : mj_Snd zG ("StreamWatch", "<init>", c_Sw_init, 2) 0 (x_aload 0) 1 := mj_aload_n (j := 0) rfl (by decide +kernel)
theorem d_Sw_init_1 : decode c_Sw_init 1 = .ok (.invokespecial 1, 3) := by decide +kernel
theorem i_Sw_init_4 : mj_Snd zG ("StreamWatch", "<init>", c_Sw_init, 2) 4 (x_aload 0) 5 := mj_aload_n (j := 0) rfl (by decide +kernel)
theorem d_Sw_init_5 : decode c_Sw_init 5 = .ok (.new 7, 3) := by decide +kernel
theorem i_Sw_init_8 : mj_Snd zG ("StreamWatch", "<init>", c_Sw_init, 2) 8 (x_dup) 9 := mj_dup (by decide +kernel)
theorem d_Sw_init_9 : decode c_Sw_init 9 = .ok (.invokespecial 9, 3) := by decide +kernel
theorem i_Sw_init_12 : mj_Snd zG ("StreamWatch", "<init>", c_Sw_init, 2) 12 (x_putf 10 1 3) 15 := mj_putG (T := T_Sw) (ty0 := t_Sw) rfl (by decide) u_Sw t_Sw_ok n_Sw z1_213 (Or.inr ⟨rfl, rfl, rfl⟩) (by decide +kernel)
theorem i_Sw_init_15 : mj_Snd zG ("StreamWatch", "<init>", c_Sw_init, 2) 15 (x_aload 0) 16 := mj_aload_n (j := 0) rfl (by decide +kernel)
theorem d_Sw_init_16 : decode c_Sw_init 16 = .ok (.new 16, 3) := by decide +kernel
theorem i_Sw_init_19 : mj_Snd zG ("StreamWatch", "<init>", c_Sw_init, 2) 19 (x_dup) 20 := mj_dup (by decide +kernel)
theorem d_Sw_init_20 : decode c_Sw_init 20 = .ok (.invokespecial 18, 3) := by decide +kernel
theorem i_Sw_init_23 : mj_Snd zG ("StreamWatch", "<init>", c_Sw_init, 2) 23 (x_putf 10 2 3) 26 := mj_putG (T := T_Sw) (ty0 := t_Sw) rfl (by decide) u_Sw t_Sw_ok n_Sw z1_214 (Or.inr ⟨rfl, rfl, rfl⟩) (by decide +kernel)
theorem i_Sw_init_26 : mj_Snd zG ("StreamWatch", "<init>", c_Sw_init, 2) 26 (x_aload 0) 27 := mj_aload_n (j := 0) rfl (by decide +kernel)
theorem d_Sw_init_27 : decode c_Sw_init 27 = .ok (.new 23, 3) := by decide +kernel
theorem i_Sw_init_30 : mj_Snd zG ("StreamWatch", "<init>", c_Sw_init, 2) 30 (x_dup) 31 := mj_dup (by decide +kernel)
theorem d_Sw_init_31 : decode c_Sw_init 31 = .ok (.invokespecial 25, 3) := by decide +kernel
theorem i_Sw_init_34 : mj_Snd zG ("StreamWatch", "<init>", c_Sw_init, 2) 34 (x_putf 10 3 3) 37 := mj_putG (T := T_Sw) (ty0 := t_Sw) rfl (by decide) u_Sw t_Sw_ok n_Sw z1_215 (Or.inr ⟨rfl, rfl, rfl⟩) (by decide +kernel)
theorem i_Sw_init_37 : mj_Snd zG ("StreamWatch", "<init>", c_Sw_init, 2) 37 (x_aload 0) 38 := mj_aload_n (j := 0) rfl (by decide +kernel)
theorem i_Sw_init_38 : mj_Snd zG ("StreamWatch", "<init>", c_Sw_init, 2) 38 (x_const 6) 40 := mj_bipush (n := 6) (by decide) (by decide +kernel)
theorem d_Sw_init_40 : decode c_Sw_init 40 = .ok (.anewarray 30, 3) := by decide +kernel
theorem i_Sw_init_43 : mj_Snd zG ("StreamWatch", "<init>", c_Sw_init, 2) 43 (x_putf 10 4 3) 46 := mj_putG (T := T_Sw) (ty0 := t_Sw) rfl (by decide) u_Sw t_Sw_ok n_Sw z1_216 (Or.inr ⟨rfl, rfl, rfl⟩) (by decide +kernel)
theorem i_Sw_init_46 : mj_Snd zG ("StreamWatch", "<init>", c_Sw_init, 2) 46 (x_aload 0) 47 := mj_aload_n (j := 0) rfl (by decide +kernel)
theorem d_Sw_init_47 : decode c_Sw_init 47 = .ok (.new 36, 3) := by decide +kernel
theorem i_Sw_init_50 : mj_Snd zG ("StreamWatch", "<init>", c_Sw_init, 2) 50 (x_dup) 51 := mj_dup (by decide +kernel)
theorem d_Sw_init_51 : decode c_Sw_init 51 = .ok (.invokespecial 38, 3) := by decide +kernel
theorem i_Sw_init_54 : mj_Snd zG ("StreamWatch", "<init>", c_Sw_init, 2) 54 (x_putf 10 5 3) 57 := mj_putG (T := T_Sw) (ty0 := t_Sw) rfl (by decide) u_Sw t_Sw_ok n_Sw z1_217 (Or.inr ⟨rfl, rfl, rfl⟩) (by decide +kernel)
theorem i_Sw_init_57 : mj_Snd zG ("StreamWatch", "<init>", c_Sw_init, 2) 57 (x_aload 0) 58 := mj_aload_n (j := 0) rfl (by decide +kernel)
theorem d_Sw_init_58 : decode c_Sw_init 58 = .ok (.new 43, 3) := by decide +kernel
theorem i_Sw_init_61 : mj_Snd zG ("StreamWatch", "<init>", c_Sw_init, 2) 61 (x_dup) 62 := mj_dup (by decide +kernel)
theorem d_Sw_init_62 : decode c_Sw_init 62 = .ok (.invokespecial 45, 3) := by decide +kernel
theorem i_Sw_init_65 : mj_Snd zG ("StreamWatch", "<init>", c_Sw_init, 2) 65 (x_putf 10 6 3) 68 := mj_putG (T := T_Sw) (ty0 := t_Sw) rfl (by decide) u_Sw t_Sw_ok n_Sw z1_218 (Or.inr ⟨rfl, rfl, rfl⟩) (by decide +kernel)
theorem i_Sw_init_68 : mj_Snd zG ("StreamWatch", "<init>", c_Sw_init, 2) 68 (x_aload 0) 69 := mj_aload_n (j := 0) rfl (by decide +kernel)
theorem i_Sw_init_69 : mj_Snd zG ("StreamWatch", "<init>", c_Sw_init, 2) 69 (x_const 0) 70 := mj_const (n := 0) (by decide) (by decide +kernel)
theorem i_Sw_init_70 : mj_Snd zG ("StreamWatch", "<init>", c_Sw_init, 2) 70 (x_putf 10 7 0) 73 := mj_putG (T := T_Sw) (ty0 := t_Sw) rfl (by decide) u_Sw t_Sw_ok n_Sw z1_219 (Or.inl rfl) (by decide +kernel)
theorem i_Sw_init_73 : mj_Snd zG ("StreamWatch", "<init>", c_Sw_init, 2) 73 (x_aload 0) 74 := mj_aload_n (j := 0) rfl (by decide +kernel)
theorem i_Sw_init_74 : mj_Snd zG ("StreamWatch", "<init>", c_Sw_init, 2) 74 (x_iload 1) 75 := mj_iload_n (j := 1) rfl (by decide +kernel)
theorem d_Sw_init_75 : decode c_Sw_init 75 = .ok (.ifCond .eq 7, 3) := by decide +kernel
theorem i_Sw_init_78 : mj_Snd zG ("StreamWatch", "<init>", c_Sw_init, 2) 78 (x_const 1) 79 := mj_const (n := 1) (by decide) (by decide +kernel)
theorem i_Sw_init_79 : mj_Snd zG ("StreamWatch", "<init>", c_Sw_init, 2) 79 (x_skip) 83 := mj_goto (off := 4) (by decide) (by decide +kernel)
theorem i_Sw_init_82 : mj_Snd zG ("StreamWatch", "<init>", c_Sw_init, 2) 82 (x_const 0) 83 := mj_const (n := 0) (by decide) (by decide +kernel)
theorem i_Sw_init_83 : mj_Snd zG ("StreamWatch", "<init>", c_Sw_init, 2) 83 (x_putf 10 0 1) 86 := mj_putG (T := T_Sw) (ty0 := t_Sw) rfl (by decide) u_Sw t_Sw_ok n_Sw z1_212 (Or.inr ⟨rfl, rfl, rfl⟩) (by decide +kernel)
theorem d_Sw_init_86 : decode c_Sw_init 86 = .ok (.return_, 1) := by decide +kernel
theorem b_Sw_init_0 : mj_Ch zG ("StreamWatch", "<init>", c_Sw_init, 2) 0 [x_aload 0] 1 := ⟨_, i_Sw_init_0, rfl⟩
theorem b_Sw_init_4 : mj_Ch zG ("StreamWatch", "<init>", c_Sw_init, 2) 4 [x_aload 0] 5 := ⟨_, i_Sw_init_4, rfl⟩
theorem b_Sw_init_8 : mj_Ch zG ("StreamWatch", "<init>", c_Sw_init, 2) 8 [x_dup] 9 := ⟨_, i_Sw_init_8, rfl⟩
theorem b_Sw_init_12 : mj_Ch zG ("StreamWatch", "<init>", c_Sw_init, 2) 12 [x_putf 10 1 3, x_aload 0] 16 := ⟨_, i_Sw_init_12, _, i_Sw_init_15, rfl⟩
theorem b_Sw_init_19 : mj_Ch zG ("StreamWatch", "<init>", c_Sw_init, 2) 19 [x_dup] 20 := ⟨_, i_Sw_init_19, rfl⟩
theorem b_Sw_init_23 : mj_Ch zG ("StreamWatch", "<init>", c_Sw_init, 2) 23 [x_putf 10 2 3, x_aload 0] 27 := ⟨_, i_Sw_init_23, _, i_Sw_init_26, rfl⟩
theorem b_Sw_init_30 : mj_Ch zG ("StreamWatch", "<init>", c_Sw_init, 2) 30 [x_dup] 31 := ⟨_, i_Sw_init_30, rfl⟩
theorem b_Sw_init_34 : mj_Ch zG ("StreamWatch", "<init>", c_Sw_init, 2) 34 [x_putf 10 3 3, x_aload 0, x_const 6] 40 := ⟨_, i_Sw_init_34, _, i_Sw_init_37, _, i_Sw_init_38, rfl⟩
theorem b_Sw_init_43 : mj_Ch zG ("StreamWatch", "<init>", c_Sw_init, 2) 43 [x_putf 10 4 3, x_aload 0] 47 := ⟨_, i_Sw_init_43, _, i_Sw_init_46, rfl⟩
theorem b_Sw_init_50 : mj_Ch zG ("StreamWatch", "<init>", c_Sw_init, 2) 50 [x_dup] 51 := ⟨_, i_Sw_init_50, rfl⟩
theorem b_Sw_init_54 : mj_Ch zG ("StreamWatch", "<init>", c_Sw_init, 2) 54 [x_putf 10 5 3, x_aload 0] 58 := ⟨_, i_Sw_init_54, _, i_Sw_init_57, rfl⟩
theorem b_Sw_init_61 : mj_Ch zG ("StreamWatch", "<init>", c_Sw_init, 2) 61 [x_dup] 62 := ⟨_, i_Sw_init_61, rfl⟩
theorem b_Sw_init_65 : mj_Ch zG ("StreamWatch", "<init>", c_Sw_init, 2) 65 [x_putf 10 6 3, x_aload 0, x_const 0, x_putf 10 7 0, x_aload 0, x_iload 1] 75 := ⟨_, i_Sw_init_65, _, i_Sw_init_68, _, i_Sw_init_69, _, i_Sw_init_70, _, i_Sw_init_73, _, i_Sw_init_74, rfl⟩
theorem b_Sw_init_78 : mj_Ch zG ("StreamWatch", "<init>", c_Sw_init, 2) 78 [x_const 1, x_skip] 83 := ⟨_, i_Sw_init_78, _, i_Sw_init_79, rfl⟩
theorem b_Sw_init_82 : mj_Ch zG ("StreamWatch", "<init>", c_Sw_init, 2) 82 [x_const 0] 83 := ⟨_, i_Sw_init_82, rfl⟩
theorem b_Sw_init_83 : mj_Ch zG ("StreamWatch", "<init>", c_Sw_init, 2) 83 [x_putf 10 0 1] 86 := ⟨_, i_Sw_init_83, rfl⟩
theorem i_Sw_craft_0 : mj_Snd zG ("StreamWatch", "craft", c_Sw_craft, 8) 0 (x_iload 1) 1 := mj_iload_n (j := 1) rfl (by decide +kernel)
theorem d_Sw_craft_1 : decode c_Sw_craft 1 = .ok (.ifCond .lt 9, 3) := by decide +kernel
theorem i_Sw_craft_4 : mj_Snd zG ("StreamWatch", "craft", c_Sw_craft, 8) 4 (x_iload 1) 5 := mj_iload_n (j := 1) rfl (by decide +kernel)
theorem i_Sw_craft_5 : mj_Snd zG ("StreamWatch", "craft", c_Sw_craft, 8) 5 (x_const 8) 7 := mj_bipush (n := 8) (by decide) (by decide +kernel)
theorem d_Sw_craft_7 : decode c_Sw_craft 7 = .ok (.if_icmp .lt 13, 3) := by decide +kernel
theorem d_Sw_craft_10 : decode c_Sw_craft 10 = .ok (.new 58, 3) := by decide +kernel
theorem i_Sw_craft_13 : mj_Snd zG ("StreamWatch", "craft", c_Sw_craft, 8) 13 (x_dup) 14 := mj_dup (by decide +kernel)
theorem d_Sw_craft_14 : decode c_Sw_craft 14 = .ok (.ldc 60, 2) := by decide +kernel
theorem d_Sw_craft_16 : decode c_Sw_craft 16 = .ok (.invokespecial 62, 3) := by decide +kernel
theorem d_Sw_craft_19 : decode c_Sw_craft 19 = .ok (.athrow, 1) := by decide +kernel
theorem i_Sw_craft_20 : mj_Snd zG ("StreamWatch", "craft", c_Sw_craft, 8) 20 (x_iload 2) 21 := mj_iload_n (j := 2) rfl (by decide +kernel)
theorem d_Sw_craft_21 : decode c_Sw_craft 21 = .ok (.ifCond .eq 18, 3) := by decide +kernel
theorem i_Sw_craft_24 : mj_Snd zG ("StreamWatch", "craft", c_Sw_craft, 8) 24 (x_iload 2) 25 := mj_iload_n (j := 2) rfl (by decide +kernel)
theorem i_Sw_craft_25 : mj_Snd zG ("StreamWatch", "craft", c_Sw_craft, 8) 25 (x_const 1) 26 := mj_const (n := 1) (by decide) (by decide +kernel)
theorem d_Sw_craft_26 : decode c_Sw_craft 26 = .ok (.if_icmp .eq 13, 3) := by decide +kernel
theorem d_Sw_craft_29 : decode c_Sw_craft 29 = .ok (.new 58, 3) := by decide +kernel
theorem i_Sw_craft_32 : mj_Snd zG ("StreamWatch", "craft", c_Sw_craft, 8) 32 (x_dup) 33 := mj_dup (by decide +kernel)
theorem d_Sw_craft_33 : decode c_Sw_craft 33 = .ok (.ldc 65, 2) := by decide +kernel
theorem d_Sw_craft_35 : decode c_Sw_craft 35 = .ok (.invokespecial 62, 3) := by decide +kernel
theorem d_Sw_craft_38 : decode c_Sw_craft 38 = .ok (.athrow, 1) := by decide +kernel
theorem i_Sw_craft_39 : mj_Snd zG ("StreamWatch", "craft", c_Sw_craft, 8) 39 (x_iload 5) 41 := mj_iload (by decide +kernel)
theorem d_Sw_craft_41 : decode c_Sw_craft 41 = .ok (.ifCond .lt 10, 3) := by decide +kernel
theorem i_Sw_craft_44 : mj_Snd zG ("StreamWatch", "craft", c_Sw_craft, 8) 44 (x_iload 5) 46 := mj_iload (by decide +kernel)
theorem i_Sw_craft_46 : mj_Snd zG ("StreamWatch", "craft", c_Sw_craft, 8) 46 (x_const 8) 48 := mj_bipush (n := 8) (by decide) (by decide +kernel)
theorem d_Sw_craft_48 : decode c_Sw_craft 48 = .ok (.if_icmp .le 13, 3) := by decide +kernel
theorem d_Sw_craft_51 : decode c_Sw_craft 51 = .ok (.new 58, 3) := by decide +kernel
theorem i_Sw_craft_54 : mj_Snd zG ("StreamWatch", "craft", c_Sw_craft, 8) 54 (x_dup) 55 := mj_dup (by decide +kernel)
theorem d_Sw_craft_55 : decode c_Sw_craft 55 = .ok (.ldc 67, 2) := by decide +kernel
theorem d_Sw_craft_57 : decode c_Sw_craft 57 = .ok (.invokespecial 62, 3) := by decide +kernel
theorem d_Sw_craft_60 : decode c_Sw_craft 60 = .ok (.athrow, 1) := by decide +kernel
theorem i_Sw_craft_61 : mj_Snd zG ("StreamWatch", "craft", c_Sw_craft, 8) 61 (x_aload 0) 62 := mj_aload_n (j := 0) rfl (by decide +kernel)
theorem i_Sw_craft_62 : mj_Snd zG ("StreamWatch", "craft", c_Sw_craft, 8) 62 (x_getf 10 1) 65 := mj_getf (T := T_Sw) rfl (by decide) u_Sw z1_213 (by decide +kernel)
theorem d_Sw_craft_65 : decode c_Sw_craft 65 = .ok (.invokevirtual 69, 3) := by decide +kernel
theorem i_Sw_craft_68 : mj_Snd zG ("StreamWatch", "craft", c_Sw_craft, 8) 68 (x_aload 0) 69 := mj_aload_n (j := 0) rfl (by decide +kernel)
theorem i_Sw_craft_69 : mj_Snd zG ("StreamWatch", "craft", c_Sw_craft, 8) 69 (x_iload 1) 70 := mj_iload_n (j := 1) rfl (by decide +kernel)
theorem i_Sw_craft_70 : mj_Snd zG ("StreamWatch", "craft", c_Sw_craft, 8) 70 (x_iload 2) 71 := mj_iload_n (j := 2) rfl (by decide +kernel)
theorem i_Sw_craft_71 : mj_Snd zG ("StreamWatch", "craft", c_Sw_craft, 8) 71 (x_iload 5) 73 := mj_iload (by decide +kernel)
theorem d_Sw_craft_73 : decode c_Sw_craft 73 = .ok (.invokevirtual 72, 3) := by decide +kernel
theorem i_Sw_craft_76 : mj_Snd zG ("StreamWatch", "craft", c_Sw_craft, 8) 76 (x_aload 0) 77 := mj_aload_n (j := 0) rfl (by decide +kernel)
theorem i_Sw_craft_77 : mj_Snd zG ("StreamWatch", "craft", c_Sw_craft, 8) 77 (x_iload 1) 78 := mj_iload_n (j := 1) rfl (by decide +kernel)
theorem i_Sw_craft_78 : mj_Snd zG ("StreamWatch", "craft", c_Sw_craft, 8) 78 (x_iload 2) 79 := mj_iload_n (j := 2) rfl (by decide +kernel)
theorem i_Sw_craft_79 : mj_Snd zG ("StreamWatch", "craft", c_Sw_craft, 8) 79 (x_iload 3) 80 := mj_iload_n (j := 3) rfl (by decide +kernel)
theorem i_Sw_craft_80 : mj_Snd zG ("StreamWatch", "craft", c_Sw_craft, 8) 80 (x_iload 4) 82 := mj_iload (by decide +kernel)
theorem d_Sw_craft_82 : decode c_Sw_craft 82 = .ok (.invokevirtual 76, 3) := by decide +kernel
theorem i_Sw_craft_85 : mj_Snd zG ("StreamWatch", "craft", c_Sw_craft, 8) 85 (x_aload 0) 86 := mj_aload_n (j := 0) rfl (by decide +kernel)
theorem i_Sw_craft_86 : mj_Snd zG ("StreamWatch", "craft", c_Sw_craft, 8) 86 (x_getf 10 1) 89 := mj_getf (T := T_Sw) rfl (by decide) u_Sw z1_213 (by decide +kernel)
theorem i_Sw_craft_89 : mj_Snd zG ("StreamWatch", "craft", c_Sw_craft, 8) 89 (x_iload 5) 91 := mj_iload (by decide +kernel)
theorem i_Sw_craft_91 : mj_Snd zG ("StreamWatch", "craft", c_Sw_craft, 8) 91 (x_lload 6) 93 := mj_lload (by decide +kernel)
theorem d_Sw_craft_93 : decode c_Sw_craft 93 = .ok (.invokevirtual 80, 3) := by decide +kernel
theorem i_Sw_craft_96 : mj_Snd zG ("StreamWatch", "craft", c_Sw_craft, 8) 96 (x_pop) 97 := mj_pop (by decide +kernel)
theorem i_Sw_craft_97 : mj_Snd zG ("StreamWatch", "craft", c_Sw_craft, 8) 97 (x_aload 0) 98 := mj_aload_n (j := 0) rfl (by decide +kernel)
theorem i_Sw_craft_98 : mj_Snd zG ("StreamWatch", "craft", c_Sw_craft, 8) 98 (x_getf 10 1) 101 := mj_getf (T := T_Sw) rfl (by decide) u_Sw z1_213 (by decide +kernel)
theorem d_Sw_craft_101 : decode c_Sw_craft 101 = .ok (.invokevirtual 84, 3) := by decide +kernel
theorem i_Sw_craft_104 : mj_Snd zG ("StreamWatch", "craft", c_Sw_craft, 8) 104 (x_aload 0) 105 := mj_aload_n (j := 0) rfl (by decide +kernel)
theorem i_Sw_craft_105 : mj_Snd zG ("StreamWatch", "craft", c_Sw_craft, 8) 105 (x_getf 10 1) 108 := mj_getf (T := T_Sw) rfl (by decide) u_Sw z1_213 (by decide +kernel)
theorem d_Sw_craft_108 : decode c_Sw_craft 108 = .ok (.invokevirtual 87, 3) := by decide +kernel
theorem d_Sw_craft_111 : decode c_Sw_craft 111 = .ok (.ireturn, 1) := by decide +kernel
theorem b_Sw_craft_0 : mj_Ch zG ("StreamWatch", "craft", c_Sw_craft, 8) 0 [x_iload 1] 1 := ⟨_, i_Sw_craft_0, rfl⟩
theorem b_Sw_craft_4 : mj_Ch zG ("StreamWatch", "craft", c_Sw_craft, 8) 4 [x_iload 1, x_const 8] 7 := ⟨_, i_Sw_craft_4, _, i_Sw_craft_5, rfl⟩
theorem b_Sw_craft_13 : mj_Ch zG ("StreamWatch", "craft", c_Sw_craft, 8) 13 [x_dup] 14 := ⟨_, i_Sw_craft_13, rfl⟩
theorem b_Sw_craft_20 : mj_Ch zG ("StreamWatch", "craft", c_Sw_craft, 8) 20 [x_iload 2] 21 := ⟨_, i_Sw_craft_20, rfl⟩
theorem b_Sw_craft_24 : mj_Ch zG ("StreamWatch", "craft", c_Sw_craft, 8) 24 [x_iload 2, x_const 1] 26 := ⟨_, i_Sw_craft_24, _, i_Sw_craft_25, rfl⟩
theorem b_Sw_craft_32 : mj_Ch zG ("StreamWatch", "craft", c_Sw_craft, 8) 32 [x_dup] 33 := ⟨_, i_Sw_craft_32, rfl⟩
theorem b_Sw_craft_39 : mj_Ch zG ("StreamWatch", "craft", c_Sw_craft, 8) 39 [x_iload 5] 41 := ⟨_, i_Sw_craft_39, rfl⟩
theorem b_Sw_craft_44 : mj_Ch zG ("StreamWatch", "craft", c_Sw_craft, 8) 44 [x_iload 5, x_const 8] 48 := ⟨_, i_Sw_craft_44, _, i_Sw_craft_46, rfl⟩
theorem b_Sw_craft_54 : mj_Ch zG ("StreamWatch", "craft", c_Sw_craft, 8) 54 [x_dup] 55 := ⟨_, i_Sw_craft_54, rfl⟩
theorem b_Sw_craft_61 : mj_Ch zG ("StreamWatch", "craft", c_Sw_craft, 8) 61 [x_aload 0, x_getf 10 1] 65 := ⟨_, i_Sw_craft_61, _, i_Sw_craft_62, rfl⟩
theorem b_Sw_craft_68 : mj_Ch zG ("StreamWatch", "craft", c_Sw_craft, 8) 68 [x_aload 0, x_iload 1, x_iload 2, x_iload 5] 73 := ⟨_, i_Sw_craft_68, _, i_Sw_craft_69, _, i_Sw_craft_70, _, i_Sw_craft_71, rfl⟩
theorem b_Sw_craft_76 : mj_Ch zG ("StreamWatch", "craft", c_Sw_craft, 8) 76 [x_aload 0, x_iload 1, x_iload 2, x_iload 3, x_iload 4] 82 := ⟨_, i_Sw_craft_76, _, i_Sw_craft_77, _, i_Sw_craft_78, _, i_Sw_craft_79, _, i_Sw_craft_80, rfl⟩
theorem b_Sw_craft_85 : mj_Ch zG ("StreamWatch", "craft", c_Sw_craft, 8) 85 [x_aload 0, x_getf 10 1, x_iload 5, x_lload 6] 93 := ⟨_, i_Sw_craft_85, _, i_Sw_craft_86, _, i_Sw_craft_89, _, i_Sw_craft_91, rfl⟩
theorem b_Sw_craft_96 : mj_Ch zG ("StreamWatch", "craft", c_Sw_craft, 8) 96 [x_pop, x_aload 0, x_getf 10 1] 101 := ⟨_, i_Sw_craft_96, _, i_Sw_craft_97, _, i_Sw_craft_98, rfl⟩
theorem b_Sw_craft_104 : mj_Ch zG ("StreamWatch", "craft", c_Sw_craft, 8) 104 [x_aload 0, x_getf 10 1] 108 := ⟨_, i_Sw_craft_104, _, i_Sw_craft_105, rfl⟩
theorem i_Sw_alter_0 : mj_Snd zG ("StreamWatch", "alter", c_Sw_alter, 3) 0 (x_aload 0) 1 := mj_aload_n (j := 0) rfl (by decide +kernel)
theorem i_Sw_alter_1 : mj_Snd zG ("StreamWatch", "alter", c_Sw_alter, 3) 1 (x_getf 10 1) 4 := mj_getf (T := T_Sw) rfl (by decide) u_Sw z1_213 (by decide +kernel)
theorem i_Sw_alter_4 : mj_Snd zG ("StreamWatch", "alter", c_Sw_alter, 3) 4 (x_iload 1) 5 := mj_iload_n (j := 1) rfl (by decide +kernel)
theorem i_Sw_alter_5 : mj_Snd zG ("StreamWatch", "alter", c_Sw_alter, 3) 5 (x_iload 2) 6 := mj_iload_n (j := 2) rfl (by decide +kernel)
theorem d_Sw_alter_6 : decode c_Sw_alter 6 = .ok (.invokevirtual 91, 3) := by decide +kernel
theorem d_Sw_alter_9 : decode c_Sw_alter 9 = .ok (.ireturn, 1) := by decide +kernel
theorem b_Sw_alter_0 : mj_Ch zG ("StreamWatch", "alter", c_Sw_alter, 3) 0 [x_aload 0, x_getf 10 1, x_iload 1, x_iload 2] 6 := ⟨_, i_Sw_alter_0, _, i_Sw_alter_1, _, i_Sw_alter_4, _, i_Sw_alter_5, rfl⟩
theorem i_Sw_wipe_0 : mj_Snd zG ("StreamWatch", "wipe", c_Sw_wipe, 1) 0 (x_aload 0) 1 := mj_aload_n (j := 0) rfl (by decide +kernel)
theorem i_Sw_wipe_1 : mj_Snd zG ("StreamWatch", "wipe", c_Sw_wipe, 1) 1 (x_getf 10 1) 4 := mj_getf (T := T_Sw) rfl (by decide) u_Sw z1_213 (by decide +kernel)
theorem d_Sw_wipe_4 : decode c_Sw_wipe 4 = .ok (.invokevirtual 69, 3) := by decide +kernel
theorem d_Sw_wipe_7 : decode c_Sw_wipe 7 = .ok (.return_, 1) := by decide +kernel
theorem b_Sw_wipe_0 : mj_Ch zG ("StreamWatch", "wipe", c_Sw_wipe, 1) 0 [x_aload 0, x_getf 10 1] 4 := ⟨_, i_Sw_wipe_0, _, i_Sw_wipe_1, rfl⟩
theorem i_Sw_put_0 : mj_Snd zG ("StreamWatch", "put", c_Sw_put, 4) 0 (x_iload 1) 1 := mj_iload_n (j := 1) rfl (by decide +kernel)
theorem i_Sw_put_1 : mj_Snd zG ("StreamWatch", "put", c_Sw_put, 4) 1 (x_const 1) 2 := mj_const (n := 1) (by decide) (by decide +kernel)
theorem d_Sw_put_2 : decode c_Sw_put 2 = .ok (.if_icmp .lt 25, 3) := by decide +kernel
theorem i_Sw_put_5 : mj_Snd zG ("StreamWatch", "put", c_Sw_put, 4) 5 (x_iload 1) 6 := mj_iload_n (j := 1) rfl (by decide +kernel)
theorem i_Sw_put_6 : mj_Snd zG ("StreamWatch", "put", c_Sw_put, 4) 6 (x_const 8) 8 := mj_bipush (n := 8) (by decide) (by decide +kernel)
theorem d_Sw_put_8 : decode c_Sw_put 8 = .ok (.if_icmp .gt 19, 3) := by decide +kernel
theorem i_Sw_put_11 : mj_Snd zG ("StreamWatch", "put", c_Sw_put, 4) 11 (x_aload 0) 12 := mj_aload_n (j := 0) rfl (by decide +kernel)
theorem i_Sw_put_12 : mj_Snd zG ("StreamWatch", "put", c_Sw_put, 4) 12 (x_getf 10 1) 15 := mj_getf (T := T_Sw) rfl (by decide) u_Sw z1_213 (by decide +kernel)
theorem i_Sw_put_15 : mj_Snd zG ("StreamWatch", "put", c_Sw_put, 4) 15 (x_iload 1) 16 := mj_iload_n (j := 1) rfl (by decide +kernel)
theorem i_Sw_put_16 : mj_Snd zG ("StreamWatch", "put", c_Sw_put, 4) 16 (x_lload 2) 17 := mj_lload_n (j := 2) rfl (by decide +kernel)
theorem d_Sw_put_17 : decode c_Sw_put 17 = .ok (.invokevirtual 80, 3) := by decide +kernel
theorem d_Sw_put_20 : decode c_Sw_put 20 = .ok (.ifCond .eq 7, 3) := by decide +kernel
theorem i_Sw_put_23 : mj_Snd zG ("StreamWatch", "put", c_Sw_put, 4) 23 (x_const 1) 24 := mj_const (n := 1) (by decide) (by decide +kernel)
theorem i_Sw_put_24 : mj_Snd zG ("StreamWatch", "put", c_Sw_put, 4) 24 (x_skip) 28 := mj_goto (off := 4) (by decide) (by decide +kernel)
theorem i_Sw_put_27 : mj_Snd zG ("StreamWatch", "put", c_Sw_put, 4) 27 (x_const 0) 28 := mj_const (n := 0) (by decide) (by decide +kernel)
theorem d_Sw_put_28 : decode c_Sw_put 28 = .ok (.ireturn, 1) := by decide +kernel
theorem b_Sw_put_0 : mj_Ch zG ("StreamWatch", "put", c_Sw_put, 4) 0 [x_iload 1, x_const 1] 2 := ⟨_, i_Sw_put_0, _, i_Sw_put_1, rfl⟩
theorem b_Sw_put_5 : mj_Ch zG ("StreamWatch", "put", c_Sw_put, 4) 5 [x_iload 1, x_const 8] 8 := ⟨_, i_Sw_put_5, _, i_Sw_put_6, rfl⟩
theorem b_Sw_put_11 : mj_Ch zG ("StreamWatch", "put", c_Sw_put, 4) 11 [x_aload 0, x_getf 10 1, x_iload 1, x_lload 2] 17 := ⟨_, i_Sw_put_11, _, i_Sw_put_12, _, i_Sw_put_15, _, i_Sw_put_16, rfl⟩
theorem b_Sw_put_23 : mj_Ch zG ("StreamWatch", "put", c_Sw_put, 4) 23 [x_const 1, x_skip] 28 := ⟨_, i_Sw_put_23, _, i_Sw_put_24, rfl⟩
theorem b_Sw_put_27 : mj_Ch zG ("StreamWatch", "put", c_Sw_put, 4) 27 [x_const 0] 28 := ⟨_, i_Sw_put_27, rfl⟩
theorem i_Sw_seal_0 : mj_Snd zG ("StreamWatch", "seal", c_Sw_seal, 1) 0 (x_aload 0) 1 := mj_aload_n (j := 0) rfl (by decide +kernel)
theorem i_Sw_seal_1 : mj_Snd zG ("StreamWatch", "seal", c_Sw_seal, 1) 1 (x_getf 10 1) 4 := mj_getf (T := T_Sw) rfl (by decide) u_Sw z1_213 (by decide +kernel)
theorem i_Sw_seal_4 : mj_Snd zG ("StreamWatch", "seal", c_Sw_seal, 1) 4 (x_const 0) 5 := mj_const (n := 0) (by decide) (by decide +kernel)
theorem d_Sw_seal_5 : decode c_Sw_seal 5 = .ok (.invokevirtual 95, 3) := by decide +kernel
theorem d_Sw_seal_8 : decode c_Sw_seal 8 = .ok (.ifCond .eq 5, 3) := by decide +kernel
theorem i_Sw_seal_11 : mj_Snd zG ("StreamWatch", "seal", c_Sw_seal, 1) 11 (x_const 0) 12 := mj_const (n := 0) (by decide) (by decide +kernel)
theorem d_Sw_seal_12 : decode c_Sw_seal 12 = .ok (.ireturn, 1) := by decide +kernel
theorem i_Sw_seal_13 : mj_Snd zG ("StreamWatch", "seal", c_Sw_seal, 1) 13 (x_aload 0) 14 := mj_aload_n (j := 0) rfl (by decide +kernel)
theorem i_Sw_seal_14 : mj_Snd zG ("StreamWatch", "seal", c_Sw_seal, 1) 14 (x_getf 10 1) 17 := mj_getf (T := T_Sw) rfl (by decide) u_Sw z1_213 (by decide +kernel)
theorem d_Sw_seal_17 : decode c_Sw_seal 17 = .ok (.invokevirtual 84, 3) := by decide +kernel
theorem i_Sw_seal_20 : mj_Snd zG ("StreamWatch", "seal", c_Sw_seal, 1) 20 (x_const 1) 21 := mj_const (n := 1) (by decide) (by decide +kernel)
theorem d_Sw_seal_21 : decode c_Sw_seal 21 = .ok (.ireturn, 1) := by decide +kernel
theorem b_Sw_seal_0 : mj_Ch zG ("StreamWatch", "seal", c_Sw_seal, 1) 0 [x_aload 0, x_getf 10 1, x_const 0] 5 := ⟨_, i_Sw_seal_0, _, i_Sw_seal_1, _, i_Sw_seal_4, rfl⟩
theorem b_Sw_seal_11 : mj_Ch zG ("StreamWatch", "seal", c_Sw_seal, 1) 11 [x_const 0] 12 := ⟨_, i_Sw_seal_11, rfl⟩
theorem b_Sw_seal_13 : mj_Ch zG ("StreamWatch", "seal", c_Sw_seal, 1) 13 [x_aload 0, x_getf 10 1] 17 := ⟨_, i_Sw_seal_13, _, i_Sw_seal_14, rfl⟩
theorem b_Sw_seal_20 : mj_Ch zG ("StreamWatch", "seal", c_Sw_seal, 1) 20 [x_const 1] 21 := ⟨_, i_Sw_seal_20, rfl⟩
theorem i_Sw_wire_0 : mj_Snd zG ("StreamWatch", "wire", c_Sw_wire, 2) 0 (x_iload 1) 1 := mj_iload_n (j := 1) rfl (by decide +kernel)
theorem i_Sw_wire_1 : mj_Snd zG ("StreamWatch", "wire", c_Sw_wire, 2) 1 (x_const (-1)) 2 := mj_const (n := (-1)) (by decide) (by decide +kernel)
theorem d_Sw_wire_2 : decode c_Sw_wire 2 = .ok (.if_icmp .ne 11, 3) := by decide +kernel
theorem i_Sw_wire_5 : mj_Snd zG ("StreamWatch", "wire", c_Sw_wire, 2) 5 (x_aload 0) 6 := mj_aload_n (j := 0) rfl (by decide +kernel)
theorem i_Sw_wire_6 : mj_Snd zG ("StreamWatch", "wire", c_Sw_wire, 2) 6 (x_getf 10 1) 9 := mj_getf (T := T_Sw) rfl (by decide) u_Sw z1_213 (by decide +kernel)
theorem d_Sw_wire_9 : decode c_Sw_wire 9 = .ok (.invokevirtual 87, 3) := by decide +kernel
theorem d_Sw_wire_12 : decode c_Sw_wire 12 = .ok (.ireturn, 1) := by decide +kernel
theorem i_Sw_wire_13 : mj_Snd zG ("StreamWatch", "wire", c_Sw_wire, 2) 13 (x_aload 0) 14 := mj_aload_n (j := 0) rfl (by decide +kernel)
theorem i_Sw_wire_14 : mj_Snd zG ("StreamWatch", "wire", c_Sw_wire, 2) 14 (x_getf 10 1) 17 := mj_getf (T := T_Sw) rfl (by decide) u_Sw z1_213 (by decide +kernel)
theorem i_Sw_wire_17 : mj_Snd zG ("StreamWatch", "wire", c_Sw_wire, 2) 17 (x_iload 1) 18 := mj_iload_n (j := 1) rfl (by decide +kernel)
theorem d_Sw_wire_18 : decode c_Sw_wire 18 = .ok (.invokevirtual 99, 3) := by decide +kernel
theorem d_Sw_wire_21 : decode c_Sw_wire 21 = .ok (.ifCond .eq 14, 3) := by decide +kernel
theorem i_Sw_wire_24 : mj_Snd zG ("StreamWatch", "wire", c_Sw_wire, 2) 24 (x_aload 0) 25 := mj_aload_n (j := 0) rfl (by decide +kernel)
theorem i_Sw_wire_25 : mj_Snd zG ("StreamWatch", "wire", c_Sw_wire, 2) 25 (x_getf 10 1) 28 := mj_getf (T := T_Sw) rfl (by decide) u_Sw z1_213 (by decide +kernel)
theorem i_Sw_wire_28 : mj_Snd zG ("StreamWatch", "wire", c_Sw_wire, 2) 28 (x_iload 1) 29 := mj_iload_n (j := 1) rfl (by decide +kernel)
theorem d_Sw_wire_29 : decode c_Sw_wire 29 = .ok (.invokevirtual 103, 3) := by decide +kernel
theorem i_Sw_wire_32 : mj_Snd zG ("StreamWatch", "wire", c_Sw_wire, 2) 32 (x_skip) 36 := mj_goto (off := 4) (by decide) (by decide +kernel)
theorem i_Sw_wire_35 : mj_Snd zG ("StreamWatch", "wire", c_Sw_wire, 2) 35 (x_const (-1)) 36 := mj_const (n := (-1)) (by decide) (by decide +kernel)
theorem d_Sw_wire_36 : decode c_Sw_wire 36 = .ok (.ireturn, 1) := by decide +kernel
theorem b_Sw_wire_0 : mj_Ch zG ("StreamWatch", "wire", c_Sw_wire, 2) 0 [x_iload 1, x_const (-1)] 2 := ⟨_, i_Sw_wire_0, _, i_Sw_wire_1, rfl⟩
theorem b_Sw_wire_5 : mj_Ch zG ("StreamWatch", "wire", c_Sw_wire, 2) 5 [x_aload 0, x_getf 10 1] 9 := ⟨_, i_Sw_wire_5, _, i_Sw_wire_6, rfl⟩
theorem b_Sw_wire_13 : mj_Ch zG ("StreamWatch", "wire", c_Sw_wire, 2) 13 [x_aload 0, x_getf 10 1, x_iload 1] 18 := ⟨_, i_Sw_wire_13, _, i_Sw_wire_14, _, i_Sw_wire_17, rfl⟩
theorem b_Sw_wire_24 : mj_Ch zG ("StreamWatch", "wire", c_Sw_wire, 2) 24 [x_aload 0, x_getf 10 1, x_iload 1] 29 := ⟨_, i_Sw_wire_24, _, i_Sw_wire_25, _, i_Sw_wire_28, rfl⟩
theorem b_Sw_wire_32 : mj_Ch zG ("StreamWatch", "wire", c_Sw_wire, 2) 32 [x_skip] 36 := ⟨_, i_Sw_wire_32, rfl⟩
theorem b_Sw_wire_35 : mj_Ch zG ("StreamWatch", "wire", c_Sw_wire, 2) 35 [x_const (-1)] 36 := ⟨_, i_Sw_wire_35, rfl⟩
theorem i_Sw_watch_0 : mj_Snd zG ("StreamWatch", "watch", c_Sw_watch, 4) 0 (x_aload 0) 1 := mj_aload_n (j := 0) rfl (by decide +kernel)
theorem i_Sw_watch_1 : mj_Snd zG ("StreamWatch", "watch", c_Sw_watch, 4) 1 (x_getf 10 1) 4 := mj_getf (T := T_Sw) rfl (by decide) u_Sw z1_213 (by decide +kernel)
theorem i_Sw_watch_4 : mj_Snd zG ("StreamWatch", "watch", c_Sw_watch, 4) 4 (x_const 1) 5 := mj_const (n := 1) (by decide) (by decide +kernel)
theorem d_Sw_watch_5 : decode c_Sw_watch 5 = .ok (.invokevirtual 95, 3) := by decide +kernel
theorem i_Sw_watch_8 : mj_Snd zG ("StreamWatch", "watch", c_Sw_watch, 4) 8 (x_istore 1) 9 := mj_istore_n (j := 1) rfl (by decide) (by decide +kernel)
theorem i_Sw_watch_9 : mj_Snd zG ("StreamWatch", "watch", c_Sw_watch, 4) 9 (x_iload 1) 10 := mj_iload_n (j := 1) rfl (by decide +kernel)
theorem d_Sw_watch_10 : decode c_Sw_watch 10 = .ok (.ifCond .eq 7, 3) := by decide +kernel
theorem i_Sw_watch_13 : mj_Snd zG ("StreamWatch", "watch", c_Sw_watch, 4) 13 (x_const (-1)) 14 := mj_const (n := (-1)) (by decide) (by decide +kernel)
theorem i_Sw_watch_14 : mj_Snd zG ("StreamWatch", "watch", c_Sw_watch, 4) 14 (x_iload 1) 15 := mj_iload_n (j := 1) rfl (by decide +kernel)
theorem i_Sw_watch_15 : mj_Snd zG ("StreamWatch", "watch", c_Sw_watch, 4) 15 (x_isub) 16 := mj_isub (by decide +kernel)
theorem d_Sw_watch_16 : decode c_Sw_watch 16 = .ok (.ireturn, 1) := by decide +kernel
theorem i_Sw_watch_17 : mj_Snd zG ("StreamWatch", "watch", c_Sw_watch, 4) 17 (x_aload 0) 18 := mj_aload_n (j := 0) rfl (by decide +kernel)
theorem i_Sw_watch_18 : mj_Snd zG ("StreamWatch", "watch", c_Sw_watch, 4) 18 (x_getf 10 2) 21 := mj_getf (T := T_Sw) rfl (by decide) u_Sw z1_214 (by decide +kernel)
theorem i_Sw_watch_21 : mj_Snd zG ("StreamWatch", "watch", c_Sw_watch, 4) 21 (x_aload 0) 22 := mj_aload_n (j := 0) rfl (by decide +kernel)
theorem i_Sw_watch_22 : mj_Snd zG ("StreamWatch", "watch", c_Sw_watch, 4) 22 (x_getf 10 1) 25 := mj_getf (T := T_Sw) rfl (by decide) u_Sw z1_213 (by decide +kernel)
theorem d_Sw_watch_25 : decode c_Sw_watch 25 = .ok (.invokevirtual 107, 3) := by decide +kernel
theorem i_Sw_watch_28 : mj_Snd zG ("StreamWatch", "watch", c_Sw_watch, 4) 28 (x_aload 0) 29 := mj_aload_n (j := 0) rfl (by decide +kernel)
theorem d_Sw_watch_29 : decode c_Sw_watch 29 = .ok (.invokevirtual 111, 3) := by decide +kernel
theorem i_Sw_watch_32 : mj_Snd zG ("StreamWatch", "watch", c_Sw_watch, 4) 32 (x_astore 2) 33 := mj_astore_n (j := 2) rfl (by decide) (by decide +kernel)
theorem i_Sw_watch_33 : mj_Snd zG ("StreamWatch", "watch", c_Sw_watch, 4) 33 (x_aload 2) 34 := mj_aload_n (j := 2) rfl (by decide +kernel)
theorem d_Sw_watch_34 : decode c_Sw_watch 34 = .ok (.ifnonnull 6, 3) := by decide +kernel
theorem i_Sw_watch_37 : mj_Snd zG ("StreamWatch", "watch", c_Sw_watch, 4) 37 (x_const (-10)) 39 := mj_bipush (n := (-10)) (by decide) (by decide +kernel)
theorem d_Sw_watch_39 : decode c_Sw_watch 39 = .ok (.ireturn, 1) := by decide +kernel
theorem i_Sw_watch_40 : mj_Snd zG ("StreamWatch", "watch", c_Sw_watch, 4) 40 (x_aload 0) 41 := mj_aload_n (j := 0) rfl (by decide +kernel)
theorem i_Sw_watch_41 : mj_Snd zG ("StreamWatch", "watch", c_Sw_watch, 4) 41 (x_getf 10 3) 44 := mj_getf (T := T_Sw) rfl (by decide) u_Sw z1_215 (by decide +kernel)
theorem i_Sw_watch_44 : mj_Snd zG ("StreamWatch", "watch", c_Sw_watch, 4) 44 (x_aload 2) 45 := mj_aload_n (j := 2) rfl (by decide +kernel)
theorem d_Sw_watch_45 : decode c_Sw_watch 45 = .ok (.invokevirtual 115, 3) := by decide +kernel
theorem i_Sw_watch_48 : mj_Snd zG ("StreamWatch", "watch", c_Sw_watch, 4) 48 (x_aload 0) 49 := mj_aload_n (j := 0) rfl (by decide +kernel)
theorem i_Sw_watch_49 : mj_Snd zG ("StreamWatch", "watch", c_Sw_watch, 4) 49 (x_getf 10 6) 52 := mj_getf (T := T_Sw) rfl (by decide) u_Sw z1_218 (by decide +kernel)
theorem d_Sw_watch_52 : decode c_Sw_watch 52 = .ok (.invokevirtual 119, 3) := by decide +kernel
theorem i_Sw_watch_55 : mj_Snd zG ("StreamWatch", "watch", c_Sw_watch, 4) 55 (x_istore 3) 56 := mj_istore_n (j := 3) rfl (by decide) (by decide +kernel)
theorem i_Sw_watch_56 : mj_Snd zG ("StreamWatch", "watch", c_Sw_watch, 4) 56 (x_aload 0) 57 := mj_aload_n (j := 0) rfl (by decide +kernel)
theorem i_Sw_watch_57 : mj_Snd zG ("StreamWatch", "watch", c_Sw_watch, 4) 57 (x_getf 10 2) 60 := mj_getf (T := T_Sw) rfl (by decide) u_Sw z1_214 (by decide +kernel)
theorem i_Sw_watch_60 : mj_Snd zG ("StreamWatch", "watch", c_Sw_watch, 4) 60 (x_const 4) 61 := mj_const (n := 4) (by decide) (by decide +kernel)
theorem d_Sw_watch_61 : decode c_Sw_watch 61 = .ok (.invokevirtual 122, 3) := by decide +kernel
theorem d_Sw_watch_64 : decode c_Sw_watch 64 = .ok (.ifCond .eq 10, 3) := by decide +kernel
theorem i_Sw_watch_67 : mj_Snd zG ("StreamWatch", "watch", c_Sw_watch, 4) 67 (x_aload 2) 68 := mj_aload_n (j := 2) rfl (by decide +kernel)
theorem d_Sw_watch_68 : decode c_Sw_watch 68 = .ok (.invokevirtual 125, 3) := by decide +kernel
theorem i_Sw_watch_71 : mj_Snd zG ("StreamWatch", "watch", c_Sw_watch, 4) 71 (x_skip) 87 := mj_goto (off := 16) (by decide) (by decide +kernel)
theorem i_Sw_watch_74 : mj_Snd zG ("StreamWatch", "watch", c_Sw_watch, 4) 74 (x_aload 0) 75 := mj_aload_n (j := 0) rfl (by decide +kernel)
theorem i_Sw_watch_75 : mj_Snd zG ("StreamWatch", "watch", c_Sw_watch, 4) 75 (x_aload 2) 76 := mj_aload_n (j := 2) rfl (by decide +kernel)
theorem i_Sw_watch_76 : mj_Snd zG ("StreamWatch", "watch", c_Sw_watch, 4) 76 (x_aload 2) 77 := mj_aload_n (j := 2) rfl (by decide +kernel)
theorem i_Sw_watch_77 : mj_Snd zG ("StreamWatch", "watch", c_Sw_watch, 4) 77 (x_aload 0) 78 := mj_aload_n (j := 0) rfl (by decide +kernel)
theorem i_Sw_watch_78 : mj_Snd zG ("StreamWatch", "watch", c_Sw_watch, 4) 78 (x_getf 10 2) 81 := mj_getf (T := T_Sw) rfl (by decide) u_Sw z1_214 (by decide +kernel)
theorem d_Sw_watch_81 : decode c_Sw_watch 81 = .ok (.invokevirtual 130, 3) := by decide +kernel
theorem d_Sw_watch_84 : decode c_Sw_watch 84 = .ok (.invokevirtual 134, 3) := by decide +kernel
theorem i_Sw_watch_87 : mj_Snd zG ("StreamWatch", "watch", c_Sw_watch, 4) 87 (x_aload 0) 88 := mj_aload_n (j := 0) rfl (by decide +kernel)
theorem i_Sw_watch_88 : mj_Snd zG ("StreamWatch", "watch", c_Sw_watch, 4) 88 (x_getf 10 6) 91 := mj_getf (T := T_Sw) rfl (by decide) u_Sw z1_218 (by decide +kernel)
theorem d_Sw_watch_91 : decode c_Sw_watch 91 = .ok (.invokevirtual 119, 3) := by decide +kernel
theorem i_Sw_watch_94 : mj_Snd zG ("StreamWatch", "watch", c_Sw_watch, 4) 94 (x_iload 3) 95 := mj_iload_n (j := 3) rfl (by decide +kernel)
theorem i_Sw_watch_95 : mj_Snd zG ("StreamWatch", "watch", c_Sw_watch, 4) 95 (x_isub) 96 := mj_isub (by decide +kernel)
theorem d_Sw_watch_96 : decode c_Sw_watch 96 = .ok (.ireturn, 1) := by decide +kernel
theorem b_Sw_watch_0 : mj_Ch zG ("StreamWatch", "watch", c_Sw_watch, 4) 0 [x_aload 0, x_getf 10 1, x_const 1] 5 := ⟨_, i_Sw_watch_0, _, i_Sw_watch_1, _, i_Sw_watch_4, rfl⟩
theorem b_Sw_watch_8 : mj_Ch zG ("StreamWatch", "watch", c_Sw_watch, 4) 8 [x_istore 1, x_iload 1] 10 := ⟨_, i_Sw_watch_8, _, i_Sw_watch_9, rfl⟩
theorem b_Sw_watch_13 : mj_Ch zG ("StreamWatch", "watch", c_Sw_watch, 4) 13 [x_const (-1), x_iload 1, x_isub] 16 := ⟨_, i_Sw_watch_13, _, i_Sw_watch_14, _, i_Sw_watch_15, rfl⟩
theorem b_Sw_watch_17 : mj_Ch zG ("StreamWatch", "watch", c_Sw_watch, 4) 17 [x_aload 0, x_getf 10 2, x_aload 0, x_getf 10 1] 25 := ⟨_, i_Sw_watch_17, _, i_Sw_watch_18, _, i_Sw_watch_21, _, i_Sw_watch_22, rfl⟩
theorem b_Sw_watch_28 : mj_Ch zG ("StreamWatch", "watch", c_Sw_watch, 4) 28 [x_aload 0] 29 := ⟨_, i_Sw_watch_28, rfl⟩
theorem b_Sw_watch_32 : mj_Ch zG ("StreamWatch", "watch", c_Sw_watch, 4) 32 [x_astore 2, x_aload 2] 34 := ⟨_, i_Sw_watch_32, _, i_Sw_watch_33, rfl⟩
theorem b_Sw_watch_37 : mj_Ch zG ("StreamWatch", "watch", c_Sw_watch, 4) 37 [x_const (-10)] 39 := ⟨_, i_Sw_watch_37, rfl⟩
theorem b_Sw_watch_40 : mj_Ch zG ("StreamWatch", "watch", c_Sw_watch, 4) 40 [x_aload 0, x_getf 10 3, x_aload 2] 45 := ⟨_, i_Sw_watch_40, _, i_Sw_watch_41, _, i_Sw_watch_44, rfl⟩
theorem b_Sw_watch_48 : mj_Ch zG ("StreamWatch", "watch", c_Sw_watch, 4) 48 [x_aload 0, x_getf 10 6] 52 := ⟨_, i_Sw_watch_48, _, i_Sw_watch_49, rfl⟩
theorem b_Sw_watch_55 : mj_Ch zG ("StreamWatch", "watch", c_Sw_watch, 4) 55 [x_istore 3, x_aload 0, x_getf 10 2, x_const 4] 61 := ⟨_, i_Sw_watch_55, _, i_Sw_watch_56, _, i_Sw_watch_57, _, i_Sw_watch_60, rfl⟩
theorem b_Sw_watch_67 : mj_Ch zG ("StreamWatch", "watch", c_Sw_watch, 4) 67 [x_aload 2] 68 := ⟨_, i_Sw_watch_67, rfl⟩
theorem b_Sw_watch_71 : mj_Ch zG ("StreamWatch", "watch", c_Sw_watch, 4) 71 [x_skip] 87 := ⟨_, i_Sw_watch_71, rfl⟩
theorem b_Sw_watch_74 : mj_Ch zG ("StreamWatch", "watch", c_Sw_watch, 4) 74 [x_aload 0, x_aload 2, x_aload 2, x_aload 0, x_getf 10 2] 81 := ⟨_, i_Sw_watch_74, _, i_Sw_watch_75, _, i_Sw_watch_76, _, i_Sw_watch_77, _, i_Sw_watch_78, rfl⟩
theorem b_Sw_watch_87 : mj_Ch zG ("StreamWatch", "watch", c_Sw_watch, 4) 87 [x_aload 0, x_getf 10 6] 91 := ⟨_, i_Sw_watch_87, _, i_Sw_watch_88, rfl⟩
theorem b_Sw_watch_94 : mj_Ch zG ("StreamWatch", "watch", c_Sw_watch, 4) 94 [x_iload 3, x_isub] 96 := ⟨_, i_Sw_watch_94, _, i_Sw_watch_95, rfl⟩
theorem i_Sw_rule_0 : mj_Snd zG ("StreamWatch", "rule", c_Sw_rule, 3) 0 (x_iload 1) 1 := mj_iload_n (j := 1) rfl (by decide +kernel)
theorem d_Sw_rule_1 : decode c_Sw_rule 1 = .ok (.ifCond .lt 8, 3) := by decide +kernel
theorem i_Sw_rule_4 : mj_Snd zG ("StreamWatch", "rule", c_Sw_rule, 3) 4 (x_iload 1) 5 := mj_iload_n (j := 1) rfl (by decide +kernel)
theorem i_Sw_rule_5 : mj_Snd zG ("StreamWatch", "rule", c_Sw_rule, 3) 5 (x_const 2) 6 := mj_const (n := 2) (by decide) (by decide +kernel)
theorem d_Sw_rule_6 : decode c_Sw_rule 6 = .ok (.if_icmp .le 13, 3) := by decide +kernel
theorem d_Sw_rule_9 : decode c_Sw_rule 9 = .ok (.new 58, 3) := by decide +kernel
theorem i_Sw_rule_12 : mj_Snd zG ("StreamWatch", "rule", c_Sw_rule, 3) 12 (x_dup) 13 := mj_dup (by decide +kernel)
theorem d_Sw_rule_13 : decode c_Sw_rule 13 = .ok (.ldc 138, 2) := by decide +kernel
theorem d_Sw_rule_15 : decode c_Sw_rule 15 = .ok (.invokespecial 62, 3) := by decide +kernel
theorem d_Sw_rule_18 : decode c_Sw_rule 18 = .ok (.athrow, 1) := by decide +kernel
theorem i_Sw_rule_19 : mj_Snd zG ("StreamWatch", "rule", c_Sw_rule, 3) 19 (x_iload 2) 20 := mj_iload_n (j := 2) rfl (by decide +kernel)
theorem d_Sw_rule_20 : decode c_Sw_rule 20 = .ok (.ifCond .lt 9, 3) := by decide +kernel
theorem i_Sw_rule_23 : mj_Snd zG ("StreamWatch", "rule", c_Sw_rule, 3) 23 (x_iload 2) 24 := mj_iload_n (j := 2) rfl (by decide +kernel)
theorem i_Sw_rule_24 : mj_Snd zG ("StreamWatch", "rule", c_Sw_rule, 3) 24 (x_const 65535) 26 := mj_ldc z3_211 (by decide +kernel)
theorem d_Sw_rule_26 : decode c_Sw_rule 26 = .ok (.if_icmp .le 13, 3) := by decide +kernel
theorem d_Sw_rule_29 : decode c_Sw_rule 29 = .ok (.new 58, 3) := by decide +kernel
theorem i_Sw_rule_32 : mj_Snd zG ("StreamWatch", "rule", c_Sw_rule, 3) 32 (x_dup) 33 := mj_dup (by decide +kernel)
theorem d_Sw_rule_33 : decode c_Sw_rule 33 = .ok (.ldc 141, 2) := by decide +kernel
theorem d_Sw_rule_35 : decode c_Sw_rule 35 = .ok (.invokespecial 62, 3) := by decide +kernel
theorem d_Sw_rule_38 : decode c_Sw_rule 38 = .ok (.athrow, 1) := by decide +kernel
theorem i_Sw_rule_39 : mj_Snd zG ("StreamWatch", "rule", c_Sw_rule, 3) 39 (x_aload 0) 40 := mj_aload_n (j := 0) rfl (by decide +kernel)
theorem i_Sw_rule_40 : mj_Snd zG ("StreamWatch", "rule", c_Sw_rule, 3) 40 (x_getf 10 7) 43 := mj_getf (T := T_Sw) rfl (by decide) u_Sw z1_219 (by decide +kernel)
theorem i_Sw_rule_43 : mj_Snd zG ("StreamWatch", "rule", c_Sw_rule, 3) 43 (x_const 6) 45 := mj_bipush (n := 6) (by decide) (by decide +kernel)
theorem d_Sw_rule_45 : decode c_Sw_rule 45 = .ok (.if_icmp .lt 13, 3) := by decide +kernel
theorem d_Sw_rule_48 : decode c_Sw_rule 48 = .ok (.new 143, 3) := by decide +kernel
theorem i_Sw_rule_51 : mj_Snd zG ("StreamWatch", "rule", c_Sw_rule, 3) 51 (x_dup) 52 := mj_dup (by decide +kernel)
theorem d_Sw_rule_52 : decode c_Sw_rule 52 = .ok (.ldc 145, 2) := by decide +kernel
theorem d_Sw_rule_54 : decode c_Sw_rule 54 = .ok (.invokespecial 147, 3) := by decide +kernel
theorem d_Sw_rule_57 : decode c_Sw_rule 57 = .ok (.athrow, 1) := by decide +kernel
theorem i_Sw_rule_58 : mj_Snd zG ("StreamWatch", "rule", c_Sw_rule, 3) 58 (x_aload 0) 59 := mj_aload_n (j := 0) rfl (by decide +kernel)
theorem i_Sw_rule_59 : mj_Snd zG ("StreamWatch", "rule", c_Sw_rule, 3) 59 (x_getf 10 4) 62 := mj_getf (T := T_Sw) rfl (by decide) u_Sw z1_216 (by decide +kernel)
theorem i_Sw_rule_62 : mj_Snd zG ("StreamWatch", "rule", c_Sw_rule, 3) 62 (x_aload 0) 63 := mj_aload_n (j := 0) rfl (by decide +kernel)
theorem i_Sw_rule_63 : mj_Snd zG ("StreamWatch", "rule", c_Sw_rule, 3) 63 (x_getf 10 7) 66 := mj_getf (T := T_Sw) rfl (by decide) u_Sw z1_219 (by decide +kernel)
theorem d_Sw_rule_66 : decode c_Sw_rule 66 = .ok (.new 30, 3) := by decide +kernel
theorem i_Sw_rule_69 : mj_Snd zG ("StreamWatch", "rule", c_Sw_rule, 3) 69 (x_dup) 70 := mj_dup (by decide +kernel)
theorem i_Sw_rule_70 : mj_Snd zG ("StreamWatch", "rule", c_Sw_rule, 3) 70 (x_iload 1) 71 := mj_iload_n (j := 1) rfl (by decide +kernel)
theorem i_Sw_rule_71 : mj_Snd zG ("StreamWatch", "rule", c_Sw_rule, 3) 71 (x_iload 2) 72 := mj_iload_n (j := 2) rfl (by decide +kernel)
theorem d_Sw_rule_72 : decode c_Sw_rule 72 = .ok (.invokespecial 148, 3) := by decide +kernel
theorem d_Sw_rule_75 : decode c_Sw_rule 75 = .ok (.aastore, 1) := by decide +kernel
theorem i_Sw_rule_76 : mj_Snd zG ("StreamWatch", "rule", c_Sw_rule, 3) 76 (x_aload 0) 77 := mj_aload_n (j := 0) rfl (by decide +kernel)
theorem i_Sw_rule_77 : mj_Snd zG ("StreamWatch", "rule", c_Sw_rule, 3) 77 (x_dup) 78 := mj_dup (by decide +kernel)
theorem i_Sw_rule_78 : mj_Snd zG ("StreamWatch", "rule", c_Sw_rule, 3) 78 (x_getf 10 7) 81 := mj_getf (T := T_Sw) rfl (by decide) u_Sw z1_219 (by decide +kernel)
theorem i_Sw_rule_81 : mj_Snd zG ("StreamWatch", "rule", c_Sw_rule, 3) 81 (x_const 1) 82 := mj_const (n := 1) (by decide) (by decide +kernel)
theorem i_Sw_rule_82 : mj_Snd zG ("StreamWatch", "rule", c_Sw_rule, 3) 82 (x_iadd) 83 := mj_iadd (by decide +kernel)
theorem i_Sw_rule_83 : mj_Snd zG ("StreamWatch", "rule", c_Sw_rule, 3) 83 (x_putf 10 7 0) 86 := mj_putG (T := T_Sw) (ty0 := t_Sw) rfl (by decide) u_Sw t_Sw_ok n_Sw z1_219 (Or.inl rfl) (by decide +kernel)
theorem i_Sw_rule_86 : mj_Snd zG ("StreamWatch", "rule", c_Sw_rule, 3) 86 (x_aload 0) 87 := mj_aload_n (j := 0) rfl (by decide +kernel)
theorem i_Sw_rule_87 : mj_Snd zG ("StreamWatch", "rule", c_Sw_rule, 3) 87 (x_getf 10 7) 90 := mj_getf (T := T_Sw) rfl (by decide) u_Sw z1_219 (by decide +kernel)
theorem i_Sw_rule_90 : mj_Snd zG ("StreamWatch", "rule", c_Sw_rule, 3) 90 (x_const 1) 91 := mj_const (n := 1) (by decide) (by decide +kernel)
theorem i_Sw_rule_91 : mj_Snd zG ("StreamWatch", "rule", c_Sw_rule, 3) 91 (x_isub) 92 := mj_isub (by decide +kernel)
theorem d_Sw_rule_92 : decode c_Sw_rule 92 = .ok (.ireturn, 1) := by decide +kernel
theorem b_Sw_rule_0 : mj_Ch zG ("StreamWatch", "rule", c_Sw_rule, 3) 0 [x_iload 1] 1 := ⟨_, i_Sw_rule_0, rfl⟩
theorem b_Sw_rule_4 : mj_Ch zG ("StreamWatch", "rule", c_Sw_rule, 3) 4 [x_iload 1, x_const 2] 6 := ⟨_, i_Sw_rule_4, _, i_Sw_rule_5, rfl⟩
theorem b_Sw_rule_12 : mj_Ch zG ("StreamWatch", "rule", c_Sw_rule, 3) 12 [x_dup] 13 := ⟨_, i_Sw_rule_12, rfl⟩
theorem b_Sw_rule_19 : mj_Ch zG ("StreamWatch", "rule", c_Sw_rule, 3) 19 [x_iload 2] 20 := ⟨_, i_Sw_rule_19, rfl⟩
theorem b_Sw_rule_23 : mj_Ch zG ("StreamWatch", "rule", c_Sw_rule, 3) 23 [x_iload 2, x_const 65535] 26 := ⟨_, i_Sw_rule_23, _, i_Sw_rule_24, rfl⟩
theorem b_Sw_rule_32 : mj_Ch zG ("StreamWatch", "rule", c_Sw_rule, 3) 32 [x_dup] 33 := ⟨_, i_Sw_rule_32, rfl⟩
theorem b_Sw_rule_39 : mj_Ch zG ("StreamWatch", "rule", c_Sw_rule, 3) 39 [x_aload 0, x_getf 10 7, x_const 6] 45 := ⟨_, i_Sw_rule_39, _, i_Sw_rule_40, _, i_Sw_rule_43, rfl⟩
theorem b_Sw_rule_51 : mj_Ch zG ("StreamWatch", "rule", c_Sw_rule, 3) 51 [x_dup] 52 := ⟨_, i_Sw_rule_51, rfl⟩
theorem b_Sw_rule_58 : mj_Ch zG ("StreamWatch", "rule", c_Sw_rule, 3) 58 [x_aload 0, x_getf 10 4, x_aload 0, x_getf 10 7] 66 := ⟨_, i_Sw_rule_58, _, i_Sw_rule_59, _, i_Sw_rule_62, _, i_Sw_rule_63, rfl⟩
theorem b_Sw_rule_69 : mj_Ch zG ("StreamWatch", "rule", c_Sw_rule, 3) 69 [x_dup, x_iload 1, x_iload 2] 72 := ⟨_, i_Sw_rule_69, _, i_Sw_rule_70, _, i_Sw_rule_71, rfl⟩
theorem b_Sw_rule_76 : mj_Ch zG ("StreamWatch", "rule", c_Sw_rule, 3) 76 [x_aload 0, x_dup, x_getf 10 7, x_const 1, x_iadd, x_putf 10 7 0, x_aload 0, x_getf 10 7, x_const 1, x_isub] 92 := ⟨_, i_Sw_rule_76, _, i_Sw_rule_77, _, i_Sw_rule_78, _, i_Sw_rule_81, _, i_Sw_rule_82, _, i_Sw_rule_83, _, i_Sw_rule_86, _, i_Sw_rule_87, _, i_Sw_rule_90, _, i_Sw_rule_91, rfl⟩
theorem i_Sw_option_0 : mj_Snd zG ("StreamWatch", "option", c_Sw_option, 8) 0 (x_iload 1) 1 := mj_iload_n (j := 1) rfl (by decide +kernel)
theorem i_Sw_option_1 : mj_Snd zG ("StreamWatch", "option", c_Sw_option, 8) 1 (x_const 1) 2 := mj_const (n := 1) (by decide) (by decide +kernel)
theorem d_Sw_option_2 : decode c_Sw_option 2 = .ok (.if_icmp .lt 9, 3) := by decide +kernel
theorem i_Sw_option_5 : mj_Snd zG ("StreamWatch", "option", c_Sw_option, 8) 5 (x_iload 1) 6 := mj_iload_n (j := 1) rfl (by decide +kernel)
theorem i_Sw_option_6 : mj_Snd zG ("StreamWatch", "option", c_Sw_option, 8) 6 (x_const 6) 8 := mj_bipush (n := 6) (by decide) (by decide +kernel)
theorem d_Sw_option_8 : decode c_Sw_option 8 = .ok (.if_icmp .le 13, 3) := by decide +kernel
theorem d_Sw_option_11 : decode c_Sw_option 11 = .ok (.new 58, 3) := by decide +kernel
theorem i_Sw_option_14 : mj_Snd zG ("StreamWatch", "option", c_Sw_option, 8) 14 (x_dup) 15 := mj_dup (by decide +kernel)
theorem d_Sw_option_15 : decode c_Sw_option 15 = .ok (.ldc 151, 2) := by decide +kernel
theorem d_Sw_option_17 : decode c_Sw_option 17 = .ok (.invokespecial 62, 3) := by decide +kernel
theorem d_Sw_option_20 : decode c_Sw_option 20 = .ok (.athrow, 1) := by decide +kernel
theorem i_Sw_option_21 : mj_Snd zG ("StreamWatch", "option", c_Sw_option, 8) 21 (x_iload 4) 23 := mj_iload (by decide +kernel)
theorem d_Sw_option_23 : decode c_Sw_option 23 = .ok (.ifCond .lt 10, 3) := by decide +kernel
theorem i_Sw_option_26 : mj_Snd zG ("StreamWatch", "option", c_Sw_option, 8) 26 (x_iload 4) 28 := mj_iload (by decide +kernel)
theorem i_Sw_option_28 : mj_Snd zG ("StreamWatch", "option", c_Sw_option, 8) 28 (x_const 7) 30 := mj_bipush (n := 7) (by decide) (by decide +kernel)
theorem d_Sw_option_30 : decode c_Sw_option 30 = .ok (.if_icmp .le 13, 3) := by decide +kernel
theorem d_Sw_option_33 : decode c_Sw_option 33 = .ok (.new 58, 3) := by decide +kernel
theorem i_Sw_option_36 : mj_Snd zG ("StreamWatch", "option", c_Sw_option, 8) 36 (x_dup) 37 := mj_dup (by decide +kernel)
theorem d_Sw_option_37 : decode c_Sw_option 37 = .ok (.ldc 153, 2) := by decide +kernel
theorem d_Sw_option_39 : decode c_Sw_option 39 = .ok (.invokespecial 62, 3) := by decide +kernel
theorem d_Sw_option_42 : decode c_Sw_option 42 = .ok (.athrow, 1) := by decide +kernel
theorem i_Sw_option_43 : mj_Snd zG ("StreamWatch", "option", c_Sw_option, 8) 43 (x_iload 5) 45 := mj_iload (by decide +kernel)
theorem i_Sw_option_45 : mj_Snd zG ("StreamWatch", "option", c_Sw_option, 8) 45 (x_const (-80)) 47 := mj_bipush (n := (-80)) (by decide) (by decide +kernel)
theorem d_Sw_option_47 : decode c_Sw_option 47 = .ok (.if_icmp .lt 10, 3) := by decide +kernel
theorem i_Sw_option_50 : mj_Snd zG ("StreamWatch", "option", c_Sw_option, 8) 50 (x_iload 5) 52 := mj_iload (by decide +kernel)
theorem i_Sw_option_52 : mj_Snd zG ("StreamWatch", "option", c_Sw_option, 8) 52 (x_const 80) 54 := mj_bipush (n := 80) (by decide) (by decide +kernel)
theorem d_Sw_option_54 : decode c_Sw_option 54 = .ok (.if_icmp .le 13, 3) := by decide +kernel
theorem d_Sw_option_57 : decode c_Sw_option 57 = .ok (.new 58, 3) := by decide +kernel
theorem i_Sw_option_60 : mj_Snd zG ("StreamWatch", "option", c_Sw_option, 8) 60 (x_dup) 61 := mj_dup (by decide +kernel)
theorem d_Sw_option_61 : decode c_Sw_option 61 = .ok (.ldc 155, 2) := by decide +kernel
theorem d_Sw_option_63 : decode c_Sw_option 63 = .ok (.invokespecial 62, 3) := by decide +kernel
theorem d_Sw_option_66 : decode c_Sw_option 66 = .ok (.athrow, 1) := by decide +kernel
theorem i_Sw_option_67 : mj_Snd zG ("StreamWatch", "option", c_Sw_option, 8) 67 (x_iload 6) 69 := mj_iload (by decide +kernel)
theorem d_Sw_option_69 : decode c_Sw_option 69 = .ok (.ifCond .lt 10, 3) := by decide +kernel
theorem i_Sw_option_72 : mj_Snd zG ("StreamWatch", "option", c_Sw_option, 8) 72 (x_iload 6) 74 := mj_iload (by decide +kernel)
theorem i_Sw_option_74 : mj_Snd zG ("StreamWatch", "option", c_Sw_option, 8) 74 (x_const 80) 76 := mj_bipush (n := 80) (by decide) (by decide +kernel)
theorem d_Sw_option_76 : decode c_Sw_option 76 = .ok (.if_icmp .le 13, 3) := by decide +kernel
theorem d_Sw_option_79 : decode c_Sw_option 79 = .ok (.new 58, 3) := by decide +kernel
theorem i_Sw_option_82 : mj_Snd zG ("StreamWatch", "option", c_Sw_option, 8) 82 (x_dup) 83 := mj_dup (by decide +kernel)
theorem d_Sw_option_83 : decode c_Sw_option 83 = .ok (.ldc 157, 2) := by decide +kernel
theorem d_Sw_option_85 : decode c_Sw_option 85 = .ok (.invokespecial 62, 3) := by decide +kernel
theorem d_Sw_option_88 : decode c_Sw_option 88 = .ok (.athrow, 1) := by decide +kernel
theorem i_Sw_option_89 : mj_Snd zG ("StreamWatch", "option", c_Sw_option, 8) 89 (x_aload 0) 90 := mj_aload_n (j := 0) rfl (by decide +kernel)
theorem i_Sw_option_90 : mj_Snd zG ("StreamWatch", "option", c_Sw_option, 8) 90 (x_aload 0) 91 := mj_aload_n (j := 0) rfl (by decide +kernel)
theorem i_Sw_option_91 : mj_Snd zG ("StreamWatch", "option", c_Sw_option, 8) 91 (x_getf 10 7) 94 := mj_getf (T := T_Sw) rfl (by decide) u_Sw z1_219 (by decide +kernel)
theorem i_Sw_option_94 : mj_Snd zG ("StreamWatch", "option", c_Sw_option, 8) 94 (x_const 1) 95 := mj_const (n := 1) (by decide) (by decide +kernel)
theorem i_Sw_option_95 : mj_Snd zG ("StreamWatch", "option", c_Sw_option, 8) 95 (x_isub) 96 := mj_isub (by decide +kernel)
theorem d_Sw_option_96 : decode c_Sw_option 96 = .ok (.invokevirtual 159, 3) := by decide +kernel
theorem i_Sw_option_99 : mj_Snd zG ("StreamWatch", "option", c_Sw_option, 8) 99 (x_astore 7) 101 := mj_astore (by decide) (by decide +kernel)
theorem i_Sw_option_101 : mj_Snd zG ("StreamWatch", "option", c_Sw_option, 8) 101 (x_aload 7) 103 := mj_aload (by decide +kernel)
theorem d_Sw_option_103 : decode c_Sw_option 103 = .ok (.ifnonnull 13, 3) := by decide +kernel
theorem d_Sw_option_106 : decode c_Sw_option 106 = .ok (.new 143, 3) := by decide +kernel
theorem i_Sw_option_109 : mj_Snd zG ("StreamWatch", "option", c_Sw_option, 8) 109 (x_dup) 110 := mj_dup (by decide +kernel)
theorem d_Sw_option_110 : decode c_Sw_option 110 = .ok (.ldc 163, 2) := by decide +kernel
theorem d_Sw_option_112 : decode c_Sw_option 112 = .ok (.invokespecial 147, 3) := by decide +kernel
theorem d_Sw_option_115 : decode c_Sw_option 115 = .ok (.athrow, 1) := by decide +kernel
theorem i_Sw_option_116 : mj_Snd zG ("StreamWatch", "option", c_Sw_option, 8) 116 (x_aload 7) 118 := mj_aload (by decide +kernel)
theorem d_Sw_option_118 : decode c_Sw_option 118 = .ok (.invokevirtual 165, 3) := by decide +kernel
theorem i_Sw_option_121 : mj_Snd zG ("StreamWatch", "option", c_Sw_option, 8) 121 (x_const 3) 122 := mj_const (n := 3) (by decide) (by decide +kernel)
theorem d_Sw_option_122 : decode c_Sw_option 122 = .ok (.if_icmp .lt 13, 3) := by decide +kernel
theorem d_Sw_option_125 : decode c_Sw_option 125 = .ok (.new 143, 3) := by decide +kernel
theorem i_Sw_option_128 : mj_Snd zG ("StreamWatch", "option", c_Sw_option, 8) 128 (x_dup) 129 := mj_dup (by decide +kernel)
theorem d_Sw_option_129 : decode c_Sw_option 129 = .ok (.ldc 166, 2) := by decide +kernel
theorem d_Sw_option_131 : decode c_Sw_option 131 = .ok (.invokespecial 147, 3) := by decide +kernel
theorem d_Sw_option_134 : decode c_Sw_option 134 = .ok (.athrow, 1) := by decide +kernel
theorem i_Sw_option_135 : mj_Snd zG ("StreamWatch", "option", c_Sw_option, 8) 135 (x_aload 7) 137 := mj_aload (by decide +kernel)
theorem d_Sw_option_137 : decode c_Sw_option 137 = .ok (.new 168, 3) := by decide +kernel
theorem i_Sw_option_140 : mj_Snd zG ("StreamWatch", "option", c_Sw_option, 8) 140 (x_dup) 141 := mj_dup (by decide +kernel)
theorem i_Sw_option_141 : mj_Snd zG ("StreamWatch", "option", c_Sw_option, 8) 141 (x_iload 1) 142 := mj_iload_n (j := 1) rfl (by decide +kernel)
theorem i_Sw_option_142 : mj_Snd zG ("StreamWatch", "option", c_Sw_option, 8) 142 (x_lload 2) 143 := mj_lload_n (j := 2) rfl (by decide +kernel)
theorem i_Sw_option_143 : mj_Snd zG ("StreamWatch", "option", c_Sw_option, 8) 143 (x_iload 4) 145 := mj_iload (by decide +kernel)
theorem i_Sw_option_145 : mj_Snd zG ("StreamWatch", "option", c_Sw_option, 8) 145 (x_iload 5) 147 := mj_iload (by decide +kernel)
theorem i_Sw_option_147 : mj_Snd zG ("StreamWatch", "option", c_Sw_option, 8) 147 (x_iload 6) 149 := mj_iload (by decide +kernel)
theorem d_Sw_option_149 : decode c_Sw_option 149 = .ok (.invokespecial 170, 3) := by decide +kernel
theorem d_Sw_option_152 : decode c_Sw_option 152 = .ok (.invokevirtual 173, 3) := by decide +kernel
theorem i_Sw_option_155 : mj_Snd zG ("StreamWatch", "option", c_Sw_option, 8) 155 (x_aload 7) 157 := mj_aload (by decide +kernel)
theorem d_Sw_option_157 : decode c_Sw_option 157 = .ok (.invokevirtual 165, 3) := by decide +kernel
theorem d_Sw_option_160 : decode c_Sw_option 160 = .ok (.ireturn, 1) := by decide +kernel
theorem b_Sw_option_0 : mj_Ch zG ("StreamWatch", "option", c_Sw_option, 8) 0 [x_iload 1, x_const 1] 2 := ⟨_, i_Sw_option_0, _, i_Sw_option_1, rfl⟩
theorem b_Sw_option_5 : mj_Ch zG ("StreamWatch", "option", c_Sw_option, 8) 5 [x_iload 1, x_const 6] 8 := ⟨_, i_Sw_option_5, _, i_Sw_option_6, rfl⟩
theorem b_Sw_option_14 : mj_Ch zG ("StreamWatch", "option", c_Sw_option, 8) 14 [x_dup] 15 := ⟨_, i_Sw_option_14, rfl⟩
theorem b_Sw_option_21 : mj_Ch zG ("StreamWatch", "option", c_Sw_option, 8) 21 [x_iload 4] 23 := ⟨_, i_Sw_option_21, rfl⟩
theorem b_Sw_option_26 : mj_Ch zG ("StreamWatch", "option", c_Sw_option, 8) 26 [x_iload 4, x_const 7] 30 := ⟨_, i_Sw_option_26, _, i_Sw_option_28, rfl⟩
theorem b_Sw_option_36 : mj_Ch zG ("StreamWatch", "option", c_Sw_option, 8) 36 [x_dup] 37 := ⟨_, i_Sw_option_36, rfl⟩
theorem b_Sw_option_43 : mj_Ch zG ("StreamWatch", "option", c_Sw_option, 8) 43 [x_iload 5, x_const (-80)] 47 := ⟨_, i_Sw_option_43, _, i_Sw_option_45, rfl⟩
theorem b_Sw_option_50 : mj_Ch zG ("StreamWatch", "option", c_Sw_option, 8) 50 [x_iload 5, x_const 80] 54 := ⟨_, i_Sw_option_50, _, i_Sw_option_52, rfl⟩
theorem b_Sw_option_60 : mj_Ch zG ("StreamWatch", "option", c_Sw_option, 8) 60 [x_dup] 61 := ⟨_, i_Sw_option_60, rfl⟩
theorem b_Sw_option_67 : mj_Ch zG ("StreamWatch", "option", c_Sw_option, 8) 67 [x_iload 6] 69 := ⟨_, i_Sw_option_67, rfl⟩
theorem b_Sw_option_72 : mj_Ch zG ("StreamWatch", "option", c_Sw_option, 8) 72 [x_iload 6, x_const 80] 76 := ⟨_, i_Sw_option_72, _, i_Sw_option_74, rfl⟩
theorem b_Sw_option_82 : mj_Ch zG ("StreamWatch", "option", c_Sw_option, 8) 82 [x_dup] 83 := ⟨_, i_Sw_option_82, rfl⟩
theorem b_Sw_option_89 : mj_Ch zG ("StreamWatch", "option", c_Sw_option, 8) 89 [x_aload 0, x_aload 0, x_getf 10 7, x_const 1, x_isub] 96 := ⟨_, i_Sw_option_89, _, i_Sw_option_90, _, i_Sw_option_91, _, i_Sw_option_94, _, i_Sw_option_95, rfl⟩
theorem b_Sw_option_99 : mj_Ch zG ("StreamWatch", "option", c_Sw_option, 8) 99 [x_astore 7, x_aload 7] 103 := ⟨_, i_Sw_option_99, _, i_Sw_option_101, rfl⟩
theorem b_Sw_option_109 : mj_Ch zG ("StreamWatch", "option", c_Sw_option, 8) 109 [x_dup] 110 := ⟨_, i_Sw_option_109, rfl⟩
theorem b_Sw_option_116 : mj_Ch zG ("StreamWatch", "option", c_Sw_option, 8) 116 [x_aload 7] 118 := ⟨_, i_Sw_option_116, rfl⟩
theorem b_Sw_option_121 : mj_Ch zG ("StreamWatch", "option", c_Sw_option, 8) 121 [x_const 3] 122 := ⟨_, i_Sw_option_121, rfl⟩
theorem b_Sw_option_128 : mj_Ch zG ("StreamWatch", "option", c_Sw_option, 8) 128 [x_dup] 129 := ⟨_, i_Sw_option_128, rfl⟩
theorem b_Sw_option_135 : mj_Ch zG ("StreamWatch", "option", c_Sw_option, 8) 135 [x_aload 7] 137 := ⟨_, i_Sw_option_135, rfl⟩
theorem b_Sw_option_140 : mj_Ch zG ("StreamWatch", "option", c_Sw_option, 8) 140 [x_dup, x_iload 1, x_lload 2, x_iload 4, x_iload 5, x_iload 6] 149 := ⟨_, i_Sw_option_140, _, i_Sw_option_141, _, i_Sw_option_142, _, i_Sw_option_143, _, i_Sw_option_145, _, i_Sw_option_147, rfl⟩
theorem b_Sw_option_155 : mj_Ch zG ("StreamWatch", "option", c_Sw_option, 8) 155 [x_aload 7] 157 := ⟨_, i_Sw_option_155, rfl⟩
theorem i_Sw_flow_0 : mj_Snd zG ("StreamWatch", "flow", c_Sw_flow, 4) 0 (x_aload 0) 1 := mj_aload_n (j := 0) rfl (by decide +kernel)
theorem i_Sw_flow_1 : mj_Snd zG ("StreamWatch", "flow", c_Sw_flow, 4) 1 (x_getf 10 3) 4 := mj_getf (T := T_Sw) rfl (by decide) u_Sw z1_215 (by decide +kernel)
theorem i_Sw_flow_4 : mj_Snd zG ("StreamWatch", "flow", c_Sw_flow, 4) 4 (x_iload 1) 5 := mj_iload_n (j := 1) rfl (by decide +kernel)
theorem d_Sw_flow_5 : decode c_Sw_flow 5 = .ok (.invokevirtual 177, 3) := by decide +kernel
theorem i_Sw_flow_8 : mj_Snd zG ("StreamWatch", "flow", c_Sw_flow, 4) 8 (x_astore 3) 9 := mj_astore_n (j := 3) rfl (by decide) (by decide +kernel)
theorem i_Sw_flow_9 : mj_Snd zG ("StreamWatch", "flow", c_Sw_flow, 4) 9 (x_aload 3) 10 := mj_aload_n (j := 3) rfl (by decide +kernel)
theorem d_Sw_flow_10 : decode c_Sw_flow 10 = .ok (.ifnonnull 5, 3) := by decide +kernel
theorem i_Sw_flow_13 : mj_Snd zG ("StreamWatch", "flow", c_Sw_flow, 4) 13 (x_const (-1)) 14 := mj_const (n := (-1)) (by decide) (by decide +kernel)
theorem d_Sw_flow_14 : decode c_Sw_flow 14 = .ok (.ireturn, 1) := by decide +kernel
theorem i_Sw_flow_15 : mj_Snd zG ("StreamWatch", "flow", c_Sw_flow, 4) 15 (x_iload 2) 16 := mj_iload_n (j := 2) rfl (by decide +kernel)
theorem d_Sw_flow_16 : decode c_Sw_flow 16 = .ok (.tableswitch 65 0 4 #[36, 41, 46, 51, 56], 36) := by decide +kernel
theorem i_Sw_flow_52 : mj_Snd zG ("StreamWatch", "flow", c_Sw_flow, 4) 52 (x_aload 3) 53 := mj_aload_n (j := 3) rfl (by decide +kernel)
theorem i_Sw_flow_53 : mj_Snd zG ("StreamWatch", "flow", c_Sw_flow, 4) 53 (x_getf 1 0) 56 := mj_getf (T := T_Fl) rfl (by decide) u_Fl z1_128 (by decide +kernel)
theorem d_Sw_flow_56 : decode c_Sw_flow 56 = .ok (.ireturn, 1) := by decide +kernel
theorem i_Sw_flow_57 : mj_Snd zG ("StreamWatch", "flow", c_Sw_flow, 4) 57 (x_aload 3) 58 := mj_aload_n (j := 3) rfl (by decide +kernel)
theorem i_Sw_flow_58 : mj_Snd zG ("StreamWatch", "flow", c_Sw_flow, 4) 58 (x_getf 1 1) 61 := mj_getf (T := T_Fl) rfl (by decide) u_Fl z1_130 (by decide +kernel)
theorem d_Sw_flow_61 : decode c_Sw_flow 61 = .ok (.ireturn, 1) := by decide +kernel
theorem i_Sw_flow_62 : mj_Snd zG ("StreamWatch", "flow", c_Sw_flow, 4) 62 (x_aload 3) 63 := mj_aload_n (j := 3) rfl (by decide +kernel)
theorem i_Sw_flow_63 : mj_Snd zG ("StreamWatch", "flow", c_Sw_flow, 4) 63 (x_getf 1 2) 66 := mj_getf (T := T_Fl) rfl (by decide) u_Fl z1_132 (by decide +kernel)
theorem d_Sw_flow_66 : decode c_Sw_flow 66 = .ok (.ireturn, 1) := by decide +kernel
theorem i_Sw_flow_67 : mj_Snd zG ("StreamWatch", "flow", c_Sw_flow, 4) 67 (x_aload 3) 68 := mj_aload_n (j := 3) rfl (by decide +kernel)
theorem i_Sw_flow_68 : mj_Snd zG ("StreamWatch", "flow", c_Sw_flow, 4) 68 (x_getf 1 3) 71 := mj_getf (T := T_Fl) rfl (by decide) u_Fl z1_134 (by decide +kernel)
theorem d_Sw_flow_71 : decode c_Sw_flow 71 = .ok (.ireturn, 1) := by decide +kernel
theorem i_Sw_flow_72 : mj_Snd zG ("StreamWatch", "flow", c_Sw_flow, 4) 72 (x_aload 0) 73 := mj_aload_n (j := 0) rfl (by decide +kernel)
theorem i_Sw_flow_73 : mj_Snd zG ("StreamWatch", "flow", c_Sw_flow, 4) 73 (x_getf 10 3) 76 := mj_getf (T := T_Sw) rfl (by decide) u_Sw z1_215 (by decide +kernel)
theorem i_Sw_flow_76 : mj_Snd zG ("StreamWatch", "flow", c_Sw_flow, 4) 76 (x_aload 3) 77 := mj_aload_n (j := 3) rfl (by decide +kernel)
theorem d_Sw_flow_77 : decode c_Sw_flow 77 = .ok (.invokevirtual 192, 3) := by decide +kernel
theorem d_Sw_flow_80 : decode c_Sw_flow 80 = .ok (.ireturn, 1) := by decide +kernel
theorem i_Sw_flow_81 : mj_Snd zG ("StreamWatch", "flow", c_Sw_flow, 4) 81 (x_const (-1)) 82 := mj_const (n := (-1)) (by decide) (by decide +kernel)
theorem d_Sw_flow_82 : decode c_Sw_flow 82 = .ok (.ireturn, 1) := by decide +kernel
theorem b_Sw_flow_0 : mj_Ch zG ("StreamWatch", "flow", c_Sw_flow, 4) 0 [x_aload 0, x_getf 10 3, x_iload 1] 5 := ⟨_, i_Sw_flow_0, _, i_Sw_flow_1, _, i_Sw_flow_4, rfl⟩
theorem b_Sw_flow_8 : mj_Ch zG ("StreamWatch", "flow", c_Sw_flow, 4) 8 [x_astore 3, x_aload 3] 10 := ⟨_, i_Sw_flow_8, _, i_Sw_flow_9, rfl⟩
theorem b_Sw_flow_13 : mj_Ch zG ("StreamWatch", "flow", c_Sw_flow, 4) 13 [x_const (-1)] 14 := ⟨_, i_Sw_flow_13, rfl⟩
theorem b_Sw_flow_15 : mj_Ch zG ("StreamWatch", "flow", c_Sw_flow, 4) 15 [x_iload 2] 16 := ⟨_, i_Sw_flow_15, rfl⟩
theorem b_Sw_flow_52 : mj_Ch zG ("StreamWatch", "flow", c_Sw_flow, 4) 52 [x_aload 3, x_getf 1 0] 56 := ⟨_, i_Sw_flow_52, _, i_Sw_flow_53, rfl⟩
theorem b_Sw_flow_57 : mj_Ch zG ("StreamWatch", "flow", c_Sw_flow, 4) 57 [x_aload 3, x_getf 1 1] 61 := ⟨_, i_Sw_flow_57, _, i_Sw_flow_58, rfl⟩
theorem b_Sw_flow_62 : mj_Ch zG ("StreamWatch", "flow", c_Sw_flow, 4) 62 [x_aload 3, x_getf 1 2] 66 := ⟨_, i_Sw_flow_62, _, i_Sw_flow_63, rfl⟩
theorem b_Sw_flow_67 : mj_Ch zG ("StreamWatch", "flow", c_Sw_flow, 4) 67 [x_aload 3, x_getf 1 3] 71 := ⟨_, i_Sw_flow_67, _, i_Sw_flow_68, rfl⟩
theorem b_Sw_flow_72 : mj_Ch zG ("StreamWatch", "flow", c_Sw_flow, 4) 72 [x_aload 0, x_getf 10 3, x_aload 3] 77 := ⟨_, i_Sw_flow_72, _, i_Sw_flow_73, _, i_Sw_flow_76, rfl⟩
theorem b_Sw_flow_81 : mj_Ch zG ("StreamWatch", "flow", c_Sw_flow, 4) 81 [x_const (-1)] 82 := ⟨_, i_Sw_flow_81, rfl⟩
theorem i_Sw_stream_0 : mj_Snd zG ("StreamWatch", "stream", c_Sw_stream, 5) 0 (x_aload 0) 1 := mj_aload_n (j := 0) rfl (by decide +kernel)
theorem i_Sw_stream_1 : mj_Snd zG ("StreamWatch", "stream", c_Sw_stream, 5) 1 (x_iload 1) 2 := mj_iload_n (j := 1) rfl (by decide +kernel)
theorem i_Sw_stream_2 : mj_Snd zG ("StreamWatch", "stream", c_Sw_stream, 5) 2 (x_iload 2) 3 := mj_iload_n (j := 2) rfl (by decide +kernel)
theorem d_Sw_stream_3 : decode c_Sw_stream 3 = .ok (.invokevirtual 196, 3) := by decide +kernel
theorem i_Sw_stream_6 : mj_Snd zG ("StreamWatch", "stream", c_Sw_stream, 5) 6 (x_astore 4) 8 := mj_astore (by decide) (by decide +kernel)
theorem i_Sw_stream_8 : mj_Snd zG ("StreamWatch", "stream", c_Sw_stream, 5) 8 (x_aload 4) 10 := mj_aload (by decide +kernel)
theorem d_Sw_stream_10 : decode c_Sw_stream 10 = .ok (.ifnonnull 5, 3) := by decide +kernel
theorem i_Sw_stream_13 : mj_Snd zG ("StreamWatch", "stream", c_Sw_stream, 5) 13 (x_const (-1)) 14 := mj_const (n := (-1)) (by decide) (by decide +kernel)
theorem d_Sw_stream_14 : decode c_Sw_stream 14 = .ok (.ireturn, 1) := by decide +kernel
theorem i_Sw_stream_15 : mj_Snd zG ("StreamWatch", "stream", c_Sw_stream, 5) 15 (x_iload 3) 16 := mj_iload_n (j := 3) rfl (by decide +kernel)
theorem d_Sw_stream_16 : decode c_Sw_stream 16 = .ok (.tableswitch 64 0 3 #[32, 38, 44, 50], 32) := by decide +kernel
theorem i_Sw_stream_48 : mj_Snd zG ("StreamWatch", "stream", c_Sw_stream, 5) 48 (x_aload 4) 50 := mj_aload (by decide +kernel)
theorem d_Sw_stream_50 : decode c_Sw_stream 50 = .ok (.invokevirtual 200, 3) := by decide +kernel
theorem d_Sw_stream_53 : decode c_Sw_stream 53 = .ok (.ireturn, 1) := by decide +kernel
theorem i_Sw_stream_54 : mj_Snd zG ("StreamWatch", "stream", c_Sw_stream, 5) 54 (x_aload 4) 56 := mj_aload (by decide +kernel)
theorem d_Sw_stream_56 : decode c_Sw_stream 56 = .ok (.invokevirtual 203, 3) := by decide +kernel
theorem d_Sw_stream_59 : decode c_Sw_stream 59 = .ok (.ireturn, 1) := by decide +kernel
theorem i_Sw_stream_60 : mj_Snd zG ("StreamWatch", "stream", c_Sw_stream, 5) 60 (x_aload 4) 62 := mj_aload (by decide +kernel)
theorem d_Sw_stream_62 : decode c_Sw_stream 62 = .ok (.invokevirtual 206, 3) := by decide +kernel
theorem d_Sw_stream_65 : decode c_Sw_stream 65 = .ok (.ireturn, 1) := by decide +kernel
theorem i_Sw_stream_66 : mj_Snd zG ("StreamWatch", "stream", c_Sw_stream, 5) 66 (x_aload 4) 68 := mj_aload (by decide +kernel)
theorem d_Sw_stream_68 : decode c_Sw_stream 68 = .ok (.invokevirtual 209, 3) := by decide +kernel
theorem d_Sw_stream_71 : decode c_Sw_stream 71 = .ok (.ifCond .eq 7, 3) := by decide +kernel
theorem i_Sw_stream_74 : mj_Snd zG ("StreamWatch", "stream", c_Sw_stream, 5) 74 (x_const 1) 75 := mj_const (n := 1) (by decide) (by decide +kernel)
theorem i_Sw_stream_75 : mj_Snd zG ("StreamWatch", "stream", c_Sw_stream, 5) 75 (x_skip) 79 := mj_goto (off := 4) (by decide) (by decide +kernel)
theorem i_Sw_stream_78 : mj_Snd zG ("StreamWatch", "stream", c_Sw_stream, 5) 78 (x_const 0) 79 := mj_const (n := 0) (by decide) (by decide +kernel)
theorem d_Sw_stream_79 : decode c_Sw_stream 79 = .ok (.ireturn, 1) := by decide +kernel
theorem i_Sw_stream_80 : mj_Snd zG ("StreamWatch", "stream", c_Sw_stream, 5) 80 (x_const (-1)) 81 := mj_const (n := (-1)) (by decide) (by decide +kernel)
theorem d_Sw_stream_81 : decode c_Sw_stream 81 = .ok (.ireturn, 1) := by decide +kernel
theorem b_Sw_stream_0 : mj_Ch zG ("StreamWatch", "stream", c_Sw_stream, 5) 0 [x_aload 0, x_iload 1, x_iload 2] 3 := ⟨_, i_Sw_stream_0, _, i_Sw_stream_1, _, i_Sw_stream_2, rfl⟩
theorem b_Sw_stream_6 : mj_Ch zG ("StreamWatch", "stream", c_Sw_stream, 5) 6 [x_astore 4, x_aload 4] 10 := ⟨_, i_Sw_stream_6, _, i_Sw_stream_8, rfl⟩
theorem b_Sw_stream_13 : mj_Ch zG ("StreamWatch", "stream", c_Sw_stream, 5) 13 [x_const (-1)] 14 := ⟨_, i_Sw_stream_13, rfl⟩
theorem b_Sw_stream_15 : mj_Ch zG ("StreamWatch", "stream", c_Sw_stream, 5) 15 [x_iload 3] 16 := ⟨_, i_Sw_stream_15, rfl⟩
theorem b_Sw_stream_48 : mj_Ch zG ("StreamWatch", "stream", c_Sw_stream, 5) 48 [x_aload 4] 50 := ⟨_, i_Sw_stream_48, rfl⟩
theorem b_Sw_stream_54 : mj_Ch zG ("StreamWatch", "stream", c_Sw_stream, 5) 54 [x_aload 4] 56 := ⟨_, i_Sw_stream_54, rfl⟩
theorem b_Sw_stream_60 : mj_Ch zG ("StreamWatch", "stream", c_Sw_stream, 5) 60 [x_aload 4] 62 := ⟨_, i_Sw_stream_60, rfl⟩
theorem b_Sw_stream_66 : mj_Ch zG ("StreamWatch", "stream", c_Sw_stream, 5) 66 [x_aload 4] 68 := ⟨_, i_Sw_stream_66, rfl⟩
theorem b_Sw_stream_74 : mj_Ch zG ("StreamWatch", "stream", c_Sw_stream, 5) 74 [x_const 1, x_skip] 79 := ⟨_, i_Sw_stream_74, _, i_Sw_stream_75, rfl⟩
theorem b_Sw_stream_78 : mj_Ch zG ("StreamWatch", "stream", c_Sw_stream, 5) 78 [x_const 0] 79 := ⟨_, i_Sw_stream_78, rfl⟩
theorem b_Sw_stream_80 : mj_Ch zG ("StreamWatch", "stream", c_Sw_stream, 5) 80 [x_const (-1)] 81 := ⟨_, i_Sw_stream_80, rfl⟩
theorem i_Sw_text_0 : mj_Snd zG ("StreamWatch", "text", c_Sw_text, 5) 0 (x_aload 0) 1 := mj_aload_n (j := 0) rfl (by decide +kernel)
theorem i_Sw_text_1 : mj_Snd zG ("StreamWatch", "text", c_Sw_text, 5) 1 (x_iload 1) 2 := mj_iload_n (j := 1) rfl (by decide +kernel)
theorem i_Sw_text_2 : mj_Snd zG ("StreamWatch", "text", c_Sw_text, 5) 2 (x_iload 2) 3 := mj_iload_n (j := 2) rfl (by decide +kernel)
theorem d_Sw_text_3 : decode c_Sw_text 3 = .ok (.invokevirtual 196, 3) := by decide +kernel
theorem i_Sw_text_6 : mj_Snd zG ("StreamWatch", "text", c_Sw_text, 5) 6 (x_astore 4) 8 := mj_astore (by decide) (by decide +kernel)
theorem i_Sw_text_8 : mj_Snd zG ("StreamWatch", "text", c_Sw_text, 5) 8 (x_aload 4) 10 := mj_aload (by decide +kernel)
theorem d_Sw_text_10 : decode c_Sw_text 10 = .ok (.ifnonnull 7, 3) := by decide +kernel
theorem i_Sw_text_13 : mj_Snd zG ("StreamWatch", "text", c_Sw_text, 5) 13 (x_const (-1)) 14 := mj_const (n := (-1)) (by decide) (by decide +kernel)
theorem i_Sw_text_14 : mj_Snd zG ("StreamWatch", "text", c_Sw_text, 5) 14 (x_skip) 23 := mj_goto (off := 9) (by decide) (by decide +kernel)
theorem i_Sw_text_17 : mj_Snd zG ("StreamWatch", "text", c_Sw_text, 5) 17 (x_aload 4) 19 := mj_aload (by decide +kernel)
theorem i_Sw_text_19 : mj_Snd zG ("StreamWatch", "text", c_Sw_text, 5) 19 (x_iload 3) 20 := mj_iload_n (j := 3) rfl (by decide +kernel)
theorem d_Sw_text_20 : decode c_Sw_text 20 = .ok (.invokevirtual 213, 3) := by decide +kernel
theorem d_Sw_text_23 : decode c_Sw_text 23 = .ok (.ireturn, 1) := by decide +kernel
theorem b_Sw_text_0 : mj_Ch zG ("StreamWatch", "text", c_Sw_text, 5) 0 [x_aload 0, x_iload 1, x_iload 2] 3 := ⟨_, i_Sw_text_0, _, i_Sw_text_1, _, i_Sw_text_2, rfl⟩
theorem b_Sw_text_6 : mj_Ch zG ("StreamWatch", "text", c_Sw_text, 5) 6 [x_astore 4, x_aload 4] 10 := ⟨_, i_Sw_text_6, _, i_Sw_text_8, rfl⟩
theorem b_Sw_text_13 : mj_Ch zG ("StreamWatch", "text", c_Sw_text, 5) 13 [x_const (-1), x_skip] 23 := ⟨_, i_Sw_text_13, _, i_Sw_text_14, rfl⟩
theorem b_Sw_text_17 : mj_Ch zG ("StreamWatch", "text", c_Sw_text, 5) 17 [x_aload 4, x_iload 3] 20 := ⟨_, i_Sw_text_17, _, i_Sw_text_19, rfl⟩
theorem i_Sw_alerts_0 : mj_Snd zG ("StreamWatch", "alerts", c_Sw_alerts, 1) 0 (x_aload 0) 1 := mj_aload_n (j := 0) rfl (by decide +kernel)
theorem i_Sw_alerts_1 : mj_Snd zG ("StreamWatch", "alerts", c_Sw_alerts, 1) 1 (x_getf 10 6) 4 := mj_getf (T := T_Sw) rfl (by decide) u_Sw z1_218 (by decide +kernel)
theorem d_Sw_alerts_4 : decode c_Sw_alerts 4 = .ok (.invokevirtual 119, 3) := by decide +kernel
theorem d_Sw_alerts_7 : decode c_Sw_alerts 7 = .ok (.ireturn, 1) := by decide +kernel
theorem b_Sw_alerts_0 : mj_Ch zG ("StreamWatch", "alerts", c_Sw_alerts, 1) 0 [x_aload 0, x_getf 10 6] 4 := ⟨_, i_Sw_alerts_0, _, i_Sw_alerts_1, rfl⟩
theorem i_Sw_alert_0 : mj_Snd zG ("StreamWatch", "alert", c_Sw_alert, 3) 0 (x_aload 0) 1 := mj_aload_n (j := 0) rfl (by decide +kernel)
theorem i_Sw_alert_1 : mj_Snd zG ("StreamWatch", "alert", c_Sw_alert, 3) 1 (x_getf 10 6) 4 := mj_getf (T := T_Sw) rfl (by decide) u_Sw z1_218 (by decide +kernel)
theorem i_Sw_alert_4 : mj_Snd zG ("StreamWatch", "alert", c_Sw_alert, 3) 4 (x_iload 1) 5 := mj_iload_n (j := 1) rfl (by decide +kernel)
theorem i_Sw_alert_5 : mj_Snd zG ("StreamWatch", "alert", c_Sw_alert, 3) 5 (x_iload 2) 6 := mj_iload_n (j := 2) rfl (by decide +kernel)
theorem d_Sw_alert_6 : decode c_Sw_alert 6 = .ok (.invokevirtual 216, 3) := by decide +kernel
theorem d_Sw_alert_9 : decode c_Sw_alert 9 = .ok (.ireturn, 1) := by decide +kernel
theorem b_Sw_alert_0 : mj_Ch zG ("StreamWatch", "alert", c_Sw_alert, 3) 0 [x_aload 0, x_getf 10 6, x_iload 1, x_iload 2] 6 := ⟨_, i_Sw_alert_0, _, i_Sw_alert_1, _, i_Sw_alert_4, _, i_Sw_alert_5, rfl⟩
theorem i_Sw_writeIpHeader_0 : mj_Snd zG ("StreamWatch", "writeIpHeader", c_Sw_writeIpHeader, 5) 0 (x_const 167772161) 2 := mj_ldc z3_193 (by decide +kernel)
theorem i_Sw_writeIpHeader_2 : mj_Snd zG ("StreamWatch", "writeIpHeader", c_Sw_writeIpHeader, 5) 2 (x_iload 1) 3 := mj_iload_n (j := 1) rfl (by decide +kernel)
theorem i_Sw_writeIpHeader_3 : mj_Snd zG ("StreamWatch", "writeIpHeader", c_Sw_writeIpHeader, 5) 3 (x_iadd) 4 := mj_iadd (by decide +kernel)
theorem i_Sw_writeIpHeader_4 : mj_Snd zG ("StreamWatch", "writeIpHeader", c_Sw_writeIpHeader, 5) 4 (x_istore 4) 6 := mj_istore (by decide) (by decide +kernel)
theorem i_Sw_writeIpHeader_6 : mj_Snd zG ("StreamWatch", "writeIpHeader", c_Sw_writeIpHeader, 5) 6 (x_aload 0) 7 := mj_aload_n (j := 0) rfl (by decide +kernel)
theorem i_Sw_writeIpHeader_7 : mj_Snd zG ("StreamWatch", "writeIpHeader", c_Sw_writeIpHeader, 5) 7 (x_getf 10 1) 10 := mj_getf (T := T_Sw) rfl (by decide) u_Sw z1_213 (by decide +kernel)
theorem i_Sw_writeIpHeader_10 : mj_Snd zG ("StreamWatch", "writeIpHeader", c_Sw_writeIpHeader, 5) 10 (x_const 2) 11 := mj_const (n := 2) (by decide) (by decide +kernel)
theorem i_Sw_writeIpHeader_11 : mj_Snd zG ("StreamWatch", "writeIpHeader", c_Sw_writeIpHeader, 5) 11 (x_lconst 17664) 14 := mj_ldc2 z3_194 (by decide +kernel)
theorem d_Sw_writeIpHeader_14 : decode c_Sw_writeIpHeader 14 = .ok (.invokevirtual 80, 3) := by decide +kernel
theorem i_Sw_writeIpHeader_17 : mj_Snd zG ("StreamWatch", "writeIpHeader", c_Sw_writeIpHeader, 5) 17 (x_pop) 18 := mj_pop (by decide +kernel)
theorem i_Sw_writeIpHeader_18 : mj_Snd zG ("StreamWatch", "writeIpHeader", c_Sw_writeIpHeader, 5) 18 (x_aload 0) 19 := mj_aload_n (j := 0) rfl (by decide +kernel)
theorem i_Sw_writeIpHeader_19 : mj_Snd zG ("StreamWatch", "writeIpHeader", c_Sw_writeIpHeader, 5) 19 (x_getf 10 1) 22 := mj_getf (T := T_Sw) rfl (by decide) u_Sw z1_213 (by decide +kernel)
theorem i_Sw_writeIpHeader_22 : mj_Snd zG ("StreamWatch", "writeIpHeader", c_Sw_writeIpHeader, 5) 22 (x_const 2) 23 := mj_const (n := 2) (by decide) (by decide +kernel)
theorem i_Sw_writeIpHeader_23 : mj_Snd zG ("StreamWatch", "writeIpHeader", c_Sw_writeIpHeader, 5) 23 (x_const 40) 25 := mj_bipush (n := 40) (by decide) (by decide +kernel)
theorem i_Sw_writeIpHeader_25 : mj_Snd zG ("StreamWatch", "writeIpHeader", c_Sw_writeIpHeader, 5) 25 (x_iload 3) 26 := mj_iload_n (j := 3) rfl (by decide +kernel)
theorem i_Sw_writeIpHeader_26 : mj_Snd zG ("StreamWatch", "writeIpHeader", c_Sw_writeIpHeader, 5) 26 (x_iadd) 27 := mj_iadd (by decide +kernel)
theorem i_Sw_writeIpHeader_27 : mj_Snd zG ("StreamWatch", "writeIpHeader", c_Sw_writeIpHeader, 5) 27 (x_i2l) 28 := mj_i2l (by decide +kernel)
theorem d_Sw_writeIpHeader_28 : decode c_Sw_writeIpHeader 28 = .ok (.invokevirtual 80, 3) := by decide +kernel
theorem i_Sw_writeIpHeader_31 : mj_Snd zG ("StreamWatch", "writeIpHeader", c_Sw_writeIpHeader, 5) 31 (x_pop) 32 := mj_pop (by decide +kernel)
theorem i_Sw_writeIpHeader_32 : mj_Snd zG ("StreamWatch", "writeIpHeader", c_Sw_writeIpHeader, 5) 32 (x_aload 0) 33 := mj_aload_n (j := 0) rfl (by decide +kernel)
theorem i_Sw_writeIpHeader_33 : mj_Snd zG ("StreamWatch", "writeIpHeader", c_Sw_writeIpHeader, 5) 33 (x_getf 10 1) 36 := mj_getf (T := T_Sw) rfl (by decide) u_Sw z1_213 (by decide +kernel)
theorem i_Sw_writeIpHeader_36 : mj_Snd zG ("StreamWatch", "writeIpHeader", c_Sw_writeIpHeader, 5) 36 (x_const 4) 37 := mj_const (n := 4) (by decide) (by decide +kernel)
theorem i_Sw_writeIpHeader_37 : mj_Snd zG ("StreamWatch", "writeIpHeader", c_Sw_writeIpHeader, 5) 37 (x_lconst 0) 38 := mj_lconst (n := 0) (by decide) (by decide +kernel)
theorem d_Sw_writeIpHeader_38 : decode c_Sw_writeIpHeader 38 = .ok (.invokevirtual 80, 3) := by decide +kernel
theorem i_Sw_writeIpHeader_41 : mj_Snd zG ("StreamWatch", "writeIpHeader", c_Sw_writeIpHeader, 5) 41 (x_pop) 42 := mj_pop (by decide +kernel)
theorem i_Sw_writeIpHeader_42 : mj_Snd zG ("StreamWatch", "writeIpHeader", c_Sw_writeIpHeader, 5) 42 (x_aload 0) 43 := mj_aload_n (j := 0) rfl (by decide +kernel)
theorem i_Sw_writeIpHeader_43 : mj_Snd zG ("StreamWatch", "writeIpHeader", c_Sw_writeIpHeader, 5) 43 (x_getf 10 1) 46 := mj_getf (T := T_Sw) rfl (by decide) u_Sw z1_213 (by decide +kernel)
theorem i_Sw_writeIpHeader_46 : mj_Snd zG ("StreamWatch", "writeIpHeader", c_Sw_writeIpHeader, 5) 46 (x_const 4) 47 := mj_const (n := 4) (by decide) (by decide +kernel)
theorem i_Sw_writeIpHeader_47 : mj_Snd zG ("StreamWatch", "writeIpHeader", c_Sw_writeIpHeader, 5) 47 (x_lconst 393216) 50 := mj_ldc2 z3_195 (by decide +kernel)
theorem d_Sw_writeIpHeader_50 : decode c_Sw_writeIpHeader 50 = .ok (.invokevirtual 80, 3) := by decide +kernel
theorem i_Sw_writeIpHeader_53 : mj_Snd zG ("StreamWatch", "writeIpHeader", c_Sw_writeIpHeader, 5) 53 (x_pop) 54 := mj_pop (by decide +kernel)
theorem i_Sw_writeIpHeader_54 : mj_Snd zG ("StreamWatch", "writeIpHeader", c_Sw_writeIpHeader, 5) 54 (x_aload 0) 55 := mj_aload_n (j := 0) rfl (by decide +kernel)
theorem i_Sw_writeIpHeader_55 : mj_Snd zG ("StreamWatch", "writeIpHeader", c_Sw_writeIpHeader, 5) 55 (x_getf 10 1) 58 := mj_getf (T := T_Sw) rfl (by decide) u_Sw z1_213 (by decide +kernel)
theorem i_Sw_writeIpHeader_58 : mj_Snd zG ("StreamWatch", "writeIpHeader", c_Sw_writeIpHeader, 5) 58 (x_const 4) 59 := mj_const (n := 4) (by decide) (by decide +kernel)
theorem i_Sw_writeIpHeader_59 : mj_Snd zG ("StreamWatch", "writeIpHeader", c_Sw_writeIpHeader, 5) 59 (x_iload 2) 60 := mj_iload_n (j := 2) rfl (by decide +kernel)
theorem d_Sw_writeIpHeader_60 : decode c_Sw_writeIpHeader 60 = .ok (.ifCond .ne 9, 3) := by decide +kernel
theorem i_Sw_writeIpHeader_63 : mj_Snd zG ("StreamWatch", "writeIpHeader", c_Sw_writeIpHeader, 5) 63 (x_iload 4) 65 := mj_iload (by decide +kernel)
theorem i_Sw_writeIpHeader_65 : mj_Snd zG ("StreamWatch", "writeIpHeader", c_Sw_writeIpHeader, 5) 65 (x_i2l) 66 := mj_i2l (by decide +kernel)
theorem i_Sw_writeIpHeader_66 : mj_Snd zG ("StreamWatch", "writeIpHeader", c_Sw_writeIpHeader, 5) 66 (x_skip) 72 := mj_goto (off := 6) (by decide) (by decide +kernel)
theorem i_Sw_writeIpHeader_69 : mj_Snd zG ("StreamWatch", "writeIpHeader", c_Sw_writeIpHeader, 5) 69 (x_lconst 167772417) 72 := mj_ldc2 z3_196 (by decide +kernel)
theorem d_Sw_writeIpHeader_72 : decode c_Sw_writeIpHeader 72 = .ok (.invokevirtual 80, 3) := by decide +kernel
theorem i_Sw_writeIpHeader_75 : mj_Snd zG ("StreamWatch", "writeIpHeader", c_Sw_writeIpHeader, 5) 75 (x_pop) 76 := mj_pop (by decide +kernel)
theorem i_Sw_writeIpHeader_76 : mj_Snd zG ("StreamWatch", "writeIpHeader", c_Sw_writeIpHeader, 5) 76 (x_aload 0) 77 := mj_aload_n (j := 0) rfl (by decide +kernel)
theorem i_Sw_writeIpHeader_77 : mj_Snd zG ("StreamWatch", "writeIpHeader", c_Sw_writeIpHeader, 5) 77 (x_getf 10 1) 80 := mj_getf (T := T_Sw) rfl (by decide) u_Sw z1_213 (by decide +kernel)
theorem i_Sw_writeIpHeader_80 : mj_Snd zG ("StreamWatch", "writeIpHeader", c_Sw_writeIpHeader, 5) 80 (x_const 4) 81 := mj_const (n := 4) (by decide) (by decide +kernel)
theorem i_Sw_writeIpHeader_81 : mj_Snd zG ("StreamWatch", "writeIpHeader", c_Sw_writeIpHeader, 5) 81 (x_iload 2) 82 := mj_iload_n (j := 2) rfl (by decide +kernel)
theorem d_Sw_writeIpHeader_82 : decode c_Sw_writeIpHeader 82 = .ok (.ifCond .ne 9, 3) := by decide +kernel
theorem i_Sw_writeIpHeader_85 : mj_Snd zG ("StreamWatch", "writeIpHeader", c_Sw_writeIpHeader, 5) 85 (x_lconst 167772417) 88 := mj_ldc2 z3_196 (by decide +kernel)
theorem i_Sw_writeIpHeader_88 : mj_Snd zG ("StreamWatch", "writeIpHeader", c_Sw_writeIpHeader, 5) 88 (x_skip) 94 := mj_goto (off := 6) (by decide) (by decide +kernel)
theorem i_Sw_writeIpHeader_91 : mj_Snd zG ("StreamWatch", "writeIpHeader", c_Sw_writeIpHeader, 5) 91 (x_iload 4) 93 := mj_iload (by decide +kernel)
theorem i_Sw_writeIpHeader_93 : mj_Snd zG ("StreamWatch", "writeIpHeader", c_Sw_writeIpHeader, 5) 93 (x_i2l) 94 := mj_i2l (by decide +kernel)
theorem d_Sw_writeIpHeader_94 : decode c_Sw_writeIpHeader 94 = .ok (.invokevirtual 80, 3) := by decide +kernel
theorem i_Sw_writeIpHeader_97 : mj_Snd zG ("StreamWatch", "writeIpHeader", c_Sw_writeIpHeader, 5) 97 (x_pop) 98 := mj_pop (by decide +kernel)
theorem d_Sw_writeIpHeader_98 : decode c_Sw_writeIpHeader 98 = .ok (.return_, 1) := by decide +kernel
theorem b_Sw_writeIpHeader_0 : mj_Ch zG ("StreamWatch", "writeIpHeader", c_Sw_writeIpHeader, 5) 0 [x_const 167772161, x_iload 1, x_iadd, x_istore 4, x_aload 0, x_getf 10 1, x_const 2, x_lconst 17664] 14 := ⟨_, i_Sw_writeIpHeader_0, _, i_Sw_writeIpHeader_2, _, i_Sw_writeIpHeader_3, _, i_Sw_writeIpHeader_4, _, i_Sw_writeIpHeader_6, _, i_Sw_writeIpHeader_7, _, i_Sw_writeIpHeader_10, _, i_Sw_writeIpHeader_11, rfl⟩
theorem b_Sw_writeIpHeader_17 : mj_Ch zG ("StreamWatch", "writeIpHeader", c_Sw_writeIpHeader, 5) 17 [x_pop, x_aload 0, x_getf 10 1, x_const 2, x_const 40, x_iload 3, x_iadd, x_i2l] 28 := ⟨_, i_Sw_writeIpHeader_17, _, i_Sw_writeIpHeader_18, _, i_Sw_writeIpHeader_19, _, i_Sw_writeIpHeader_22, _, i_Sw_writeIpHeader_23, _, i_Sw_writeIpHeader_25, _, i_Sw_writeIpHeader_26, _, i_Sw_writeIpHeader_27, rfl⟩
theorem b_Sw_writeIpHeader_31 : mj_Ch zG ("StreamWatch", "writeIpHeader", c_Sw_writeIpHeader, 5) 31 [x_pop, x_aload 0, x_getf 10 1, x_const 4, x_lconst 0] 38 := ⟨_, i_Sw_writeIpHeader_31, _, i_Sw_writeIpHeader_32, _, i_Sw_writeIpHeader_33, _, i_Sw_writeIpHeader_36, _, i_Sw_writeIpHeader_37, rfl⟩
theorem b_Sw_writeIpHeader_41 : mj_Ch zG ("StreamWatch", "writeIpHeader", c_Sw_writeIpHeader, 5) 41 [x_pop, x_aload 0, x_getf 10 1, x_const 4, x_lconst 393216] 50 := ⟨_, i_Sw_writeIpHeader_41, _, i_Sw_writeIpHeader_42, _, i_Sw_writeIpHeader_43, _, i_Sw_writeIpHeader_46, _, i_Sw_writeIpHeader_47, rfl⟩
theorem b_Sw_writeIpHeader_53 : mj_Ch zG ("StreamWatch", "writeIpHeader", c_Sw_writeIpHeader, 5) 53 [x_pop, x_aload 0, x_getf 10 1, x_const 4, x_iload 2] 60 := ⟨_, i_Sw_writeIpHeader_53, _, i_Sw_writeIpHeader_54, _, i_Sw_writeIpHeader_55, _, i_Sw_writeIpHeader_58, _, i_Sw_writeIpHeader_59, rfl⟩
theorem b_Sw_writeIpHeader_63 : mj_Ch zG ("StreamWatch", "writeIpHeader", c_Sw_writeIpHeader, 5) 63 [x_iload 4, x_i2l, x_skip] 72 := ⟨_, i_Sw_writeIpHeader_63, _, i_Sw_writeIpHeader_65, _, i_Sw_writeIpHeader_66, rfl⟩
theorem b_Sw_writeIpHeader_69 : mj_Ch zG ("StreamWatch", "writeIpHeader", c_Sw_writeIpHeader, 5) 69 [x_lconst 167772417] 72 := ⟨_, i_Sw_writeIpHeader_69, rfl⟩
theorem b_Sw_writeIpHeader_75 : mj_Ch zG ("StreamWatch", "writeIpHeader", c_Sw_writeIpHeader, 5) 75 [x_pop, x_aload 0, x_getf 10 1, x_const 4, x_iload 2] 82 := ⟨_, i_Sw_writeIpHeader_75, _, i_Sw_writeIpHeader_76, _, i_Sw_writeIpHeader_77, _, i_Sw_writeIpHeader_80, _, i_Sw_writeIpHeader_81, rfl⟩
theorem b_Sw_writeIpHeader_85 : mj_Ch zG ("StreamWatch", "writeIpHeader", c_Sw_writeIpHeader, 5) 85 [x_lconst 167772417, x_skip] 94 := ⟨_, i_Sw_writeIpHeader_85, _, i_Sw_writeIpHeader_88, rfl⟩
theorem b_Sw_writeIpHeader_91 : mj_Ch zG ("StreamWatch", "writeIpHeader", c_Sw_writeIpHeader, 5) 91 [x_iload 4, x_i2l] 94 := ⟨_, i_Sw_writeIpHeader_91, _, i_Sw_writeIpHeader_93, rfl⟩
theorem b_Sw_writeIpHeader_97 : mj_Ch zG ("StreamWatch", "writeIpHeader", c_Sw_writeIpHeader, 5) 97 [x_pop] 98 := ⟨_, i_Sw_writeIpHeader_97, rfl⟩
theorem i_Sw_writeTcpHeader_0 : mj_Snd zG ("StreamWatch", "writeTcpHeader", c_Sw_writeTcpHeader, 6) 0 (x_const 1000) 3 := mj_sipush (n := 1000) (by decide) (by decide +kernel)
theorem i_Sw_writeTcpHeader_3 : mj_Snd zG ("StreamWatch", "writeTcpHeader", c_Sw_writeTcpHeader, 6) 3 (x_iload 1) 4 := mj_iload_n (j := 1) rfl (by decide +kernel)
theorem i_Sw_writeTcpHeader_4 : mj_Snd zG ("StreamWatch", "writeTcpHeader", c_Sw_writeTcpHeader, 6) 4 (x_iadd) 5 := mj_iadd (by decide +kernel)
theorem i_Sw_writeTcpHeader_5 : mj_Snd zG ("StreamWatch", "writeTcpHeader", c_Sw_writeTcpHeader, 6) 5 (x_istore 5) 7 := mj_istore (by decide) (by decide +kernel)
theorem i_Sw_writeTcpHeader_7 : mj_Snd zG ("StreamWatch", "writeTcpHeader", c_Sw_writeTcpHeader, 6) 7 (x_aload 0) 8 := mj_aload_n (j := 0) rfl (by decide +kernel)
theorem i_Sw_writeTcpHeader_8 : mj_Snd zG ("StreamWatch", "writeTcpHeader", c_Sw_writeTcpHeader, 6) 8 (x_getf 10 1) 11 := mj_getf (T := T_Sw) rfl (by decide) u_Sw z1_213 (by decide +kernel)
theorem i_Sw_writeTcpHeader_11 : mj_Snd zG ("StreamWatch", "writeTcpHeader", c_Sw_writeTcpHeader, 6) 11 (x_const 2) 12 := mj_const (n := 2) (by decide) (by decide +kernel)
theorem i_Sw_writeTcpHeader_12 : mj_Snd zG ("StreamWatch", "writeTcpHeader", c_Sw_writeTcpHeader, 6) 12 (x_iload 2) 13 := mj_iload_n (j := 2) rfl (by decide +kernel)
theorem d_Sw_writeTcpHeader_13 : decode c_Sw_writeTcpHeader 13 = .ok (.ifCond .ne 9, 3) := by decide +kernel
theorem i_Sw_writeTcpHeader_16 : mj_Snd zG ("StreamWatch", "writeTcpHeader", c_Sw_writeTcpHeader, 6) 16 (x_iload 5) 18 := mj_iload (by decide +kernel)
theorem i_Sw_writeTcpHeader_18 : mj_Snd zG ("StreamWatch", "writeTcpHeader", c_Sw_writeTcpHeader, 6) 18 (x_i2l) 19 := mj_i2l (by decide +kernel)
theorem i_Sw_writeTcpHeader_19 : mj_Snd zG ("StreamWatch", "writeTcpHeader", c_Sw_writeTcpHeader, 6) 19 (x_skip) 25 := mj_goto (off := 6) (by decide) (by decide +kernel)
theorem i_Sw_writeTcpHeader_22 : mj_Snd zG ("StreamWatch", "writeTcpHeader", c_Sw_writeTcpHeader, 6) 22 (x_lconst 80) 25 := mj_ldc2 z3_201 (by decide +kernel)
theorem d_Sw_writeTcpHeader_25 : decode c_Sw_writeTcpHeader 25 = .ok (.invokevirtual 80, 3) := by decide +kernel
theorem i_Sw_writeTcpHeader_28 : mj_Snd zG ("StreamWatch", "writeTcpHeader", c_Sw_writeTcpHeader, 6) 28 (x_pop) 29 := mj_pop (by decide +kernel)
theorem i_Sw_writeTcpHeader_29 : mj_Snd zG ("StreamWatch", "writeTcpHeader", c_Sw_writeTcpHeader, 6) 29 (x_aload 0) 30 := mj_aload_n (j := 0) rfl (by decide +kernel)
theorem i_Sw_writeTcpHeader_30 : mj_Snd zG ("StreamWatch", "writeTcpHeader", c_Sw_writeTcpHeader, 6) 30 (x_getf 10 1) 33 := mj_getf (T := T_Sw) rfl (by decide) u_Sw z1_213 (by decide +kernel)
theorem i_Sw_writeTcpHeader_33 : mj_Snd zG ("StreamWatch", "writeTcpHeader", c_Sw_writeTcpHeader, 6) 33 (x_const 2) 34 := mj_const (n := 2) (by decide) (by decide +kernel)
theorem i_Sw_writeTcpHeader_34 : mj_Snd zG ("StreamWatch", "writeTcpHeader", c_Sw_writeTcpHeader, 6) 34 (x_iload 2) 35 := mj_iload_n (j := 2) rfl (by decide +kernel)
theorem d_Sw_writeTcpHeader_35 : decode c_Sw_writeTcpHeader 35 = .ok (.ifCond .ne 9, 3) := by decide +kernel
theorem i_Sw_writeTcpHeader_38 : mj_Snd zG ("StreamWatch", "writeTcpHeader", c_Sw_writeTcpHeader, 6) 38 (x_lconst 80) 41 := mj_ldc2 z3_201 (by decide +kernel)
theorem i_Sw_writeTcpHeader_41 : mj_Snd zG ("StreamWatch", "writeTcpHeader", c_Sw_writeTcpHeader, 6) 41 (x_skip) 47 := mj_goto (off := 6) (by decide) (by decide +kernel)
theorem i_Sw_writeTcpHeader_44 : mj_Snd zG ("StreamWatch", "writeTcpHeader", c_Sw_writeTcpHeader, 6) 44 (x_iload 5) 46 := mj_iload (by decide +kernel)
theorem i_Sw_writeTcpHeader_46 : mj_Snd zG ("StreamWatch", "writeTcpHeader", c_Sw_writeTcpHeader, 6) 46 (x_i2l) 47 := mj_i2l (by decide +kernel)
theorem d_Sw_writeTcpHeader_47 : decode c_Sw_writeTcpHeader 47 = .ok (.invokevirtual 80, 3) := by decide +kernel
theorem i_Sw_writeTcpHeader_50 : mj_Snd zG ("StreamWatch", "writeTcpHeader", c_Sw_writeTcpHeader, 6) 50 (x_pop) 51 := mj_pop (by decide +kernel)
theorem i_Sw_writeTcpHeader_51 : mj_Snd zG ("StreamWatch", "writeTcpHeader", c_Sw_writeTcpHeader, 6) 51 (x_aload 0) 52 := mj_aload_n (j := 0) rfl (by decide +kernel)
theorem i_Sw_writeTcpHeader_52 : mj_Snd zG ("StreamWatch", "writeTcpHeader", c_Sw_writeTcpHeader, 6) 52 (x_getf 10 1) 55 := mj_getf (T := T_Sw) rfl (by decide) u_Sw z1_213 (by decide +kernel)
theorem i_Sw_writeTcpHeader_55 : mj_Snd zG ("StreamWatch", "writeTcpHeader", c_Sw_writeTcpHeader, 6) 55 (x_const 4) 56 := mj_const (n := 4) (by decide) (by decide +kernel)
theorem i_Sw_writeTcpHeader_56 : mj_Snd zG ("StreamWatch", "writeTcpHeader", c_Sw_writeTcpHeader, 6) 56 (x_iload 3) 57 := mj_iload_n (j := 3) rfl (by decide +kernel)
theorem i_Sw_writeTcpHeader_57 : mj_Snd zG ("StreamWatch", "writeTcpHeader", c_Sw_writeTcpHeader, 6) 57 (x_i2l) 58 := mj_i2l (by decide +kernel)
theorem d_Sw_writeTcpHeader_58 : decode c_Sw_writeTcpHeader 58 = .ok (.invokevirtual 80, 3) := by decide +kernel
theorem i_Sw_writeTcpHeader_61 : mj_Snd zG ("StreamWatch", "writeTcpHeader", c_Sw_writeTcpHeader, 6) 61 (x_pop) 62 := mj_pop (by decide +kernel)
theorem i_Sw_writeTcpHeader_62 : mj_Snd zG ("StreamWatch", "writeTcpHeader", c_Sw_writeTcpHeader, 6) 62 (x_aload 0) 63 := mj_aload_n (j := 0) rfl (by decide +kernel)
theorem i_Sw_writeTcpHeader_63 : mj_Snd zG ("StreamWatch", "writeTcpHeader", c_Sw_writeTcpHeader, 6) 63 (x_getf 10 1) 66 := mj_getf (T := T_Sw) rfl (by decide) u_Sw z1_213 (by decide +kernel)
theorem i_Sw_writeTcpHeader_66 : mj_Snd zG ("StreamWatch", "writeTcpHeader", c_Sw_writeTcpHeader, 6) 66 (x_const 4) 67 := mj_const (n := 4) (by decide) (by decide +kernel)
theorem i_Sw_writeTcpHeader_67 : mj_Snd zG ("StreamWatch", "writeTcpHeader", c_Sw_writeTcpHeader, 6) 67 (x_lconst 0) 68 := mj_lconst (n := 0) (by decide) (by decide +kernel)
theorem d_Sw_writeTcpHeader_68 : decode c_Sw_writeTcpHeader 68 = .ok (.invokevirtual 80, 3) := by decide +kernel
theorem i_Sw_writeTcpHeader_71 : mj_Snd zG ("StreamWatch", "writeTcpHeader", c_Sw_writeTcpHeader, 6) 71 (x_pop) 72 := mj_pop (by decide +kernel)
theorem i_Sw_writeTcpHeader_72 : mj_Snd zG ("StreamWatch", "writeTcpHeader", c_Sw_writeTcpHeader, 6) 72 (x_aload 0) 73 := mj_aload_n (j := 0) rfl (by decide +kernel)
theorem i_Sw_writeTcpHeader_73 : mj_Snd zG ("StreamWatch", "writeTcpHeader", c_Sw_writeTcpHeader, 6) 73 (x_getf 10 1) 76 := mj_getf (T := T_Sw) rfl (by decide) u_Sw z1_213 (by decide +kernel)
theorem i_Sw_writeTcpHeader_76 : mj_Snd zG ("StreamWatch", "writeTcpHeader", c_Sw_writeTcpHeader, 6) 76 (x_const 2) 77 := mj_const (n := 2) (by decide) (by decide +kernel)
theorem i_Sw_writeTcpHeader_77 : mj_Snd zG ("StreamWatch", "writeTcpHeader", c_Sw_writeTcpHeader, 6) 77 (x_const 20480) 80 := mj_sipush (n := 20480) (by decide) (by decide +kernel)
theorem i_Sw_writeTcpHeader_80 : mj_Snd zG ("StreamWatch", "writeTcpHeader", c_Sw_writeTcpHeader, 6) 80 (x_iload 4) 82 := mj_iload (by decide +kernel)
theorem i_Sw_writeTcpHeader_82 : mj_Snd zG ("StreamWatch", "writeTcpHeader", c_Sw_writeTcpHeader, 6) 82 (x_const 63) 84 := mj_bipush (n := 63) (by decide) (by decide +kernel)
theorem i_Sw_writeTcpHeader_84 : mj_Snd zG ("StreamWatch", "writeTcpHeader", c_Sw_writeTcpHeader, 6) 84 (x_iand) 85 := mj_iand (by decide +kernel)
theorem i_Sw_writeTcpHeader_85 : mj_Snd zG ("StreamWatch", "writeTcpHeader", c_Sw_writeTcpHeader, 6) 85 (x_ior) 86 := mj_ior (by decide +kernel)
theorem i_Sw_writeTcpHeader_86 : mj_Snd zG ("StreamWatch", "writeTcpHeader", c_Sw_writeTcpHeader, 6) 86 (x_i2l) 87 := mj_i2l (by decide +kernel)
theorem d_Sw_writeTcpHeader_87 : decode c_Sw_writeTcpHeader 87 = .ok (.invokevirtual 80, 3) := by decide +kernel
theorem i_Sw_writeTcpHeader_90 : mj_Snd zG ("StreamWatch", "writeTcpHeader", c_Sw_writeTcpHeader, 6) 90 (x_pop) 91 := mj_pop (by decide +kernel)
theorem i_Sw_writeTcpHeader_91 : mj_Snd zG ("StreamWatch", "writeTcpHeader", c_Sw_writeTcpHeader, 6) 91 (x_aload 0) 92 := mj_aload_n (j := 0) rfl (by decide +kernel)
theorem i_Sw_writeTcpHeader_92 : mj_Snd zG ("StreamWatch", "writeTcpHeader", c_Sw_writeTcpHeader, 6) 92 (x_getf 10 1) 95 := mj_getf (T := T_Sw) rfl (by decide) u_Sw z1_213 (by decide +kernel)
theorem i_Sw_writeTcpHeader_95 : mj_Snd zG ("StreamWatch", "writeTcpHeader", c_Sw_writeTcpHeader, 6) 95 (x_const 6) 97 := mj_bipush (n := 6) (by decide) (by decide +kernel)
theorem i_Sw_writeTcpHeader_97 : mj_Snd zG ("StreamWatch", "writeTcpHeader", c_Sw_writeTcpHeader, 6) 97 (x_lconst 0) 98 := mj_lconst (n := 0) (by decide) (by decide +kernel)
theorem d_Sw_writeTcpHeader_98 : decode c_Sw_writeTcpHeader 98 = .ok (.invokevirtual 80, 3) := by decide +kernel
theorem i_Sw_writeTcpHeader_101 : mj_Snd zG ("StreamWatch", "writeTcpHeader", c_Sw_writeTcpHeader, 6) 101 (x_pop) 102 := mj_pop (by decide +kernel)
theorem d_Sw_writeTcpHeader_102 : decode c_Sw_writeTcpHeader 102 = .ok (.return_, 1) := by decide +kernel
theorem b_Sw_writeTcpHeader_0 : mj_Ch zG ("StreamWatch", "writeTcpHeader", c_Sw_writeTcpHeader, 6) 0 [x_const 1000, x_iload 1, x_iadd, x_istore 5, x_aload 0, x_getf 10 1, x_const 2, x_iload 2] 13 := ⟨_, i_Sw_writeTcpHeader_0, _, i_Sw_writeTcpHeader_3, _, i_Sw_writeTcpHeader_4, _, i_Sw_writeTcpHeader_5, _, i_Sw_writeTcpHeader_7, _, i_Sw_writeTcpHeader_8, _, i_Sw_writeTcpHeader_11, _, i_Sw_writeTcpHeader_12, rfl⟩
theorem b_Sw_writeTcpHeader_16 : mj_Ch zG ("StreamWatch", "writeTcpHeader", c_Sw_writeTcpHeader, 6) 16 [x_iload 5, x_i2l, x_skip] 25 := ⟨_, i_Sw_writeTcpHeader_16, _, i_Sw_writeTcpHeader_18, _, i_Sw_writeTcpHeader_19, rfl⟩
theorem b_Sw_writeTcpHeader_22 : mj_Ch zG ("StreamWatch", "writeTcpHeader", c_Sw_writeTcpHeader, 6) 22 [x_lconst 80] 25 := ⟨_, i_Sw_writeTcpHeader_22, rfl⟩
theorem b_Sw_writeTcpHeader_28 : mj_Ch zG ("StreamWatch", "writeTcpHeader", c_Sw_writeTcpHeader, 6) 28 [x_pop, x_aload 0, x_getf 10 1, x_const 2, x_iload 2] 35 := ⟨_, i_Sw_writeTcpHeader_28, _, i_Sw_writeTcpHeader_29, _, i_Sw_writeTcpHeader_30, _, i_Sw_writeTcpHeader_33, _, i_Sw_writeTcpHeader_34, rfl⟩
theorem b_Sw_writeTcpHeader_38 : mj_Ch zG ("StreamWatch", "writeTcpHeader", c_Sw_writeTcpHeader, 6) 38 [x_lconst 80, x_skip] 47 := ⟨_, i_Sw_writeTcpHeader_38, _, i_Sw_writeTcpHeader_41, rfl⟩
theorem b_Sw_writeTcpHeader_44 : mj_Ch zG ("StreamWatch", "writeTcpHeader", c_Sw_writeTcpHeader, 6) 44 [x_iload 5, x_i2l] 47 := ⟨_, i_Sw_writeTcpHeader_44, _, i_Sw_writeTcpHeader_46, rfl⟩
theorem b_Sw_writeTcpHeader_50 : mj_Ch zG ("StreamWatch", "writeTcpHeader", c_Sw_writeTcpHeader, 6) 50 [x_pop, x_aload 0, x_getf 10 1, x_const 4, x_iload 3, x_i2l] 58 := ⟨_, i_Sw_writeTcpHeader_50, _, i_Sw_writeTcpHeader_51, _, i_Sw_writeTcpHeader_52, _, i_Sw_writeTcpHeader_55, _, i_Sw_writeTcpHeader_56, _, i_Sw_writeTcpHeader_57, rfl⟩
theorem b_Sw_writeTcpHeader_61 : mj_Ch zG ("StreamWatch", "writeTcpHeader", c_Sw_writeTcpHeader, 6) 61 [x_pop, x_aload 0, x_getf 10 1, x_const 4, x_lconst 0] 68 := ⟨_, i_Sw_writeTcpHeader_61, _, i_Sw_writeTcpHeader_62, _, i_Sw_writeTcpHeader_63, _, i_Sw_writeTcpHeader_66, _, i_Sw_writeTcpHeader_67, rfl⟩
theorem b_Sw_writeTcpHeader_71 : mj_Ch zG ("StreamWatch", "writeTcpHeader", c_Sw_writeTcpHeader, 6) 71 [x_pop, x_aload 0, x_getf 10 1, x_const 2, x_const 20480, x_iload 4, x_const 63, x_iand, x_ior, x_i2l] 87 := ⟨_, i_Sw_writeTcpHeader_71, _, i_Sw_writeTcpHeader_72, _, i_Sw_writeTcpHeader_73, _, i_Sw_writeTcpHeader_76, _, i_Sw_writeTcpHeader_77, _, i_Sw_writeTcpHeader_80, _, i_Sw_writeTcpHeader_82, _, i_Sw_writeTcpHeader_84, _, i_Sw_writeTcpHeader_85, _, i_Sw_writeTcpHeader_86, rfl⟩
theorem b_Sw_writeTcpHeader_90 : mj_Ch zG ("StreamWatch", "writeTcpHeader", c_Sw_writeTcpHeader, 6) 90 [x_pop, x_aload 0, x_getf 10 1, x_const 6, x_lconst 0] 98 := ⟨_, i_Sw_writeTcpHeader_90, _, i_Sw_writeTcpHeader_91, _, i_Sw_writeTcpHeader_92, _, i_Sw_writeTcpHeader_95, _, i_Sw_writeTcpHeader_97, rfl⟩
theorem b_Sw_writeTcpHeader_101 : mj_Ch zG ("StreamWatch", "writeTcpHeader", c_Sw_writeTcpHeader, 6) 101 [x_pop] 102 := ⟨_, i_Sw_writeTcpHeader_101, rfl⟩
theorem i_Sw_flowOfPacket_0 : mj_Snd zG ("StreamWatch", "flowOfPacket", c_Sw_flowOfPacket, 3) 0 (x_aload 0) 1 := mj_aload_n (j := 0) rfl (by decide +kernel)
theorem i_Sw_flowOfPacket_1 : mj_Snd zG ("StreamWatch", "flowOfPacket", c_Sw_flowOfPacket, 3) 1 (x_getf 10 3) 4 := mj_getf (T := T_Sw) rfl (by decide) u_Sw z1_215 (by decide +kernel)
theorem i_Sw_flowOfPacket_4 : mj_Snd zG ("StreamWatch", "flowOfPacket", c_Sw_flowOfPacket, 3) 4 (x_aload 0) 5 := mj_aload_n (j := 0) rfl (by decide +kernel)
theorem i_Sw_flowOfPacket_5 : mj_Snd zG ("StreamWatch", "flowOfPacket", c_Sw_flowOfPacket, 3) 5 (x_getf 10 2) 8 := mj_getf (T := T_Sw) rfl (by decide) u_Sw z1_214 (by decide +kernel)
theorem d_Sw_flowOfPacket_8 : decode c_Sw_flowOfPacket 8 = .ok (.invokevirtual 228, 3) := by decide +kernel
theorem i_Sw_flowOfPacket_11 : mj_Snd zG ("StreamWatch", "flowOfPacket", c_Sw_flowOfPacket, 3) 11 (x_astore 1) 12 := mj_astore_n (j := 1) rfl (by decide) (by decide +kernel)
theorem i_Sw_flowOfPacket_12 : mj_Snd zG ("StreamWatch", "flowOfPacket", c_Sw_flowOfPacket, 3) 12 (x_aload 1) 13 := mj_aload_n (j := 1) rfl (by decide +kernel)
theorem d_Sw_flowOfPacket_13 : decode c_Sw_flowOfPacket 13 = .ok (.ifnull 5, 3) := by decide +kernel
theorem i_Sw_flowOfPacket_16 : mj_Snd zG ("StreamWatch", "flowOfPacket", c_Sw_flowOfPacket, 3) 16 (x_aload 1) 17 := mj_aload_n (j := 1) rfl (by decide +kernel)
theorem d_Sw_flowOfPacket_17 : decode c_Sw_flowOfPacket 17 = .ok (.areturn, 1) := by decide +kernel
theorem i_Sw_flowOfPacket_18 : mj_Snd zG ("StreamWatch", "flowOfPacket", c_Sw_flowOfPacket, 3) 18 (x_aload 0) 19 := mj_aload_n (j := 0) rfl (by decide +kernel)
theorem i_Sw_flowOfPacket_19 : mj_Snd zG ("StreamWatch", "flowOfPacket", c_Sw_flowOfPacket, 3) 19 (x_getf 10 2) 22 := mj_getf (T := T_Sw) rfl (by decide) u_Sw z1_214 (by decide +kernel)
theorem i_Sw_flowOfPacket_22 : mj_Snd zG ("StreamWatch", "flowOfPacket", c_Sw_flowOfPacket, 3) 22 (x_const 2) 23 := mj_const (n := 2) (by decide) (by decide +kernel)
theorem d_Sw_flowOfPacket_23 : decode c_Sw_flowOfPacket 23 = .ok (.invokevirtual 122, 3) := by decide +kernel
theorem d_Sw_flowOfPacket_26 : decode c_Sw_flowOfPacket 26 = .ok (.ifCond .eq 19, 3) := by decide +kernel
theorem i_Sw_flowOfPacket_29 : mj_Snd zG ("StreamWatch", "flowOfPacket", c_Sw_flowOfPacket, 3) 29 (x_aload 0) 30 := mj_aload_n (j := 0) rfl (by decide +kernel)
theorem i_Sw_flowOfPacket_30 : mj_Snd zG ("StreamWatch", "flowOfPacket", c_Sw_flowOfPacket, 3) 30 (x_getf 10 2) 33 := mj_getf (T := T_Sw) rfl (by decide) u_Sw z1_214 (by decide +kernel)
theorem i_Sw_flowOfPacket_33 : mj_Snd zG ("StreamWatch", "flowOfPacket", c_Sw_flowOfPacket, 3) 33 (x_const 16) 35 := mj_bipush (n := 16) (by decide) (by decide +kernel)
theorem d_Sw_flowOfPacket_35 : decode c_Sw_flowOfPacket 35 = .ok (.invokevirtual 122, 3) := by decide +kernel
theorem d_Sw_flowOfPacket_38 : decode c_Sw_flowOfPacket 38 = .ok (.ifCond .ne 7, 3) := by decide +kernel
theorem i_Sw_flowOfPacket_41 : mj_Snd zG ("StreamWatch", "flowOfPacket", c_Sw_flowOfPacket, 3) 41 (x_const 1) 42 := mj_const (n := 1) (by decide) (by decide +kernel)
theorem i_Sw_flowOfPacket_42 : mj_Snd zG ("StreamWatch", "flowOfPacket", c_Sw_flowOfPacket, 3) 42 (x_skip) 46 := mj_goto (off := 4) (by decide) (by decide +kernel)
theorem i_Sw_flowOfPacket_45 : mj_Snd zG ("StreamWatch", "flowOfPacket", c_Sw_flowOfPacket, 3) 45 (x_const 0) 46 := mj_const (n := 0) (by decide) (by decide +kernel)
theorem i_Sw_flowOfPacket_46 : mj_Snd zG ("StreamWatch", "flowOfPacket", c_Sw_flowOfPacket, 3) 46 (x_istore 2) 47 := mj_istore_n (j := 2) rfl (by decide) (by decide +kernel)
theorem i_Sw_flowOfPacket_47 : mj_Snd zG ("StreamWatch", "flowOfPacket", c_Sw_flowOfPacket, 3) 47 (x_iload 2) 48 := mj_iload_n (j := 2) rfl (by decide +kernel)
theorem d_Sw_flowOfPacket_48 : decode c_Sw_flowOfPacket 48 = .ok (.ifCond .eq 17, 3) := by decide +kernel
theorem i_Sw_flowOfPacket_51 : mj_Snd zG ("StreamWatch", "flowOfPacket", c_Sw_flowOfPacket, 3) 51 (x_aload 0) 52 := mj_aload_n (j := 0) rfl (by decide +kernel)
theorem i_Sw_flowOfPacket_52 : mj_Snd zG ("StreamWatch", "flowOfPacket", c_Sw_flowOfPacket, 3) 52 (x_getf 10 3) 55 := mj_getf (T := T_Sw) rfl (by decide) u_Sw z1_215 (by decide +kernel)
theorem i_Sw_flowOfPacket_55 : mj_Snd zG ("StreamWatch", "flowOfPacket", c_Sw_flowOfPacket, 3) 55 (x_aload 0) 56 := mj_aload_n (j := 0) rfl (by decide +kernel)
theorem i_Sw_flowOfPacket_56 : mj_Snd zG ("StreamWatch", "flowOfPacket", c_Sw_flowOfPacket, 3) 56 (x_getf 10 2) 59 := mj_getf (T := T_Sw) rfl (by decide) u_Sw z1_214 (by decide +kernel)
theorem d_Sw_flowOfPacket_59 : decode c_Sw_flowOfPacket 59 = .ok (.invokevirtual 232, 3) := by decide +kernel
theorem i_Sw_flowOfPacket_62 : mj_Snd zG ("StreamWatch", "flowOfPacket", c_Sw_flowOfPacket, 3) 62 (x_skip) 66 := mj_goto (off := 4) (by decide) (by decide +kernel)
theorem i_Sw_flowOfPacket_65 : mj_Snd zG ("StreamWatch", "flowOfPacket", c_Sw_flowOfPacket, 3) 65 (x_null) 66 := mj_null (by decide +kernel)
theorem d_Sw_flowOfPacket_66 : decode c_Sw_flowOfPacket 66 = .ok (.areturn, 1) := by decide +kernel
theorem b_Sw_flowOfPacket_0 : mj_Ch zG ("StreamWatch", "flowOfPacket", c_Sw_flowOfPacket, 3) 0 [x_aload 0, x_getf 10 3, x_aload 0, x_getf 10 2] 8 := ⟨_, i_Sw_flowOfPacket_0, _, i_Sw_flowOfPacket_1, _, i_Sw_flowOfPacket_4, _, i_Sw_flowOfPacket_5, rfl⟩
theorem b_Sw_flowOfPacket_11 : mj_Ch zG ("StreamWatch", "flowOfPacket", c_Sw_flowOfPacket, 3) 11 [x_astore 1, x_aload 1] 13 := ⟨_, i_Sw_flowOfPacket_11, _, i_Sw_flowOfPacket_12, rfl⟩
theorem b_Sw_flowOfPacket_16 : mj_Ch zG ("StreamWatch", "flowOfPacket", c_Sw_flowOfPacket, 3) 16 [x_aload 1] 17 := ⟨_, i_Sw_flowOfPacket_16, rfl⟩
theorem b_Sw_flowOfPacket_18 : mj_Ch zG ("StreamWatch", "flowOfPacket", c_Sw_flowOfPacket, 3) 18 [x_aload 0, x_getf 10 2, x_const 2] 23 := ⟨_, i_Sw_flowOfPacket_18, _, i_Sw_flowOfPacket_19, _, i_Sw_flowOfPacket_22, rfl⟩
theorem b_Sw_flowOfPacket_29 : mj_Ch zG ("StreamWatch", "flowOfPacket", c_Sw_flowOfPacket, 3) 29 [x_aload 0, x_getf 10 2, x_const 16] 35 := ⟨_, i_Sw_flowOfPacket_29, _, i_Sw_flowOfPacket_30, _, i_Sw_flowOfPacket_33, rfl⟩
theorem b_Sw_flowOfPacket_41 : mj_Ch zG ("StreamWatch", "flowOfPacket", c_Sw_flowOfPacket, 3) 41 [x_const 1, x_skip] 46 := ⟨_, i_Sw_flowOfPacket_41, _, i_Sw_flowOfPacket_42, rfl⟩
theorem b_Sw_flowOfPacket_45 : mj_Ch zG ("StreamWatch", "flowOfPacket", c_Sw_flowOfPacket, 3) 45 [x_const 0] 46 := ⟨_, i_Sw_flowOfPacket_45, rfl⟩
theorem b_Sw_flowOfPacket_46 : mj_Ch zG ("StreamWatch", "flowOfPacket", c_Sw_flowOfPacket, 3) 46 [x_istore 2, x_iload 2] 48 := ⟨_, i_Sw_flowOfPacket_46, _, i_Sw_flowOfPacket_47, rfl⟩
theorem b_Sw_flowOfPacket_51 : mj_Ch zG ("StreamWatch", "flowOfPacket", c_Sw_flowOfPacket, 3) 51 [x_aload 0, x_getf 10 3, x_aload 0, x_getf 10 2] 59 := ⟨_, i_Sw_flowOfPacket_51, _, i_Sw_flowOfPacket_52, _, i_Sw_flowOfPacket_55, _, i_Sw_flowOfPacket_56, rfl⟩
theorem b_Sw_flowOfPacket_62 : mj_Ch zG ("StreamWatch", "flowOfPacket", c_Sw_flowOfPacket, 3) 62 [x_skip] 66 := ⟨_, i_Sw_flowOfPacket_62, rfl⟩
theorem b_Sw_flowOfPacket_65 : mj_Ch zG ("StreamWatch", "flowOfPacket", c_Sw_flowOfPacket, 3) 65 [x_null] 66 := ⟨_, i_Sw_flowOfPacket_65, rfl⟩
theorem i_Sw_receive_0 : mj_Snd zG ("StreamWatch", "receive", c_Sw_receive, 5) 0 (x_aload 1) 1 := mj_aload_n (j := 1) rfl (by decide +kernel)
theorem i_Sw_receive_1 : mj_Snd zG ("StreamWatch", "receive", c_Sw_receive, 5) 1 (x_iload 2) 2 := mj_iload_n (j := 2) rfl (by decide +kernel)
theorem d_Sw_receive_2 : decode c_Sw_receive 2 = .ok (.invokevirtual 235, 3) := by decide +kernel
theorem i_Sw_receive_5 : mj_Snd zG ("StreamWatch", "receive", c_Sw_receive, 5) 5 (x_astore 3) 6 := mj_astore_n (j := 3) rfl (by decide) (by decide +kernel)
theorem i_Sw_receive_6 : mj_Snd zG ("StreamWatch", "receive", c_Sw_receive, 5) 6 (x_aload 3) 7 := mj_aload_n (j := 3) rfl (by decide +kernel)
theorem d_Sw_receive_7 : decode c_Sw_receive 7 = .ok (.ifnonnull 4, 3) := by decide +kernel
theorem d_Sw_receive_10 : decode c_Sw_receive 10 = .ok (.return_, 1) := by decide +kernel
theorem i_Sw_receive_11 : mj_Snd zG ("StreamWatch", "receive", c_Sw_receive, 5) 11 (x_aload 3) 12 := mj_aload_n (j := 3) rfl (by decide +kernel)
theorem i_Sw_receive_12 : mj_Snd zG ("StreamWatch", "receive", c_Sw_receive, 5) 12 (x_aload 0) 13 := mj_aload_n (j := 0) rfl (by decide +kernel)
theorem i_Sw_receive_13 : mj_Snd zG ("StreamWatch", "receive", c_Sw_receive, 5) 13 (x_getf 10 2) 16 := mj_getf (T := T_Sw) rfl (by decide) u_Sw z1_214 (by decide +kernel)
theorem i_Sw_receive_16 : mj_Snd zG ("StreamWatch", "receive", c_Sw_receive, 5) 16 (x_getf 5 4) 19 := mj_getf (T := T_Pk) rfl (by decide) u_Pk z1_56 (by decide +kernel)
theorem d_Sw_receive_19 : decode c_Sw_receive 19 = .ok (.invokevirtual 242, 3) := by decide +kernel
theorem i_Sw_receive_22 : mj_Snd zG ("StreamWatch", "receive", c_Sw_receive, 5) 22 (x_aload 0) 23 := mj_aload_n (j := 0) rfl (by decide +kernel)
theorem i_Sw_receive_23 : mj_Snd zG ("StreamWatch", "receive", c_Sw_receive, 5) 23 (x_aload 3) 24 := mj_aload_n (j := 3) rfl (by decide +kernel)
theorem d_Sw_receive_24 : decode c_Sw_receive 24 = .ok (.invokevirtual 246, 3) := by decide +kernel
theorem i_Sw_receive_27 : mj_Snd zG ("StreamWatch", "receive", c_Sw_receive, 5) 27 (x_const 0) 28 := mj_const (n := 0) (by decide) (by decide +kernel)
theorem i_Sw_receive_28 : mj_Snd zG ("StreamWatch", "receive", c_Sw_receive, 5) 28 (x_istore 4) 30 := mj_istore (by decide) (by decide +kernel)
theorem i_Sw_receive_30 : mj_Snd zG ("StreamWatch", "receive", c_Sw_receive, 5) 30 (x_iload 4) 32 := mj_iload (by decide +kernel)
theorem i_Sw_receive_32 : mj_Snd zG ("StreamWatch", "receive", c_Sw_receive, 5) 32 (x_const 32) 34 := mj_bipush (n := 32) (by decide) (by decide +kernel)
theorem d_Sw_receive_34 : decode c_Sw_receive 34 = .ok (.if_icmp .ge 30, 3) := by decide +kernel
theorem i_Sw_receive_37 : mj_Snd zG ("StreamWatch", "receive", c_Sw_receive, 5) 37 (x_aload 3) 38 := mj_aload_n (j := 3) rfl (by decide +kernel)
theorem d_Sw_receive_38 : decode c_Sw_receive 38 = .ok (.invokevirtual 250, 3) := by decide +kernel
theorem d_Sw_receive_41 : decode c_Sw_receive 41 = .ok (.ifCond .eq 23, 3) := by decide +kernel
theorem i_Sw_receive_44 : mj_Snd zG ("StreamWatch", "receive", c_Sw_receive, 5) 44 (x_aload 3) 45 := mj_aload_n (j := 3) rfl (by decide +kernel)
theorem d_Sw_receive_45 : decode c_Sw_receive 45 = .ok (.invokevirtual 253, 3) := by decide +kernel
theorem d_Sw_receive_48 : decode c_Sw_receive 48 = .ok (.ifCond .eq 10, 3) := by decide +kernel
theorem i_Sw_receive_51 : mj_Snd zG ("StreamWatch", "receive", c_Sw_receive, 5) 51 (x_aload 0) 52 := mj_aload_n (j := 0) rfl (by decide +kernel)
theorem i_Sw_receive_52 : mj_Snd zG ("StreamWatch", "receive", c_Sw_receive, 5) 52 (x_aload 1) 53 := mj_aload_n (j := 1) rfl (by decide +kernel)
theorem i_Sw_receive_53 : mj_Snd zG ("StreamWatch", "receive", c_Sw_receive, 5) 53 (x_aload 3) 54 := mj_aload_n (j := 3) rfl (by decide +kernel)
theorem i_Sw_receive_54 : mj_Snd zG ("StreamWatch", "receive", c_Sw_receive, 5) 54 (x_iload 2) 55 := mj_iload_n (j := 2) rfl (by decide +kernel)
theorem d_Sw_receive_55 : decode c_Sw_receive 55 = .ok (.invokevirtual 256, 3) := by decide +kernel
theorem i_Sw_receive_58 : mj_Snd zG ("StreamWatch", "receive", c_Sw_receive, 5) 58 (x_iinc 4 1) 61 := mj_iinc (n := 1) (by decide) (by decide) (by decide +kernel)
theorem i_Sw_receive_61 : mj_Snd zG ("StreamWatch", "receive", c_Sw_receive, 5) 61 (x_skip) 30 := mj_goto (off := (-31)) (by decide) (by decide +kernel)
theorem i_Sw_receive_64 : mj_Snd zG ("StreamWatch", "receive", c_Sw_receive, 5) 64 (x_aload 0) 65 := mj_aload_n (j := 0) rfl (by decide +kernel)
theorem i_Sw_receive_65 : mj_Snd zG ("StreamWatch", "receive", c_Sw_receive, 5) 65 (x_getf 10 2) 68 := mj_getf (T := T_Sw) rfl (by decide) u_Sw z1_214 (by decide +kernel)
theorem i_Sw_receive_68 : mj_Snd zG ("StreamWatch", "receive", c_Sw_receive, 5) 68 (x_const 1) 69 := mj_const (n := 1) (by decide) (by decide +kernel)
theorem d_Sw_receive_69 : decode c_Sw_receive 69 = .ok (.invokevirtual 122, 3) := by decide +kernel
theorem d_Sw_receive_72 : decode c_Sw_receive 72 = .ok (.ifCond .eq 33, 3) := by decide +kernel
theorem i_Sw_receive_75 : mj_Snd zG ("StreamWatch", "receive", c_Sw_receive, 5) 75 (x_aload 3) 76 := mj_aload_n (j := 3) rfl (by decide +kernel)
theorem d_Sw_receive_76 : decode c_Sw_receive 76 = .ok (.invokevirtual 203, 3) := by decide +kernel
theorem i_Sw_receive_79 : mj_Snd zG ("StreamWatch", "receive", c_Sw_receive, 5) 79 (x_aload 0) 80 := mj_aload_n (j := 0) rfl (by decide +kernel)
theorem i_Sw_receive_80 : mj_Snd zG ("StreamWatch", "receive", c_Sw_receive, 5) 80 (x_getf 10 2) 83 := mj_getf (T := T_Sw) rfl (by decide) u_Sw z1_214 (by decide +kernel)
theorem i_Sw_receive_83 : mj_Snd zG ("StreamWatch", "receive", c_Sw_receive, 5) 83 (x_getf 5 4) 86 := mj_getf (T := T_Pk) rfl (by decide) u_Pk z1_56 (by decide +kernel)
theorem i_Sw_receive_86 : mj_Snd zG ("StreamWatch", "receive", c_Sw_receive, 5) 86 (x_aload 0) 87 := mj_aload_n (j := 0) rfl (by decide +kernel)
theorem i_Sw_receive_87 : mj_Snd zG ("StreamWatch", "receive", c_Sw_receive, 5) 87 (x_getf 10 2) 90 := mj_getf (T := T_Sw) rfl (by decide) u_Sw z1_214 (by decide +kernel)
theorem i_Sw_receive_90 : mj_Snd zG ("StreamWatch", "receive", c_Sw_receive, 5) 90 (x_getf 5 6) 93 := mj_getf (T := T_Pk) rfl (by decide) u_Pk z1_60 (by decide +kernel)
theorem i_Sw_receive_93 : mj_Snd zG ("StreamWatch", "receive", c_Sw_receive, 5) 93 (x_iadd) 94 := mj_iadd (by decide +kernel)
theorem d_Sw_receive_94 : decode c_Sw_receive 94 = .ok (.if_icmp .ne 11, 3) := by decide +kernel
theorem i_Sw_receive_97 : mj_Snd zG ("StreamWatch", "receive", c_Sw_receive, 5) 97 (x_aload 3) 98 := mj_aload_n (j := 3) rfl (by decide +kernel)
theorem d_Sw_receive_98 : decode c_Sw_receive 98 = .ok (.invokevirtual 263, 3) := by decide +kernel
theorem i_Sw_receive_101 : mj_Snd zG ("StreamWatch", "receive", c_Sw_receive, 5) 101 (x_aload 1) 102 := mj_aload_n (j := 1) rfl (by decide +kernel)
theorem d_Sw_receive_102 : decode c_Sw_receive 102 = .ok (.invokevirtual 266, 3) := by decide +kernel
theorem d_Sw_receive_105 : decode c_Sw_receive 105 = .ok (.return_, 1) := by decide +kernel
theorem b_Sw_receive_0 : mj_Ch zG ("StreamWatch", "receive", c_Sw_receive, 5) 0 [x_aload 1, x_iload 2] 2 := ⟨_, i_Sw_receive_0, _, i_Sw_receive_1, rfl⟩
theorem b_Sw_receive_5 : mj_Ch zG ("StreamWatch", "receive", c_Sw_receive, 5) 5 [x_astore 3, x_aload 3] 7 := ⟨_, i_Sw_receive_5, _, i_Sw_receive_6, rfl⟩
theorem b_Sw_receive_11 : mj_Ch zG ("StreamWatch", "receive", c_Sw_receive, 5) 11 [x_aload 3, x_aload 0, x_getf 10 2, x_getf 5 4] 19 := ⟨_, i_Sw_receive_11, _, i_Sw_receive_12, _, i_Sw_receive_13, _, i_Sw_receive_16, rfl⟩
theorem b_Sw_receive_22 : mj_Ch zG ("StreamWatch", "receive", c_Sw_receive, 5) 22 [x_aload 0, x_aload 3] 24 := ⟨_, i_Sw_receive_22, _, i_Sw_receive_23, rfl⟩
theorem b_Sw_receive_27 : mj_Ch zG ("StreamWatch", "receive", c_Sw_receive, 5) 27 [x_const 0, x_istore 4] 30 := ⟨_, i_Sw_receive_27, _, i_Sw_receive_28, rfl⟩
theorem b_Sw_receive_30 : mj_Ch zG ("StreamWatch", "receive", c_Sw_receive, 5) 30 [x_iload 4, x_const 32] 34 := ⟨_, i_Sw_receive_30, _, i_Sw_receive_32, rfl⟩
theorem b_Sw_receive_37 : mj_Ch zG ("StreamWatch", "receive", c_Sw_receive, 5) 37 [x_aload 3] 38 := ⟨_, i_Sw_receive_37, rfl⟩
theorem b_Sw_receive_44 : mj_Ch zG ("StreamWatch", "receive", c_Sw_receive, 5) 44 [x_aload 3] 45 := ⟨_, i_Sw_receive_44, rfl⟩
theorem b_Sw_receive_51 : mj_Ch zG ("StreamWatch", "receive", c_Sw_receive, 5) 51 [x_aload 0, x_aload 1, x_aload 3, x_iload 2] 55 := ⟨_, i_Sw_receive_51, _, i_Sw_receive_52, _, i_Sw_receive_53, _, i_Sw_receive_54, rfl⟩
theorem b_Sw_receive_58 : mj_Ch zG ("StreamWatch", "receive", c_Sw_receive, 5) 58 [x_iinc 4 1, x_skip] 30 := ⟨_, i_Sw_receive_58, _, i_Sw_receive_61, rfl⟩
theorem b_Sw_receive_64 : mj_Ch zG ("StreamWatch", "receive", c_Sw_receive, 5) 64 [x_aload 0, x_getf 10 2, x_const 1] 69 := ⟨_, i_Sw_receive_64, _, i_Sw_receive_65, _, i_Sw_receive_68, rfl⟩
theorem b_Sw_receive_75 : mj_Ch zG ("StreamWatch", "receive", c_Sw_receive, 5) 75 [x_aload 3] 76 := ⟨_, i_Sw_receive_75, rfl⟩
theorem b_Sw_receive_79 : mj_Ch zG ("StreamWatch", "receive", c_Sw_receive, 5) 79 [x_aload 0, x_getf 10 2, x_getf 5 4, x_aload 0, x_getf 10 2, x_getf 5 6, x_iadd] 94 := ⟨_, i_Sw_receive_79, _, i_Sw_receive_80, _, i_Sw_receive_83, _, i_Sw_receive_86, _, i_Sw_receive_87, _, i_Sw_receive_90, _, i_Sw_receive_93, rfl⟩
theorem b_Sw_receive_97 : mj_Ch zG ("StreamWatch", "receive", c_Sw_receive, 5) 97 [x_aload 3] 98 := ⟨_, i_Sw_receive_97, rfl⟩
theorem b_Sw_receive_101 : mj_Ch zG ("StreamWatch", "receive", c_Sw_receive, 5) 101 [x_aload 1] 102 := ⟨_, i_Sw_receive_101, rfl⟩
theorem i_Sw_holdData_0 : mj_Snd zG ("StreamWatch", "holdData", c_Sw_holdData, 3) 0 (x_const 0) 1 := mj_const (n := 0) (by decide) (by decide +kernel)
theorem i_Sw_holdData_1 : mj_Snd zG ("StreamWatch", "holdData", c_Sw_holdData, 3) 1 (x_istore 2) 2 := mj_istore_n (j := 2) rfl (by decide) (by decide +kernel)
theorem i_Sw_holdData_2 : mj_Snd zG ("StreamWatch", "holdData", c_Sw_holdData, 3) 2 (x_iload 2) 3 := mj_iload_n (j := 2) rfl (by decide +kernel)
theorem i_Sw_holdData_3 : mj_Snd zG ("StreamWatch", "holdData", c_Sw_holdData, 3) 3 (x_aload 0) 4 := mj_aload_n (j := 0) rfl (by decide +kernel)
theorem i_Sw_holdData_4 : mj_Snd zG ("StreamWatch", "holdData", c_Sw_holdData, 3) 4 (x_getf 10 2) 7 := mj_getf (T := T_Sw) rfl (by decide) u_Sw z1_214 (by decide +kernel)
theorem i_Sw_holdData_7 : mj_Snd zG ("StreamWatch", "holdData", c_Sw_holdData, 3) 7 (x_getf 5 6) 10 := mj_getf (T := T_Pk) rfl (by decide) u_Pk z1_60 (by decide +kernel)
theorem d_Sw_holdData_10 : decode c_Sw_holdData 10 = .ok (.if_icmp .ge 42, 3) := by decide +kernel
theorem i_Sw_holdData_13 : mj_Snd zG ("StreamWatch", "holdData", c_Sw_holdData, 3) 13 (x_aload 1) 14 := mj_aload_n (j := 1) rfl (by decide +kernel)
theorem i_Sw_holdData_14 : mj_Snd zG ("StreamWatch", "holdData", c_Sw_holdData, 3) 14 (x_aload 0) 15 := mj_aload_n (j := 0) rfl (by decide +kernel)
theorem i_Sw_holdData_15 : mj_Snd zG ("StreamWatch", "holdData", c_Sw_holdData, 3) 15 (x_getf 10 2) 18 := mj_getf (T := T_Sw) rfl (by decide) u_Sw z1_214 (by decide +kernel)
theorem i_Sw_holdData_18 : mj_Snd zG ("StreamWatch", "holdData", c_Sw_holdData, 3) 18 (x_getf 5 4) 21 := mj_getf (T := T_Pk) rfl (by decide) u_Pk z1_56 (by decide +kernel)
theorem i_Sw_holdData_21 : mj_Snd zG ("StreamWatch", "holdData", c_Sw_holdData, 3) 21 (x_iload 2) 22 := mj_iload_n (j := 2) rfl (by decide +kernel)
theorem i_Sw_holdData_22 : mj_Snd zG ("StreamWatch", "holdData", c_Sw_holdData, 3) 22 (x_iadd) 23 := mj_iadd (by decide +kernel)
theorem i_Sw_holdData_23 : mj_Snd zG ("StreamWatch", "holdData", c_Sw_holdData, 3) 23 (x_aload 0) 24 := mj_aload_n (j := 0) rfl (by decide +kernel)
theorem i_Sw_holdData_24 : mj_Snd zG ("StreamWatch", "holdData", c_Sw_holdData, 3) 24 (x_getf 10 1) 27 := mj_getf (T := T_Sw) rfl (by decide) u_Sw z1_213 (by decide +kernel)
theorem i_Sw_holdData_27 : mj_Snd zG ("StreamWatch", "holdData", c_Sw_holdData, 3) 27 (x_aload 0) 28 := mj_aload_n (j := 0) rfl (by decide +kernel)
theorem i_Sw_holdData_28 : mj_Snd zG ("StreamWatch", "holdData", c_Sw_holdData, 3) 28 (x_getf 10 2) 31 := mj_getf (T := T_Sw) rfl (by decide) u_Sw z1_214 (by decide +kernel)
theorem i_Sw_holdData_31 : mj_Snd zG ("StreamWatch", "holdData", c_Sw_holdData, 3) 31 (x_getf 5 5) 34 := mj_getf (T := T_Pk) rfl (by decide) u_Pk z1_58 (by decide +kernel)
theorem i_Sw_holdData_34 : mj_Snd zG ("StreamWatch", "holdData", c_Sw_holdData, 3) 34 (x_iload 2) 35 := mj_iload_n (j := 2) rfl (by decide +kernel)
theorem i_Sw_holdData_35 : mj_Snd zG ("StreamWatch", "holdData", c_Sw_holdData, 3) 35 (x_iadd) 36 := mj_iadd (by decide +kernel)
theorem d_Sw_holdData_36 : decode c_Sw_holdData 36 = .ok (.invokevirtual 103, 3) := by decide +kernel
theorem i_Sw_holdData_39 : mj_Snd zG ("StreamWatch", "holdData", c_Sw_holdData, 3) 39 (x_aload 0) 40 := mj_aload_n (j := 0) rfl (by decide +kernel)
theorem i_Sw_holdData_40 : mj_Snd zG ("StreamWatch", "holdData", c_Sw_holdData, 3) 40 (x_getf 10 0) 43 := mj_getf (T := T_Sw) rfl (by decide) u_Sw z1_212 (by decide +kernel)
theorem d_Sw_holdData_43 : decode c_Sw_holdData 43 = .ok (.invokevirtual 272, 3) := by decide +kernel
theorem i_Sw_holdData_46 : mj_Snd zG ("StreamWatch", "holdData", c_Sw_holdData, 3) 46 (x_iinc 2 1) 49 := mj_iinc (n := 1) (by decide) (by decide) (by decide +kernel)
theorem i_Sw_holdData_49 : mj_Snd zG ("StreamWatch", "holdData", c_Sw_holdData, 3) 49 (x_skip) 2 := mj_goto (off := (-47)) (by decide) (by decide +kernel)
theorem d_Sw_holdData_52 : decode c_Sw_holdData 52 = .ok (.return_, 1) := by decide +kernel
theorem b_Sw_holdData_0 : mj_Ch zG ("StreamWatch", "holdData", c_Sw_holdData, 3) 0 [x_const 0, x_istore 2] 2 := ⟨_, i_Sw_holdData_0, _, i_Sw_holdData_1, rfl⟩
theorem b_Sw_holdData_2 : mj_Ch zG ("StreamWatch", "holdData", c_Sw_holdData, 3) 2 [x_iload 2, x_aload 0, x_getf 10 2, x_getf 5 6] 10 := ⟨_, i_Sw_holdData_2, _, i_Sw_holdData_3, _, i_Sw_holdData_4, _, i_Sw_holdData_7, rfl⟩
theorem b_Sw_holdData_13 : mj_Ch zG ("StreamWatch", "holdData", c_Sw_holdData, 3) 13 [x_aload 1, x_aload 0, x_getf 10 2, x_getf 5 4, x_iload 2, x_iadd, x_aload 0, x_getf 10 1, x_aload 0, x_getf 10 2, x_getf 5 5, x_iload 2, x_iadd] 36 := ⟨_, i_Sw_holdData_13, _, i_Sw_holdData_14, _, i_Sw_holdData_15, _, i_Sw_holdData_18, _, i_Sw_holdData_21, _, i_Sw_holdData_22, _, i_Sw_holdData_23, _, i_Sw_holdData_24, _, i_Sw_holdData_27, _, i_Sw_holdData_28, _, i_Sw_holdData_31, _, i_Sw_holdData_34, _, i_Sw_holdData_35, rfl⟩
theorem b_Sw_holdData_39 : mj_Ch zG ("StreamWatch", "holdData", c_Sw_holdData, 3) 39 [x_aload 0, x_getf 10 0] 43 := ⟨_, i_Sw_holdData_39, _, i_Sw_holdData_40, rfl⟩
theorem b_Sw_holdData_46 : mj_Ch zG ("StreamWatch", "holdData", c_Sw_holdData, 3) 46 [x_iinc 2 1, x_skip] 2 := ⟨_, i_Sw_holdData_46, _, i_Sw_holdData_49, rfl⟩
theorem i_Sw_raiseAlerts_0 : mj_Snd zG ("StreamWatch", "raiseAlerts", c_Sw_raiseAlerts, 6) 0 (x_const 0) 1 := mj_const (n := 0) (by decide) (by decide +kernel)
theorem i_Sw_raiseAlerts_1 : mj_Snd zG ("StreamWatch", "raiseAlerts", c_Sw_raiseAlerts, 6) 1 (x_istore 4) 3 := mj_istore (by decide) (by decide +kernel)
theorem i_Sw_raiseAlerts_3 : mj_Snd zG ("StreamWatch", "raiseAlerts", c_Sw_raiseAlerts, 6) 3 (x_iload 4) 5 := mj_iload (by decide +kernel)
theorem i_Sw_raiseAlerts_5 : mj_Snd zG ("StreamWatch", "raiseAlerts", c_Sw_raiseAlerts, 6) 5 (x_aload 0) 6 := mj_aload_n (j := 0) rfl (by decide +kernel)
theorem i_Sw_raiseAlerts_6 : mj_Snd zG ("StreamWatch", "raiseAlerts", c_Sw_raiseAlerts, 6) 6 (x_getf 10 7) 9 := mj_getf (T := T_Sw) rfl (by decide) u_Sw z1_219 (by decide +kernel)
theorem d_Sw_raiseAlerts_9 : decode c_Sw_raiseAlerts 9 = .ok (.if_icmp .ge 84, 3) := by decide +kernel
theorem i_Sw_raiseAlerts_12 : mj_Snd zG ("StreamWatch", "raiseAlerts", c_Sw_raiseAlerts, 6) 12 (x_aload 0) 13 := mj_aload_n (j := 0) rfl (by decide +kernel)
theorem i_Sw_raiseAlerts_13 : mj_Snd zG ("StreamWatch", "raiseAlerts", c_Sw_raiseAlerts, 6) 13 (x_iload 4) 15 := mj_iload (by decide +kernel)
theorem d_Sw_raiseAlerts_15 : decode c_Sw_raiseAlerts 15 = .ok (.invokevirtual 159, 3) := by decide +kernel
theorem i_Sw_raiseAlerts_18 : mj_Snd zG ("StreamWatch", "raiseAlerts", c_Sw_raiseAlerts, 6) 18 (x_astore 5) 20 := mj_astore (by decide) (by decide +kernel)
theorem i_Sw_raiseAlerts_20 : mj_Snd zG ("StreamWatch", "raiseAlerts", c_Sw_raiseAlerts, 6) 20 (x_aload 5) 22 := mj_aload (by decide +kernel)
theorem d_Sw_raiseAlerts_22 : decode c_Sw_raiseAlerts 22 = .ok (.ifnull 65, 3) := by decide +kernel
theorem i_Sw_raiseAlerts_25 : mj_Snd zG ("StreamWatch", "raiseAlerts", c_Sw_raiseAlerts, 6) 25 (x_aload 5) 27 := mj_aload (by decide +kernel)
theorem i_Sw_raiseAlerts_27 : mj_Snd zG ("StreamWatch", "raiseAlerts", c_Sw_raiseAlerts, 6) 27 (x_iload 3) 28 := mj_iload_n (j := 3) rfl (by decide +kernel)
theorem i_Sw_raiseAlerts_28 : mj_Snd zG ("StreamWatch", "raiseAlerts", c_Sw_raiseAlerts, 6) 28 (x_aload 1) 29 := mj_aload_n (j := 1) rfl (by decide +kernel)
theorem i_Sw_raiseAlerts_29 : mj_Snd zG ("StreamWatch", "raiseAlerts", c_Sw_raiseAlerts, 6) 29 (x_getf 1 3) 32 := mj_getf (T := T_Fl) rfl (by decide) u_Fl z1_134 (by decide +kernel)
theorem d_Sw_raiseAlerts_32 : decode c_Sw_raiseAlerts 32 = .ok (.invokevirtual 276, 3) := by decide +kernel
theorem d_Sw_raiseAlerts_35 : decode c_Sw_raiseAlerts 35 = .ok (.ifCond .eq 52, 3) := by decide +kernel
theorem i_Sw_raiseAlerts_38 : mj_Snd zG ("StreamWatch", "raiseAlerts", c_Sw_raiseAlerts, 6) 38 (x_aload 2) 39 := mj_aload_n (j := 2) rfl (by decide +kernel)
theorem i_Sw_raiseAlerts_39 : mj_Snd zG ("StreamWatch", "raiseAlerts", c_Sw_raiseAlerts, 6) 39 (x_iload 4) 41 := mj_iload (by decide +kernel)
theorem d_Sw_raiseAlerts_41 : decode c_Sw_raiseAlerts 41 = .ok (.invokevirtual 279, 3) := by decide +kernel
theorem d_Sw_raiseAlerts_44 : decode c_Sw_raiseAlerts 44 = .ok (.ifCond .eq 6, 3) := by decide +kernel
theorem i_Sw_raiseAlerts_47 : mj_Snd zG ("StreamWatch", "raiseAlerts", c_Sw_raiseAlerts, 6) 47 (x_skip) 87 := mj_goto (off := 40) (by decide) (by decide +kernel)
theorem i_Sw_raiseAlerts_50 : mj_Snd zG ("StreamWatch", "raiseAlerts", c_Sw_raiseAlerts, 6) 50 (x_aload 0) 51 := mj_aload_n (j := 0) rfl (by decide +kernel)
theorem i_Sw_raiseAlerts_51 : mj_Snd zG ("StreamWatch", "raiseAlerts", c_Sw_raiseAlerts, 6) 51 (x_getf 10 5) 54 := mj_getf (T := T_Sw) rfl (by decide) u_Sw z1_217 (by decide +kernel)
theorem i_Sw_raiseAlerts_54 : mj_Snd zG ("StreamWatch", "raiseAlerts", c_Sw_raiseAlerts, 6) 54 (x_aload 5) 56 := mj_aload (by decide +kernel)
theorem i_Sw_raiseAlerts_56 : mj_Snd zG ("StreamWatch", "raiseAlerts", c_Sw_raiseAlerts, 6) 56 (x_aload 2) 57 := mj_aload_n (j := 2) rfl (by decide +kernel)
theorem d_Sw_raiseAlerts_57 : decode c_Sw_raiseAlerts 57 = .ok (.invokevirtual 282, 3) := by decide +kernel
theorem d_Sw_raiseAlerts_60 : decode c_Sw_raiseAlerts 60 = .ok (.ifCond .eq 27, 3) := by decide +kernel
theorem i_Sw_raiseAlerts_63 : mj_Snd zG ("StreamWatch", "raiseAlerts", c_Sw_raiseAlerts, 6) 63 (x_aload 2) 64 := mj_aload_n (j := 2) rfl (by decide +kernel)
theorem i_Sw_raiseAlerts_64 : mj_Snd zG ("StreamWatch", "raiseAlerts", c_Sw_raiseAlerts, 6) 64 (x_iload 4) 66 := mj_iload (by decide +kernel)
theorem d_Sw_raiseAlerts_66 : decode c_Sw_raiseAlerts 66 = .ok (.invokevirtual 286, 3) := by decide +kernel
theorem i_Sw_raiseAlerts_69 : mj_Snd zG ("StreamWatch", "raiseAlerts", c_Sw_raiseAlerts, 6) 69 (x_aload 0) 70 := mj_aload_n (j := 0) rfl (by decide +kernel)
theorem i_Sw_raiseAlerts_70 : mj_Snd zG ("StreamWatch", "raiseAlerts", c_Sw_raiseAlerts, 6) 70 (x_getf 10 6) 73 := mj_getf (T := T_Sw) rfl (by decide) u_Sw z1_218 (by decide +kernel)
theorem i_Sw_raiseAlerts_73 : mj_Snd zG ("StreamWatch", "raiseAlerts", c_Sw_raiseAlerts, 6) 73 (x_iload 4) 75 := mj_iload (by decide +kernel)
theorem i_Sw_raiseAlerts_75 : mj_Snd zG ("StreamWatch", "raiseAlerts", c_Sw_raiseAlerts, 6) 75 (x_aload 1) 76 := mj_aload_n (j := 1) rfl (by decide +kernel)
theorem i_Sw_raiseAlerts_76 : mj_Snd zG ("StreamWatch", "raiseAlerts", c_Sw_raiseAlerts, 6) 76 (x_getf 1 1) 79 := mj_getf (T := T_Fl) rfl (by decide) u_Fl z1_130 (by decide +kernel)
theorem i_Sw_raiseAlerts_79 : mj_Snd zG ("StreamWatch", "raiseAlerts", c_Sw_raiseAlerts, 6) 79 (x_iload 3) 80 := mj_iload_n (j := 3) rfl (by decide +kernel)
theorem i_Sw_raiseAlerts_80 : mj_Snd zG ("StreamWatch", "raiseAlerts", c_Sw_raiseAlerts, 6) 80 (x_aload 2) 81 := mj_aload_n (j := 2) rfl (by decide +kernel)
theorem d_Sw_raiseAlerts_81 : decode c_Sw_raiseAlerts 81 = .ok (.invokevirtual 200, 3) := by decide +kernel
theorem d_Sw_raiseAlerts_84 : decode c_Sw_raiseAlerts 84 = .ok (.invokevirtual 289, 3) := by decide +kernel
theorem i_Sw_raiseAlerts_87 : mj_Snd zG ("StreamWatch", "raiseAlerts", c_Sw_raiseAlerts, 6) 87 (x_iinc 4 1) 90 := mj_iinc (n := 1) (by decide) (by decide) (by decide +kernel)
theorem i_Sw_raiseAlerts_90 : mj_Snd zG ("StreamWatch", "raiseAlerts", c_Sw_raiseAlerts, 6) 90 (x_skip) 3 := mj_goto (off := (-87)) (by decide) (by decide +kernel)
theorem d_Sw_raiseAlerts_93 : decode c_Sw_raiseAlerts 93 = .ok (.return_, 1) := by decide +kernel
theorem b_Sw_raiseAlerts_0 : mj_Ch zG ("StreamWatch", "raiseAlerts", c_Sw_raiseAlerts, 6) 0 [x_const 0, x_istore 4] 3 := ⟨_, i_Sw_raiseAlerts_0, _, i_Sw_raiseAlerts_1, rfl⟩
theorem b_Sw_raiseAlerts_3 : mj_Ch zG ("StreamWatch", "raiseAlerts", c_Sw_raiseAlerts, 6) 3 [x_iload 4, x_aload 0, x_getf 10 7] 9 := ⟨_, i_Sw_raiseAlerts_3, _, i_Sw_raiseAlerts_5, _, i_Sw_raiseAlerts_6, rfl⟩
theorem b_Sw_raiseAlerts_12 : mj_Ch zG ("StreamWatch", "raiseAlerts", c_Sw_raiseAlerts, 6) 12 [x_aload 0, x_iload 4] 15 := ⟨_, i_Sw_raiseAlerts_12, _, i_Sw_raiseAlerts_13, rfl⟩
theorem b_Sw_raiseAlerts_18 : mj_Ch zG ("StreamWatch", "raiseAlerts", c_Sw_raiseAlerts, 6) 18 [x_astore 5, x_aload 5] 22 := ⟨_, i_Sw_raiseAlerts_18, _, i_Sw_raiseAlerts_20, rfl⟩
theorem b_Sw_raiseAlerts_25 : mj_Ch zG ("StreamWatch", "raiseAlerts", c_Sw_raiseAlerts, 6) 25 [x_aload 5, x_iload 3, x_aload 1, x_getf 1 3] 32 := ⟨_, i_Sw_raiseAlerts_25, _, i_Sw_raiseAlerts_27, _, i_Sw_raiseAlerts_28, _, i_Sw_raiseAlerts_29, rfl⟩
theorem b_Sw_raiseAlerts_38 : mj_Ch zG ("StreamWatch", "raiseAlerts", c_Sw_raiseAlerts, 6) 38 [x_aload 2, x_iload 4] 41 := ⟨_, i_Sw_raiseAlerts_38, _, i_Sw_raiseAlerts_39, rfl⟩
theorem b_Sw_raiseAlerts_47 : mj_Ch zG ("StreamWatch", "raiseAlerts", c_Sw_raiseAlerts, 6) 47 [x_skip] 87 := ⟨_, i_Sw_raiseAlerts_47, rfl⟩
theorem b_Sw_raiseAlerts_50 : mj_Ch zG ("StreamWatch", "raiseAlerts", c_Sw_raiseAlerts, 6) 50 [x_aload 0, x_getf 10 5, x_aload 5, x_aload 2] 57 := ⟨_, i_Sw_raiseAlerts_50, _, i_Sw_raiseAlerts_51, _, i_Sw_raiseAlerts_54, _, i_Sw_raiseAlerts_56, rfl⟩
theorem b_Sw_raiseAlerts_63 : mj_Ch zG ("StreamWatch", "raiseAlerts", c_Sw_raiseAlerts, 6) 63 [x_aload 2, x_iload 4] 66 := ⟨_, i_Sw_raiseAlerts_63, _, i_Sw_raiseAlerts_64, rfl⟩
theorem b_Sw_raiseAlerts_69 : mj_Ch zG ("StreamWatch", "raiseAlerts", c_Sw_raiseAlerts, 6) 69 [x_aload 0, x_getf 10 6, x_iload 4, x_aload 1, x_getf 1 1, x_iload 3, x_aload 2] 81 := ⟨_, i_Sw_raiseAlerts_69, _, i_Sw_raiseAlerts_70, _, i_Sw_raiseAlerts_73, _, i_Sw_raiseAlerts_75, _, i_Sw_raiseAlerts_76, _, i_Sw_raiseAlerts_79, _, i_Sw_raiseAlerts_80, rfl⟩
theorem b_Sw_raiseAlerts_87 : mj_Ch zG ("StreamWatch", "raiseAlerts", c_Sw_raiseAlerts, 6) 87 [x_iinc 4 1, x_skip] 3 := ⟨_, i_Sw_raiseAlerts_87, _, i_Sw_raiseAlerts_90, rfl⟩
theorem i_Sw_ruleAt_0 : mj_Snd zG ("StreamWatch", "ruleAt", c_Sw_ruleAt, 2) 0 (x_iload 1) 1 := mj_iload_n (j := 1) rfl (by decide +kernel)
theorem d_Sw_ruleAt_1 : decode c_Sw_ruleAt 1 = .ok (.ifCond .lt 20, 3) := by decide +kernel
theorem i_Sw_ruleAt_4 : mj_Snd zG ("StreamWatch", "ruleAt", c_Sw_ruleAt, 2) 4 (x_iload 1) 5 := mj_iload_n (j := 1) rfl (by decide +kernel)
theorem i_Sw_ruleAt_5 : mj_Snd zG ("StreamWatch", "ruleAt", c_Sw_ruleAt, 2) 5 (x_aload 0) 6 := mj_aload_n (j := 0) rfl (by decide +kernel)
theorem i_Sw_ruleAt_6 : mj_Snd zG ("StreamWatch", "ruleAt", c_Sw_ruleAt, 2) 6 (x_getf 10 7) 9 := mj_getf (T := T_Sw) rfl (by decide) u_Sw z1_219 (by decide +kernel)
theorem d_Sw_ruleAt_9 : decode c_Sw_ruleAt 9 = .ok (.if_icmp .ge 12, 3) := by decide +kernel
theorem i_Sw_ruleAt_12 : mj_Snd zG ("StreamWatch", "ruleAt", c_Sw_ruleAt, 2) 12 (x_aload 0) 13 := mj_aload_n (j := 0) rfl (by decide +kernel)
theorem i_Sw_ruleAt_13 : mj_Snd zG ("StreamWatch", "ruleAt", c_Sw_ruleAt, 2) 13 (x_getf 10 4) 16 := mj_getf (T := T_Sw) rfl (by decide) u_Sw z1_216 (by decide +kernel)
theorem i_Sw_ruleAt_16 : mj_Snd zG ("StreamWatch", "ruleAt", c_Sw_ruleAt, 2) 16 (x_iload 1) 17 := mj_iload_n (j := 1) rfl (by decide +kernel)
theorem i_Sw_ruleAt_17 : mj_Snd zG ("StreamWatch", "ruleAt", c_Sw_ruleAt, 2) 17 (x_aald 4) 18 := mj_aald rfl (by decide +kernel)
theorem i_Sw_ruleAt_18 : mj_Snd zG ("StreamWatch", "ruleAt", c_Sw_ruleAt, 2) 18 (x_skip) 22 := mj_goto (off := 4) (by decide) (by decide +kernel)
theorem i_Sw_ruleAt_21 : mj_Snd zG ("StreamWatch", "ruleAt", c_Sw_ruleAt, 2) 21 (x_null) 22 := mj_null (by decide +kernel)
theorem d_Sw_ruleAt_22 : decode c_Sw_ruleAt 22 = .ok (.areturn, 1) := by decide +kernel
theorem b_Sw_ruleAt_0 : mj_Ch zG ("StreamWatch", "ruleAt", c_Sw_ruleAt, 2) 0 [x_iload 1] 1 := ⟨_, i_Sw_ruleAt_0, rfl⟩
theorem b_Sw_ruleAt_4 : mj_Ch zG ("StreamWatch", "ruleAt", c_Sw_ruleAt, 2) 4 [x_iload 1, x_aload 0, x_getf 10 7] 9 := ⟨_, i_Sw_ruleAt_4, _, i_Sw_ruleAt_5, _, i_Sw_ruleAt_6, rfl⟩
theorem b_Sw_ruleAt_12 : mj_Ch zG ("StreamWatch", "ruleAt", c_Sw_ruleAt, 2) 12 [x_aload 0, x_getf 10 4, x_iload 1, x_aald 4, x_skip] 22 := ⟨_, i_Sw_ruleAt_12, _, i_Sw_ruleAt_13, _, i_Sw_ruleAt_16, _, i_Sw_ruleAt_17, _, i_Sw_ruleAt_18, rfl⟩
theorem b_Sw_ruleAt_21 : mj_Ch zG ("StreamWatch", "ruleAt", c_Sw_ruleAt, 2) 21 [x_null] 22 := ⟨_, i_Sw_ruleAt_21, rfl⟩
theorem i_Sw_streamAt_0 : mj_Snd zG ("StreamWatch", "streamAt", c_Sw_streamAt, 4) 0 (x_aload 0) 1 := mj_aload_n (j := 0) rfl (by decide +kernel)
theorem i_Sw_streamAt_1 : mj_Snd zG ("StreamWatch", "streamAt", c_Sw_streamAt, 4) 1 (x_getf 10 3) 4 := mj_getf (T := T_Sw) rfl (by decide) u_Sw z1_215 (by decide +kernel)
theorem i_Sw_streamAt_4 : mj_Snd zG ("StreamWatch", "streamAt", c_Sw_streamAt, 4) 4 (x_iload 1) 5 := mj_iload_n (j := 1) rfl (by decide +kernel)
theorem d_Sw_streamAt_5 : decode c_Sw_streamAt 5 = .ok (.invokevirtual 177, 3) := by decide +kernel
theorem i_Sw_streamAt_8 : mj_Snd zG ("StreamWatch", "streamAt", c_Sw_streamAt, 4) 8 (x_astore 3) 9 := mj_astore_n (j := 3) rfl (by decide) (by decide +kernel)
theorem i_Sw_streamAt_9 : mj_Snd zG ("StreamWatch", "streamAt", c_Sw_streamAt, 4) 9 (x_aload 3) 10 := mj_aload_n (j := 3) rfl (by decide +kernel)
theorem d_Sw_streamAt_10 : decode c_Sw_streamAt 10 = .ok (.ifnonnull 7, 3) := by decide +kernel
theorem i_Sw_streamAt_13 : mj_Snd zG ("StreamWatch", "streamAt", c_Sw_streamAt, 4) 13 (x_null) 14 := mj_null (by decide +kernel)
theorem i_Sw_streamAt_14 : mj_Snd zG ("StreamWatch", "streamAt", c_Sw_streamAt, 4) 14 (x_skip) 22 := mj_goto (off := 8) (by decide) (by decide +kernel)
theorem i_Sw_streamAt_17 : mj_Snd zG ("StreamWatch", "streamAt", c_Sw_streamAt, 4) 17 (x_aload 3) 18 := mj_aload_n (j := 3) rfl (by decide +kernel)
theorem i_Sw_streamAt_18 : mj_Snd zG ("StreamWatch", "streamAt", c_Sw_streamAt, 4) 18 (x_iload 2) 19 := mj_iload_n (j := 2) rfl (by decide +kernel)
theorem d_Sw_streamAt_19 : decode c_Sw_streamAt 19 = .ok (.invokevirtual 235, 3) := by decide +kernel
theorem d_Sw_streamAt_22 : decode c_Sw_streamAt 22 = .ok (.areturn, 1) := by decide +kernel
theorem b_Sw_streamAt_0 : mj_Ch zG ("StreamWatch", "streamAt", c_Sw_streamAt, 4) 0 [x_aload 0, x_getf 10 3, x_iload 1] 5 := ⟨_, i_Sw_streamAt_0, _, i_Sw_streamAt_1, _, i_Sw_streamAt_4, rfl⟩
theorem b_Sw_streamAt_8 : mj_Ch zG ("StreamWatch", "streamAt", c_Sw_streamAt, 4) 8 [x_astore 3, x_aload 3] 10 := ⟨_, i_Sw_streamAt_8, _, i_Sw_streamAt_9, rfl⟩
theorem b_Sw_streamAt_13 : mj_Ch zG ("StreamWatch", "streamAt", c_Sw_streamAt, 4) 13 [x_null, x_skip] 22 := ⟨_, i_Sw_streamAt_13, _, i_Sw_streamAt_14, rfl⟩
theorem b_Sw_streamAt_17 : mj_Ch zG ("StreamWatch", "streamAt", c_Sw_streamAt, 4) 17 [x_aload 3, x_iload 2] 19 := ⟨_, i_Sw_streamAt_17, _, i_Sw_streamAt_18, rfl⟩

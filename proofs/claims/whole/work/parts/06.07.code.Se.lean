theorem i_Se_init_0 : mj_Snd zG ("StreamWatch$Search", "<init>", c_Se_init, 1) 0 (x_aload 0) 1 := mj_aload_n (j := 0) rfl (by decide +kernel)
theorem d_Se_init_1 : decode c_Se_init 1 = .ok (.invokespecial 1, 3) := by decide +kernel
theorem i_Se_init_4 : mj_Snd zG ("StreamWatch$Search", "<init>", c_Se_init, 1) 4 (x_aload 0) 5 := mj_aload_n (j := 0) rfl (by decide +kernel)
theorem d_Se_init_5 : decode c_Se_init 5 = .ok (.new 7, 3) := by decide +kernel
theorem i_Se_init_8 : mj_Snd zG ("StreamWatch$Search", "<init>", c_Se_init, 1) 8 (x_dup) 9 := mj_dup (by decide +kernel)
theorem d_Se_init_9 : decode c_Se_init 9 = .ok (.invokespecial 9, 3) := by decide +kernel
theorem i_Se_init_12 : mj_Snd zG ("StreamWatch$Search", "<init>", c_Se_init, 1) 12 (x_putf 7 0 3) 15 := mj_putG (T := T_Se) (ty0 := t_Se) rfl (by decide) u_Se t_Se_ok n_Se z1_189 (Or.inr ⟨rfl, rfl, rfl⟩) (by decide +kernel)
theorem i_Se_init_15 : mj_Snd zG ("StreamWatch$Search", "<init>", c_Se_init, 1) 15 (x_aload 0) 16 := mj_aload_n (j := 0) rfl (by decide +kernel)
theorem d_Se_init_16 : decode c_Se_init 16 = .ok (.new 7, 3) := by decide +kernel
theorem i_Se_init_19 : mj_Snd zG ("StreamWatch$Search", "<init>", c_Se_init, 1) 19 (x_dup) 20 := mj_dup (by decide +kernel)
theorem d_Se_init_20 : decode c_Se_init 20 = .ok (.invokespecial 9, 3) := by decide +kernel
theorem i_Se_init_23 : mj_Snd zG ("StreamWatch$Search", "<init>", c_Se_init, 1) 23 (x_putf 7 1 3) 26 := mj_putG (T := T_Se) (ty0 := t_Se) rfl (by decide) u_Se t_Se_ok n_Se z1_190 (Or.inr ⟨rfl, rfl, rfl⟩) (by decide +kernel)
theorem d_Se_init_26 : decode c_Se_init 26 = .ok (.return_, 1) := by decide +kernel
theorem b_Se_init_0 : mj_Ch zG ("StreamWatch$Search", "<init>", c_Se_init, 1) 0 [x_aload 0] 1 := ⟨_, i_Se_init_0, rfl⟩
theorem b_Se_init_4 : mj_Ch zG ("StreamWatch$Search", "<init>", c_Se_init, 1) 4 [x_aload 0] 5 := ⟨_, i_Se_init_4, rfl⟩
theorem b_Se_init_8 : mj_Ch zG ("StreamWatch$Search", "<init>", c_Se_init, 1) 8 [x_dup] 9 := ⟨_, i_Se_init_8, rfl⟩
theorem b_Se_init_12 : mj_Ch zG ("StreamWatch$Search", "<init>", c_Se_init, 1) 12 [x_putf 7 0 3, x_aload 0] 16 := ⟨_, i_Se_init_12, _, i_Se_init_15, rfl⟩
theorem b_Se_init_19 : mj_Ch zG ("StreamWatch$Search", "<init>", c_Se_init, 1) 19 [x_dup] 20 := ⟨_, i_Se_init_19, rfl⟩
theorem b_Se_init_23 : mj_Ch zG ("StreamWatch$Search", "<init>", c_Se_init, 1) 23 [x_putf 7 1 3] 26 := ⟨_, i_Se_init_23, rfl⟩
theorem i_Se_holds_0 : mj_Snd zG ("StreamWatch$Search", "holds", c_Se_holds, 7) 0 (x_aload 2) 1 := mj_aload_n (j := 2) rfl (by decide +kernel)
theorem d_Se_holds_1 : decode c_Se_holds 1 = .ok (.invokevirtual 19, 3) := by decide +kernel
theorem i_Se_holds_4 : mj_Snd zG ("StreamWatch$Search", "holds", c_Se_holds, 7) 4 (x_istore 3) 5 := mj_istore_n (j := 3) rfl (by decide) (by decide +kernel)
theorem i_Se_holds_5 : mj_Snd zG ("StreamWatch$Search", "holds", c_Se_holds, 7) 5 (x_aload 0) 6 := mj_aload_n (j := 0) rfl (by decide +kernel)
theorem i_Se_holds_6 : mj_Snd zG ("StreamWatch$Search", "holds", c_Se_holds, 7) 6 (x_getf 7 0) 9 := mj_getf (T := T_Se) rfl (by decide) u_Se z1_189 (by decide +kernel)
theorem i_Se_holds_9 : mj_Snd zG ("StreamWatch$Search", "holds", c_Se_holds, 7) 9 (x_iload 3) 10 := mj_iload_n (j := 3) rfl (by decide +kernel)
theorem d_Se_holds_10 : decode c_Se_holds 10 = .ok (.invokevirtual 25, 3) := by decide +kernel
theorem i_Se_holds_13 : mj_Snd zG ("StreamWatch$Search", "holds", c_Se_holds, 7) 13 (x_aload 1) 14 := mj_aload_n (j := 1) rfl (by decide +kernel)
theorem d_Se_holds_14 : decode c_Se_holds 14 = .ok (.invokevirtual 29, 3) := by decide +kernel
theorem d_Se_holds_17 : decode c_Se_holds 17 = .ok (.ifCond .le 7, 3) := by decide +kernel
theorem i_Se_holds_20 : mj_Snd zG ("StreamWatch$Search", "holds", c_Se_holds, 7) 20 (x_const 1) 21 := mj_const (n := 1) (by decide) (by decide +kernel)
theorem i_Se_holds_21 : mj_Snd zG ("StreamWatch$Search", "holds", c_Se_holds, 7) 21 (x_skip) 25 := mj_goto (off := 4) (by decide) (by decide +kernel)
theorem i_Se_holds_24 : mj_Snd zG ("StreamWatch$Search", "holds", c_Se_holds, 7) 24 (x_const 0) 25 := mj_const (n := 0) (by decide) (by decide +kernel)
theorem i_Se_holds_25 : mj_Snd zG ("StreamWatch$Search", "holds", c_Se_holds, 7) 25 (x_istore 4) 27 := mj_istore (by decide) (by decide +kernel)
theorem i_Se_holds_27 : mj_Snd zG ("StreamWatch$Search", "holds", c_Se_holds, 7) 27 (x_const 0) 28 := mj_const (n := 0) (by decide) (by decide +kernel)
theorem i_Se_holds_28 : mj_Snd zG ("StreamWatch$Search", "holds", c_Se_holds, 7) 28 (x_istore 5) 30 := mj_istore (by decide) (by decide +kernel)
theorem i_Se_holds_30 : mj_Snd zG ("StreamWatch$Search", "holds", c_Se_holds, 7) 30 (x_iload 5) 32 := mj_iload (by decide +kernel)
theorem i_Se_holds_32 : mj_Snd zG ("StreamWatch$Search", "holds", c_Se_holds, 7) 32 (x_aload 1) 33 := mj_aload_n (j := 1) rfl (by decide +kernel)
theorem d_Se_holds_33 : decode c_Se_holds 33 = .ok (.invokevirtual 29, 3) := by decide +kernel
theorem d_Se_holds_36 : decode c_Se_holds 36 = .ok (.if_icmp .ge 80, 3) := by decide +kernel
theorem i_Se_holds_39 : mj_Snd zG ("StreamWatch$Search", "holds", c_Se_holds, 7) 39 (x_iload 4) 41 := mj_iload (by decide +kernel)
theorem d_Se_holds_41 : decode c_Se_holds 41 = .ok (.ifCond .eq 75, 3) := by decide +kernel
theorem i_Se_holds_44 : mj_Snd zG ("StreamWatch$Search", "holds", c_Se_holds, 7) 44 (x_aload 1) 45 := mj_aload_n (j := 1) rfl (by decide +kernel)
theorem i_Se_holds_45 : mj_Snd zG ("StreamWatch$Search", "holds", c_Se_holds, 7) 45 (x_iload 5) 47 := mj_iload (by decide +kernel)
theorem d_Se_holds_47 : decode c_Se_holds 47 = .ok (.invokevirtual 32, 3) := by decide +kernel
theorem i_Se_holds_50 : mj_Snd zG ("StreamWatch$Search", "holds", c_Se_holds, 7) 50 (x_astore 6) 52 := mj_astore (by decide) (by decide +kernel)
theorem i_Se_holds_52 : mj_Snd zG ("StreamWatch$Search", "holds", c_Se_holds, 7) 52 (x_aload 6) 54 := mj_aload (by decide +kernel)
theorem d_Se_holds_54 : decode c_Se_holds 54 = .ok (.ifnonnull 5, 3) := by decide +kernel
theorem i_Se_holds_57 : mj_Snd zG ("StreamWatch$Search", "holds", c_Se_holds, 7) 57 (x_const 0) 58 := mj_const (n := 0) (by decide) (by decide +kernel)
theorem d_Se_holds_58 : decode c_Se_holds 58 = .ok (.ireturn, 1) := by decide +kernel
theorem i_Se_holds_59 : mj_Snd zG ("StreamWatch$Search", "holds", c_Se_holds, 7) 59 (x_aload 0) 60 := mj_aload_n (j := 0) rfl (by decide +kernel)
theorem i_Se_holds_60 : mj_Snd zG ("StreamWatch$Search", "holds", c_Se_holds, 7) 60 (x_aload 6) 62 := mj_aload (by decide +kernel)
theorem i_Se_holds_62 : mj_Snd zG ("StreamWatch$Search", "holds", c_Se_holds, 7) 62 (x_aload 2) 63 := mj_aload_n (j := 2) rfl (by decide +kernel)
theorem d_Se_holds_63 : decode c_Se_holds 63 = .ok (.invokevirtual 36, 3) := by decide +kernel
theorem i_Se_holds_66 : mj_Snd zG ("StreamWatch$Search", "holds", c_Se_holds, 7) 66 (x_aload 6) 68 := mj_aload (by decide +kernel)
theorem i_Se_holds_68 : mj_Snd zG ("StreamWatch$Search", "holds", c_Se_holds, 7) 68 (x_getf 4 0) 71 := mj_getf (T := T_Op) rfl (by decide) u_Op z4_29 (by decide +kernel)
theorem d_Se_holds_71 : decode c_Se_holds 71 = .ok (.ifCond .eq 13, 3) := by decide +kernel
theorem i_Se_holds_74 : mj_Snd zG ("StreamWatch$Search", "holds", c_Se_holds, 7) 74 (x_aload 0) 75 := mj_aload_n (j := 0) rfl (by decide +kernel)
theorem i_Se_holds_75 : mj_Snd zG ("StreamWatch$Search", "holds", c_Se_holds, 7) 75 (x_aload 6) 77 := mj_aload (by decide +kernel)
theorem i_Se_holds_77 : mj_Snd zG ("StreamWatch$Search", "holds", c_Se_holds, 7) 77 (x_iload 3) 78 := mj_iload_n (j := 3) rfl (by decide +kernel)
theorem d_Se_holds_78 : decode c_Se_holds 78 = .ok (.invokevirtual 46, 3) := by decide +kernel
theorem i_Se_holds_81 : mj_Snd zG ("StreamWatch$Search", "holds", c_Se_holds, 7) 81 (x_skip) 91 := mj_goto (off := 10) (by decide) (by decide +kernel)
theorem i_Se_holds_84 : mj_Snd zG ("StreamWatch$Search", "holds", c_Se_holds, 7) 84 (x_aload 0) 85 := mj_aload_n (j := 0) rfl (by decide +kernel)
theorem i_Se_holds_85 : mj_Snd zG ("StreamWatch$Search", "holds", c_Se_holds, 7) 85 (x_aload 6) 87 := mj_aload (by decide +kernel)
theorem i_Se_holds_87 : mj_Snd zG ("StreamWatch$Search", "holds", c_Se_holds, 7) 87 (x_iload 3) 88 := mj_iload_n (j := 3) rfl (by decide +kernel)
theorem d_Se_holds_88 : decode c_Se_holds 88 = .ok (.invokevirtual 50, 3) := by decide +kernel
theorem i_Se_holds_91 : mj_Snd zG ("StreamWatch$Search", "holds", c_Se_holds, 7) 91 (x_aload 0) 92 := mj_aload_n (j := 0) rfl (by decide +kernel)
theorem i_Se_holds_92 : mj_Snd zG ("StreamWatch$Search", "holds", c_Se_holds, 7) 92 (x_getf 7 0) 95 := mj_getf (T := T_Se) rfl (by decide) u_Se z1_189 (by decide +kernel)
theorem i_Se_holds_95 : mj_Snd zG ("StreamWatch$Search", "holds", c_Se_holds, 7) 95 (x_iload 3) 96 := mj_iload_n (j := 3) rfl (by decide +kernel)
theorem d_Se_holds_96 : decode c_Se_holds 96 = .ok (.invokevirtual 53, 3) := by decide +kernel
theorem i_Se_holds_99 : mj_Snd zG ("StreamWatch$Search", "holds", c_Se_holds, 7) 99 (x_aload 0) 100 := mj_aload_n (j := 0) rfl (by decide +kernel)
theorem i_Se_holds_100 : mj_Snd zG ("StreamWatch$Search", "holds", c_Se_holds, 7) 100 (x_getf 7 0) 103 := mj_getf (T := T_Se) rfl (by decide) u_Se z1_189 (by decide +kernel)
theorem i_Se_holds_103 : mj_Snd zG ("StreamWatch$Search", "holds", c_Se_holds, 7) 103 (x_const 0) 104 := mj_const (n := 0) (by decide) (by decide +kernel)
theorem i_Se_holds_104 : mj_Snd zG ("StreamWatch$Search", "holds", c_Se_holds, 7) 104 (x_iload 3) 105 := mj_iload_n (j := 3) rfl (by decide +kernel)
theorem d_Se_holds_105 : decode c_Se_holds 105 = .ok (.invokevirtual 56, 3) := by decide +kernel
theorem i_Se_holds_108 : mj_Snd zG ("StreamWatch$Search", "holds", c_Se_holds, 7) 108 (x_istore 4) 110 := mj_istore (by decide) (by decide +kernel)
theorem i_Se_holds_110 : mj_Snd zG ("StreamWatch$Search", "holds", c_Se_holds, 7) 110 (x_iinc 5 1) 113 := mj_iinc (n := 1) (by decide) (by decide) (by decide +kernel)
theorem i_Se_holds_113 : mj_Snd zG ("StreamWatch$Search", "holds", c_Se_holds, 7) 113 (x_skip) 30 := mj_goto (off := (-83)) (by decide) (by decide +kernel)
theorem i_Se_holds_116 : mj_Snd zG ("StreamWatch$Search", "holds", c_Se_holds, 7) 116 (x_iload 4) 118 := mj_iload (by decide +kernel)
theorem d_Se_holds_118 : decode c_Se_holds 118 = .ok (.ireturn, 1) := by decide +kernel
theorem b_Se_holds_0 : mj_Ch zG ("StreamWatch$Search", "holds", c_Se_holds, 7) 0 [x_aload 2] 1 := ⟨_, i_Se_holds_0, rfl⟩
theorem b_Se_holds_4 : mj_Ch zG ("StreamWatch$Search", "holds", c_Se_holds, 7) 4 [x_istore 3, x_aload 0, x_getf 7 0, x_iload 3] 10 := ⟨_, i_Se_holds_4, _, i_Se_holds_5, _, i_Se_holds_6, _, i_Se_holds_9, rfl⟩
theorem b_Se_holds_13 : mj_Ch zG ("StreamWatch$Search", "holds", c_Se_holds, 7) 13 [x_aload 1] 14 := ⟨_, i_Se_holds_13, rfl⟩
theorem b_Se_holds_20 : mj_Ch zG ("StreamWatch$Search", "holds", c_Se_holds, 7) 20 [x_const 1, x_skip] 25 := ⟨_, i_Se_holds_20, _, i_Se_holds_21, rfl⟩
theorem b_Se_holds_24 : mj_Ch zG ("StreamWatch$Search", "holds", c_Se_holds, 7) 24 [x_const 0] 25 := ⟨_, i_Se_holds_24, rfl⟩
theorem b_Se_holds_25 : mj_Ch zG ("StreamWatch$Search", "holds", c_Se_holds, 7) 25 [x_istore 4, x_const 0, x_istore 5] 30 := ⟨_, i_Se_holds_25, _, i_Se_holds_27, _, i_Se_holds_28, rfl⟩
theorem b_Se_holds_30 : mj_Ch zG ("StreamWatch$Search", "holds", c_Se_holds, 7) 30 [x_iload 5, x_aload 1] 33 := ⟨_, i_Se_holds_30, _, i_Se_holds_32, rfl⟩
theorem b_Se_holds_39 : mj_Ch zG ("StreamWatch$Search", "holds", c_Se_holds, 7) 39 [x_iload 4] 41 := ⟨_, i_Se_holds_39, rfl⟩
theorem b_Se_holds_44 : mj_Ch zG ("StreamWatch$Search", "holds", c_Se_holds, 7) 44 [x_aload 1, x_iload 5] 47 := ⟨_, i_Se_holds_44, _, i_Se_holds_45, rfl⟩
theorem b_Se_holds_50 : mj_Ch zG ("StreamWatch$Search", "holds", c_Se_holds, 7) 50 [x_astore 6, x_aload 6] 54 := ⟨_, i_Se_holds_50, _, i_Se_holds_52, rfl⟩
theorem b_Se_holds_57 : mj_Ch zG ("StreamWatch$Search", "holds", c_Se_holds, 7) 57 [x_const 0] 58 := ⟨_, i_Se_holds_57, rfl⟩
theorem b_Se_holds_59 : mj_Ch zG ("StreamWatch$Search", "holds", c_Se_holds, 7) 59 [x_aload 0, x_aload 6, x_aload 2] 63 := ⟨_, i_Se_holds_59, _, i_Se_holds_60, _, i_Se_holds_62, rfl⟩
theorem b_Se_holds_66 : mj_Ch zG ("StreamWatch$Search", "holds", c_Se_holds, 7) 66 [x_aload 6, x_getf 4 0] 71 := ⟨_, i_Se_holds_66, _, i_Se_holds_68, rfl⟩
theorem b_Se_holds_74 : mj_Ch zG ("StreamWatch$Search", "holds", c_Se_holds, 7) 74 [x_aload 0, x_aload 6, x_iload 3] 78 := ⟨_, i_Se_holds_74, _, i_Se_holds_75, _, i_Se_holds_77, rfl⟩
theorem b_Se_holds_81 : mj_Ch zG ("StreamWatch$Search", "holds", c_Se_holds, 7) 81 [x_skip] 91 := ⟨_, i_Se_holds_81, rfl⟩
theorem b_Se_holds_84 : mj_Ch zG ("StreamWatch$Search", "holds", c_Se_holds, 7) 84 [x_aload 0, x_aload 6, x_iload 3] 88 := ⟨_, i_Se_holds_84, _, i_Se_holds_85, _, i_Se_holds_87, rfl⟩
theorem b_Se_holds_91 : mj_Ch zG ("StreamWatch$Search", "holds", c_Se_holds, 7) 91 [x_aload 0, x_getf 7 0, x_iload 3] 96 := ⟨_, i_Se_holds_91, _, i_Se_holds_92, _, i_Se_holds_95, rfl⟩
theorem b_Se_holds_99 : mj_Ch zG ("StreamWatch$Search", "holds", c_Se_holds, 7) 99 [x_aload 0, x_getf 7 0, x_const 0, x_iload 3] 105 := ⟨_, i_Se_holds_99, _, i_Se_holds_100, _, i_Se_holds_103, _, i_Se_holds_104, rfl⟩
theorem b_Se_holds_108 : mj_Ch zG ("StreamWatch$Search", "holds", c_Se_holds, 7) 108 [x_istore 4, x_iinc 5 1, x_skip] 30 := ⟨_, i_Se_holds_108, _, i_Se_holds_110, _, i_Se_holds_113, rfl⟩
theorem b_Se_holds_116 : mj_Ch zG ("StreamWatch$Search", "holds", c_Se_holds, 7) 116 [x_iload 4] 118 := ⟨_, i_Se_holds_116, rfl⟩
theorem i_Se_find_0 : mj_Snd zG ("StreamWatch$Search", "find", c_Se_find, 5) 0 (x_aload 2) 1 := mj_aload_n (j := 2) rfl (by decide +kernel)
theorem d_Se_find_1 : decode c_Se_find 1 = .ok (.invokevirtual 19, 3) := by decide +kernel
theorem i_Se_find_4 : mj_Snd zG ("StreamWatch$Search", "find", c_Se_find, 5) 4 (x_istore 3) 5 := mj_istore_n (j := 3) rfl (by decide) (by decide +kernel)
theorem i_Se_find_5 : mj_Snd zG ("StreamWatch$Search", "find", c_Se_find, 5) 5 (x_const 0) 6 := mj_const (n := 0) (by decide) (by decide +kernel)
theorem i_Se_find_6 : mj_Snd zG ("StreamWatch$Search", "find", c_Se_find, 5) 6 (x_istore 4) 8 := mj_istore (by decide) (by decide +kernel)
theorem i_Se_find_8 : mj_Snd zG ("StreamWatch$Search", "find", c_Se_find, 5) 8 (x_iload 4) 10 := mj_iload (by decide +kernel)
theorem i_Se_find_10 : mj_Snd zG ("StreamWatch$Search", "find", c_Se_find, 5) 10 (x_iload 3) 11 := mj_iload_n (j := 3) rfl (by decide +kernel)
theorem d_Se_find_11 : decode c_Se_find 11 = .ok (.if_icmp .gt 25, 3) := by decide +kernel
theorem i_Se_find_14 : mj_Snd zG ("StreamWatch$Search", "find", c_Se_find, 5) 14 (x_aload 0) 15 := mj_aload_n (j := 0) rfl (by decide +kernel)
theorem i_Se_find_15 : mj_Snd zG ("StreamWatch$Search", "find", c_Se_find, 5) 15 (x_getf 7 1) 18 := mj_getf (T := T_Se) rfl (by decide) u_Se z1_190 (by decide +kernel)
theorem i_Se_find_18 : mj_Snd zG ("StreamWatch$Search", "find", c_Se_find, 5) 18 (x_iload 4) 20 := mj_iload (by decide +kernel)
theorem i_Se_find_20 : mj_Snd zG ("StreamWatch$Search", "find", c_Se_find, 5) 20 (x_aload 1) 21 := mj_aload_n (j := 1) rfl (by decide +kernel)
theorem i_Se_find_21 : mj_Snd zG ("StreamWatch$Search", "find", c_Se_find, 5) 21 (x_iload 4) 23 := mj_iload (by decide +kernel)
theorem i_Se_find_23 : mj_Snd zG ("StreamWatch$Search", "find", c_Se_find, 5) 23 (x_aload 2) 24 := mj_aload_n (j := 2) rfl (by decide +kernel)
theorem d_Se_find_24 : decode c_Se_find 24 = .ok (.invokevirtual 60, 3) := by decide +kernel
theorem d_Se_find_27 : decode c_Se_find 27 = .ok (.invokevirtual 64, 3) := by decide +kernel
theorem i_Se_find_30 : mj_Snd zG ("StreamWatch$Search", "find", c_Se_find, 5) 30 (x_iinc 4 1) 33 := mj_iinc (n := 1) (by decide) (by decide) (by decide +kernel)
theorem i_Se_find_33 : mj_Snd zG ("StreamWatch$Search", "find", c_Se_find, 5) 33 (x_skip) 8 := mj_goto (off := (-25)) (by decide) (by decide +kernel)
theorem i_Se_find_36 : mj_Snd zG ("StreamWatch$Search", "find", c_Se_find, 5) 36 (x_aload 0) 37 := mj_aload_n (j := 0) rfl (by decide +kernel)
theorem i_Se_find_37 : mj_Snd zG ("StreamWatch$Search", "find", c_Se_find, 5) 37 (x_getf 7 1) 40 := mj_getf (T := T_Se) rfl (by decide) u_Se z1_190 (by decide +kernel)
theorem i_Se_find_40 : mj_Snd zG ("StreamWatch$Search", "find", c_Se_find, 5) 40 (x_iload 3) 41 := mj_iload_n (j := 3) rfl (by decide +kernel)
theorem d_Se_find_41 : decode c_Se_find 41 = .ok (.invokevirtual 53, 3) := by decide +kernel
theorem d_Se_find_44 : decode c_Se_find 44 = .ok (.return_, 1) := by decide +kernel
theorem b_Se_find_0 : mj_Ch zG ("StreamWatch$Search", "find", c_Se_find, 5) 0 [x_aload 2] 1 := ⟨_, i_Se_find_0, rfl⟩
theorem b_Se_find_4 : mj_Ch zG ("StreamWatch$Search", "find", c_Se_find, 5) 4 [x_istore 3, x_const 0, x_istore 4] 8 := ⟨_, i_Se_find_4, _, i_Se_find_5, _, i_Se_find_6, rfl⟩
theorem b_Se_find_8 : mj_Ch zG ("StreamWatch$Search", "find", c_Se_find, 5) 8 [x_iload 4, x_iload 3] 11 := ⟨_, i_Se_find_8, _, i_Se_find_10, rfl⟩
theorem b_Se_find_14 : mj_Ch zG ("StreamWatch$Search", "find", c_Se_find, 5) 14 [x_aload 0, x_getf 7 1, x_iload 4, x_aload 1, x_iload 4, x_aload 2] 24 := ⟨_, i_Se_find_14, _, i_Se_find_15, _, i_Se_find_18, _, i_Se_find_20, _, i_Se_find_21, _, i_Se_find_23, rfl⟩
theorem b_Se_find_30 : mj_Ch zG ("StreamWatch$Search", "find", c_Se_find, 5) 30 [x_iinc 4 1, x_skip] 8 := ⟨_, i_Se_find_30, _, i_Se_find_33, rfl⟩
theorem b_Se_find_36 : mj_Ch zG ("StreamWatch$Search", "find", c_Se_find, 5) 36 [x_aload 0, x_getf 7 1, x_iload 3] 41 := ⟨_, i_Se_find_36, _, i_Se_find_37, _, i_Se_find_40, rfl⟩
theorem i_Se_dropBases_0 : mj_Snd zG ("StreamWatch$Search", "dropBases", c_Se_dropBases, 5) 0 (x_const 0) 1 := mj_const (n := 0) (by decide) (by decide +kernel)
theorem i_Se_dropBases_1 : mj_Snd zG ("StreamWatch$Search", "dropBases", c_Se_dropBases, 5) 1 (x_istore 3) 2 := mj_istore_n (j := 3) rfl (by decide) (by decide +kernel)
theorem i_Se_dropBases_2 : mj_Snd zG ("StreamWatch$Search", "dropBases", c_Se_dropBases, 5) 2 (x_iload 3) 3 := mj_iload_n (j := 3) rfl (by decide +kernel)
theorem i_Se_dropBases_3 : mj_Snd zG ("StreamWatch$Search", "dropBases", c_Se_dropBases, 5) 3 (x_iload 2) 4 := mj_iload_n (j := 2) rfl (by decide +kernel)
theorem d_Se_dropBases_4 : decode c_Se_dropBases 4 = .ok (.if_icmp .gt 56, 3) := by decide +kernel
theorem i_Se_dropBases_7 : mj_Snd zG ("StreamWatch$Search", "dropBases", c_Se_dropBases, 5) 7 (x_aload 1) 8 := mj_aload_n (j := 1) rfl (by decide +kernel)
theorem i_Se_dropBases_8 : mj_Snd zG ("StreamWatch$Search", "dropBases", c_Se_dropBases, 5) 8 (x_getf 4 1) 11 := mj_getf (T := T_Op) rfl (by decide) u_Op z4_31 (by decide +kernel)
theorem d_Se_dropBases_11 : decode c_Se_dropBases 11 = .ok (.ifCond .eq 7, 3) := by decide +kernel
theorem i_Se_dropBases_14 : mj_Snd zG ("StreamWatch$Search", "dropBases", c_Se_dropBases, 5) 14 (x_iload 3) 15 := mj_iload_n (j := 3) rfl (by decide +kernel)
theorem i_Se_dropBases_15 : mj_Snd zG ("StreamWatch$Search", "dropBases", c_Se_dropBases, 5) 15 (x_skip) 19 := mj_goto (off := 4) (by decide) (by decide +kernel)
theorem i_Se_dropBases_18 : mj_Snd zG ("StreamWatch$Search", "dropBases", c_Se_dropBases, 5) 18 (x_const 0) 19 := mj_const (n := 0) (by decide) (by decide +kernel)
theorem i_Se_dropBases_19 : mj_Snd zG ("StreamWatch$Search", "dropBases", c_Se_dropBases, 5) 19 (x_istore 4) 21 := mj_istore (by decide) (by decide +kernel)
theorem i_Se_dropBases_21 : mj_Snd zG ("StreamWatch$Search", "dropBases", c_Se_dropBases, 5) 21 (x_aload 0) 22 := mj_aload_n (j := 0) rfl (by decide +kernel)
theorem i_Se_dropBases_22 : mj_Snd zG ("StreamWatch$Search", "dropBases", c_Se_dropBases, 5) 22 (x_getf 7 1) 25 := mj_getf (T := T_Se) rfl (by decide) u_Se z1_190 (by decide +kernel)
theorem i_Se_dropBases_25 : mj_Snd zG ("StreamWatch$Search", "dropBases", c_Se_dropBases, 5) 25 (x_iload 4) 27 := mj_iload (by decide +kernel)
theorem i_Se_dropBases_27 : mj_Snd zG ("StreamWatch$Search", "dropBases", c_Se_dropBases, 5) 27 (x_aload 1) 28 := mj_aload_n (j := 1) rfl (by decide +kernel)
theorem i_Se_dropBases_28 : mj_Snd zG ("StreamWatch$Search", "dropBases", c_Se_dropBases, 5) 28 (x_getf 4 2) 31 := mj_getf (T := T_Op) rfl (by decide) u_Op z4_33 (by decide +kernel)
theorem i_Se_dropBases_31 : mj_Snd zG ("StreamWatch$Search", "dropBases", c_Se_dropBases, 5) 31 (x_iadd) 32 := mj_iadd (by decide +kernel)
theorem i_Se_dropBases_32 : mj_Snd zG ("StreamWatch$Search", "dropBases", c_Se_dropBases, 5) 32 (x_iload 4) 34 := mj_iload (by decide +kernel)
theorem i_Se_dropBases_34 : mj_Snd zG ("StreamWatch$Search", "dropBases", c_Se_dropBases, 5) 34 (x_aload 1) 35 := mj_aload_n (j := 1) rfl (by decide +kernel)
theorem i_Se_dropBases_35 : mj_Snd zG ("StreamWatch$Search", "dropBases", c_Se_dropBases, 5) 35 (x_getf 4 3) 38 := mj_getf (T := T_Op) rfl (by decide) u_Op z4_35 (by decide +kernel)
theorem i_Se_dropBases_38 : mj_Snd zG ("StreamWatch$Search", "dropBases", c_Se_dropBases, 5) 38 (x_iadd) 39 := mj_iadd (by decide +kernel)
theorem d_Se_dropBases_39 : decode c_Se_dropBases 39 = .ok (.invokevirtual 56, 3) := by decide +kernel
theorem d_Se_dropBases_42 : decode c_Se_dropBases 42 = .ok (.ifCond .eq 12, 3) := by decide +kernel
theorem i_Se_dropBases_45 : mj_Snd zG ("StreamWatch$Search", "dropBases", c_Se_dropBases, 5) 45 (x_aload 0) 46 := mj_aload_n (j := 0) rfl (by decide +kernel)
theorem i_Se_dropBases_46 : mj_Snd zG ("StreamWatch$Search", "dropBases", c_Se_dropBases, 5) 46 (x_getf 7 0) 49 := mj_getf (T := T_Se) rfl (by decide) u_Se z1_189 (by decide +kernel)
theorem i_Se_dropBases_49 : mj_Snd zG ("StreamWatch$Search", "dropBases", c_Se_dropBases, 5) 49 (x_iload 3) 50 := mj_iload_n (j := 3) rfl (by decide +kernel)
theorem i_Se_dropBases_50 : mj_Snd zG ("StreamWatch$Search", "dropBases", c_Se_dropBases, 5) 50 (x_const 0) 51 := mj_const (n := 0) (by decide) (by decide +kernel)
theorem d_Se_dropBases_51 : decode c_Se_dropBases 51 = .ok (.invokevirtual 64, 3) := by decide +kernel
theorem i_Se_dropBases_54 : mj_Snd zG ("StreamWatch$Search", "dropBases", c_Se_dropBases, 5) 54 (x_iinc 3 1) 57 := mj_iinc (n := 1) (by decide) (by decide) (by decide +kernel)
theorem i_Se_dropBases_57 : mj_Snd zG ("StreamWatch$Search", "dropBases", c_Se_dropBases, 5) 57 (x_skip) 2 := mj_goto (off := (-55)) (by decide) (by decide +kernel)
theorem d_Se_dropBases_60 : decode c_Se_dropBases 60 = .ok (.return_, 1) := by decide +kernel
theorem b_Se_dropBases_0 : mj_Ch zG ("StreamWatch$Search", "dropBases", c_Se_dropBases, 5) 0 [x_const 0, x_istore 3] 2 := ⟨_, i_Se_dropBases_0, _, i_Se_dropBases_1, rfl⟩
theorem b_Se_dropBases_2 : mj_Ch zG ("StreamWatch$Search", "dropBases", c_Se_dropBases, 5) 2 [x_iload 3, x_iload 2] 4 := ⟨_, i_Se_dropBases_2, _, i_Se_dropBases_3, rfl⟩
theorem b_Se_dropBases_7 : mj_Ch zG ("StreamWatch$Search", "dropBases", c_Se_dropBases, 5) 7 [x_aload 1, x_getf 4 1] 11 := ⟨_, i_Se_dropBases_7, _, i_Se_dropBases_8, rfl⟩
theorem b_Se_dropBases_14 : mj_Ch zG ("StreamWatch$Search", "dropBases", c_Se_dropBases, 5) 14 [x_iload 3, x_skip] 19 := ⟨_, i_Se_dropBases_14, _, i_Se_dropBases_15, rfl⟩
theorem b_Se_dropBases_18 : mj_Ch zG ("StreamWatch$Search", "dropBases", c_Se_dropBases, 5) 18 [x_const 0] 19 := ⟨_, i_Se_dropBases_18, rfl⟩
theorem b_Se_dropBases_19 : mj_Ch zG ("StreamWatch$Search", "dropBases", c_Se_dropBases, 5) 19 [x_istore 4, x_aload 0, x_getf 7 1, x_iload 4, x_aload 1, x_getf 4 2, x_iadd, x_iload 4, x_aload 1, x_getf 4 3, x_iadd] 39 := ⟨_, i_Se_dropBases_19, _, i_Se_dropBases_21, _, i_Se_dropBases_22, _, i_Se_dropBases_25, _, i_Se_dropBases_27, _, i_Se_dropBases_28, _, i_Se_dropBases_31, _, i_Se_dropBases_32, _, i_Se_dropBases_34, _, i_Se_dropBases_35, _, i_Se_dropBases_38, rfl⟩
theorem b_Se_dropBases_45 : mj_Ch zG ("StreamWatch$Search", "dropBases", c_Se_dropBases, 5) 45 [x_aload 0, x_getf 7 0, x_iload 3, x_const 0] 51 := ⟨_, i_Se_dropBases_45, _, i_Se_dropBases_46, _, i_Se_dropBases_49, _, i_Se_dropBases_50, rfl⟩
theorem b_Se_dropBases_54 : mj_Ch zG ("StreamWatch$Search", "dropBases", c_Se_dropBases, 5) 54 [x_iinc 3 1, x_skip] 2 := ⟨_, i_Se_dropBases_54, _, i_Se_dropBases_57, rfl⟩
theorem i_Se_moveBases_0 : mj_Snd zG ("StreamWatch$Search", "moveBases", c_Se_moveBases, 6) 0 (x_aload 1) 1 := mj_aload_n (j := 1) rfl (by decide +kernel)
theorem i_Se_moveBases_1 : mj_Snd zG ("StreamWatch$Search", "moveBases", c_Se_moveBases, 6) 1 (x_getf 4 1) 4 := mj_getf (T := T_Op) rfl (by decide) u_Op z4_31 (by decide +kernel)
theorem d_Se_moveBases_4 : decode c_Se_moveBases 4 = .ok (.ifCond .ne 11, 3) := by decide +kernel
theorem i_Se_moveBases_7 : mj_Snd zG ("StreamWatch$Search", "moveBases", c_Se_moveBases, 6) 7 (x_aload 0) 8 := mj_aload_n (j := 0) rfl (by decide +kernel)
theorem i_Se_moveBases_8 : mj_Snd zG ("StreamWatch$Search", "moveBases", c_Se_moveBases, 6) 8 (x_getf 7 0) 11 := mj_getf (T := T_Se) rfl (by decide) u_Se z1_189 (by decide +kernel)
theorem i_Se_moveBases_11 : mj_Snd zG ("StreamWatch$Search", "moveBases", c_Se_moveBases, 6) 11 (x_iload 2) 12 := mj_iload_n (j := 2) rfl (by decide +kernel)
theorem d_Se_moveBases_12 : decode c_Se_moveBases 12 = .ok (.invokevirtual 25, 3) := by decide +kernel
theorem i_Se_moveBases_15 : mj_Snd zG ("StreamWatch$Search", "moveBases", c_Se_moveBases, 6) 15 (x_const 0) 16 := mj_const (n := 0) (by decide) (by decide +kernel)
theorem i_Se_moveBases_16 : mj_Snd zG ("StreamWatch$Search", "moveBases", c_Se_moveBases, 6) 16 (x_istore 3) 17 := mj_istore_n (j := 3) rfl (by decide) (by decide +kernel)
theorem i_Se_moveBases_17 : mj_Snd zG ("StreamWatch$Search", "moveBases", c_Se_moveBases, 6) 17 (x_iload 3) 18 := mj_iload_n (j := 3) rfl (by decide +kernel)
theorem i_Se_moveBases_18 : mj_Snd zG ("StreamWatch$Search", "moveBases", c_Se_moveBases, 6) 18 (x_iload 2) 19 := mj_iload_n (j := 2) rfl (by decide +kernel)
theorem d_Se_moveBases_19 : decode c_Se_moveBases 19 = .ok (.if_icmp .gt 70, 3) := by decide +kernel
theorem i_Se_moveBases_22 : mj_Snd zG ("StreamWatch$Search", "moveBases", c_Se_moveBases, 6) 22 (x_iload 3) 23 := mj_iload_n (j := 3) rfl (by decide +kernel)
theorem i_Se_moveBases_23 : mj_Snd zG ("StreamWatch$Search", "moveBases", c_Se_moveBases, 6) 23 (x_aload 1) 24 := mj_aload_n (j := 1) rfl (by decide +kernel)
theorem i_Se_moveBases_24 : mj_Snd zG ("StreamWatch$Search", "moveBases", c_Se_moveBases, 6) 24 (x_getf 4 4) 27 := mj_getf (T := T_Op) rfl (by decide) u_Op z4_37 (by decide +kernel)
theorem i_Se_moveBases_27 : mj_Snd zG ("StreamWatch$Search", "moveBases", c_Se_moveBases, 6) 27 (x_isub) 28 := mj_isub (by decide +kernel)
theorem i_Se_moveBases_28 : mj_Snd zG ("StreamWatch$Search", "moveBases", c_Se_moveBases, 6) 28 (x_istore 4) 30 := mj_istore (by decide) (by decide +kernel)
theorem i_Se_moveBases_30 : mj_Snd zG ("StreamWatch$Search", "moveBases", c_Se_moveBases, 6) 30 (x_aload 0) 31 := mj_aload_n (j := 0) rfl (by decide +kernel)
theorem i_Se_moveBases_31 : mj_Snd zG ("StreamWatch$Search", "moveBases", c_Se_moveBases, 6) 31 (x_getf 7 1) 34 := mj_getf (T := T_Se) rfl (by decide) u_Se z1_190 (by decide +kernel)
theorem i_Se_moveBases_34 : mj_Snd zG ("StreamWatch$Search", "moveBases", c_Se_moveBases, 6) 34 (x_iload 4) 36 := mj_iload (by decide +kernel)
theorem d_Se_moveBases_36 : decode c_Se_moveBases 36 = .ok (.invokevirtual 80, 3) := by decide +kernel
theorem d_Se_moveBases_39 : decode c_Se_moveBases 39 = .ok (.ifCond .eq 31, 3) := by decide +kernel
theorem i_Se_moveBases_42 : mj_Snd zG ("StreamWatch$Search", "moveBases", c_Se_moveBases, 6) 42 (x_aload 0) 43 := mj_aload_n (j := 0) rfl (by decide +kernel)
theorem i_Se_moveBases_43 : mj_Snd zG ("StreamWatch$Search", "moveBases", c_Se_moveBases, 6) 43 (x_getf 7 0) 46 := mj_getf (T := T_Se) rfl (by decide) u_Se z1_189 (by decide +kernel)
theorem i_Se_moveBases_46 : mj_Snd zG ("StreamWatch$Search", "moveBases", c_Se_moveBases, 6) 46 (x_iload 4) 48 := mj_iload (by decide +kernel)
theorem i_Se_moveBases_48 : mj_Snd zG ("StreamWatch$Search", "moveBases", c_Se_moveBases, 6) 48 (x_aload 1) 49 := mj_aload_n (j := 1) rfl (by decide +kernel)
theorem i_Se_moveBases_49 : mj_Snd zG ("StreamWatch$Search", "moveBases", c_Se_moveBases, 6) 49 (x_getf 4 3) 52 := mj_getf (T := T_Op) rfl (by decide) u_Op z4_35 (by decide +kernel)
theorem i_Se_moveBases_52 : mj_Snd zG ("StreamWatch$Search", "moveBases", c_Se_moveBases, 6) 52 (x_isub) 53 := mj_isub (by decide +kernel)
theorem i_Se_moveBases_53 : mj_Snd zG ("StreamWatch$Search", "moveBases", c_Se_moveBases, 6) 53 (x_iload 4) 55 := mj_iload (by decide +kernel)
theorem i_Se_moveBases_55 : mj_Snd zG ("StreamWatch$Search", "moveBases", c_Se_moveBases, 6) 55 (x_aload 1) 56 := mj_aload_n (j := 1) rfl (by decide +kernel)
theorem i_Se_moveBases_56 : mj_Snd zG ("StreamWatch$Search", "moveBases", c_Se_moveBases, 6) 56 (x_getf 4 2) 59 := mj_getf (T := T_Op) rfl (by decide) u_Op z4_33 (by decide +kernel)
theorem i_Se_moveBases_59 : mj_Snd zG ("StreamWatch$Search", "moveBases", c_Se_moveBases, 6) 59 (x_isub) 60 := mj_isub (by decide +kernel)
theorem d_Se_moveBases_60 : decode c_Se_moveBases 60 = .ok (.invokevirtual 56, 3) := by decide +kernel
theorem d_Se_moveBases_63 : decode c_Se_moveBases 63 = .ok (.ifCond .eq 7, 3) := by decide +kernel
theorem i_Se_moveBases_66 : mj_Snd zG ("StreamWatch$Search", "moveBases", c_Se_moveBases, 6) 66 (x_const 1) 67 := mj_const (n := 1) (by decide) (by decide +kernel)
theorem i_Se_moveBases_67 : mj_Snd zG ("StreamWatch$Search", "moveBases", c_Se_moveBases, 6) 67 (x_skip) 71 := mj_goto (off := 4) (by decide) (by decide +kernel)
theorem i_Se_moveBases_70 : mj_Snd zG ("StreamWatch$Search", "moveBases", c_Se_moveBases, 6) 70 (x_const 0) 71 := mj_const (n := 0) (by decide) (by decide +kernel)
theorem i_Se_moveBases_71 : mj_Snd zG ("StreamWatch$Search", "moveBases", c_Se_moveBases, 6) 71 (x_istore 5) 73 := mj_istore (by decide) (by decide +kernel)
theorem i_Se_moveBases_73 : mj_Snd zG ("StreamWatch$Search", "moveBases", c_Se_moveBases, 6) 73 (x_aload 0) 74 := mj_aload_n (j := 0) rfl (by decide +kernel)
theorem i_Se_moveBases_74 : mj_Snd zG ("StreamWatch$Search", "moveBases", c_Se_moveBases, 6) 74 (x_getf 7 0) 77 := mj_getf (T := T_Se) rfl (by decide) u_Se z1_189 (by decide +kernel)
theorem i_Se_moveBases_77 : mj_Snd zG ("StreamWatch$Search", "moveBases", c_Se_moveBases, 6) 77 (x_iload 3) 78 := mj_iload_n (j := 3) rfl (by decide +kernel)
theorem i_Se_moveBases_78 : mj_Snd zG ("StreamWatch$Search", "moveBases", c_Se_moveBases, 6) 78 (x_iload 5) 80 := mj_iload (by decide +kernel)
theorem d_Se_moveBases_80 : decode c_Se_moveBases 80 = .ok (.invokevirtual 64, 3) := by decide +kernel
theorem i_Se_moveBases_83 : mj_Snd zG ("StreamWatch$Search", "moveBases", c_Se_moveBases, 6) 83 (x_iinc 3 1) 86 := mj_iinc (n := 1) (by decide) (by decide) (by decide +kernel)
theorem i_Se_moveBases_86 : mj_Snd zG ("StreamWatch$Search", "moveBases", c_Se_moveBases, 6) 86 (x_skip) 17 := mj_goto (off := (-69)) (by decide) (by decide +kernel)
theorem d_Se_moveBases_89 : decode c_Se_moveBases 89 = .ok (.return_, 1) := by decide +kernel
theorem b_Se_moveBases_0 : mj_Ch zG ("StreamWatch$Search", "moveBases", c_Se_moveBases, 6) 0 [x_aload 1, x_getf 4 1] 4 := ⟨_, i_Se_moveBases_0, _, i_Se_moveBases_1, rfl⟩
theorem b_Se_moveBases_7 : mj_Ch zG ("StreamWatch$Search", "moveBases", c_Se_moveBases, 6) 7 [x_aload 0, x_getf 7 0, x_iload 2] 12 := ⟨_, i_Se_moveBases_7, _, i_Se_moveBases_8, _, i_Se_moveBases_11, rfl⟩
theorem b_Se_moveBases_15 : mj_Ch zG ("StreamWatch$Search", "moveBases", c_Se_moveBases, 6) 15 [x_const 0, x_istore 3] 17 := ⟨_, i_Se_moveBases_15, _, i_Se_moveBases_16, rfl⟩
theorem b_Se_moveBases_17 : mj_Ch zG ("StreamWatch$Search", "moveBases", c_Se_moveBases, 6) 17 [x_iload 3, x_iload 2] 19 := ⟨_, i_Se_moveBases_17, _, i_Se_moveBases_18, rfl⟩
theorem b_Se_moveBases_22 : mj_Ch zG ("StreamWatch$Search", "moveBases", c_Se_moveBases, 6) 22 [x_iload 3, x_aload 1, x_getf 4 4, x_isub, x_istore 4, x_aload 0, x_getf 7 1, x_iload 4] 36 := ⟨_, i_Se_moveBases_22, _, i_Se_moveBases_23, _, i_Se_moveBases_24, _, i_Se_moveBases_27, _, i_Se_moveBases_28, _, i_Se_moveBases_30, _, i_Se_moveBases_31, _, i_Se_moveBases_34, rfl⟩
theorem b_Se_moveBases_42 : mj_Ch zG ("StreamWatch$Search", "moveBases", c_Se_moveBases, 6) 42 [x_aload 0, x_getf 7 0, x_iload 4, x_aload 1, x_getf 4 3, x_isub, x_iload 4, x_aload 1, x_getf 4 2, x_isub] 60 := ⟨_, i_Se_moveBases_42, _, i_Se_moveBases_43, _, i_Se_moveBases_46, _, i_Se_moveBases_48, _, i_Se_moveBases_49, _, i_Se_moveBases_52, _, i_Se_moveBases_53, _, i_Se_moveBases_55, _, i_Se_moveBases_56, _, i_Se_moveBases_59, rfl⟩
theorem b_Se_moveBases_66 : mj_Ch zG ("StreamWatch$Search", "moveBases", c_Se_moveBases, 6) 66 [x_const 1, x_skip] 71 := ⟨_, i_Se_moveBases_66, _, i_Se_moveBases_67, rfl⟩
theorem b_Se_moveBases_70 : mj_Ch zG ("StreamWatch$Search", "moveBases", c_Se_moveBases, 6) 70 [x_const 0] 71 := ⟨_, i_Se_moveBases_70, rfl⟩
theorem b_Se_moveBases_71 : mj_Ch zG ("StreamWatch$Search", "moveBases", c_Se_moveBases, 6) 71 [x_istore 5, x_aload 0, x_getf 7 0, x_iload 3, x_iload 5] 80 := ⟨_, i_Se_moveBases_71, _, i_Se_moveBases_73, _, i_Se_moveBases_74, _, i_Se_moveBases_77, _, i_Se_moveBases_78, rfl⟩
theorem b_Se_moveBases_83 : mj_Ch zG ("StreamWatch$Search", "moveBases", c_Se_moveBases, 6) 83 [x_iinc 3 1, x_skip] 17 := ⟨_, i_Se_moveBases_83, _, i_Se_moveBases_86, rfl⟩

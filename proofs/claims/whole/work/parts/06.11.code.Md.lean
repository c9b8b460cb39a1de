theorem i_Md_init_0 : mj_Snd zG ("StreamWatchModel", "<init>", c_Md_init, 2) 0 (x_aload 0) 1 := mj_aload_n (j := 0) rfl (by decide +kernel)
theorem d_Md_init_1 : decode c_Md_init 1 = .ok (.invokespecial 1, 3) := by decide +kernel
theorem i_Md_init_4 : mj_Snd zG ("StreamWatchModel", "<init>", c_Md_init, 2) 4 (x_aload 0) 5 := mj_aload_n (j := 0) rfl (by decide +kernel)
theorem i_Md_init_5 : mj_Snd zG ("StreamWatchModel", "<init>", c_Md_init, 2) 5 (x_const 100) 7 := mj_bipush (n := 100) (by decide) (by decide +kernel)
theorem d_Md_init_7 : decode c_Md_init 7 = .ok (.newarray .int, 2) := by decide +kernel
theorem i_Md_init_9 : mj_Snd zG ("StreamWatchModel", "<init>", c_Md_init, 2) 9 (x_putf 11 3 3) 12 := mj_putG (T := T_Md) (ty0 := t_Md) rfl (by decide) u_Md t_Md_ok n_Md z4_68 (Or.inl rfl) (by decide +kernel)
theorem i_Md_init_12 : mj_Snd zG ("StreamWatchModel", "<init>", c_Md_init, 2) 12 (x_aload 0) 13 := mj_aload_n (j := 0) rfl (by decide +kernel)
theorem i_Md_init_13 : mj_Snd zG ("StreamWatchModel", "<init>", c_Md_init, 2) 13 (x_const 4) 14 := mj_const (n := 4) (by decide) (by decide +kernel)
theorem d_Md_init_14 : decode c_Md_init 14 = .ok (.newarray .boolean, 2) := by decide +kernel
theorem i_Md_init_16 : mj_Snd zG ("StreamWatchModel", "<init>", c_Md_init, 2) 16 (x_putf 11 4 3) 19 := mj_putG (T := T_Md) (ty0 := t_Md) rfl (by decide) u_Md t_Md_ok n_Md z4_69 (Or.inl rfl) (by decide +kernel)
theorem i_Md_init_19 : mj_Snd zG ("StreamWatchModel", "<init>", c_Md_init, 2) 19 (x_aload 0) 20 := mj_aload_n (j := 0) rfl (by decide +kernel)
theorem i_Md_init_20 : mj_Snd zG ("StreamWatchModel", "<init>", c_Md_init, 2) 20 (x_const 4) 21 := mj_const (n := 4) (by decide) (by decide +kernel)
theorem d_Md_init_21 : decode c_Md_init 21 = .ok (.newarray .int, 2) := by decide +kernel
theorem i_Md_init_23 : mj_Snd zG ("StreamWatchModel", "<init>", c_Md_init, 2) 23 (x_putf 11 5 3) 26 := mj_putG (T := T_Md) (ty0 := t_Md) rfl (by decide) u_Md t_Md_ok n_Md z4_70 (Or.inl rfl) (by decide +kernel)
theorem i_Md_init_26 : mj_Snd zG ("StreamWatchModel", "<init>", c_Md_init, 2) 26 (x_aload 0) 27 := mj_aload_n (j := 0) rfl (by decide +kernel)
theorem i_Md_init_27 : mj_Snd zG ("StreamWatchModel", "<init>", c_Md_init, 2) 27 (x_const 4) 28 := mj_const (n := 4) (by decide) (by decide +kernel)
theorem d_Md_init_28 : decode c_Md_init 28 = .ok (.newarray .int, 2) := by decide +kernel
theorem i_Md_init_30 : mj_Snd zG ("StreamWatchModel", "<init>", c_Md_init, 2) 30 (x_putf 11 6 3) 33 := mj_putG (T := T_Md) (ty0 := t_Md) rfl (by decide) u_Md t_Md_ok n_Md z4_71 (Or.inl rfl) (by decide +kernel)
theorem i_Md_init_33 : mj_Snd zG ("StreamWatchModel", "<init>", c_Md_init, 2) 33 (x_aload 0) 34 := mj_aload_n (j := 0) rfl (by decide +kernel)
theorem i_Md_init_34 : mj_Snd zG ("StreamWatchModel", "<init>", c_Md_init, 2) 34 (x_const 4) 35 := mj_const (n := 4) (by decide) (by decide +kernel)
theorem d_Md_init_35 : decode c_Md_init 35 = .ok (.newarray .int, 2) := by decide +kernel
theorem i_Md_init_37 : mj_Snd zG ("StreamWatchModel", "<init>", c_Md_init, 2) 37 (x_putf 11 7 3) 40 := mj_putG (T := T_Md) (ty0 := t_Md) rfl (by decide) u_Md t_Md_ok n_Md z4_72 (Or.inl rfl) (by decide +kernel)
theorem i_Md_init_40 : mj_Snd zG ("StreamWatchModel", "<init>", c_Md_init, 2) 40 (x_aload 0) 41 := mj_aload_n (j := 0) rfl (by decide +kernel)
theorem i_Md_init_41 : mj_Snd zG ("StreamWatchModel", "<init>", c_Md_init, 2) 41 (x_const 4) 42 := mj_const (n := 4) (by decide) (by decide +kernel)
theorem d_Md_init_42 : decode c_Md_init 42 = .ok (.newarray .int, 2) := by decide +kernel
theorem i_Md_init_44 : mj_Snd zG ("StreamWatchModel", "<init>", c_Md_init, 2) 44 (x_putf 11 8 3) 47 := mj_putG (T := T_Md) (ty0 := t_Md) rfl (by decide) u_Md t_Md_ok n_Md z4_73 (Or.inl rfl) (by decide +kernel)
theorem i_Md_init_47 : mj_Snd zG ("StreamWatchModel", "<init>", c_Md_init, 2) 47 (x_aload 0) 48 := mj_aload_n (j := 0) rfl (by decide +kernel)
theorem i_Md_init_48 : mj_Snd zG ("StreamWatchModel", "<init>", c_Md_init, 2) 48 (x_const 4) 49 := mj_const (n := 4) (by decide) (by decide +kernel)
theorem d_Md_init_49 : decode c_Md_init 49 = .ok (.newarray .int, 2) := by decide +kernel
theorem i_Md_init_51 : mj_Snd zG ("StreamWatchModel", "<init>", c_Md_init, 2) 51 (x_putf 11 9 3) 54 := mj_putG (T := T_Md) (ty0 := t_Md) rfl (by decide) u_Md t_Md_ok n_Md z4_74 (Or.inl rfl) (by decide +kernel)
theorem i_Md_init_54 : mj_Snd zG ("StreamWatchModel", "<init>", c_Md_init, 2) 54 (x_aload 0) 55 := mj_aload_n (j := 0) rfl (by decide +kernel)
theorem i_Md_init_55 : mj_Snd zG ("StreamWatchModel", "<init>", c_Md_init, 2) 55 (x_const 8) 57 := mj_bipush (n := 8) (by decide) (by decide +kernel)
theorem d_Md_init_57 : decode c_Md_init 57 = .ok (.newarray .boolean, 2) := by decide +kernel
theorem i_Md_init_59 : mj_Snd zG ("StreamWatchModel", "<init>", c_Md_init, 2) 59 (x_putf 11 11 3) 62 := mj_putG (T := T_Md) (ty0 := t_Md) rfl (by decide) u_Md t_Md_ok n_Md z4_76 (Or.inl rfl) (by decide +kernel)
theorem i_Md_init_62 : mj_Snd zG ("StreamWatchModel", "<init>", c_Md_init, 2) 62 (x_aload 0) 63 := mj_aload_n (j := 0) rfl (by decide +kernel)
theorem i_Md_init_63 : mj_Snd zG ("StreamWatchModel", "<init>", c_Md_init, 2) 63 (x_const 8) 65 := mj_bipush (n := 8) (by decide) (by decide +kernel)
theorem d_Md_init_65 : decode c_Md_init 65 = .ok (.newarray .int, 2) := by decide +kernel
theorem i_Md_init_67 : mj_Snd zG ("StreamWatchModel", "<init>", c_Md_init, 2) 67 (x_putf 11 12 3) 70 := mj_putG (T := T_Md) (ty0 := t_Md) rfl (by decide) u_Md t_Md_ok n_Md z4_77 (Or.inl rfl) (by decide +kernel)
theorem i_Md_init_70 : mj_Snd zG ("StreamWatchModel", "<init>", c_Md_init, 2) 70 (x_aload 0) 71 := mj_aload_n (j := 0) rfl (by decide +kernel)
theorem i_Md_init_71 : mj_Snd zG ("StreamWatchModel", "<init>", c_Md_init, 2) 71 (x_const 8) 73 := mj_bipush (n := 8) (by decide) (by decide +kernel)
theorem d_Md_init_73 : decode c_Md_init 73 = .ok (.newarray .boolean, 2) := by decide +kernel
theorem i_Md_init_75 : mj_Snd zG ("StreamWatchModel", "<init>", c_Md_init, 2) 75 (x_putf 11 13 3) 78 := mj_putG (T := T_Md) (ty0 := t_Md) rfl (by decide) u_Md t_Md_ok n_Md z4_78 (Or.inl rfl) (by decide +kernel)
theorem i_Md_init_78 : mj_Snd zG ("StreamWatchModel", "<init>", c_Md_init, 2) 78 (x_aload 0) 79 := mj_aload_n (j := 0) rfl (by decide +kernel)
theorem i_Md_init_79 : mj_Snd zG ("StreamWatchModel", "<init>", c_Md_init, 2) 79 (x_const 8) 81 := mj_bipush (n := 8) (by decide) (by decide +kernel)
theorem d_Md_init_81 : decode c_Md_init 81 = .ok (.newarray .int, 2) := by decide +kernel
theorem i_Md_init_83 : mj_Snd zG ("StreamWatchModel", "<init>", c_Md_init, 2) 83 (x_putf 11 14 3) 86 := mj_putG (T := T_Md) (ty0 := t_Md) rfl (by decide) u_Md t_Md_ok n_Md z4_79 (Or.inl rfl) (by decide +kernel)
theorem i_Md_init_86 : mj_Snd zG ("StreamWatchModel", "<init>", c_Md_init, 2) 86 (x_aload 0) 87 := mj_aload_n (j := 0) rfl (by decide +kernel)
theorem i_Md_init_87 : mj_Snd zG ("StreamWatchModel", "<init>", c_Md_init, 2) 87 (x_const 640) 90 := mj_sipush (n := 640) (by decide) (by decide +kernel)
theorem d_Md_init_90 : decode c_Md_init 90 = .ok (.newarray .int, 2) := by decide +kernel
theorem i_Md_init_92 : mj_Snd zG ("StreamWatchModel", "<init>", c_Md_init, 2) 92 (x_putf 11 15 3) 95 := mj_putG (T := T_Md) (ty0 := t_Md) rfl (by decide) u_Md t_Md_ok n_Md z4_80 (Or.inl rfl) (by decide +kernel)
theorem i_Md_init_95 : mj_Snd zG ("StreamWatchModel", "<init>", c_Md_init, 2) 95 (x_aload 0) 96 := mj_aload_n (j := 0) rfl (by decide +kernel)
theorem i_Md_init_96 : mj_Snd zG ("StreamWatchModel", "<init>", c_Md_init, 2) 96 (x_const 256) 99 := mj_sipush (n := 256) (by decide) (by decide +kernel)
theorem d_Md_init_99 : decode c_Md_init 99 = .ok (.newarray .boolean, 2) := by decide +kernel
theorem i_Md_init_101 : mj_Snd zG ("StreamWatchModel", "<init>", c_Md_init, 2) 101 (x_putf 11 16 3) 104 := mj_putG (T := T_Md) (ty0 := t_Md) rfl (by decide) u_Md t_Md_ok n_Md z4_81 (Or.inl rfl) (by decide +kernel)
theorem i_Md_init_104 : mj_Snd zG ("StreamWatchModel", "<init>", c_Md_init, 2) 104 (x_aload 0) 105 := mj_aload_n (j := 0) rfl (by decide +kernel)
theorem i_Md_init_105 : mj_Snd zG ("StreamWatchModel", "<init>", c_Md_init, 2) 105 (x_const 256) 108 := mj_sipush (n := 256) (by decide) (by decide +kernel)
theorem d_Md_init_108 : decode c_Md_init 108 = .ok (.newarray .int, 2) := by decide +kernel
theorem i_Md_init_110 : mj_Snd zG ("StreamWatchModel", "<init>", c_Md_init, 2) 110 (x_putf 11 17 3) 113 := mj_putG (T := T_Md) (ty0 := t_Md) rfl (by decide) u_Md t_Md_ok n_Md z4_82 (Or.inl rfl) (by decide +kernel)
theorem i_Md_init_113 : mj_Snd zG ("StreamWatchModel", "<init>", c_Md_init, 2) 113 (x_aload 0) 114 := mj_aload_n (j := 0) rfl (by decide +kernel)
theorem i_Md_init_114 : mj_Snd zG ("StreamWatchModel", "<init>", c_Md_init, 2) 114 (x_const 48) 116 := mj_bipush (n := 48) (by decide) (by decide +kernel)
theorem d_Md_init_116 : decode c_Md_init 116 = .ok (.newarray .boolean, 2) := by decide +kernel
theorem i_Md_init_118 : mj_Snd zG ("StreamWatchModel", "<init>", c_Md_init, 2) 118 (x_putf 11 18 3) 121 := mj_putG (T := T_Md) (ty0 := t_Md) rfl (by decide) u_Md t_Md_ok n_Md z4_83 (Or.inl rfl) (by decide +kernel)
theorem i_Md_init_121 : mj_Snd zG ("StreamWatchModel", "<init>", c_Md_init, 2) 121 (x_aload 0) 122 := mj_aload_n (j := 0) rfl (by decide +kernel)
theorem i_Md_init_122 : mj_Snd zG ("StreamWatchModel", "<init>", c_Md_init, 2) 122 (x_const 6) 124 := mj_bipush (n := 6) (by decide) (by decide +kernel)
theorem d_Md_init_124 : decode c_Md_init 124 = .ok (.newarray .int, 2) := by decide +kernel
theorem i_Md_init_126 : mj_Snd zG ("StreamWatchModel", "<init>", c_Md_init, 2) 126 (x_putf 11 20 3) 129 := mj_putG (T := T_Md) (ty0 := t_Md) rfl (by decide) u_Md t_Md_ok n_Md z4_85 (Or.inl rfl) (by decide +kernel)
theorem i_Md_init_129 : mj_Snd zG ("StreamWatchModel", "<init>", c_Md_init, 2) 129 (x_aload 0) 130 := mj_aload_n (j := 0) rfl (by decide +kernel)
theorem i_Md_init_130 : mj_Snd zG ("StreamWatchModel", "<init>", c_Md_init, 2) 130 (x_const 6) 132 := mj_bipush (n := 6) (by decide) (by decide +kernel)
theorem d_Md_init_132 : decode c_Md_init 132 = .ok (.newarray .int, 2) := by decide +kernel
theorem i_Md_init_134 : mj_Snd zG ("StreamWatchModel", "<init>", c_Md_init, 2) 134 (x_putf 11 21 3) 137 := mj_putG (T := T_Md) (ty0 := t_Md) rfl (by decide) u_Md t_Md_ok n_Md z4_86 (Or.inl rfl) (by decide +kernel)
theorem i_Md_init_137 : mj_Snd zG ("StreamWatchModel", "<init>", c_Md_init, 2) 137 (x_aload 0) 138 := mj_aload_n (j := 0) rfl (by decide +kernel)
theorem i_Md_init_138 : mj_Snd zG ("StreamWatchModel", "<init>", c_Md_init, 2) 138 (x_const 6) 140 := mj_bipush (n := 6) (by decide) (by decide +kernel)
theorem d_Md_init_140 : decode c_Md_init 140 = .ok (.newarray .int, 2) := by decide +kernel
theorem i_Md_init_142 : mj_Snd zG ("StreamWatchModel", "<init>", c_Md_init, 2) 142 (x_putf 11 22 3) 145 := mj_putG (T := T_Md) (ty0 := t_Md) rfl (by decide) u_Md t_Md_ok n_Md z4_87 (Or.inl rfl) (by decide +kernel)
theorem i_Md_init_145 : mj_Snd zG ("StreamWatchModel", "<init>", c_Md_init, 2) 145 (x_aload 0) 146 := mj_aload_n (j := 0) rfl (by decide +kernel)
theorem i_Md_init_146 : mj_Snd zG ("StreamWatchModel", "<init>", c_Md_init, 2) 146 (x_const 18) 148 := mj_bipush (n := 18) (by decide) (by decide +kernel)
theorem d_Md_init_148 : decode c_Md_init 148 = .ok (.newarray .int, 2) := by decide +kernel
theorem i_Md_init_150 : mj_Snd zG ("StreamWatchModel", "<init>", c_Md_init, 2) 150 (x_putf 11 23 3) 153 := mj_putG (T := T_Md) (ty0 := t_Md) rfl (by decide) u_Md t_Md_ok n_Md z4_88 (Or.inl rfl) (by decide +kernel)
theorem i_Md_init_153 : mj_Snd zG ("StreamWatchModel", "<init>", c_Md_init, 2) 153 (x_aload 0) 154 := mj_aload_n (j := 0) rfl (by decide +kernel)
theorem i_Md_init_154 : mj_Snd zG ("StreamWatchModel", "<init>", c_Md_init, 2) 154 (x_const 108) 156 := mj_bipush (n := 108) (by decide) (by decide +kernel)
theorem d_Md_init_156 : decode c_Md_init 156 = .ok (.newarray .int, 2) := by decide +kernel
theorem i_Md_init_158 : mj_Snd zG ("StreamWatchModel", "<init>", c_Md_init, 2) 158 (x_putf 11 24 3) 161 := mj_putG (T := T_Md) (ty0 := t_Md) rfl (by decide) u_Md t_Md_ok n_Md z4_89 (Or.inl rfl) (by decide +kernel)
theorem i_Md_init_161 : mj_Snd zG ("StreamWatchModel", "<init>", c_Md_init, 2) 161 (x_aload 0) 162 := mj_aload_n (j := 0) rfl (by decide +kernel)
theorem i_Md_init_162 : mj_Snd zG ("StreamWatchModel", "<init>", c_Md_init, 2) 162 (x_const 18) 164 := mj_bipush (n := 18) (by decide) (by decide +kernel)
theorem d_Md_init_164 : decode c_Md_init 164 = .ok (.newarray .int, 2) := by decide +kernel
theorem i_Md_init_166 : mj_Snd zG ("StreamWatchModel", "<init>", c_Md_init, 2) 166 (x_putf 11 25 3) 169 := mj_putG (T := T_Md) (ty0 := t_Md) rfl (by decide) u_Md t_Md_ok n_Md z4_90 (Or.inl rfl) (by decide +kernel)
theorem i_Md_init_169 : mj_Snd zG ("StreamWatchModel", "<init>", c_Md_init, 2) 169 (x_aload 0) 170 := mj_aload_n (j := 0) rfl (by decide +kernel)
theorem i_Md_init_170 : mj_Snd zG ("StreamWatchModel", "<init>", c_Md_init, 2) 170 (x_const 18) 172 := mj_bipush (n := 18) (by decide) (by decide +kernel)
theorem d_Md_init_172 : decode c_Md_init 172 = .ok (.newarray .int, 2) := by decide +kernel
theorem i_Md_init_174 : mj_Snd zG ("StreamWatchModel", "<init>", c_Md_init, 2) 174 (x_putf 11 26 3) 177 := mj_putG (T := T_Md) (ty0 := t_Md) rfl (by decide) u_Md t_Md_ok n_Md z4_91 (Or.inl rfl) (by decide +kernel)
theorem i_Md_init_177 : mj_Snd zG ("StreamWatchModel", "<init>", c_Md_init, 2) 177 (x_aload 0) 178 := mj_aload_n (j := 0) rfl (by decide +kernel)
theorem i_Md_init_178 : mj_Snd zG ("StreamWatchModel", "<init>", c_Md_init, 2) 178 (x_const 18) 180 := mj_bipush (n := 18) (by decide) (by decide +kernel)
theorem d_Md_init_180 : decode c_Md_init 180 = .ok (.newarray .int, 2) := by decide +kernel
theorem i_Md_init_182 : mj_Snd zG ("StreamWatchModel", "<init>", c_Md_init, 2) 182 (x_putf 11 27 3) 185 := mj_putG (T := T_Md) (ty0 := t_Md) rfl (by decide) u_Md t_Md_ok n_Md z4_92 (Or.inl rfl) (by decide +kernel)
theorem i_Md_init_185 : mj_Snd zG ("StreamWatchModel", "<init>", c_Md_init, 2) 185 (x_aload 0) 186 := mj_aload_n (j := 0) rfl (by decide +kernel)
theorem i_Md_init_186 : mj_Snd zG ("StreamWatchModel", "<init>", c_Md_init, 2) 186 (x_const 3) 187 := mj_const (n := 3) (by decide) (by decide +kernel)
theorem d_Md_init_187 : decode c_Md_init 187 = .ok (.newarray .int, 2) := by decide +kernel
theorem i_Md_init_189 : mj_Snd zG ("StreamWatchModel", "<init>", c_Md_init, 2) 189 (x_putf 11 29 3) 192 := mj_putG (T := T_Md) (ty0 := t_Md) rfl (by decide) u_Md t_Md_ok n_Md z4_94 (Or.inl rfl) (by decide +kernel)
theorem i_Md_init_192 : mj_Snd zG ("StreamWatchModel", "<init>", c_Md_init, 2) 192 (x_aload 0) 193 := mj_aload_n (j := 0) rfl (by decide +kernel)
theorem i_Md_init_193 : mj_Snd zG ("StreamWatchModel", "<init>", c_Md_init, 2) 193 (x_const 3) 194 := mj_const (n := 3) (by decide) (by decide +kernel)
theorem d_Md_init_194 : decode c_Md_init 194 = .ok (.newarray .int, 2) := by decide +kernel
theorem i_Md_init_196 : mj_Snd zG ("StreamWatchModel", "<init>", c_Md_init, 2) 196 (x_putf 11 30 3) 199 := mj_putG (T := T_Md) (ty0 := t_Md) rfl (by decide) u_Md t_Md_ok n_Md z4_95 (Or.inl rfl) (by decide +kernel)
theorem i_Md_init_199 : mj_Snd zG ("StreamWatchModel", "<init>", c_Md_init, 2) 199 (x_aload 0) 200 := mj_aload_n (j := 0) rfl (by decide +kernel)
theorem i_Md_init_200 : mj_Snd zG ("StreamWatchModel", "<init>", c_Md_init, 2) 200 (x_const 96) 202 := mj_bipush (n := 96) (by decide) (by decide +kernel)
theorem d_Md_init_202 : decode c_Md_init 202 = .ok (.newarray .int, 2) := by decide +kernel
theorem i_Md_init_204 : mj_Snd zG ("StreamWatchModel", "<init>", c_Md_init, 2) 204 (x_putf 11 32 3) 207 := mj_putG (T := T_Md) (ty0 := t_Md) rfl (by decide) u_Md t_Md_ok n_Md z4_97 (Or.inl rfl) (by decide +kernel)
theorem i_Md_init_207 : mj_Snd zG ("StreamWatchModel", "<init>", c_Md_init, 2) 207 (x_aload 0) 208 := mj_aload_n (j := 0) rfl (by decide +kernel)
theorem i_Md_init_208 : mj_Snd zG ("StreamWatchModel", "<init>", c_Md_init, 2) 208 (x_iload 1) 209 := mj_iload_n (j := 1) rfl (by decide +kernel)
theorem d_Md_init_209 : decode c_Md_init 209 = .ok (.ifCond .eq 7, 3) := by decide +kernel
theorem i_Md_init_212 : mj_Snd zG ("StreamWatchModel", "<init>", c_Md_init, 2) 212 (x_const 1) 213 := mj_const (n := 1) (by decide) (by decide +kernel)
theorem i_Md_init_213 : mj_Snd zG ("StreamWatchModel", "<init>", c_Md_init, 2) 213 (x_skip) 217 := mj_goto (off := 4) (by decide) (by decide +kernel)
theorem i_Md_init_216 : mj_Snd zG ("StreamWatchModel", "<init>", c_Md_init, 2) 216 (x_const 0) 217 := mj_const (n := 0) (by decide) (by decide +kernel)
theorem i_Md_init_217 : mj_Snd zG ("StreamWatchModel", "<init>", c_Md_init, 2) 217 (x_putf 11 1 1) 220 := mj_putG (T := T_Md) (ty0 := t_Md) rfl (by decide) u_Md t_Md_ok n_Md z4_66 (Or.inl rfl) (by decide +kernel)
theorem d_Md_init_220 : decode c_Md_init 220 = .ok (.return_, 1) := by decide +kernel
theorem b_Md_init_0 : mj_Ch zG ("StreamWatchModel", "<init>", c_Md_init, 2) 0 [x_aload 0] 1 := ⟨_, i_Md_init_0, rfl⟩
theorem b_Md_init_4 : mj_Ch zG ("StreamWatchModel", "<init>", c_Md_init, 2) 4 [x_aload 0, x_const 100] 7 := ⟨_, i_Md_init_4, _, i_Md_init_5, rfl⟩
theorem b_Md_init_9 : mj_Ch zG ("StreamWatchModel", "<init>", c_Md_init, 2) 9 [x_putf 11 3 3, x_aload 0, x_const 4] 14 := ⟨_, i_Md_init_9, _, i_Md_init_12, _, i_Md_init_13, rfl⟩
theorem b_Md_init_16 : mj_Ch zG ("StreamWatchModel", "<init>", c_Md_init, 2) 16 [x_putf 11 4 3, x_aload 0, x_const 4] 21 := ⟨_, i_Md_init_16, _, i_Md_init_19, _, i_Md_init_20, rfl⟩
theorem b_Md_init_23 : mj_Ch zG ("StreamWatchModel", "<init>", c_Md_init, 2) 23 [x_putf 11 5 3, x_aload 0, x_const 4] 28 := ⟨_, i_Md_init_23, _, i_Md_init_26, _, i_Md_init_27, rfl⟩
theorem b_Md_init_30 : mj_Ch zG ("StreamWatchModel", "<init>", c_Md_init, 2) 30 [x_putf 11 6 3, x_aload 0, x_const 4] 35 := ⟨_, i_Md_init_30, _, i_Md_init_33, _, i_Md_init_34, rfl⟩
theorem b_Md_init_37 : mj_Ch zG ("StreamWatchModel", "<init>", c_Md_init, 2) 37 [x_putf 11 7 3, x_aload 0, x_const 4] 42 := ⟨_, i_Md_init_37, _, i_Md_init_40, _, i_Md_init_41, rfl⟩
theorem b_Md_init_44 : mj_Ch zG ("StreamWatchModel", "<init>", c_Md_init, 2) 44 [x_putf 11 8 3, x_aload 0, x_const 4] 49 := ⟨_, i_Md_init_44, _, i_Md_init_47, _, i_Md_init_48, rfl⟩
theorem b_Md_init_51 : mj_Ch zG ("StreamWatchModel", "<init>", c_Md_init, 2) 51 [x_putf 11 9 3, x_aload 0, x_const 8] 57 := ⟨_, i_Md_init_51, _, i_Md_init_54, _, i_Md_init_55, rfl⟩
theorem b_Md_init_59 : mj_Ch zG ("StreamWatchModel", "<init>", c_Md_init, 2) 59 [x_putf 11 11 3, x_aload 0, x_const 8] 65 := ⟨_, i_Md_init_59, _, i_Md_init_62, _, i_Md_init_63, rfl⟩
theorem b_Md_init_67 : mj_Ch zG ("StreamWatchModel", "<init>", c_Md_init, 2) 67 [x_putf 11 12 3, x_aload 0, x_const 8] 73 := ⟨_, i_Md_init_67, _, i_Md_init_70, _, i_Md_init_71, rfl⟩
theorem b_Md_init_75 : mj_Ch zG ("StreamWatchModel", "<init>", c_Md_init, 2) 75 [x_putf 11 13 3, x_aload 0, x_const 8] 81 := ⟨_, i_Md_init_75, _, i_Md_init_78, _, i_Md_init_79, rfl⟩
theorem b_Md_init_83 : mj_Ch zG ("StreamWatchModel", "<init>", c_Md_init, 2) 83 [x_putf 11 14 3, x_aload 0, x_const 640] 90 := ⟨_, i_Md_init_83, _, i_Md_init_86, _, i_Md_init_87, rfl⟩
theorem b_Md_init_92 : mj_Ch zG ("StreamWatchModel", "<init>", c_Md_init, 2) 92 [x_putf 11 15 3, x_aload 0, x_const 256] 99 := ⟨_, i_Md_init_92, _, i_Md_init_95, _, i_Md_init_96, rfl⟩
theorem b_Md_init_101 : mj_Ch zG ("StreamWatchModel", "<init>", c_Md_init, 2) 101 [x_putf 11 16 3, x_aload 0, x_const 256] 108 := ⟨_, i_Md_init_101, _, i_Md_init_104, _, i_Md_init_105, rfl⟩
theorem b_Md_init_110 : mj_Ch zG ("StreamWatchModel", "<init>", c_Md_init, 2) 110 [x_putf 11 17 3, x_aload 0, x_const 48] 116 := ⟨_, i_Md_init_110, _, i_Md_init_113, _, i_Md_init_114, rfl⟩
theorem b_Md_init_118 : mj_Ch zG ("StreamWatchModel", "<init>", c_Md_init, 2) 118 [x_putf 11 18 3, x_aload 0, x_const 6] 124 := ⟨_, i_Md_init_118, _, i_Md_init_121, _, i_Md_init_122, rfl⟩
theorem b_Md_init_126 : mj_Ch zG ("StreamWatchModel", "<init>", c_Md_init, 2) 126 [x_putf 11 20 3, x_aload 0, x_const 6] 132 := ⟨_, i_Md_init_126, _, i_Md_init_129, _, i_Md_init_130, rfl⟩
theorem b_Md_init_134 : mj_Ch zG ("StreamWatchModel", "<init>", c_Md_init, 2) 134 [x_putf 11 21 3, x_aload 0, x_const 6] 140 := ⟨_, i_Md_init_134, _, i_Md_init_137, _, i_Md_init_138, rfl⟩
theorem b_Md_init_142 : mj_Ch zG ("StreamWatchModel", "<init>", c_Md_init, 2) 142 [x_putf 11 22 3, x_aload 0, x_const 18] 148 := ⟨_, i_Md_init_142, _, i_Md_init_145, _, i_Md_init_146, rfl⟩
theorem b_Md_init_150 : mj_Ch zG ("StreamWatchModel", "<init>", c_Md_init, 2) 150 [x_putf 11 23 3, x_aload 0, x_const 108] 156 := ⟨_, i_Md_init_150, _, i_Md_init_153, _, i_Md_init_154, rfl⟩
theorem b_Md_init_158 : mj_Ch zG ("StreamWatchModel", "<init>", c_Md_init, 2) 158 [x_putf 11 24 3, x_aload 0, x_const 18] 164 := ⟨_, i_Md_init_158, _, i_Md_init_161, _, i_Md_init_162, rfl⟩
theorem b_Md_init_166 : mj_Ch zG ("StreamWatchModel", "<init>", c_Md_init, 2) 166 [x_putf 11 25 3, x_aload 0, x_const 18] 172 := ⟨_, i_Md_init_166, _, i_Md_init_169, _, i_Md_init_170, rfl⟩
theorem b_Md_init_174 : mj_Ch zG ("StreamWatchModel", "<init>", c_Md_init, 2) 174 [x_putf 11 26 3, x_aload 0, x_const 18] 180 := ⟨_, i_Md_init_174, _, i_Md_init_177, _, i_Md_init_178, rfl⟩
theorem b_Md_init_182 : mj_Ch zG ("StreamWatchModel", "<init>", c_Md_init, 2) 182 [x_putf 11 27 3, x_aload 0, x_const 3] 187 := ⟨_, i_Md_init_182, _, i_Md_init_185, _, i_Md_init_186, rfl⟩
theorem b_Md_init_189 : mj_Ch zG ("StreamWatchModel", "<init>", c_Md_init, 2) 189 [x_putf 11 29 3, x_aload 0, x_const 3] 194 := ⟨_, i_Md_init_189, _, i_Md_init_192, _, i_Md_init_193, rfl⟩
theorem b_Md_init_196 : mj_Ch zG ("StreamWatchModel", "<init>", c_Md_init, 2) 196 [x_putf 11 30 3, x_aload 0, x_const 96] 202 := ⟨_, i_Md_init_196, _, i_Md_init_199, _, i_Md_init_200, rfl⟩
theorem b_Md_init_204 : mj_Ch zG ("StreamWatchModel", "<init>", c_Md_init, 2) 204 [x_putf 11 32 3, x_aload 0, x_iload 1] 209 := ⟨_, i_Md_init_204, _, i_Md_init_207, _, i_Md_init_208, rfl⟩
theorem b_Md_init_212 : mj_Ch zG ("StreamWatchModel", "<init>", c_Md_init, 2) 212 [x_const 1, x_skip] 217 := ⟨_, i_Md_init_212, _, i_Md_init_213, rfl⟩
theorem b_Md_init_216 : mj_Ch zG ("StreamWatchModel", "<init>", c_Md_init, 2) 216 [x_const 0] 217 := ⟨_, i_Md_init_216, rfl⟩
theorem b_Md_init_217 : mj_Ch zG ("StreamWatchModel", "<init>", c_Md_init, 2) 217 [x_putf 11 1 1] 220 := ⟨_, i_Md_init_217, rfl⟩
theorem i_Md_thrown_0 : mj_Snd zG ("StreamWatchModel", "thrown", c_Md_thrown, 1) 0 (x_aload 0) 1 := mj_aload_n (j := 0) rfl (by decide +kernel)
theorem i_Md_thrown_1 : mj_Snd zG ("StreamWatchModel", "thrown", c_Md_thrown, 1) 1 (x_getf 11 0) 4 := mj_getf (T := T_Md) rfl (by decide) u_Md z4_65 (by decide +kernel)
theorem d_Md_thrown_4 : decode c_Md_thrown 4 = .ok (.ireturn, 1) := by decide +kernel
theorem b_Md_thrown_0 : mj_Ch zG ("StreamWatchModel", "thrown", c_Md_thrown, 1) 0 [x_aload 0, x_getf 11 0] 4 := ⟨_, i_Md_thrown_0, _, i_Md_thrown_1, rfl⟩
theorem i_Md_add_0 : mj_Snd zG ("StreamWatchModel", "add", c_Md_add, 2) 0 (x_aload 0) 1 := mj_aload_n (j := 0) rfl (by decide +kernel)
theorem i_Md_add_1 : mj_Snd zG ("StreamWatchModel", "add", c_Md_add, 2) 1 (x_getf 11 3) 4 := mj_getf (T := T_Md) rfl (by decide) u_Md z4_68 (by decide +kernel)
theorem i_Md_add_4 : mj_Snd zG ("StreamWatchModel", "add", c_Md_add, 2) 4 (x_aload 0) 5 := mj_aload_n (j := 0) rfl (by decide +kernel)
theorem i_Md_add_5 : mj_Snd zG ("StreamWatchModel", "add", c_Md_add, 2) 5 (x_getf 11 2) 8 := mj_getf (T := T_Md) rfl (by decide) u_Md z4_67 (by decide +kernel)
theorem i_Md_add_8 : mj_Snd zG ("StreamWatchModel", "add", c_Md_add, 2) 8 (x_iload 1) 9 := mj_iload_n (j := 1) rfl (by decide +kernel)
theorem i_Md_add_9 : mj_Snd zG ("StreamWatchModel", "add", c_Md_add, 2) 9 (x_const 255) 12 := mj_sipush (n := 255) (by decide) (by decide +kernel)
theorem i_Md_add_12 : mj_Snd zG ("StreamWatchModel", "add", c_Md_add, 2) 12 (x_iand) 13 := mj_iand (by decide +kernel)
theorem i_Md_add_13 : mj_Snd zG ("StreamWatchModel", "add", c_Md_add, 2) 13 (x_iast 0) 14 := mj_iast rfl (by decide +kernel)
theorem i_Md_add_14 : mj_Snd zG ("StreamWatchModel", "add", c_Md_add, 2) 14 (x_aload 0) 15 := mj_aload_n (j := 0) rfl (by decide +kernel)
theorem i_Md_add_15 : mj_Snd zG ("StreamWatchModel", "add", c_Md_add, 2) 15 (x_dup) 16 := mj_dup (by decide +kernel)
theorem i_Md_add_16 : mj_Snd zG ("StreamWatchModel", "add", c_Md_add, 2) 16 (x_getf 11 2) 19 := mj_getf (T := T_Md) rfl (by decide) u_Md z4_67 (by decide +kernel)
theorem i_Md_add_19 : mj_Snd zG ("StreamWatchModel", "add", c_Md_add, 2) 19 (x_const 1) 20 := mj_const (n := 1) (by decide) (by decide +kernel)
theorem i_Md_add_20 : mj_Snd zG ("StreamWatchModel", "add", c_Md_add, 2) 20 (x_iadd) 21 := mj_iadd (by decide +kernel)
theorem i_Md_add_21 : mj_Snd zG ("StreamWatchModel", "add", c_Md_add, 2) 21 (x_putf 11 2 0) 24 := mj_putG (T := T_Md) (ty0 := t_Md) rfl (by decide) u_Md t_Md_ok n_Md z4_67 (Or.inl rfl) (by decide +kernel)
theorem d_Md_add_24 : decode c_Md_add 24 = .ok (.return_, 1) := by decide +kernel
theorem b_Md_add_0 : mj_Ch zG ("StreamWatchModel", "add", c_Md_add, 2) 0 [x_aload 0, x_getf 11 3, x_aload 0, x_getf 11 2, x_iload 1, x_const 255, x_iand, x_iast 0, x_aload 0, x_dup, x_getf 11 2, x_const 1, x_iadd, x_putf 11 2 0] 24 := ⟨_, i_Md_add_0, _, i_Md_add_1, _, i_Md_add_4, _, i_Md_add_5, _, i_Md_add_8, _, i_Md_add_9, _, i_Md_add_12, _, i_Md_add_13, _, i_Md_add_14, _, i_Md_add_15, _, i_Md_add_16, _, i_Md_add_19, _, i_Md_add_20, _, i_Md_add_21, rfl⟩
theorem i_Md_addNumber_0 : mj_Snd zG ("StreamWatchModel", "addNumber", c_Md_addNumber, 4) 0 (x_iload 2) 1 := mj_iload_n (j := 2) rfl (by decide +kernel)
theorem i_Md_addNumber_1 : mj_Snd zG ("StreamWatchModel", "addNumber", c_Md_addNumber, 4) 1 (x_const 1) 2 := mj_const (n := 1) (by decide) (by decide +kernel)
theorem i_Md_addNumber_2 : mj_Snd zG ("StreamWatchModel", "addNumber", c_Md_addNumber, 4) 2 (x_isub) 3 := mj_isub (by decide +kernel)
theorem i_Md_addNumber_3 : mj_Snd zG ("StreamWatchModel", "addNumber", c_Md_addNumber, 4) 3 (x_istore 3) 4 := mj_istore_n (j := 3) rfl (by decide) (by decide +kernel)
theorem i_Md_addNumber_4 : mj_Snd zG ("StreamWatchModel", "addNumber", c_Md_addNumber, 4) 4 (x_iload 3) 5 := mj_iload_n (j := 3) rfl (by decide +kernel)
theorem d_Md_addNumber_5 : decode c_Md_addNumber 5 = .ok (.ifCond .lt 19, 3) := by decide +kernel
theorem i_Md_addNumber_8 : mj_Snd zG ("StreamWatchModel", "addNumber", c_Md_addNumber, 4) 8 (x_aload 0) 9 := mj_aload_n (j := 0) rfl (by decide +kernel)
theorem i_Md_addNumber_9 : mj_Snd zG ("StreamWatchModel", "addNumber", c_Md_addNumber, 4) 9 (x_iload 1) 10 := mj_iload_n (j := 1) rfl (by decide +kernel)
theorem i_Md_addNumber_10 : mj_Snd zG ("StreamWatchModel", "addNumber", c_Md_addNumber, 4) 10 (x_const 8) 12 := mj_bipush (n := 8) (by decide) (by decide +kernel)
theorem i_Md_addNumber_12 : mj_Snd zG ("StreamWatchModel", "addNumber", c_Md_addNumber, 4) 12 (x_iload 3) 13 := mj_iload_n (j := 3) rfl (by decide +kernel)
theorem i_Md_addNumber_13 : mj_Snd zG ("StreamWatchModel", "addNumber", c_Md_addNumber, 4) 13 (x_imul) 14 := mj_imul (by decide +kernel)
theorem i_Md_addNumber_14 : mj_Snd zG ("StreamWatchModel", "addNumber", c_Md_addNumber, 4) 14 (x_ishr) 15 := mj_ishr (by decide +kernel)
theorem d_Md_addNumber_15 : decode c_Md_addNumber 15 = .ok (.invokevirtual 100, 3) := by decide +kernel
theorem i_Md_addNumber_18 : mj_Snd zG ("StreamWatchModel", "addNumber", c_Md_addNumber, 4) 18 (x_iinc 3 (-1)) 21 := mj_iinc (n := (-1)) (by decide) (by decide) (by decide +kernel)
theorem i_Md_addNumber_21 : mj_Snd zG ("StreamWatchModel", "addNumber", c_Md_addNumber, 4) 21 (x_skip) 4 := mj_goto (off := (-17)) (by decide) (by decide +kernel)
theorem d_Md_addNumber_24 : decode c_Md_addNumber 24 = .ok (.return_, 1) := by decide +kernel
theorem b_Md_addNumber_0 : mj_Ch zG ("StreamWatchModel", "addNumber", c_Md_addNumber, 4) 0 [x_iload 2, x_const 1, x_isub, x_istore 3] 4 := ⟨_, i_Md_addNumber_0, _, i_Md_addNumber_1, _, i_Md_addNumber_2, _, i_Md_addNumber_3, rfl⟩
theorem b_Md_addNumber_4 : mj_Ch zG ("StreamWatchModel", "addNumber", c_Md_addNumber, 4) 4 [x_iload 3] 5 := ⟨_, i_Md_addNumber_4, rfl⟩
theorem b_Md_addNumber_8 : mj_Ch zG ("StreamWatchModel", "addNumber", c_Md_addNumber, 4) 8 [x_aload 0, x_iload 1, x_const 8, x_iload 3, x_imul, x_ishr] 15 := ⟨_, i_Md_addNumber_8, _, i_Md_addNumber_9, _, i_Md_addNumber_10, _, i_Md_addNumber_12, _, i_Md_addNumber_13, _, i_Md_addNumber_14, rfl⟩
theorem b_Md_addNumber_18 : mj_Ch zG ("StreamWatchModel", "addNumber", c_Md_addNumber, 4) 18 [x_iinc 3 (-1), x_skip] 4 := ⟨_, i_Md_addNumber_18, _, i_Md_addNumber_21, rfl⟩
theorem i_Md_craft_0 : mj_Snd zG ("StreamWatchModel", "craft", c_Md_craft, 11) 0 (x_aload 0) 1 := mj_aload_n (j := 0) rfl (by decide +kernel)
theorem i_Md_craft_1 : mj_Snd zG ("StreamWatchModel", "craft", c_Md_craft, 11) 1 (x_iload 1) 2 := mj_iload_n (j := 1) rfl (by decide +kernel)
theorem d_Md_craft_2 : decode c_Md_craft 2 = .ok (.ifCond .lt 30, 3) := by decide +kernel
theorem i_Md_craft_5 : mj_Snd zG ("StreamWatchModel", "craft", c_Md_craft, 11) 5 (x_iload 1) 6 := mj_iload_n (j := 1) rfl (by decide +kernel)
theorem i_Md_craft_6 : mj_Snd zG ("StreamWatchModel", "craft", c_Md_craft, 11) 6 (x_const 7) 8 := mj_bipush (n := 7) (by decide) (by decide +kernel)
theorem d_Md_craft_8 : decode c_Md_craft 8 = .ok (.if_icmp .gt 24, 3) := by decide +kernel
theorem i_Md_craft_11 : mj_Snd zG ("StreamWatchModel", "craft", c_Md_craft, 11) 11 (x_iload 2) 12 := mj_iload_n (j := 2) rfl (by decide +kernel)
theorem d_Md_craft_12 : decode c_Md_craft 12 = .ok (.ifCond .lt 20, 3) := by decide +kernel
theorem i_Md_craft_15 : mj_Snd zG ("StreamWatchModel", "craft", c_Md_craft, 11) 15 (x_iload 2) 16 := mj_iload_n (j := 2) rfl (by decide +kernel)
theorem i_Md_craft_16 : mj_Snd zG ("StreamWatchModel", "craft", c_Md_craft, 11) 16 (x_const 1) 17 := mj_const (n := 1) (by decide) (by decide +kernel)
theorem d_Md_craft_17 : decode c_Md_craft 17 = .ok (.if_icmp .gt 15, 3) := by decide +kernel
theorem i_Md_craft_20 : mj_Snd zG ("StreamWatchModel", "craft", c_Md_craft, 11) 20 (x_iload 5) 22 := mj_iload (by decide +kernel)
theorem d_Md_craft_22 : decode c_Md_craft 22 = .ok (.ifCond .lt 10, 3) := by decide +kernel
theorem i_Md_craft_25 : mj_Snd zG ("StreamWatchModel", "craft", c_Md_craft, 11) 25 (x_iload 5) 27 := mj_iload (by decide +kernel)
theorem i_Md_craft_27 : mj_Snd zG ("StreamWatchModel", "craft", c_Md_craft, 11) 27 (x_const 8) 29 := mj_bipush (n := 8) (by decide) (by decide +kernel)
theorem d_Md_craft_29 : decode c_Md_craft 29 = .ok (.if_icmp .le 7, 3) := by decide +kernel
theorem i_Md_craft_32 : mj_Snd zG ("StreamWatchModel", "craft", c_Md_craft, 11) 32 (x_const 1) 33 := mj_const (n := 1) (by decide) (by decide +kernel)
theorem i_Md_craft_33 : mj_Snd zG ("StreamWatchModel", "craft", c_Md_craft, 11) 33 (x_skip) 37 := mj_goto (off := 4) (by decide) (by decide +kernel)
theorem i_Md_craft_36 : mj_Snd zG ("StreamWatchModel", "craft", c_Md_craft, 11) 36 (x_const 0) 37 := mj_const (n := 0) (by decide) (by decide +kernel)
theorem i_Md_craft_37 : mj_Snd zG ("StreamWatchModel", "craft", c_Md_craft, 11) 37 (x_putf 11 0 0) 40 := mj_putG (T := T_Md) (ty0 := t_Md) rfl (by decide) u_Md t_Md_ok n_Md z4_65 (Or.inl rfl) (by decide +kernel)
theorem i_Md_craft_40 : mj_Snd zG ("StreamWatchModel", "craft", c_Md_craft, 11) 40 (x_aload 0) 41 := mj_aload_n (j := 0) rfl (by decide +kernel)
theorem i_Md_craft_41 : mj_Snd zG ("StreamWatchModel", "craft", c_Md_craft, 11) 41 (x_getf 11 0) 44 := mj_getf (T := T_Md) rfl (by decide) u_Md z4_65 (by decide +kernel)
theorem d_Md_craft_44 : decode c_Md_craft 44 = .ok (.ifCond .le 5, 3) := by decide +kernel
theorem i_Md_craft_47 : mj_Snd zG ("StreamWatchModel", "craft", c_Md_craft, 11) 47 (x_const 0) 48 := mj_const (n := 0) (by decide) (by decide +kernel)
theorem d_Md_craft_48 : decode c_Md_craft 48 = .ok (.ireturn, 1) := by decide +kernel
theorem i_Md_craft_49 : mj_Snd zG ("StreamWatchModel", "craft", c_Md_craft, 11) 49 (x_aload 0) 50 := mj_aload_n (j := 0) rfl (by decide +kernel)
theorem i_Md_craft_50 : mj_Snd zG ("StreamWatchModel", "craft", c_Md_craft, 11) 50 (x_const 0) 51 := mj_const (n := 0) (by decide) (by decide +kernel)
theorem i_Md_craft_51 : mj_Snd zG ("StreamWatchModel", "craft", c_Md_craft, 11) 51 (x_putf 11 2 0) 54 := mj_putG (T := T_Md) (ty0 := t_Md) rfl (by decide) u_Md t_Md_ok n_Md z4_67 (Or.inl rfl) (by decide +kernel)
theorem i_Md_craft_54 : mj_Snd zG ("StreamWatchModel", "craft", c_Md_craft, 11) 54 (x_const 167772161) 56 := mj_ldc z4_173 (by decide +kernel)
theorem i_Md_craft_56 : mj_Snd zG ("StreamWatchModel", "craft", c_Md_craft, 11) 56 (x_iload 1) 57 := mj_iload_n (j := 1) rfl (by decide +kernel)
theorem i_Md_craft_57 : mj_Snd zG ("StreamWatchModel", "craft", c_Md_craft, 11) 57 (x_iadd) 58 := mj_iadd (by decide +kernel)
theorem i_Md_craft_58 : mj_Snd zG ("StreamWatchModel", "craft", c_Md_craft, 11) 58 (x_istore 8) 60 := mj_istore (by decide) (by decide +kernel)
theorem i_Md_craft_60 : mj_Snd zG ("StreamWatchModel", "craft", c_Md_craft, 11) 60 (x_const 167772417) 62 := mj_ldc z4_174 (by decide +kernel)
theorem i_Md_craft_62 : mj_Snd zG ("StreamWatchModel", "craft", c_Md_craft, 11) 62 (x_istore 9) 64 := mj_istore (by decide) (by decide +kernel)
theorem i_Md_craft_64 : mj_Snd zG ("StreamWatchModel", "craft", c_Md_craft, 11) 64 (x_aload 0) 65 := mj_aload_n (j := 0) rfl (by decide +kernel)
theorem i_Md_craft_65 : mj_Snd zG ("StreamWatchModel", "craft", c_Md_craft, 11) 65 (x_const 69) 67 := mj_bipush (n := 69) (by decide) (by decide +kernel)
theorem i_Md_craft_67 : mj_Snd zG ("StreamWatchModel", "craft", c_Md_craft, 11) 67 (x_const 1) 68 := mj_const (n := 1) (by decide) (by decide +kernel)
theorem d_Md_craft_68 : decode c_Md_craft 68 = .ok (.invokevirtual 106, 3) := by decide +kernel
theorem i_Md_craft_71 : mj_Snd zG ("StreamWatchModel", "craft", c_Md_craft, 11) 71 (x_aload 0) 72 := mj_aload_n (j := 0) rfl (by decide +kernel)
theorem i_Md_craft_72 : mj_Snd zG ("StreamWatchModel", "craft", c_Md_craft, 11) 72 (x_const 40) 74 := mj_bipush (n := 40) (by decide) (by decide +kernel)
theorem i_Md_craft_74 : mj_Snd zG ("StreamWatchModel", "craft", c_Md_craft, 11) 74 (x_iload 5) 76 := mj_iload (by decide +kernel)
theorem i_Md_craft_76 : mj_Snd zG ("StreamWatchModel", "craft", c_Md_craft, 11) 76 (x_iadd) 77 := mj_iadd (by decide +kernel)
theorem i_Md_craft_77 : mj_Snd zG ("StreamWatchModel", "craft", c_Md_craft, 11) 77 (x_const 3) 78 := mj_const (n := 3) (by decide) (by decide +kernel)
theorem d_Md_craft_78 : decode c_Md_craft 78 = .ok (.invokevirtual 106, 3) := by decide +kernel
theorem i_Md_craft_81 : mj_Snd zG ("StreamWatchModel", "craft", c_Md_craft, 11) 81 (x_aload 0) 82 := mj_aload_n (j := 0) rfl (by decide +kernel)
theorem i_Md_craft_82 : mj_Snd zG ("StreamWatchModel", "craft", c_Md_craft, 11) 82 (x_const 0) 83 := mj_const (n := 0) (by decide) (by decide +kernel)
theorem i_Md_craft_83 : mj_Snd zG ("StreamWatchModel", "craft", c_Md_craft, 11) 83 (x_const 4) 84 := mj_const (n := 4) (by decide) (by decide +kernel)
theorem d_Md_craft_84 : decode c_Md_craft 84 = .ok (.invokevirtual 106, 3) := by decide +kernel
theorem i_Md_craft_87 : mj_Snd zG ("StreamWatchModel", "craft", c_Md_craft, 11) 87 (x_aload 0) 88 := mj_aload_n (j := 0) rfl (by decide +kernel)
theorem i_Md_craft_88 : mj_Snd zG ("StreamWatchModel", "craft", c_Md_craft, 11) 88 (x_const 6) 90 := mj_bipush (n := 6) (by decide) (by decide +kernel)
theorem i_Md_craft_90 : mj_Snd zG ("StreamWatchModel", "craft", c_Md_craft, 11) 90 (x_const 2) 91 := mj_const (n := 2) (by decide) (by decide +kernel)
theorem d_Md_craft_91 : decode c_Md_craft 91 = .ok (.invokevirtual 106, 3) := by decide +kernel
theorem i_Md_craft_94 : mj_Snd zG ("StreamWatchModel", "craft", c_Md_craft, 11) 94 (x_aload 0) 95 := mj_aload_n (j := 0) rfl (by decide +kernel)
theorem i_Md_craft_95 : mj_Snd zG ("StreamWatchModel", "craft", c_Md_craft, 11) 95 (x_const 0) 96 := mj_const (n := 0) (by decide) (by decide +kernel)
theorem i_Md_craft_96 : mj_Snd zG ("StreamWatchModel", "craft", c_Md_craft, 11) 96 (x_const 2) 97 := mj_const (n := 2) (by decide) (by decide +kernel)
theorem d_Md_craft_97 : decode c_Md_craft 97 = .ok (.invokevirtual 106, 3) := by decide +kernel
theorem i_Md_craft_100 : mj_Snd zG ("StreamWatchModel", "craft", c_Md_craft, 11) 100 (x_aload 0) 101 := mj_aload_n (j := 0) rfl (by decide +kernel)
theorem i_Md_craft_101 : mj_Snd zG ("StreamWatchModel", "craft", c_Md_craft, 11) 101 (x_iload 2) 102 := mj_iload_n (j := 2) rfl (by decide +kernel)
theorem d_Md_craft_102 : decode c_Md_craft 102 = .ok (.ifCond .ne 8, 3) := by decide +kernel
theorem i_Md_craft_105 : mj_Snd zG ("StreamWatchModel", "craft", c_Md_craft, 11) 105 (x_iload 8) 107 := mj_iload (by decide +kernel)
theorem i_Md_craft_107 : mj_Snd zG ("StreamWatchModel", "craft", c_Md_craft, 11) 107 (x_skip) 112 := mj_goto (off := 5) (by decide) (by decide +kernel)
theorem i_Md_craft_110 : mj_Snd zG ("StreamWatchModel", "craft", c_Md_craft, 11) 110 (x_iload 9) 112 := mj_iload (by decide +kernel)
theorem i_Md_craft_112 : mj_Snd zG ("StreamWatchModel", "craft", c_Md_craft, 11) 112 (x_const 4) 113 := mj_const (n := 4) (by decide) (by decide +kernel)
theorem d_Md_craft_113 : decode c_Md_craft 113 = .ok (.invokevirtual 106, 3) := by decide +kernel
theorem i_Md_craft_116 : mj_Snd zG ("StreamWatchModel", "craft", c_Md_craft, 11) 116 (x_aload 0) 117 := mj_aload_n (j := 0) rfl (by decide +kernel)
theorem i_Md_craft_117 : mj_Snd zG ("StreamWatchModel", "craft", c_Md_craft, 11) 117 (x_iload 2) 118 := mj_iload_n (j := 2) rfl (by decide +kernel)
theorem d_Md_craft_118 : decode c_Md_craft 118 = .ok (.ifCond .ne 8, 3) := by decide +kernel
theorem i_Md_craft_121 : mj_Snd zG ("StreamWatchModel", "craft", c_Md_craft, 11) 121 (x_iload 9) 123 := mj_iload (by decide +kernel)
theorem i_Md_craft_123 : mj_Snd zG ("StreamWatchModel", "craft", c_Md_craft, 11) 123 (x_skip) 128 := mj_goto (off := 5) (by decide) (by decide +kernel)
theorem i_Md_craft_126 : mj_Snd zG ("StreamWatchModel", "craft", c_Md_craft, 11) 126 (x_iload 8) 128 := mj_iload (by decide +kernel)
theorem i_Md_craft_128 : mj_Snd zG ("StreamWatchModel", "craft", c_Md_craft, 11) 128 (x_const 4) 129 := mj_const (n := 4) (by decide) (by decide +kernel)
theorem d_Md_craft_129 : decode c_Md_craft 129 = .ok (.invokevirtual 106, 3) := by decide +kernel
theorem i_Md_craft_132 : mj_Snd zG ("StreamWatchModel", "craft", c_Md_craft, 11) 132 (x_aload 0) 133 := mj_aload_n (j := 0) rfl (by decide +kernel)
theorem i_Md_craft_133 : mj_Snd zG ("StreamWatchModel", "craft", c_Md_craft, 11) 133 (x_iload 2) 134 := mj_iload_n (j := 2) rfl (by decide +kernel)
theorem d_Md_craft_134 : decode c_Md_craft 134 = .ok (.ifCond .ne 11, 3) := by decide +kernel
theorem i_Md_craft_137 : mj_Snd zG ("StreamWatchModel", "craft", c_Md_craft, 11) 137 (x_const 1000) 140 := mj_sipush (n := 1000) (by decide) (by decide +kernel)
theorem i_Md_craft_140 : mj_Snd zG ("StreamWatchModel", "craft", c_Md_craft, 11) 140 (x_iload 1) 141 := mj_iload_n (j := 1) rfl (by decide +kernel)
theorem i_Md_craft_141 : mj_Snd zG ("StreamWatchModel", "craft", c_Md_craft, 11) 141 (x_iadd) 142 := mj_iadd (by decide +kernel)
theorem i_Md_craft_142 : mj_Snd zG ("StreamWatchModel", "craft", c_Md_craft, 11) 142 (x_skip) 147 := mj_goto (off := 5) (by decide) (by decide +kernel)
theorem i_Md_craft_145 : mj_Snd zG ("StreamWatchModel", "craft", c_Md_craft, 11) 145 (x_const 80) 147 := mj_bipush (n := 80) (by decide) (by decide +kernel)
theorem i_Md_craft_147 : mj_Snd zG ("StreamWatchModel", "craft", c_Md_craft, 11) 147 (x_const 2) 148 := mj_const (n := 2) (by decide) (by decide +kernel)
theorem d_Md_craft_148 : decode c_Md_craft 148 = .ok (.invokevirtual 106, 3) := by decide +kernel
theorem i_Md_craft_151 : mj_Snd zG ("StreamWatchModel", "craft", c_Md_craft, 11) 151 (x_aload 0) 152 := mj_aload_n (j := 0) rfl (by decide +kernel)
theorem i_Md_craft_152 : mj_Snd zG ("StreamWatchModel", "craft", c_Md_craft, 11) 152 (x_iload 2) 153 := mj_iload_n (j := 2) rfl (by decide +kernel)
theorem d_Md_craft_153 : decode c_Md_craft 153 = .ok (.ifCond .ne 8, 3) := by decide +kernel
theorem i_Md_craft_156 : mj_Snd zG ("StreamWatchModel", "craft", c_Md_craft, 11) 156 (x_const 80) 158 := mj_bipush (n := 80) (by decide) (by decide +kernel)
theorem i_Md_craft_158 : mj_Snd zG ("StreamWatchModel", "craft", c_Md_craft, 11) 158 (x_skip) 166 := mj_goto (off := 8) (by decide) (by decide +kernel)
theorem i_Md_craft_161 : mj_Snd zG ("StreamWatchModel", "craft", c_Md_craft, 11) 161 (x_const 1000) 164 := mj_sipush (n := 1000) (by decide) (by decide +kernel)
theorem i_Md_craft_164 : mj_Snd zG ("StreamWatchModel", "craft", c_Md_craft, 11) 164 (x_iload 1) 165 := mj_iload_n (j := 1) rfl (by decide +kernel)
theorem i_Md_craft_165 : mj_Snd zG ("StreamWatchModel", "craft", c_Md_craft, 11) 165 (x_iadd) 166 := mj_iadd (by decide +kernel)
theorem i_Md_craft_166 : mj_Snd zG ("StreamWatchModel", "craft", c_Md_craft, 11) 166 (x_const 2) 167 := mj_const (n := 2) (by decide) (by decide +kernel)
theorem d_Md_craft_167 : decode c_Md_craft 167 = .ok (.invokevirtual 106, 3) := by decide +kernel
theorem i_Md_craft_170 : mj_Snd zG ("StreamWatchModel", "craft", c_Md_craft, 11) 170 (x_aload 0) 171 := mj_aload_n (j := 0) rfl (by decide +kernel)
theorem i_Md_craft_171 : mj_Snd zG ("StreamWatchModel", "craft", c_Md_craft, 11) 171 (x_iload 3) 172 := mj_iload_n (j := 3) rfl (by decide +kernel)
theorem i_Md_craft_172 : mj_Snd zG ("StreamWatchModel", "craft", c_Md_craft, 11) 172 (x_const 4) 173 := mj_const (n := 4) (by decide) (by decide +kernel)
theorem d_Md_craft_173 : decode c_Md_craft 173 = .ok (.invokevirtual 106, 3) := by decide +kernel
theorem i_Md_craft_176 : mj_Snd zG ("StreamWatchModel", "craft", c_Md_craft, 11) 176 (x_aload 0) 177 := mj_aload_n (j := 0) rfl (by decide +kernel)
theorem i_Md_craft_177 : mj_Snd zG ("StreamWatchModel", "craft", c_Md_craft, 11) 177 (x_const 0) 178 := mj_const (n := 0) (by decide) (by decide +kernel)
theorem i_Md_craft_178 : mj_Snd zG ("StreamWatchModel", "craft", c_Md_craft, 11) 178 (x_const 4) 179 := mj_const (n := 4) (by decide) (by decide +kernel)
theorem d_Md_craft_179 : decode c_Md_craft 179 = .ok (.invokevirtual 106, 3) := by decide +kernel
theorem i_Md_craft_182 : mj_Snd zG ("StreamWatchModel", "craft", c_Md_craft, 11) 182 (x_aload 0) 183 := mj_aload_n (j := 0) rfl (by decide +kernel)
theorem i_Md_craft_183 : mj_Snd zG ("StreamWatchModel", "craft", c_Md_craft, 11) 183 (x_const 80) 185 := mj_bipush (n := 80) (by decide) (by decide +kernel)
theorem i_Md_craft_185 : mj_Snd zG ("StreamWatchModel", "craft", c_Md_craft, 11) 185 (x_const 1) 186 := mj_const (n := 1) (by decide) (by decide +kernel)
theorem d_Md_craft_186 : decode c_Md_craft 186 = .ok (.invokevirtual 106, 3) := by decide +kernel
theorem i_Md_craft_189 : mj_Snd zG ("StreamWatchModel", "craft", c_Md_craft, 11) 189 (x_aload 0) 190 := mj_aload_n (j := 0) rfl (by decide +kernel)
theorem i_Md_craft_190 : mj_Snd zG ("StreamWatchModel", "craft", c_Md_craft, 11) 190 (x_iload 4) 192 := mj_iload (by decide +kernel)
theorem i_Md_craft_192 : mj_Snd zG ("StreamWatchModel", "craft", c_Md_craft, 11) 192 (x_const 63) 194 := mj_bipush (n := 63) (by decide) (by decide +kernel)
theorem i_Md_craft_194 : mj_Snd zG ("StreamWatchModel", "craft", c_Md_craft, 11) 194 (x_iand) 195 := mj_iand (by decide +kernel)
theorem i_Md_craft_195 : mj_Snd zG ("StreamWatchModel", "craft", c_Md_craft, 11) 195 (x_const 1) 196 := mj_const (n := 1) (by decide) (by decide +kernel)
theorem d_Md_craft_196 : decode c_Md_craft 196 = .ok (.invokevirtual 106, 3) := by decide +kernel
theorem i_Md_craft_199 : mj_Snd zG ("StreamWatchModel", "craft", c_Md_craft, 11) 199 (x_aload 0) 200 := mj_aload_n (j := 0) rfl (by decide +kernel)
theorem i_Md_craft_200 : mj_Snd zG ("StreamWatchModel", "craft", c_Md_craft, 11) 200 (x_const 0) 201 := mj_const (n := 0) (by decide) (by decide +kernel)
theorem i_Md_craft_201 : mj_Snd zG ("StreamWatchModel", "craft", c_Md_craft, 11) 201 (x_const 4) 202 := mj_const (n := 4) (by decide) (by decide +kernel)
theorem d_Md_craft_202 : decode c_Md_craft 202 = .ok (.invokevirtual 106, 3) := by decide +kernel
theorem i_Md_craft_205 : mj_Snd zG ("StreamWatchModel", "craft", c_Md_craft, 11) 205 (x_aload 0) 206 := mj_aload_n (j := 0) rfl (by decide +kernel)
theorem i_Md_craft_206 : mj_Snd zG ("StreamWatchModel", "craft", c_Md_craft, 11) 206 (x_const 0) 207 := mj_const (n := 0) (by decide) (by decide +kernel)
theorem i_Md_craft_207 : mj_Snd zG ("StreamWatchModel", "craft", c_Md_craft, 11) 207 (x_const 2) 208 := mj_const (n := 2) (by decide) (by decide +kernel)
theorem d_Md_craft_208 : decode c_Md_craft 208 = .ok (.invokevirtual 106, 3) := by decide +kernel
theorem i_Md_craft_211 : mj_Snd zG ("StreamWatchModel", "craft", c_Md_craft, 11) 211 (x_iload 5) 213 := mj_iload (by decide +kernel)
theorem i_Md_craft_213 : mj_Snd zG ("StreamWatchModel", "craft", c_Md_craft, 11) 213 (x_const 1) 214 := mj_const (n := 1) (by decide) (by decide +kernel)
theorem i_Md_craft_214 : mj_Snd zG ("StreamWatchModel", "craft", c_Md_craft, 11) 214 (x_isub) 215 := mj_isub (by decide +kernel)
theorem i_Md_craft_215 : mj_Snd zG ("StreamWatchModel", "craft", c_Md_craft, 11) 215 (x_istore 10) 217 := mj_istore (by decide) (by decide +kernel)
theorem i_Md_craft_217 : mj_Snd zG ("StreamWatchModel", "craft", c_Md_craft, 11) 217 (x_iload 10) 219 := mj_iload (by decide +kernel)
theorem d_Md_craft_219 : decode c_Md_craft 219 = .ok (.ifCond .lt 22, 3) := by decide +kernel
theorem i_Md_craft_222 : mj_Snd zG ("StreamWatchModel", "craft", c_Md_craft, 11) 222 (x_aload 0) 223 := mj_aload_n (j := 0) rfl (by decide +kernel)
theorem i_Md_craft_223 : mj_Snd zG ("StreamWatchModel", "craft", c_Md_craft, 11) 223 (x_lload 6) 225 := mj_lload (by decide +kernel)
theorem i_Md_craft_225 : mj_Snd zG ("StreamWatchModel", "craft", c_Md_craft, 11) 225 (x_const 8) 227 := mj_bipush (n := 8) (by decide) (by decide +kernel)
theorem i_Md_craft_227 : mj_Snd zG ("StreamWatchModel", "craft", c_Md_craft, 11) 227 (x_iload 10) 229 := mj_iload (by decide +kernel)
theorem i_Md_craft_229 : mj_Snd zG ("StreamWatchModel", "craft", c_Md_craft, 11) 229 (x_imul) 230 := mj_imul (by decide +kernel)
theorem i_Md_craft_230 : mj_Snd zG ("StreamWatchModel", "craft", c_Md_craft, 11) 230 (x_lshr) 231 := mj_lshr (by decide +kernel)
theorem i_Md_craft_231 : mj_Snd zG ("StreamWatchModel", "craft", c_Md_craft, 11) 231 (x_l2i) 232 := mj_l2i (by decide +kernel)
theorem d_Md_craft_232 : decode c_Md_craft 232 = .ok (.invokevirtual 100, 3) := by decide +kernel
theorem i_Md_craft_235 : mj_Snd zG ("StreamWatchModel", "craft", c_Md_craft, 11) 235 (x_iinc 10 (-1)) 238 := mj_iinc (n := (-1)) (by decide) (by decide) (by decide +kernel)
theorem i_Md_craft_238 : mj_Snd zG ("StreamWatchModel", "craft", c_Md_craft, 11) 238 (x_skip) 217 := mj_goto (off := (-21)) (by decide) (by decide +kernel)
theorem i_Md_craft_241 : mj_Snd zG ("StreamWatchModel", "craft", c_Md_craft, 11) 241 (x_aload 0) 242 := mj_aload_n (j := 0) rfl (by decide +kernel)
theorem d_Md_craft_242 : decode c_Md_craft 242 = .ok (.invokevirtual 110, 3) := by decide +kernel
theorem i_Md_craft_245 : mj_Snd zG ("StreamWatchModel", "craft", c_Md_craft, 11) 245 (x_aload 0) 246 := mj_aload_n (j := 0) rfl (by decide +kernel)
theorem i_Md_craft_246 : mj_Snd zG ("StreamWatchModel", "craft", c_Md_craft, 11) 246 (x_getf 11 2) 249 := mj_getf (T := T_Md) rfl (by decide) u_Md z4_67 (by decide +kernel)
theorem d_Md_craft_249 : decode c_Md_craft 249 = .ok (.ireturn, 1) := by decide +kernel
theorem b_Md_craft_0 : mj_Ch zG ("StreamWatchModel", "craft", c_Md_craft, 11) 0 [x_aload 0, x_iload 1] 2 := ⟨_, i_Md_craft_0, _, i_Md_craft_1, rfl⟩
theorem b_Md_craft_5 : mj_Ch zG ("StreamWatchModel", "craft", c_Md_craft, 11) 5 [x_iload 1, x_const 7] 8 := ⟨_, i_Md_craft_5, _, i_Md_craft_6, rfl⟩
theorem b_Md_craft_11 : mj_Ch zG ("StreamWatchModel", "craft", c_Md_craft, 11) 11 [x_iload 2] 12 := ⟨_, i_Md_craft_11, rfl⟩
theorem b_Md_craft_15 : mj_Ch zG ("StreamWatchModel", "craft", c_Md_craft, 11) 15 [x_iload 2, x_const 1] 17 := ⟨_, i_Md_craft_15, _, i_Md_craft_16, rfl⟩
theorem b_Md_craft_20 : mj_Ch zG ("StreamWatchModel", "craft", c_Md_craft, 11) 20 [x_iload 5] 22 := ⟨_, i_Md_craft_20, rfl⟩
theorem b_Md_craft_25 : mj_Ch zG ("StreamWatchModel", "craft", c_Md_craft, 11) 25 [x_iload 5, x_const 8] 29 := ⟨_, i_Md_craft_25, _, i_Md_craft_27, rfl⟩
theorem b_Md_craft_32 : mj_Ch zG ("StreamWatchModel", "craft", c_Md_craft, 11) 32 [x_const 1, x_skip] 37 := ⟨_, i_Md_craft_32, _, i_Md_craft_33, rfl⟩
theorem b_Md_craft_36 : mj_Ch zG ("StreamWatchModel", "craft", c_Md_craft, 11) 36 [x_const 0] 37 := ⟨_, i_Md_craft_36, rfl⟩
theorem b_Md_craft_37 : mj_Ch zG ("StreamWatchModel", "craft", c_Md_craft, 11) 37 [x_putf 11 0 0, x_aload 0, x_getf 11 0] 44 := ⟨_, i_Md_craft_37, _, i_Md_craft_40, _, i_Md_craft_41, rfl⟩
theorem b_Md_craft_47 : mj_Ch zG ("StreamWatchModel", "craft", c_Md_craft, 11) 47 [x_const 0] 48 := ⟨_, i_Md_craft_47, rfl⟩
theorem b_Md_craft_49 : mj_Ch zG ("StreamWatchModel", "craft", c_Md_craft, 11) 49 [x_aload 0, x_const 0, x_putf 11 2 0, x_const 167772161, x_iload 1, x_iadd, x_istore 8, x_const 167772417, x_istore 9, x_aload 0, x_const 69, x_const 1] 68 := ⟨_, i_Md_craft_49, _, i_Md_craft_50, _, i_Md_craft_51, _, i_Md_craft_54, _, i_Md_craft_56, _, i_Md_craft_57, _, i_Md_craft_58, _, i_Md_craft_60, _, i_Md_craft_62, _, i_Md_craft_64, _, i_Md_craft_65, _, i_Md_craft_67, rfl⟩
theorem b_Md_craft_71 : mj_Ch zG ("StreamWatchModel", "craft", c_Md_craft, 11) 71 [x_aload 0, x_const 40, x_iload 5, x_iadd, x_const 3] 78 := ⟨_, i_Md_craft_71, _, i_Md_craft_72, _, i_Md_craft_74, _, i_Md_craft_76, _, i_Md_craft_77, rfl⟩
theorem b_Md_craft_81 : mj_Ch zG ("StreamWatchModel", "craft", c_Md_craft, 11) 81 [x_aload 0, x_const 0, x_const 4] 84 := ⟨_, i_Md_craft_81, _, i_Md_craft_82, _, i_Md_craft_83, rfl⟩
theorem b_Md_craft_87 : mj_Ch zG ("StreamWatchModel", "craft", c_Md_craft, 11) 87 [x_aload 0, x_const 6, x_const 2] 91 := ⟨_, i_Md_craft_87, _, i_Md_craft_88, _, i_Md_craft_90, rfl⟩
theorem b_Md_craft_94 : mj_Ch zG ("StreamWatchModel", "craft", c_Md_craft, 11) 94 [x_aload 0, x_const 0, x_const 2] 97 := ⟨_, i_Md_craft_94, _, i_Md_craft_95, _, i_Md_craft_96, rfl⟩
theorem b_Md_craft_100 : mj_Ch zG ("StreamWatchModel", "craft", c_Md_craft, 11) 100 [x_aload 0, x_iload 2] 102 := ⟨_, i_Md_craft_100, _, i_Md_craft_101, rfl⟩
theorem b_Md_craft_105 : mj_Ch zG ("StreamWatchModel", "craft", c_Md_craft, 11) 105 [x_iload 8, x_skip] 112 := ⟨_, i_Md_craft_105, _, i_Md_craft_107, rfl⟩
theorem b_Md_craft_110 : mj_Ch zG ("StreamWatchModel", "craft", c_Md_craft, 11) 110 [x_iload 9] 112 := ⟨_, i_Md_craft_110, rfl⟩
theorem b_Md_craft_112 : mj_Ch zG ("StreamWatchModel", "craft", c_Md_craft, 11) 112 [x_const 4] 113 := ⟨_, i_Md_craft_112, rfl⟩
theorem b_Md_craft_116 : mj_Ch zG ("StreamWatchModel", "craft", c_Md_craft, 11) 116 [x_aload 0, x_iload 2] 118 := ⟨_, i_Md_craft_116, _, i_Md_craft_117, rfl⟩
theorem b_Md_craft_121 : mj_Ch zG ("StreamWatchModel", "craft", c_Md_craft, 11) 121 [x_iload 9, x_skip] 128 := ⟨_, i_Md_craft_121, _, i_Md_craft_123, rfl⟩
theorem b_Md_craft_126 : mj_Ch zG ("StreamWatchModel", "craft", c_Md_craft, 11) 126 [x_iload 8] 128 := ⟨_, i_Md_craft_126, rfl⟩
theorem b_Md_craft_128 : mj_Ch zG ("StreamWatchModel", "craft", c_Md_craft, 11) 128 [x_const 4] 129 := ⟨_, i_Md_craft_128, rfl⟩
theorem b_Md_craft_132 : mj_Ch zG ("StreamWatchModel", "craft", c_Md_craft, 11) 132 [x_aload 0, x_iload 2] 134 := ⟨_, i_Md_craft_132, _, i_Md_craft_133, rfl⟩
theorem b_Md_craft_137 : mj_Ch zG ("StreamWatchModel", "craft", c_Md_craft, 11) 137 [x_const 1000, x_iload 1, x_iadd, x_skip] 147 := ⟨_, i_Md_craft_137, _, i_Md_craft_140, _, i_Md_craft_141, _, i_Md_craft_142, rfl⟩
theorem b_Md_craft_145 : mj_Ch zG ("StreamWatchModel", "craft", c_Md_craft, 11) 145 [x_const 80] 147 := ⟨_, i_Md_craft_145, rfl⟩
theorem b_Md_craft_147 : mj_Ch zG ("StreamWatchModel", "craft", c_Md_craft, 11) 147 [x_const 2] 148 := ⟨_, i_Md_craft_147, rfl⟩
theorem b_Md_craft_151 : mj_Ch zG ("StreamWatchModel", "craft", c_Md_craft, 11) 151 [x_aload 0, x_iload 2] 153 := ⟨_, i_Md_craft_151, _, i_Md_craft_152, rfl⟩
theorem b_Md_craft_156 : mj_Ch zG ("StreamWatchModel", "craft", c_Md_craft, 11) 156 [x_const 80, x_skip] 166 := ⟨_, i_Md_craft_156, _, i_Md_craft_158, rfl⟩
theorem b_Md_craft_161 : mj_Ch zG ("StreamWatchModel", "craft", c_Md_craft, 11) 161 [x_const 1000, x_iload 1, x_iadd] 166 := ⟨_, i_Md_craft_161, _, i_Md_craft_164, _, i_Md_craft_165, rfl⟩
theorem b_Md_craft_166 : mj_Ch zG ("StreamWatchModel", "craft", c_Md_craft, 11) 166 [x_const 2] 167 := ⟨_, i_Md_craft_166, rfl⟩
theorem b_Md_craft_170 : mj_Ch zG ("StreamWatchModel", "craft", c_Md_craft, 11) 170 [x_aload 0, x_iload 3, x_const 4] 173 := ⟨_, i_Md_craft_170, _, i_Md_craft_171, _, i_Md_craft_172, rfl⟩
theorem b_Md_craft_176 : mj_Ch zG ("StreamWatchModel", "craft", c_Md_craft, 11) 176 [x_aload 0, x_const 0, x_const 4] 179 := ⟨_, i_Md_craft_176, _, i_Md_craft_177, _, i_Md_craft_178, rfl⟩
theorem b_Md_craft_182 : mj_Ch zG ("StreamWatchModel", "craft", c_Md_craft, 11) 182 [x_aload 0, x_const 80, x_const 1] 186 := ⟨_, i_Md_craft_182, _, i_Md_craft_183, _, i_Md_craft_185, rfl⟩
theorem b_Md_craft_189 : mj_Ch zG ("StreamWatchModel", "craft", c_Md_craft, 11) 189 [x_aload 0, x_iload 4, x_const 63, x_iand, x_const 1] 196 := ⟨_, i_Md_craft_189, _, i_Md_craft_190, _, i_Md_craft_192, _, i_Md_craft_194, _, i_Md_craft_195, rfl⟩
theorem b_Md_craft_199 : mj_Ch zG ("StreamWatchModel", "craft", c_Md_craft, 11) 199 [x_aload 0, x_const 0, x_const 4] 202 := ⟨_, i_Md_craft_199, _, i_Md_craft_200, _, i_Md_craft_201, rfl⟩
theorem b_Md_craft_205 : mj_Ch zG ("StreamWatchModel", "craft", c_Md_craft, 11) 205 [x_aload 0, x_const 0, x_const 2] 208 := ⟨_, i_Md_craft_205, _, i_Md_craft_206, _, i_Md_craft_207, rfl⟩
theorem b_Md_craft_211 : mj_Ch zG ("StreamWatchModel", "craft", c_Md_craft, 11) 211 [x_iload 5, x_const 1, x_isub, x_istore 10] 217 := ⟨_, i_Md_craft_211, _, i_Md_craft_213, _, i_Md_craft_214, _, i_Md_craft_215, rfl⟩
theorem b_Md_craft_217 : mj_Ch zG ("StreamWatchModel", "craft", c_Md_craft, 11) 217 [x_iload 10] 219 := ⟨_, i_Md_craft_217, rfl⟩
theorem b_Md_craft_222 : mj_Ch zG ("StreamWatchModel", "craft", c_Md_craft, 11) 222 [x_aload 0, x_lload 6, x_const 8, x_iload 10, x_imul, x_lshr, x_l2i] 232 := ⟨_, i_Md_craft_222, _, i_Md_craft_223, _, i_Md_craft_225, _, i_Md_craft_227, _, i_Md_craft_229, _, i_Md_craft_230, _, i_Md_craft_231, rfl⟩
theorem b_Md_craft_235 : mj_Ch zG ("StreamWatchModel", "craft", c_Md_craft, 11) 235 [x_iinc 10 (-1), x_skip] 217 := ⟨_, i_Md_craft_235, _, i_Md_craft_238, rfl⟩
theorem b_Md_craft_241 : mj_Ch zG ("StreamWatchModel", "craft", c_Md_craft, 11) 241 [x_aload 0] 242 := ⟨_, i_Md_craft_241, rfl⟩
theorem b_Md_craft_245 : mj_Ch zG ("StreamWatchModel", "craft", c_Md_craft, 11) 245 [x_aload 0, x_getf 11 2] 249 := ⟨_, i_Md_craft_245, _, i_Md_craft_246, rfl⟩
theorem i_Md_alter_0 : mj_Snd zG ("StreamWatchModel", "alter", c_Md_alter, 3) 0 (x_aload 0) 1 := mj_aload_n (j := 0) rfl (by decide +kernel)
theorem i_Md_alter_1 : mj_Snd zG ("StreamWatchModel", "alter", c_Md_alter, 3) 1 (x_const 0) 2 := mj_const (n := 0) (by decide) (by decide +kernel)
theorem i_Md_alter_2 : mj_Snd zG ("StreamWatchModel", "alter", c_Md_alter, 3) 2 (x_putf 11 0 0) 5 := mj_putG (T := T_Md) (ty0 := t_Md) rfl (by decide) u_Md t_Md_ok n_Md z4_65 (Or.inl rfl) (by decide +kernel)
theorem i_Md_alter_5 : mj_Snd zG ("StreamWatchModel", "alter", c_Md_alter, 3) 5 (x_iload 1) 6 := mj_iload_n (j := 1) rfl (by decide +kernel)
theorem d_Md_alter_6 : decode c_Md_alter 6 = .ok (.ifCond .lt 11, 3) := by decide +kernel
theorem i_Md_alter_9 : mj_Snd zG ("StreamWatchModel", "alter", c_Md_alter, 3) 9 (x_iload 1) 10 := mj_iload_n (j := 1) rfl (by decide +kernel)
theorem i_Md_alter_10 : mj_Snd zG ("StreamWatchModel", "alter", c_Md_alter, 3) 10 (x_aload 0) 11 := mj_aload_n (j := 0) rfl (by decide +kernel)
theorem i_Md_alter_11 : mj_Snd zG ("StreamWatchModel", "alter", c_Md_alter, 3) 11 (x_getf 11 2) 14 := mj_getf (T := T_Md) rfl (by decide) u_Md z4_67 (by decide +kernel)
theorem d_Md_alter_14 : decode c_Md_alter 14 = .ok (.if_icmp .lt 5, 3) := by decide +kernel
theorem i_Md_alter_17 : mj_Snd zG ("StreamWatchModel", "alter", c_Md_alter, 3) 17 (x_const 0) 18 := mj_const (n := 0) (by decide) (by decide +kernel)
theorem d_Md_alter_18 : decode c_Md_alter 18 = .ok (.ireturn, 1) := by decide +kernel
theorem i_Md_alter_19 : mj_Snd zG ("StreamWatchModel", "alter", c_Md_alter, 3) 19 (x_aload 0) 20 := mj_aload_n (j := 0) rfl (by decide +kernel)
theorem i_Md_alter_20 : mj_Snd zG ("StreamWatchModel", "alter", c_Md_alter, 3) 20 (x_getf 11 3) 23 := mj_getf (T := T_Md) rfl (by decide) u_Md z4_68 (by decide +kernel)
theorem i_Md_alter_23 : mj_Snd zG ("StreamWatchModel", "alter", c_Md_alter, 3) 23 (x_iload 1) 24 := mj_iload_n (j := 1) rfl (by decide +kernel)
theorem i_Md_alter_24 : mj_Snd zG ("StreamWatchModel", "alter", c_Md_alter, 3) 24 (x_aload 0) 25 := mj_aload_n (j := 0) rfl (by decide +kernel)
theorem i_Md_alter_25 : mj_Snd zG ("StreamWatchModel", "alter", c_Md_alter, 3) 25 (x_getf 11 3) 28 := mj_getf (T := T_Md) rfl (by decide) u_Md z4_68 (by decide +kernel)
theorem i_Md_alter_28 : mj_Snd zG ("StreamWatchModel", "alter", c_Md_alter, 3) 28 (x_iload 1) 29 := mj_iload_n (j := 1) rfl (by decide +kernel)
theorem i_Md_alter_29 : mj_Snd zG ("StreamWatchModel", "alter", c_Md_alter, 3) 29 (x_iald 0) 30 := mj_iald rfl (by decide +kernel)
theorem i_Md_alter_30 : mj_Snd zG ("StreamWatchModel", "alter", c_Md_alter, 3) 30 (x_iload 2) 31 := mj_iload_n (j := 2) rfl (by decide +kernel)
theorem i_Md_alter_31 : mj_Snd zG ("StreamWatchModel", "alter", c_Md_alter, 3) 31 (x_const 255) 34 := mj_sipush (n := 255) (by decide) (by decide +kernel)
theorem i_Md_alter_34 : mj_Snd zG ("StreamWatchModel", "alter", c_Md_alter, 3) 34 (x_iand) 35 := mj_iand (by decide +kernel)
theorem i_Md_alter_35 : mj_Snd zG ("StreamWatchModel", "alter", c_Md_alter, 3) 35 (x_ixor) 36 := mj_ixor (by decide +kernel)
theorem i_Md_alter_36 : mj_Snd zG ("StreamWatchModel", "alter", c_Md_alter, 3) 36 (x_iast 0) 37 := mj_iast rfl (by decide +kernel)
theorem i_Md_alter_37 : mj_Snd zG ("StreamWatchModel", "alter", c_Md_alter, 3) 37 (x_const 1) 38 := mj_const (n := 1) (by decide) (by decide +kernel)
theorem d_Md_alter_38 : decode c_Md_alter 38 = .ok (.ireturn, 1) := by decide +kernel
theorem b_Md_alter_0 : mj_Ch zG ("StreamWatchModel", "alter", c_Md_alter, 3) 0 [x_aload 0, x_const 0, x_putf 11 0 0, x_iload 1] 6 := ⟨_, i_Md_alter_0, _, i_Md_alter_1, _, i_Md_alter_2, _, i_Md_alter_5, rfl⟩
theorem b_Md_alter_9 : mj_Ch zG ("StreamWatchModel", "alter", c_Md_alter, 3) 9 [x_iload 1, x_aload 0, x_getf 11 2] 14 := ⟨_, i_Md_alter_9, _, i_Md_alter_10, _, i_Md_alter_11, rfl⟩
theorem b_Md_alter_17 : mj_Ch zG ("StreamWatchModel", "alter", c_Md_alter, 3) 17 [x_const 0] 18 := ⟨_, i_Md_alter_17, rfl⟩
theorem b_Md_alter_19 : mj_Ch zG ("StreamWatchModel", "alter", c_Md_alter, 3) 19 [x_aload 0, x_getf 11 3, x_iload 1, x_aload 0, x_getf 11 3, x_iload 1, x_iald 0, x_iload 2, x_const 255, x_iand, x_ixor, x_iast 0, x_const 1] 38 := ⟨_, i_Md_alter_19, _, i_Md_alter_20, _, i_Md_alter_23, _, i_Md_alter_24, _, i_Md_alter_25, _, i_Md_alter_28, _, i_Md_alter_29, _, i_Md_alter_30, _, i_Md_alter_31, _, i_Md_alter_34, _, i_Md_alter_35, _, i_Md_alter_36, _, i_Md_alter_37, rfl⟩
theorem i_Md_wipe_0 : mj_Snd zG ("StreamWatchModel", "wipe", c_Md_wipe, 1) 0 (x_aload 0) 1 := mj_aload_n (j := 0) rfl (by decide +kernel)
theorem i_Md_wipe_1 : mj_Snd zG ("StreamWatchModel", "wipe", c_Md_wipe, 1) 1 (x_const 0) 2 := mj_const (n := 0) (by decide) (by decide +kernel)
theorem i_Md_wipe_2 : mj_Snd zG ("StreamWatchModel", "wipe", c_Md_wipe, 1) 2 (x_putf 11 0 0) 5 := mj_putG (T := T_Md) (ty0 := t_Md) rfl (by decide) u_Md t_Md_ok n_Md z4_65 (Or.inl rfl) (by decide +kernel)
theorem i_Md_wipe_5 : mj_Snd zG ("StreamWatchModel", "wipe", c_Md_wipe, 1) 5 (x_aload 0) 6 := mj_aload_n (j := 0) rfl (by decide +kernel)
theorem i_Md_wipe_6 : mj_Snd zG ("StreamWatchModel", "wipe", c_Md_wipe, 1) 6 (x_const 0) 7 := mj_const (n := 0) (by decide) (by decide +kernel)
theorem i_Md_wipe_7 : mj_Snd zG ("StreamWatchModel", "wipe", c_Md_wipe, 1) 7 (x_putf 11 2 0) 10 := mj_putG (T := T_Md) (ty0 := t_Md) rfl (by decide) u_Md t_Md_ok n_Md z4_67 (Or.inl rfl) (by decide +kernel)
theorem d_Md_wipe_10 : decode c_Md_wipe 10 = .ok (.return_, 1) := by decide +kernel
theorem b_Md_wipe_0 : mj_Ch zG ("StreamWatchModel", "wipe", c_Md_wipe, 1) 0 [x_aload 0, x_const 0, x_putf 11 0 0, x_aload 0, x_const 0, x_putf 11 2 0] 10 := ⟨_, i_Md_wipe_0, _, i_Md_wipe_1, _, i_Md_wipe_2, _, i_Md_wipe_5, _, i_Md_wipe_6, _, i_Md_wipe_7, rfl⟩
theorem i_Md_put_0 : mj_Snd zG ("StreamWatchModel", "put", c_Md_put, 5) 0 (x_aload 0) 1 := mj_aload_n (j := 0) rfl (by decide +kernel)
theorem i_Md_put_1 : mj_Snd zG ("StreamWatchModel", "put", c_Md_put, 5) 1 (x_const 0) 2 := mj_const (n := 0) (by decide) (by decide +kernel)
theorem i_Md_put_2 : mj_Snd zG ("StreamWatchModel", "put", c_Md_put, 5) 2 (x_putf 11 0 0) 5 := mj_putG (T := T_Md) (ty0 := t_Md) rfl (by decide) u_Md t_Md_ok n_Md z4_65 (Or.inl rfl) (by decide +kernel)
theorem i_Md_put_5 : mj_Snd zG ("StreamWatchModel", "put", c_Md_put, 5) 5 (x_iload 1) 6 := mj_iload_n (j := 1) rfl (by decide +kernel)
theorem i_Md_put_6 : mj_Snd zG ("StreamWatchModel", "put", c_Md_put, 5) 6 (x_const 1) 7 := mj_const (n := 1) (by decide) (by decide +kernel)
theorem d_Md_put_7 : decode c_Md_put 7 = .ok (.if_icmp .lt 20, 3) := by decide +kernel
theorem i_Md_put_10 : mj_Snd zG ("StreamWatchModel", "put", c_Md_put, 5) 10 (x_iload 1) 11 := mj_iload_n (j := 1) rfl (by decide +kernel)
theorem i_Md_put_11 : mj_Snd zG ("StreamWatchModel", "put", c_Md_put, 5) 11 (x_const 8) 13 := mj_bipush (n := 8) (by decide) (by decide +kernel)
theorem d_Md_put_13 : decode c_Md_put 13 = .ok (.if_icmp .gt 14, 3) := by decide +kernel
theorem i_Md_put_16 : mj_Snd zG ("StreamWatchModel", "put", c_Md_put, 5) 16 (x_aload 0) 17 := mj_aload_n (j := 0) rfl (by decide +kernel)
theorem i_Md_put_17 : mj_Snd zG ("StreamWatchModel", "put", c_Md_put, 5) 17 (x_getf 11 2) 20 := mj_getf (T := T_Md) rfl (by decide) u_Md z4_67 (by decide +kernel)
theorem i_Md_put_20 : mj_Snd zG ("StreamWatchModel", "put", c_Md_put, 5) 20 (x_iload 1) 21 := mj_iload_n (j := 1) rfl (by decide +kernel)
theorem i_Md_put_21 : mj_Snd zG ("StreamWatchModel", "put", c_Md_put, 5) 21 (x_iadd) 22 := mj_iadd (by decide +kernel)
theorem i_Md_put_22 : mj_Snd zG ("StreamWatchModel", "put", c_Md_put, 5) 22 (x_const 100) 24 := mj_bipush (n := 100) (by decide) (by decide +kernel)
theorem d_Md_put_24 : decode c_Md_put 24 = .ok (.if_icmp .le 5, 3) := by decide +kernel
theorem i_Md_put_27 : mj_Snd zG ("StreamWatchModel", "put", c_Md_put, 5) 27 (x_const 0) 28 := mj_const (n := 0) (by decide) (by decide +kernel)
theorem d_Md_put_28 : decode c_Md_put 28 = .ok (.ireturn, 1) := by decide +kernel
theorem i_Md_put_29 : mj_Snd zG ("StreamWatchModel", "put", c_Md_put, 5) 29 (x_iload 1) 30 := mj_iload_n (j := 1) rfl (by decide +kernel)
theorem i_Md_put_30 : mj_Snd zG ("StreamWatchModel", "put", c_Md_put, 5) 30 (x_const 1) 31 := mj_const (n := 1) (by decide) (by decide +kernel)
theorem i_Md_put_31 : mj_Snd zG ("StreamWatchModel", "put", c_Md_put, 5) 31 (x_isub) 32 := mj_isub (by decide +kernel)
theorem i_Md_put_32 : mj_Snd zG ("StreamWatchModel", "put", c_Md_put, 5) 32 (x_istore 4) 34 := mj_istore (by decide) (by decide +kernel)
theorem i_Md_put_34 : mj_Snd zG ("StreamWatchModel", "put", c_Md_put, 5) 34 (x_iload 4) 36 := mj_iload (by decide +kernel)
theorem d_Md_put_36 : decode c_Md_put 36 = .ok (.ifCond .lt 21, 3) := by decide +kernel
theorem i_Md_put_39 : mj_Snd zG ("StreamWatchModel", "put", c_Md_put, 5) 39 (x_aload 0) 40 := mj_aload_n (j := 0) rfl (by decide +kernel)
theorem i_Md_put_40 : mj_Snd zG ("StreamWatchModel", "put", c_Md_put, 5) 40 (x_lload 2) 41 := mj_lload_n (j := 2) rfl (by decide +kernel)
theorem i_Md_put_41 : mj_Snd zG ("StreamWatchModel", "put", c_Md_put, 5) 41 (x_const 8) 43 := mj_bipush (n := 8) (by decide) (by decide +kernel)
theorem i_Md_put_43 : mj_Snd zG ("StreamWatchModel", "put", c_Md_put, 5) 43 (x_iload 4) 45 := mj_iload (by decide +kernel)
theorem i_Md_put_45 : mj_Snd zG ("StreamWatchModel", "put", c_Md_put, 5) 45 (x_imul) 46 := mj_imul (by decide +kernel)
theorem i_Md_put_46 : mj_Snd zG ("StreamWatchModel", "put", c_Md_put, 5) 46 (x_lshr) 47 := mj_lshr (by decide +kernel)
theorem i_Md_put_47 : mj_Snd zG ("StreamWatchModel", "put", c_Md_put, 5) 47 (x_l2i) 48 := mj_l2i (by decide +kernel)
theorem d_Md_put_48 : decode c_Md_put 48 = .ok (.invokevirtual 100, 3) := by decide +kernel
theorem i_Md_put_51 : mj_Snd zG ("StreamWatchModel", "put", c_Md_put, 5) 51 (x_iinc 4 (-1)) 54 := mj_iinc (n := (-1)) (by decide) (by decide) (by decide +kernel)
theorem i_Md_put_54 : mj_Snd zG ("StreamWatchModel", "put", c_Md_put, 5) 54 (x_skip) 34 := mj_goto (off := (-20)) (by decide) (by decide +kernel)
theorem i_Md_put_57 : mj_Snd zG ("StreamWatchModel", "put", c_Md_put, 5) 57 (x_const 1) 58 := mj_const (n := 1) (by decide) (by decide +kernel)
theorem d_Md_put_58 : decode c_Md_put 58 = .ok (.ireturn, 1) := by decide +kernel
theorem b_Md_put_0 : mj_Ch zG ("StreamWatchModel", "put", c_Md_put, 5) 0 [x_aload 0, x_const 0, x_putf 11 0 0, x_iload 1, x_const 1] 7 := ⟨_, i_Md_put_0, _, i_Md_put_1, _, i_Md_put_2, _, i_Md_put_5, _, i_Md_put_6, rfl⟩
theorem b_Md_put_10 : mj_Ch zG ("StreamWatchModel", "put", c_Md_put, 5) 10 [x_iload 1, x_const 8] 13 := ⟨_, i_Md_put_10, _, i_Md_put_11, rfl⟩
theorem b_Md_put_16 : mj_Ch zG ("StreamWatchModel", "put", c_Md_put, 5) 16 [x_aload 0, x_getf 11 2, x_iload 1, x_iadd, x_const 100] 24 := ⟨_, i_Md_put_16, _, i_Md_put_17, _, i_Md_put_20, _, i_Md_put_21, _, i_Md_put_22, rfl⟩
theorem b_Md_put_27 : mj_Ch zG ("StreamWatchModel", "put", c_Md_put, 5) 27 [x_const 0] 28 := ⟨_, i_Md_put_27, rfl⟩
theorem b_Md_put_29 : mj_Ch zG ("StreamWatchModel", "put", c_Md_put, 5) 29 [x_iload 1, x_const 1, x_isub, x_istore 4] 34 := ⟨_, i_Md_put_29, _, i_Md_put_30, _, i_Md_put_31, _, i_Md_put_32, rfl⟩
theorem b_Md_put_34 : mj_Ch zG ("StreamWatchModel", "put", c_Md_put, 5) 34 [x_iload 4] 36 := ⟨_, i_Md_put_34, rfl⟩
theorem b_Md_put_39 : mj_Ch zG ("StreamWatchModel", "put", c_Md_put, 5) 39 [x_aload 0, x_lload 2, x_const 8, x_iload 4, x_imul, x_lshr, x_l2i] 48 := ⟨_, i_Md_put_39, _, i_Md_put_40, _, i_Md_put_41, _, i_Md_put_43, _, i_Md_put_45, _, i_Md_put_46, _, i_Md_put_47, rfl⟩
theorem b_Md_put_51 : mj_Ch zG ("StreamWatchModel", "put", c_Md_put, 5) 51 [x_iinc 4 (-1), x_skip] 34 := ⟨_, i_Md_put_51, _, i_Md_put_54, rfl⟩
theorem b_Md_put_57 : mj_Ch zG ("StreamWatchModel", "put", c_Md_put, 5) 57 [x_const 1] 58 := ⟨_, i_Md_put_57, rfl⟩
theorem i_Md_wire_0 : mj_Snd zG ("StreamWatchModel", "wire", c_Md_wire, 2) 0 (x_aload 0) 1 := mj_aload_n (j := 0) rfl (by decide +kernel)
theorem i_Md_wire_1 : mj_Snd zG ("StreamWatchModel", "wire", c_Md_wire, 2) 1 (x_const 0) 2 := mj_const (n := 0) (by decide) (by decide +kernel)
theorem i_Md_wire_2 : mj_Snd zG ("StreamWatchModel", "wire", c_Md_wire, 2) 2 (x_putf 11 0 0) 5 := mj_putG (T := T_Md) (ty0 := t_Md) rfl (by decide) u_Md t_Md_ok n_Md z4_65 (Or.inl rfl) (by decide +kernel)
theorem i_Md_wire_5 : mj_Snd zG ("StreamWatchModel", "wire", c_Md_wire, 2) 5 (x_iload 1) 6 := mj_iload_n (j := 1) rfl (by decide +kernel)
theorem i_Md_wire_6 : mj_Snd zG ("StreamWatchModel", "wire", c_Md_wire, 2) 6 (x_const (-1)) 7 := mj_const (n := (-1)) (by decide) (by decide +kernel)
theorem d_Md_wire_7 : decode c_Md_wire 7 = .ok (.if_icmp .ne 10, 3) := by decide +kernel
theorem i_Md_wire_10 : mj_Snd zG ("StreamWatchModel", "wire", c_Md_wire, 2) 10 (x_aload 0) 11 := mj_aload_n (j := 0) rfl (by decide +kernel)
theorem i_Md_wire_11 : mj_Snd zG ("StreamWatchModel", "wire", c_Md_wire, 2) 11 (x_getf 11 2) 14 := mj_getf (T := T_Md) rfl (by decide) u_Md z4_67 (by decide +kernel)
theorem i_Md_wire_14 : mj_Snd zG ("StreamWatchModel", "wire", c_Md_wire, 2) 14 (x_skip) 39 := mj_goto (off := 25) (by decide) (by decide +kernel)
theorem i_Md_wire_17 : mj_Snd zG ("StreamWatchModel", "wire", c_Md_wire, 2) 17 (x_iload 1) 18 := mj_iload_n (j := 1) rfl (by decide +kernel)
theorem d_Md_wire_18 : decode c_Md_wire 18 = .ok (.ifCond .lt 11, 3) := by decide +kernel
theorem i_Md_wire_21 : mj_Snd zG ("StreamWatchModel", "wire", c_Md_wire, 2) 21 (x_iload 1) 22 := mj_iload_n (j := 1) rfl (by decide +kernel)
theorem i_Md_wire_22 : mj_Snd zG ("StreamWatchModel", "wire", c_Md_wire, 2) 22 (x_aload 0) 23 := mj_aload_n (j := 0) rfl (by decide +kernel)
theorem i_Md_wire_23 : mj_Snd zG ("StreamWatchModel", "wire", c_Md_wire, 2) 23 (x_getf 11 2) 26 := mj_getf (T := T_Md) rfl (by decide) u_Md z4_67 (by decide +kernel)
theorem d_Md_wire_26 : decode c_Md_wire 26 = .ok (.if_icmp .lt 7, 3) := by decide +kernel
theorem i_Md_wire_29 : mj_Snd zG ("StreamWatchModel", "wire", c_Md_wire, 2) 29 (x_const (-1)) 30 := mj_const (n := (-1)) (by decide) (by decide +kernel)
theorem i_Md_wire_30 : mj_Snd zG ("StreamWatchModel", "wire", c_Md_wire, 2) 30 (x_skip) 39 := mj_goto (off := 9) (by decide) (by decide +kernel)
theorem i_Md_wire_33 : mj_Snd zG ("StreamWatchModel", "wire", c_Md_wire, 2) 33 (x_aload 0) 34 := mj_aload_n (j := 0) rfl (by decide +kernel)
theorem i_Md_wire_34 : mj_Snd zG ("StreamWatchModel", "wire", c_Md_wire, 2) 34 (x_getf 11 3) 37 := mj_getf (T := T_Md) rfl (by decide) u_Md z4_68 (by decide +kernel)
theorem i_Md_wire_37 : mj_Snd zG ("StreamWatchModel", "wire", c_Md_wire, 2) 37 (x_iload 1) 38 := mj_iload_n (j := 1) rfl (by decide +kernel)
theorem i_Md_wire_38 : mj_Snd zG ("StreamWatchModel", "wire", c_Md_wire, 2) 38 (x_iald 0) 39 := mj_iald rfl (by decide +kernel)
theorem d_Md_wire_39 : decode c_Md_wire 39 = .ok (.ireturn, 1) := by decide +kernel
theorem b_Md_wire_0 : mj_Ch zG ("StreamWatchModel", "wire", c_Md_wire, 2) 0 [x_aload 0, x_const 0, x_putf 11 0 0, x_iload 1, x_const (-1)] 7 := ⟨_, i_Md_wire_0, _, i_Md_wire_1, _, i_Md_wire_2, _, i_Md_wire_5, _, i_Md_wire_6, rfl⟩
theorem b_Md_wire_10 : mj_Ch zG ("StreamWatchModel", "wire", c_Md_wire, 2) 10 [x_aload 0, x_getf 11 2, x_skip] 39 := ⟨_, i_Md_wire_10, _, i_Md_wire_11, _, i_Md_wire_14, rfl⟩
theorem b_Md_wire_17 : mj_Ch zG ("StreamWatchModel", "wire", c_Md_wire, 2) 17 [x_iload 1] 18 := ⟨_, i_Md_wire_17, rfl⟩
theorem b_Md_wire_21 : mj_Ch zG ("StreamWatchModel", "wire", c_Md_wire, 2) 21 [x_iload 1, x_aload 0, x_getf 11 2] 26 := ⟨_, i_Md_wire_21, _, i_Md_wire_22, _, i_Md_wire_23, rfl⟩
theorem b_Md_wire_29 : mj_Ch zG ("StreamWatchModel", "wire", c_Md_wire, 2) 29 [x_const (-1), x_skip] 39 := ⟨_, i_Md_wire_29, _, i_Md_wire_30, rfl⟩
theorem b_Md_wire_33 : mj_Ch zG ("StreamWatchModel", "wire", c_Md_wire, 2) 33 [x_aload 0, x_getf 11 3, x_iload 1, x_iald 0] 39 := ⟨_, i_Md_wire_33, _, i_Md_wire_34, _, i_Md_wire_37, _, i_Md_wire_38, rfl⟩
theorem i_Md_pair_0 : mj_Snd zG ("StreamWatchModel", "pair", c_Md_pair, 2) 0 (x_aload 0) 1 := mj_aload_n (j := 0) rfl (by decide +kernel)
theorem i_Md_pair_1 : mj_Snd zG ("StreamWatchModel", "pair", c_Md_pair, 2) 1 (x_getf 11 3) 4 := mj_getf (T := T_Md) rfl (by decide) u_Md z4_68 (by decide +kernel)
theorem i_Md_pair_4 : mj_Snd zG ("StreamWatchModel", "pair", c_Md_pair, 2) 4 (x_iload 1) 5 := mj_iload_n (j := 1) rfl (by decide +kernel)
theorem i_Md_pair_5 : mj_Snd zG ("StreamWatchModel", "pair", c_Md_pair, 2) 5 (x_iald 0) 6 := mj_iald rfl (by decide +kernel)
theorem i_Md_pair_6 : mj_Snd zG ("StreamWatchModel", "pair", c_Md_pair, 2) 6 (x_const 8) 8 := mj_bipush (n := 8) (by decide) (by decide +kernel)
theorem i_Md_pair_8 : mj_Snd zG ("StreamWatchModel", "pair", c_Md_pair, 2) 8 (x_ishl) 9 := mj_ishl (by decide +kernel)
theorem i_Md_pair_9 : mj_Snd zG ("StreamWatchModel", "pair", c_Md_pair, 2) 9 (x_aload 0) 10 := mj_aload_n (j := 0) rfl (by decide +kernel)
theorem i_Md_pair_10 : mj_Snd zG ("StreamWatchModel", "pair", c_Md_pair, 2) 10 (x_getf 11 3) 13 := mj_getf (T := T_Md) rfl (by decide) u_Md z4_68 (by decide +kernel)
theorem i_Md_pair_13 : mj_Snd zG ("StreamWatchModel", "pair", c_Md_pair, 2) 13 (x_iload 1) 14 := mj_iload_n (j := 1) rfl (by decide +kernel)
theorem i_Md_pair_14 : mj_Snd zG ("StreamWatchModel", "pair", c_Md_pair, 2) 14 (x_const 1) 15 := mj_const (n := 1) (by decide) (by decide +kernel)
theorem i_Md_pair_15 : mj_Snd zG ("StreamWatchModel", "pair", c_Md_pair, 2) 15 (x_iadd) 16 := mj_iadd (by decide +kernel)
theorem i_Md_pair_16 : mj_Snd zG ("StreamWatchModel", "pair", c_Md_pair, 2) 16 (x_iald 0) 17 := mj_iald rfl (by decide +kernel)
theorem i_Md_pair_17 : mj_Snd zG ("StreamWatchModel", "pair", c_Md_pair, 2) 17 (x_ior) 18 := mj_ior (by decide +kernel)
theorem d_Md_pair_18 : decode c_Md_pair 18 = .ok (.ireturn, 1) := by decide +kernel
theorem b_Md_pair_0 : mj_Ch zG ("StreamWatchModel", "pair", c_Md_pair, 2) 0 [x_aload 0, x_getf 11 3, x_iload 1, x_iald 0, x_const 8, x_ishl, x_aload 0, x_getf 11 3, x_iload 1, x_const 1, x_iadd, x_iald 0, x_ior] 18 := ⟨_, i_Md_pair_0, _, i_Md_pair_1, _, i_Md_pair_4, _, i_Md_pair_5, _, i_Md_pair_6, _, i_Md_pair_8, _, i_Md_pair_9, _, i_Md_pair_10, _, i_Md_pair_13, _, i_Md_pair_14, _, i_Md_pair_15, _, i_Md_pair_16, _, i_Md_pair_17, rfl⟩
theorem i_Md_four_0 : mj_Snd zG ("StreamWatchModel", "four", c_Md_four, 2) 0 (x_aload 0) 1 := mj_aload_n (j := 0) rfl (by decide +kernel)
theorem i_Md_four_1 : mj_Snd zG ("StreamWatchModel", "four", c_Md_four, 2) 1 (x_iload 1) 2 := mj_iload_n (j := 1) rfl (by decide +kernel)
theorem d_Md_four_2 : decode c_Md_four 2 = .ok (.invokevirtual 113, 3) := by decide +kernel
theorem i_Md_four_5 : mj_Snd zG ("StreamWatchModel", "four", c_Md_four, 2) 5 (x_const 16) 7 := mj_bipush (n := 16) (by decide) (by decide +kernel)
theorem i_Md_four_7 : mj_Snd zG ("StreamWatchModel", "four", c_Md_four, 2) 7 (x_ishl) 8 := mj_ishl (by decide +kernel)
theorem i_Md_four_8 : mj_Snd zG ("StreamWatchModel", "four", c_Md_four, 2) 8 (x_aload 0) 9 := mj_aload_n (j := 0) rfl (by decide +kernel)
theorem i_Md_four_9 : mj_Snd zG ("StreamWatchModel", "four", c_Md_four, 2) 9 (x_iload 1) 10 := mj_iload_n (j := 1) rfl (by decide +kernel)
theorem i_Md_four_10 : mj_Snd zG ("StreamWatchModel", "four", c_Md_four, 2) 10 (x_const 2) 11 := mj_const (n := 2) (by decide) (by decide +kernel)
theorem i_Md_four_11 : mj_Snd zG ("StreamWatchModel", "four", c_Md_four, 2) 11 (x_iadd) 12 := mj_iadd (by decide +kernel)
theorem d_Md_four_12 : decode c_Md_four 12 = .ok (.invokevirtual 113, 3) := by decide +kernel
theorem i_Md_four_15 : mj_Snd zG ("StreamWatchModel", "four", c_Md_four, 2) 15 (x_ior) 16 := mj_ior (by decide +kernel)
theorem d_Md_four_16 : decode c_Md_four 16 = .ok (.ireturn, 1) := by decide +kernel
theorem b_Md_four_0 : mj_Ch zG ("StreamWatchModel", "four", c_Md_four, 2) 0 [x_aload 0, x_iload 1] 2 := ⟨_, i_Md_four_0, _, i_Md_four_1, rfl⟩
theorem b_Md_four_5 : mj_Ch zG ("StreamWatchModel", "four", c_Md_four, 2) 5 [x_const 16, x_ishl, x_aload 0, x_iload 1, x_const 2, x_iadd] 12 := ⟨_, i_Md_four_5, _, i_Md_four_7, _, i_Md_four_8, _, i_Md_four_9, _, i_Md_four_10, _, i_Md_four_11, rfl⟩
theorem b_Md_four_15 : mj_Ch zG ("StreamWatchModel", "four", c_Md_four, 2) 15 [x_ior] 16 := ⟨_, i_Md_four_15, rfl⟩
theorem i_Md_total_0 : mj_Snd zG ("StreamWatchModel", "total", c_Md_total, 5) 0 (x_const 0) 1 := mj_const (n := 0) (by decide) (by decide +kernel)
theorem i_Md_total_1 : mj_Snd zG ("StreamWatchModel", "total", c_Md_total, 5) 1 (x_istore 3) 2 := mj_istore_n (j := 3) rfl (by decide) (by decide +kernel)
theorem i_Md_total_2 : mj_Snd zG ("StreamWatchModel", "total", c_Md_total, 5) 2 (x_iload 1) 3 := mj_iload_n (j := 1) rfl (by decide +kernel)
theorem i_Md_total_3 : mj_Snd zG ("StreamWatchModel", "total", c_Md_total, 5) 3 (x_istore 4) 5 := mj_istore (by decide) (by decide +kernel)
theorem i_Md_total_5 : mj_Snd zG ("StreamWatchModel", "total", c_Md_total, 5) 5 (x_iload 4) 7 := mj_iload (by decide +kernel)
theorem i_Md_total_7 : mj_Snd zG ("StreamWatchModel", "total", c_Md_total, 5) 7 (x_iload 2) 8 := mj_iload_n (j := 2) rfl (by decide +kernel)
theorem d_Md_total_8 : decode c_Md_total 8 = .ok (.if_icmp .ge 41, 3) := by decide +kernel
theorem i_Md_total_11 : mj_Snd zG ("StreamWatchModel", "total", c_Md_total, 5) 11 (x_iload 3) 12 := mj_iload_n (j := 3) rfl (by decide +kernel)
theorem i_Md_total_12 : mj_Snd zG ("StreamWatchModel", "total", c_Md_total, 5) 12 (x_iload 4) 14 := mj_iload (by decide +kernel)
theorem i_Md_total_14 : mj_Snd zG ("StreamWatchModel", "total", c_Md_total, 5) 14 (x_iload 1) 15 := mj_iload_n (j := 1) rfl (by decide +kernel)
theorem i_Md_total_15 : mj_Snd zG ("StreamWatchModel", "total", c_Md_total, 5) 15 (x_isub) 16 := mj_isub (by decide +kernel)
theorem i_Md_total_16 : mj_Snd zG ("StreamWatchModel", "total", c_Md_total, 5) 16 (x_const 2) 17 := mj_const (n := 2) (by decide) (by decide +kernel)
theorem i_Md_total_17 : mj_Snd zG ("StreamWatchModel", "total", c_Md_total, 5) 17 (x_irem) 18 := mj_irem (by decide +kernel)
theorem d_Md_total_18 : decode c_Md_total 18 = .ok (.ifCond .ne 16, 3) := by decide +kernel
theorem i_Md_total_21 : mj_Snd zG ("StreamWatchModel", "total", c_Md_total, 5) 21 (x_aload 0) 22 := mj_aload_n (j := 0) rfl (by decide +kernel)
theorem i_Md_total_22 : mj_Snd zG ("StreamWatchModel", "total", c_Md_total, 5) 22 (x_getf 11 3) 25 := mj_getf (T := T_Md) rfl (by decide) u_Md z4_68 (by decide +kernel)
theorem i_Md_total_25 : mj_Snd zG ("StreamWatchModel", "total", c_Md_total, 5) 25 (x_iload 4) 27 := mj_iload (by decide +kernel)
theorem i_Md_total_27 : mj_Snd zG ("StreamWatchModel", "total", c_Md_total, 5) 27 (x_iald 0) 28 := mj_iald rfl (by decide +kernel)
theorem i_Md_total_28 : mj_Snd zG ("StreamWatchModel", "total", c_Md_total, 5) 28 (x_const 8) 30 := mj_bipush (n := 8) (by decide) (by decide +kernel)
theorem i_Md_total_30 : mj_Snd zG ("StreamWatchModel", "total", c_Md_total, 5) 30 (x_ishl) 31 := mj_ishl (by decide +kernel)
theorem i_Md_total_31 : mj_Snd zG ("StreamWatchModel", "total", c_Md_total, 5) 31 (x_skip) 41 := mj_goto (off := 10) (by decide) (by decide +kernel)
theorem i_Md_total_34 : mj_Snd zG ("StreamWatchModel", "total", c_Md_total, 5) 34 (x_aload 0) 35 := mj_aload_n (j := 0) rfl (by decide +kernel)
theorem i_Md_total_35 : mj_Snd zG ("StreamWatchModel", "total", c_Md_total, 5) 35 (x_getf 11 3) 38 := mj_getf (T := T_Md) rfl (by decide) u_Md z4_68 (by decide +kernel)
theorem i_Md_total_38 : mj_Snd zG ("StreamWatchModel", "total", c_Md_total, 5) 38 (x_iload 4) 40 := mj_iload (by decide +kernel)
theorem i_Md_total_40 : mj_Snd zG ("StreamWatchModel", "total", c_Md_total, 5) 40 (x_iald 0) 41 := mj_iald rfl (by decide +kernel)
theorem i_Md_total_41 : mj_Snd zG ("StreamWatchModel", "total", c_Md_total, 5) 41 (x_iadd) 42 := mj_iadd (by decide +kernel)
theorem i_Md_total_42 : mj_Snd zG ("StreamWatchModel", "total", c_Md_total, 5) 42 (x_istore 3) 43 := mj_istore_n (j := 3) rfl (by decide) (by decide +kernel)
theorem i_Md_total_43 : mj_Snd zG ("StreamWatchModel", "total", c_Md_total, 5) 43 (x_iinc 4 1) 46 := mj_iinc (n := 1) (by decide) (by decide) (by decide +kernel)
theorem i_Md_total_46 : mj_Snd zG ("StreamWatchModel", "total", c_Md_total, 5) 46 (x_skip) 5 := mj_goto (off := (-41)) (by decide) (by decide +kernel)
theorem i_Md_total_49 : mj_Snd zG ("StreamWatchModel", "total", c_Md_total, 5) 49 (x_iload 3) 50 := mj_iload_n (j := 3) rfl (by decide +kernel)
theorem d_Md_total_50 : decode c_Md_total 50 = .ok (.ireturn, 1) := by decide +kernel
theorem b_Md_total_0 : mj_Ch zG ("StreamWatchModel", "total", c_Md_total, 5) 0 [x_const 0, x_istore 3, x_iload 1, x_istore 4] 5 := ⟨_, i_Md_total_0, _, i_Md_total_1, _, i_Md_total_2, _, i_Md_total_3, rfl⟩
theorem b_Md_total_5 : mj_Ch zG ("StreamWatchModel", "total", c_Md_total, 5) 5 [x_iload 4, x_iload 2] 8 := ⟨_, i_Md_total_5, _, i_Md_total_7, rfl⟩
theorem b_Md_total_11 : mj_Ch zG ("StreamWatchModel", "total", c_Md_total, 5) 11 [x_iload 3, x_iload 4, x_iload 1, x_isub, x_const 2, x_irem] 18 := ⟨_, i_Md_total_11, _, i_Md_total_12, _, i_Md_total_14, _, i_Md_total_15, _, i_Md_total_16, _, i_Md_total_17, rfl⟩
theorem b_Md_total_21 : mj_Ch zG ("StreamWatchModel", "total", c_Md_total, 5) 21 [x_aload 0, x_getf 11 3, x_iload 4, x_iald 0, x_const 8, x_ishl, x_skip] 41 := ⟨_, i_Md_total_21, _, i_Md_total_22, _, i_Md_total_25, _, i_Md_total_27, _, i_Md_total_28, _, i_Md_total_30, _, i_Md_total_31, rfl⟩
theorem b_Md_total_34 : mj_Ch zG ("StreamWatchModel", "total", c_Md_total, 5) 34 [x_aload 0, x_getf 11 3, x_iload 4, x_iald 0] 41 := ⟨_, i_Md_total_34, _, i_Md_total_35, _, i_Md_total_38, _, i_Md_total_40, rfl⟩
theorem b_Md_total_41 : mj_Ch zG ("StreamWatchModel", "total", c_Md_total, 5) 41 [x_iadd, x_istore 3, x_iinc 4 1, x_skip] 5 := ⟨_, i_Md_total_41, _, i_Md_total_42, _, i_Md_total_43, _, i_Md_total_46, rfl⟩
theorem b_Md_total_49 : mj_Ch zG ("StreamWatchModel", "total", c_Md_total, 5) 49 [x_iload 3] 50 := ⟨_, i_Md_total_49, rfl⟩
theorem i_Md_folded_0 : mj_Snd zG ("StreamWatchModel", "folded", c_Md_folded, 3) 0 (x_iload 0) 1 := mj_iload_n (j := 0) rfl (by decide +kernel)
theorem i_Md_folded_1 : mj_Snd zG ("StreamWatchModel", "folded", c_Md_folded, 3) 1 (x_istore 1) 2 := mj_istore_n (j := 1) rfl (by decide) (by decide +kernel)
theorem i_Md_folded_2 : mj_Snd zG ("StreamWatchModel", "folded", c_Md_folded, 3) 2 (x_const 0) 3 := mj_const (n := 0) (by decide) (by decide +kernel)
theorem i_Md_folded_3 : mj_Snd zG ("StreamWatchModel", "folded", c_Md_folded, 3) 3 (x_istore 2) 4 := mj_istore_n (j := 2) rfl (by decide) (by decide +kernel)
theorem i_Md_folded_4 : mj_Snd zG ("StreamWatchModel", "folded", c_Md_folded, 3) 4 (x_iload 2) 5 := mj_iload_n (j := 2) rfl (by decide +kernel)
theorem i_Md_folded_5 : mj_Snd zG ("StreamWatchModel", "folded", c_Md_folded, 3) 5 (x_const 4) 6 := mj_const (n := 4) (by decide) (by decide +kernel)
theorem d_Md_folded_6 : decode c_Md_folded 6 = .ok (.if_icmp .ge 29, 3) := by decide +kernel
theorem i_Md_folded_9 : mj_Snd zG ("StreamWatchModel", "folded", c_Md_folded, 3) 9 (x_iload 1) 10 := mj_iload_n (j := 1) rfl (by decide +kernel)
theorem i_Md_folded_10 : mj_Snd zG ("StreamWatchModel", "folded", c_Md_folded, 3) 10 (x_const 65535) 12 := mj_ldc z4_187 (by decide +kernel)
theorem d_Md_folded_12 : decode c_Md_folded 12 = .ok (.if_icmp .le 15, 3) := by decide +kernel
theorem i_Md_folded_15 : mj_Snd zG ("StreamWatchModel", "folded", c_Md_folded, 3) 15 (x_iload 1) 16 := mj_iload_n (j := 1) rfl (by decide +kernel)
theorem i_Md_folded_16 : mj_Snd zG ("StreamWatchModel", "folded", c_Md_folded, 3) 16 (x_const 65535) 18 := mj_ldc z4_187 (by decide +kernel)
theorem i_Md_folded_18 : mj_Snd zG ("StreamWatchModel", "folded", c_Md_folded, 3) 18 (x_iand) 19 := mj_iand (by decide +kernel)
theorem i_Md_folded_19 : mj_Snd zG ("StreamWatchModel", "folded", c_Md_folded, 3) 19 (x_iload 1) 20 := mj_iload_n (j := 1) rfl (by decide +kernel)
theorem i_Md_folded_20 : mj_Snd zG ("StreamWatchModel", "folded", c_Md_folded, 3) 20 (x_const 16) 22 := mj_bipush (n := 16) (by decide) (by decide +kernel)
theorem i_Md_folded_22 : mj_Snd zG ("StreamWatchModel", "folded", c_Md_folded, 3) 22 (x_ishr) 23 := mj_ishr (by decide +kernel)
theorem i_Md_folded_23 : mj_Snd zG ("StreamWatchModel", "folded", c_Md_folded, 3) 23 (x_iadd) 24 := mj_iadd (by decide +kernel)
theorem i_Md_folded_24 : mj_Snd zG ("StreamWatchModel", "folded", c_Md_folded, 3) 24 (x_skip) 28 := mj_goto (off := 4) (by decide) (by decide +kernel)
theorem i_Md_folded_27 : mj_Snd zG ("StreamWatchModel", "folded", c_Md_folded, 3) 27 (x_iload 1) 28 := mj_iload_n (j := 1) rfl (by decide +kernel)
theorem i_Md_folded_28 : mj_Snd zG ("StreamWatchModel", "folded", c_Md_folded, 3) 28 (x_istore 1) 29 := mj_istore_n (j := 1) rfl (by decide) (by decide +kernel)
theorem i_Md_folded_29 : mj_Snd zG ("StreamWatchModel", "folded", c_Md_folded, 3) 29 (x_iinc 2 1) 32 := mj_iinc (n := 1) (by decide) (by decide) (by decide +kernel)
theorem i_Md_folded_32 : mj_Snd zG ("StreamWatchModel", "folded", c_Md_folded, 3) 32 (x_skip) 4 := mj_goto (off := (-28)) (by decide) (by decide +kernel)
theorem i_Md_folded_35 : mj_Snd zG ("StreamWatchModel", "folded", c_Md_folded, 3) 35 (x_iload 1) 36 := mj_iload_n (j := 1) rfl (by decide +kernel)
theorem d_Md_folded_36 : decode c_Md_folded 36 = .ok (.ireturn, 1) := by decide +kernel
theorem b_Md_folded_0 : mj_Ch zG ("StreamWatchModel", "folded", c_Md_folded, 3) 0 [x_iload 0, x_istore 1, x_const 0, x_istore 2] 4 := ⟨_, i_Md_folded_0, _, i_Md_folded_1, _, i_Md_folded_2, _, i_Md_folded_3, rfl⟩
theorem b_Md_folded_4 : mj_Ch zG ("StreamWatchModel", "folded", c_Md_folded, 3) 4 [x_iload 2, x_const 4] 6 := ⟨_, i_Md_folded_4, _, i_Md_folded_5, rfl⟩
theorem b_Md_folded_9 : mj_Ch zG ("StreamWatchModel", "folded", c_Md_folded, 3) 9 [x_iload 1, x_const 65535] 12 := ⟨_, i_Md_folded_9, _, i_Md_folded_10, rfl⟩
theorem b_Md_folded_15 : mj_Ch zG ("StreamWatchModel", "folded", c_Md_folded, 3) 15 [x_iload 1, x_const 65535, x_iand, x_iload 1, x_const 16, x_ishr, x_iadd, x_skip] 28 := ⟨_, i_Md_folded_15, _, i_Md_folded_16, _, i_Md_folded_18, _, i_Md_folded_19, _, i_Md_folded_20, _, i_Md_folded_22, _, i_Md_folded_23, _, i_Md_folded_24, rfl⟩
theorem b_Md_folded_27 : mj_Ch zG ("StreamWatchModel", "folded", c_Md_folded, 3) 27 [x_iload 1] 28 := ⟨_, i_Md_folded_27, rfl⟩
theorem b_Md_folded_28 : mj_Ch zG ("StreamWatchModel", "folded", c_Md_folded, 3) 28 [x_istore 1, x_iinc 2 1, x_skip] 4 := ⟨_, i_Md_folded_28, _, i_Md_folded_29, _, i_Md_folded_32, rfl⟩
theorem b_Md_folded_35 : mj_Ch zG ("StreamWatchModel", "folded", c_Md_folded, 3) 35 [x_iload 1] 36 := ⟨_, i_Md_folded_35, rfl⟩
theorem i_Md_headerSize_0 : mj_Snd zG ("StreamWatchModel", "headerSize", c_Md_headerSize, 1) 0 (x_const 4) 1 := mj_const (n := 4) (by decide) (by decide +kernel)
theorem i_Md_headerSize_1 : mj_Snd zG ("StreamWatchModel", "headerSize", c_Md_headerSize, 1) 1 (x_aload 0) 2 := mj_aload_n (j := 0) rfl (by decide +kernel)
theorem i_Md_headerSize_2 : mj_Snd zG ("StreamWatchModel", "headerSize", c_Md_headerSize, 1) 2 (x_getf 11 3) 5 := mj_getf (T := T_Md) rfl (by decide) u_Md z4_68 (by decide +kernel)
theorem i_Md_headerSize_5 : mj_Snd zG ("StreamWatchModel", "headerSize", c_Md_headerSize, 1) 5 (x_const 0) 6 := mj_const (n := 0) (by decide) (by decide +kernel)
theorem i_Md_headerSize_6 : mj_Snd zG ("StreamWatchModel", "headerSize", c_Md_headerSize, 1) 6 (x_iald 0) 7 := mj_iald rfl (by decide +kernel)
theorem i_Md_headerSize_7 : mj_Snd zG ("StreamWatchModel", "headerSize", c_Md_headerSize, 1) 7 (x_const 64) 9 := mj_bipush (n := 64) (by decide) (by decide +kernel)
theorem i_Md_headerSize_9 : mj_Snd zG ("StreamWatchModel", "headerSize", c_Md_headerSize, 1) 9 (x_isub) 10 := mj_isub (by decide +kernel)
theorem i_Md_headerSize_10 : mj_Snd zG ("StreamWatchModel", "headerSize", c_Md_headerSize, 1) 10 (x_imul) 11 := mj_imul (by decide +kernel)
theorem d_Md_headerSize_11 : decode c_Md_headerSize 11 = .ok (.ireturn, 1) := by decide +kernel
theorem b_Md_headerSize_0 : mj_Ch zG ("StreamWatchModel", "headerSize", c_Md_headerSize, 1) 0 [x_const 4, x_aload 0, x_getf 11 3, x_const 0, x_iald 0, x_const 64, x_isub, x_imul] 11 := ⟨_, i_Md_headerSize_0, _, i_Md_headerSize_1, _, i_Md_headerSize_2, _, i_Md_headerSize_5, _, i_Md_headerSize_6, _, i_Md_headerSize_7, _, i_Md_headerSize_9, _, i_Md_headerSize_10, rfl⟩
theorem i_Md_headerSum_0 : mj_Snd zG ("StreamWatchModel", "headerSum", c_Md_headerSum, 1) 0 (x_aload 0) 1 := mj_aload_n (j := 0) rfl (by decide +kernel)
theorem i_Md_headerSum_1 : mj_Snd zG ("StreamWatchModel", "headerSum", c_Md_headerSum, 1) 1 (x_const 0) 2 := mj_const (n := 0) (by decide) (by decide +kernel)
theorem i_Md_headerSum_2 : mj_Snd zG ("StreamWatchModel", "headerSum", c_Md_headerSum, 1) 2 (x_aload 0) 3 := mj_aload_n (j := 0) rfl (by decide +kernel)
theorem d_Md_headerSum_3 : decode c_Md_headerSum 3 = .ok (.invokevirtual 118, 3) := by decide +kernel
theorem d_Md_headerSum_6 : decode c_Md_headerSum 6 = .ok (.invokevirtual 122, 3) := by decide +kernel
theorem d_Md_headerSum_9 : decode c_Md_headerSum 9 = .ok (.invokestatic 126, 3) := by decide +kernel
theorem d_Md_headerSum_12 : decode c_Md_headerSum 12 = .ok (.ireturn, 1) := by decide +kernel
theorem b_Md_headerSum_0 : mj_Ch zG ("StreamWatchModel", "headerSum", c_Md_headerSum, 1) 0 [x_aload 0, x_const 0, x_aload 0] 3 := ⟨_, i_Md_headerSum_0, _, i_Md_headerSum_1, _, i_Md_headerSum_2, rfl⟩
theorem i_Md_partSum_0 : mj_Snd zG ("StreamWatchModel", "partSum", c_Md_partSum, 3) 0 (x_aload 0) 1 := mj_aload_n (j := 0) rfl (by decide +kernel)
theorem d_Md_partSum_1 : decode c_Md_partSum 1 = .ok (.invokevirtual 118, 3) := by decide +kernel
theorem i_Md_partSum_4 : mj_Snd zG ("StreamWatchModel", "partSum", c_Md_partSum, 3) 4 (x_istore 1) 5 := mj_istore_n (j := 1) rfl (by decide) (by decide +kernel)
theorem i_Md_partSum_5 : mj_Snd zG ("StreamWatchModel", "partSum", c_Md_partSum, 3) 5 (x_aload 0) 6 := mj_aload_n (j := 0) rfl (by decide +kernel)
theorem i_Md_partSum_6 : mj_Snd zG ("StreamWatchModel", "partSum", c_Md_partSum, 3) 6 (x_const 2) 7 := mj_const (n := 2) (by decide) (by decide +kernel)
theorem d_Md_partSum_7 : decode c_Md_partSum 7 = .ok (.invokevirtual 113, 3) := by decide +kernel
theorem i_Md_partSum_10 : mj_Snd zG ("StreamWatchModel", "partSum", c_Md_partSum, 3) 10 (x_istore 2) 11 := mj_istore_n (j := 2) rfl (by decide) (by decide +kernel)
theorem i_Md_partSum_11 : mj_Snd zG ("StreamWatchModel", "partSum", c_Md_partSum, 3) 11 (x_aload 0) 12 := mj_aload_n (j := 0) rfl (by decide +kernel)
theorem i_Md_partSum_12 : mj_Snd zG ("StreamWatchModel", "partSum", c_Md_partSum, 3) 12 (x_const 12) 14 := mj_bipush (n := 12) (by decide) (by decide +kernel)
theorem i_Md_partSum_14 : mj_Snd zG ("StreamWatchModel", "partSum", c_Md_partSum, 3) 14 (x_const 20) 16 := mj_bipush (n := 20) (by decide) (by decide +kernel)
theorem d_Md_partSum_16 : decode c_Md_partSum 16 = .ok (.invokevirtual 122, 3) := by decide +kernel
theorem i_Md_partSum_19 : mj_Snd zG ("StreamWatchModel", "partSum", c_Md_partSum, 3) 19 (x_const 6) 21 := mj_bipush (n := 6) (by decide) (by decide +kernel)
theorem i_Md_partSum_21 : mj_Snd zG ("StreamWatchModel", "partSum", c_Md_partSum, 3) 21 (x_iadd) 22 := mj_iadd (by decide +kernel)
theorem i_Md_partSum_22 : mj_Snd zG ("StreamWatchModel", "partSum", c_Md_partSum, 3) 22 (x_iload 2) 23 := mj_iload_n (j := 2) rfl (by decide +kernel)
theorem i_Md_partSum_23 : mj_Snd zG ("StreamWatchModel", "partSum", c_Md_partSum, 3) 23 (x_iadd) 24 := mj_iadd (by decide +kernel)
theorem i_Md_partSum_24 : mj_Snd zG ("StreamWatchModel", "partSum", c_Md_partSum, 3) 24 (x_iload 1) 25 := mj_iload_n (j := 1) rfl (by decide +kernel)
theorem i_Md_partSum_25 : mj_Snd zG ("StreamWatchModel", "partSum", c_Md_partSum, 3) 25 (x_isub) 26 := mj_isub (by decide +kernel)
theorem i_Md_partSum_26 : mj_Snd zG ("StreamWatchModel", "partSum", c_Md_partSum, 3) 26 (x_aload 0) 27 := mj_aload_n (j := 0) rfl (by decide +kernel)
theorem i_Md_partSum_27 : mj_Snd zG ("StreamWatchModel", "partSum", c_Md_partSum, 3) 27 (x_iload 1) 28 := mj_iload_n (j := 1) rfl (by decide +kernel)
theorem i_Md_partSum_28 : mj_Snd zG ("StreamWatchModel", "partSum", c_Md_partSum, 3) 28 (x_iload 2) 29 := mj_iload_n (j := 2) rfl (by decide +kernel)
theorem d_Md_partSum_29 : decode c_Md_partSum 29 = .ok (.invokevirtual 122, 3) := by decide +kernel
theorem i_Md_partSum_32 : mj_Snd zG ("StreamWatchModel", "partSum", c_Md_partSum, 3) 32 (x_iadd) 33 := mj_iadd (by decide +kernel)
theorem d_Md_partSum_33 : decode c_Md_partSum 33 = .ok (.invokestatic 126, 3) := by decide +kernel
theorem d_Md_partSum_36 : decode c_Md_partSum 36 = .ok (.ireturn, 1) := by decide +kernel
theorem b_Md_partSum_0 : mj_Ch zG ("StreamWatchModel", "partSum", c_Md_partSum, 3) 0 [x_aload 0] 1 := ⟨_, i_Md_partSum_0, rfl⟩
theorem b_Md_partSum_4 : mj_Ch zG ("StreamWatchModel", "partSum", c_Md_partSum, 3) 4 [x_istore 1, x_aload 0, x_const 2] 7 := ⟨_, i_Md_partSum_4, _, i_Md_partSum_5, _, i_Md_partSum_6, rfl⟩
theorem b_Md_partSum_10 : mj_Ch zG ("StreamWatchModel", "partSum", c_Md_partSum, 3) 10 [x_istore 2, x_aload 0, x_const 12, x_const 20] 16 := ⟨_, i_Md_partSum_10, _, i_Md_partSum_11, _, i_Md_partSum_12, _, i_Md_partSum_14, rfl⟩
theorem b_Md_partSum_19 : mj_Ch zG ("StreamWatchModel", "partSum", c_Md_partSum, 3) 19 [x_const 6, x_iadd, x_iload 2, x_iadd, x_iload 1, x_isub, x_aload 0, x_iload 1, x_iload 2] 29 := ⟨_, i_Md_partSum_19, _, i_Md_partSum_21, _, i_Md_partSum_22, _, i_Md_partSum_23, _, i_Md_partSum_24, _, i_Md_partSum_25, _, i_Md_partSum_26, _, i_Md_partSum_27, _, i_Md_partSum_28, rfl⟩
theorem b_Md_partSum_32 : mj_Ch zG ("StreamWatchModel", "partSum", c_Md_partSum, 3) 32 [x_iadd] 33 := ⟨_, i_Md_partSum_32, rfl⟩
theorem i_Md_reason_0 : mj_Snd zG ("StreamWatchModel", "reason", c_Md_reason, 5) 0 (x_aload 0) 1 := mj_aload_n (j := 0) rfl (by decide +kernel)
theorem i_Md_reason_1 : mj_Snd zG ("StreamWatchModel", "reason", c_Md_reason, 5) 1 (x_getf 11 2) 4 := mj_getf (T := T_Md) rfl (by decide) u_Md z4_67 (by decide +kernel)
theorem i_Md_reason_4 : mj_Snd zG ("StreamWatchModel", "reason", c_Md_reason, 5) 4 (x_const 20) 6 := mj_bipush (n := 20) (by decide) (by decide +kernel)
theorem d_Md_reason_6 : decode c_Md_reason 6 = .ok (.if_icmp .ge 5, 3) := by decide +kernel
theorem i_Md_reason_9 : mj_Snd zG ("StreamWatchModel", "reason", c_Md_reason, 5) 9 (x_const 1) 10 := mj_const (n := 1) (by decide) (by decide +kernel)
theorem d_Md_reason_10 : decode c_Md_reason 10 = .ok (.ireturn, 1) := by decide +kernel
theorem i_Md_reason_11 : mj_Snd zG ("StreamWatchModel", "reason", c_Md_reason, 5) 11 (x_aload 0) 12 := mj_aload_n (j := 0) rfl (by decide +kernel)
theorem i_Md_reason_12 : mj_Snd zG ("StreamWatchModel", "reason", c_Md_reason, 5) 12 (x_getf 11 3) 15 := mj_getf (T := T_Md) rfl (by decide) u_Md z4_68 (by decide +kernel)
theorem i_Md_reason_15 : mj_Snd zG ("StreamWatchModel", "reason", c_Md_reason, 5) 15 (x_const 0) 16 := mj_const (n := 0) (by decide) (by decide +kernel)
theorem i_Md_reason_16 : mj_Snd zG ("StreamWatchModel", "reason", c_Md_reason, 5) 16 (x_iald 0) 17 := mj_iald rfl (by decide +kernel)
theorem i_Md_reason_17 : mj_Snd zG ("StreamWatchModel", "reason", c_Md_reason, 5) 17 (x_const 69) 19 := mj_bipush (n := 69) (by decide) (by decide +kernel)
theorem d_Md_reason_19 : decode c_Md_reason 19 = .ok (.if_icmp .lt 14, 3) := by decide +kernel
theorem i_Md_reason_22 : mj_Snd zG ("StreamWatchModel", "reason", c_Md_reason, 5) 22 (x_aload 0) 23 := mj_aload_n (j := 0) rfl (by decide +kernel)
theorem i_Md_reason_23 : mj_Snd zG ("StreamWatchModel", "reason", c_Md_reason, 5) 23 (x_getf 11 3) 26 := mj_getf (T := T_Md) rfl (by decide) u_Md z4_68 (by decide +kernel)
theorem i_Md_reason_26 : mj_Snd zG ("StreamWatchModel", "reason", c_Md_reason, 5) 26 (x_const 0) 27 := mj_const (n := 0) (by decide) (by decide +kernel)
theorem i_Md_reason_27 : mj_Snd zG ("StreamWatchModel", "reason", c_Md_reason, 5) 27 (x_iald 0) 28 := mj_iald rfl (by decide +kernel)
theorem i_Md_reason_28 : mj_Snd zG ("StreamWatchModel", "reason", c_Md_reason, 5) 28 (x_const 71) 30 := mj_bipush (n := 71) (by decide) (by decide +kernel)
theorem d_Md_reason_30 : decode c_Md_reason 30 = .ok (.if_icmp .le 5, 3) := by decide +kernel
theorem i_Md_reason_33 : mj_Snd zG ("StreamWatchModel", "reason", c_Md_reason, 5) 33 (x_const 2) 34 := mj_const (n := 2) (by decide) (by decide +kernel)
theorem d_Md_reason_34 : decode c_Md_reason 34 = .ok (.ireturn, 1) := by decide +kernel
theorem i_Md_reason_35 : mj_Snd zG ("StreamWatchModel", "reason", c_Md_reason, 5) 35 (x_aload 0) 36 := mj_aload_n (j := 0) rfl (by decide +kernel)
theorem d_Md_reason_36 : decode c_Md_reason 36 = .ok (.invokevirtual 118, 3) := by decide +kernel
theorem i_Md_reason_39 : mj_Snd zG ("StreamWatchModel", "reason", c_Md_reason, 5) 39 (x_istore 2) 40 := mj_istore_n (j := 2) rfl (by decide) (by decide +kernel)
theorem i_Md_reason_40 : mj_Snd zG ("StreamWatchModel", "reason", c_Md_reason, 5) 40 (x_aload 0) 41 := mj_aload_n (j := 0) rfl (by decide +kernel)
theorem i_Md_reason_41 : mj_Snd zG ("StreamWatchModel", "reason", c_Md_reason, 5) 41 (x_const 2) 42 := mj_const (n := 2) (by decide) (by decide +kernel)
theorem d_Md_reason_42 : decode c_Md_reason 42 = .ok (.invokevirtual 113, 3) := by decide +kernel
theorem i_Md_reason_45 : mj_Snd zG ("StreamWatchModel", "reason", c_Md_reason, 5) 45 (x_istore 3) 46 := mj_istore_n (j := 3) rfl (by decide) (by decide +kernel)
theorem i_Md_reason_46 : mj_Snd zG ("StreamWatchModel", "reason", c_Md_reason, 5) 46 (x_iload 3) 47 := mj_iload_n (j := 3) rfl (by decide +kernel)
theorem i_Md_reason_47 : mj_Snd zG ("StreamWatchModel", "reason", c_Md_reason, 5) 47 (x_aload 0) 48 := mj_aload_n (j := 0) rfl (by decide +kernel)
theorem i_Md_reason_48 : mj_Snd zG ("StreamWatchModel", "reason", c_Md_reason, 5) 48 (x_getf 11 2) 51 := mj_getf (T := T_Md) rfl (by decide) u_Md z4_67 (by decide +kernel)
theorem d_Md_reason_51 : decode c_Md_reason 51 = .ok (.if_icmp .gt 11, 3) := by decide +kernel
theorem i_Md_reason_54 : mj_Snd zG ("StreamWatchModel", "reason", c_Md_reason, 5) 54 (x_iload 3) 55 := mj_iload_n (j := 3) rfl (by decide +kernel)
theorem i_Md_reason_55 : mj_Snd zG ("StreamWatchModel", "reason", c_Md_reason, 5) 55 (x_iload 2) 56 := mj_iload_n (j := 2) rfl (by decide +kernel)
theorem i_Md_reason_56 : mj_Snd zG ("StreamWatchModel", "reason", c_Md_reason, 5) 56 (x_const 20) 58 := mj_bipush (n := 20) (by decide) (by decide +kernel)
theorem i_Md_reason_58 : mj_Snd zG ("StreamWatchModel", "reason", c_Md_reason, 5) 58 (x_iadd) 59 := mj_iadd (by decide +kernel)
theorem d_Md_reason_59 : decode c_Md_reason 59 = .ok (.if_icmp .ge 5, 3) := by decide +kernel
theorem i_Md_reason_62 : mj_Snd zG ("StreamWatchModel", "reason", c_Md_reason, 5) 62 (x_const 3) 63 := mj_const (n := 3) (by decide) (by decide +kernel)
theorem d_Md_reason_63 : decode c_Md_reason 63 = .ok (.ireturn, 1) := by decide +kernel
theorem i_Md_reason_64 : mj_Snd zG ("StreamWatchModel", "reason", c_Md_reason, 5) 64 (x_iload 1) 65 := mj_iload_n (j := 1) rfl (by decide +kernel)
theorem d_Md_reason_65 : decode c_Md_reason 65 = .ok (.ifCond .eq 14, 3) := by decide +kernel
theorem i_Md_reason_68 : mj_Snd zG ("StreamWatchModel", "reason", c_Md_reason, 5) 68 (x_aload 0) 69 := mj_aload_n (j := 0) rfl (by decide +kernel)
theorem d_Md_reason_69 : decode c_Md_reason 69 = .ok (.invokevirtual 129, 3) := by decide +kernel
theorem i_Md_reason_72 : mj_Snd zG ("StreamWatchModel", "reason", c_Md_reason, 5) 72 (x_const 65535) 74 := mj_ldc z4_187 (by decide +kernel)
theorem d_Md_reason_74 : decode c_Md_reason 74 = .ok (.if_icmp .eq 5, 3) := by decide +kernel
theorem i_Md_reason_77 : mj_Snd zG ("StreamWatchModel", "reason", c_Md_reason, 5) 77 (x_const 4) 78 := mj_const (n := 4) (by decide) (by decide +kernel)
theorem d_Md_reason_78 : decode c_Md_reason 78 = .ok (.ireturn, 1) := by decide +kernel
theorem i_Md_reason_79 : mj_Snd zG ("StreamWatchModel", "reason", c_Md_reason, 5) 79 (x_aload 0) 80 := mj_aload_n (j := 0) rfl (by decide +kernel)
theorem i_Md_reason_80 : mj_Snd zG ("StreamWatchModel", "reason", c_Md_reason, 5) 80 (x_const 6) 82 := mj_bipush (n := 6) (by decide) (by decide +kernel)
theorem d_Md_reason_82 : decode c_Md_reason 82 = .ok (.invokevirtual 113, 3) := by decide +kernel
theorem i_Md_reason_85 : mj_Snd zG ("StreamWatchModel", "reason", c_Md_reason, 5) 85 (x_const 16383) 88 := mj_sipush (n := 16383) (by decide) (by decide +kernel)
theorem i_Md_reason_88 : mj_Snd zG ("StreamWatchModel", "reason", c_Md_reason, 5) 88 (x_iand) 89 := mj_iand (by decide +kernel)
theorem d_Md_reason_89 : decode c_Md_reason 89 = .ok (.ifCond .eq 5, 3) := by decide +kernel
theorem i_Md_reason_92 : mj_Snd zG ("StreamWatchModel", "reason", c_Md_reason, 5) 92 (x_const 5) 93 := mj_const (n := 5) (by decide) (by decide +kernel)
theorem d_Md_reason_93 : decode c_Md_reason 93 = .ok (.ireturn, 1) := by decide +kernel
theorem i_Md_reason_94 : mj_Snd zG ("StreamWatchModel", "reason", c_Md_reason, 5) 94 (x_aload 0) 95 := mj_aload_n (j := 0) rfl (by decide +kernel)
theorem i_Md_reason_95 : mj_Snd zG ("StreamWatchModel", "reason", c_Md_reason, 5) 95 (x_getf 11 3) 98 := mj_getf (T := T_Md) rfl (by decide) u_Md z4_68 (by decide +kernel)
theorem i_Md_reason_98 : mj_Snd zG ("StreamWatchModel", "reason", c_Md_reason, 5) 98 (x_const 9) 100 := mj_bipush (n := 9) (by decide) (by decide +kernel)
theorem i_Md_reason_100 : mj_Snd zG ("StreamWatchModel", "reason", c_Md_reason, 5) 100 (x_iald 0) 101 := mj_iald rfl (by decide +kernel)
theorem i_Md_reason_101 : mj_Snd zG ("StreamWatchModel", "reason", c_Md_reason, 5) 101 (x_const 6) 103 := mj_bipush (n := 6) (by decide) (by decide +kernel)
theorem d_Md_reason_103 : decode c_Md_reason 103 = .ok (.if_icmp .eq 6, 3) := by decide +kernel
theorem i_Md_reason_106 : mj_Snd zG ("StreamWatchModel", "reason", c_Md_reason, 5) 106 (x_const 6) 108 := mj_bipush (n := 6) (by decide) (by decide +kernel)
theorem d_Md_reason_108 : decode c_Md_reason 108 = .ok (.ireturn, 1) := by decide +kernel
theorem i_Md_reason_109 : mj_Snd zG ("StreamWatchModel", "reason", c_Md_reason, 5) 109 (x_aload 0) 110 := mj_aload_n (j := 0) rfl (by decide +kernel)
theorem i_Md_reason_110 : mj_Snd zG ("StreamWatchModel", "reason", c_Md_reason, 5) 110 (x_getf 11 3) 113 := mj_getf (T := T_Md) rfl (by decide) u_Md z4_68 (by decide +kernel)
theorem i_Md_reason_113 : mj_Snd zG ("StreamWatchModel", "reason", c_Md_reason, 5) 113 (x_iload 2) 114 := mj_iload_n (j := 2) rfl (by decide +kernel)
theorem i_Md_reason_114 : mj_Snd zG ("StreamWatchModel", "reason", c_Md_reason, 5) 114 (x_const 12) 116 := mj_bipush (n := 12) (by decide) (by decide +kernel)
theorem i_Md_reason_116 : mj_Snd zG ("StreamWatchModel", "reason", c_Md_reason, 5) 116 (x_iadd) 117 := mj_iadd (by decide +kernel)
theorem i_Md_reason_117 : mj_Snd zG ("StreamWatchModel", "reason", c_Md_reason, 5) 117 (x_iald 0) 118 := mj_iald rfl (by decide +kernel)
theorem i_Md_reason_118 : mj_Snd zG ("StreamWatchModel", "reason", c_Md_reason, 5) 118 (x_const 4) 119 := mj_const (n := 4) (by decide) (by decide +kernel)
theorem i_Md_reason_119 : mj_Snd zG ("StreamWatchModel", "reason", c_Md_reason, 5) 119 (x_ishr) 120 := mj_ishr (by decide +kernel)
theorem i_Md_reason_120 : mj_Snd zG ("StreamWatchModel", "reason", c_Md_reason, 5) 120 (x_istore 4) 122 := mj_istore (by decide) (by decide +kernel)
theorem i_Md_reason_122 : mj_Snd zG ("StreamWatchModel", "reason", c_Md_reason, 5) 122 (x_iload 4) 124 := mj_iload (by decide +kernel)
theorem i_Md_reason_124 : mj_Snd zG ("StreamWatchModel", "reason", c_Md_reason, 5) 124 (x_const 5) 125 := mj_const (n := 5) (by decide) (by decide +kernel)
theorem d_Md_reason_125 : decode c_Md_reason 125 = .ok (.if_icmp .lt 20, 3) := by decide +kernel
theorem i_Md_reason_128 : mj_Snd zG ("StreamWatchModel", "reason", c_Md_reason, 5) 128 (x_iload 4) 130 := mj_iload (by decide +kernel)
theorem i_Md_reason_130 : mj_Snd zG ("StreamWatchModel", "reason", c_Md_reason, 5) 130 (x_const 8) 132 := mj_bipush (n := 8) (by decide) (by decide +kernel)
theorem d_Md_reason_132 : decode c_Md_reason 132 = .ok (.if_icmp .gt 13, 3) := by decide +kernel
theorem i_Md_reason_135 : mj_Snd zG ("StreamWatchModel", "reason", c_Md_reason, 5) 135 (x_iload 2) 136 := mj_iload_n (j := 2) rfl (by decide +kernel)
theorem i_Md_reason_136 : mj_Snd zG ("StreamWatchModel", "reason", c_Md_reason, 5) 136 (x_const 4) 137 := mj_const (n := 4) (by decide) (by decide +kernel)
theorem i_Md_reason_137 : mj_Snd zG ("StreamWatchModel", "reason", c_Md_reason, 5) 137 (x_iload 4) 139 := mj_iload (by decide +kernel)
theorem i_Md_reason_139 : mj_Snd zG ("StreamWatchModel", "reason", c_Md_reason, 5) 139 (x_imul) 140 := mj_imul (by decide +kernel)
theorem i_Md_reason_140 : mj_Snd zG ("StreamWatchModel", "reason", c_Md_reason, 5) 140 (x_iadd) 141 := mj_iadd (by decide +kernel)
theorem i_Md_reason_141 : mj_Snd zG ("StreamWatchModel", "reason", c_Md_reason, 5) 141 (x_iload 3) 142 := mj_iload_n (j := 3) rfl (by decide +kernel)
theorem d_Md_reason_142 : decode c_Md_reason 142 = .ok (.if_icmp .le 6, 3) := by decide +kernel
theorem i_Md_reason_145 : mj_Snd zG ("StreamWatchModel", "reason", c_Md_reason, 5) 145 (x_const 7) 147 := mj_bipush (n := 7) (by decide) (by decide +kernel)
theorem d_Md_reason_147 : decode c_Md_reason 147 = .ok (.ireturn, 1) := by decide +kernel
theorem i_Md_reason_148 : mj_Snd zG ("StreamWatchModel", "reason", c_Md_reason, 5) 148 (x_iload 1) 149 := mj_iload_n (j := 1) rfl (by decide +kernel)
theorem d_Md_reason_149 : decode c_Md_reason 149 = .ok (.ifCond .eq 17, 3) := by decide +kernel
theorem i_Md_reason_152 : mj_Snd zG ("StreamWatchModel", "reason", c_Md_reason, 5) 152 (x_aload 0) 153 := mj_aload_n (j := 0) rfl (by decide +kernel)
theorem d_Md_reason_153 : decode c_Md_reason 153 = .ok (.invokevirtual 132, 3) := by decide +kernel
theorem i_Md_reason_156 : mj_Snd zG ("StreamWatchModel", "reason", c_Md_reason, 5) 156 (x_const 65535) 158 := mj_ldc z4_187 (by decide +kernel)
theorem d_Md_reason_158 : decode c_Md_reason 158 = .ok (.if_icmp .eq 8, 3) := by decide +kernel
theorem i_Md_reason_161 : mj_Snd zG ("StreamWatchModel", "reason", c_Md_reason, 5) 161 (x_const 8) 163 := mj_bipush (n := 8) (by decide) (by decide +kernel)
theorem i_Md_reason_163 : mj_Snd zG ("StreamWatchModel", "reason", c_Md_reason, 5) 163 (x_skip) 167 := mj_goto (off := 4) (by decide) (by decide +kernel)
theorem i_Md_reason_166 : mj_Snd zG ("StreamWatchModel", "reason", c_Md_reason, 5) 166 (x_const 0) 167 := mj_const (n := 0) (by decide) (by decide +kernel)
theorem d_Md_reason_167 : decode c_Md_reason 167 = .ok (.ireturn, 1) := by decide +kernel
theorem b_Md_reason_0 : mj_Ch zG ("StreamWatchModel", "reason", c_Md_reason, 5) 0 [x_aload 0, x_getf 11 2, x_const 20] 6 := ⟨_, i_Md_reason_0, _, i_Md_reason_1, _, i_Md_reason_4, rfl⟩
theorem b_Md_reason_9 : mj_Ch zG ("StreamWatchModel", "reason", c_Md_reason, 5) 9 [x_const 1] 10 := ⟨_, i_Md_reason_9, rfl⟩
theorem b_Md_reason_11 : mj_Ch zG ("StreamWatchModel", "reason", c_Md_reason, 5) 11 [x_aload 0, x_getf 11 3, x_const 0, x_iald 0, x_const 69] 19 := ⟨_, i_Md_reason_11, _, i_Md_reason_12, _, i_Md_reason_15, _, i_Md_reason_16, _, i_Md_reason_17, rfl⟩
theorem b_Md_reason_22 : mj_Ch zG ("StreamWatchModel", "reason", c_Md_reason, 5) 22 [x_aload 0, x_getf 11 3, x_const 0, x_iald 0, x_const 71] 30 := ⟨_, i_Md_reason_22, _, i_Md_reason_23, _, i_Md_reason_26, _, i_Md_reason_27, _, i_Md_reason_28, rfl⟩
theorem b_Md_reason_33 : mj_Ch zG ("StreamWatchModel", "reason", c_Md_reason, 5) 33 [x_const 2] 34 := ⟨_, i_Md_reason_33, rfl⟩
theorem b_Md_reason_35 : mj_Ch zG ("StreamWatchModel", "reason", c_Md_reason, 5) 35 [x_aload 0] 36 := ⟨_, i_Md_reason_35, rfl⟩
theorem b_Md_reason_39 : mj_Ch zG ("StreamWatchModel", "reason", c_Md_reason, 5) 39 [x_istore 2, x_aload 0, x_const 2] 42 := ⟨_, i_Md_reason_39, _, i_Md_reason_40, _, i_Md_reason_41, rfl⟩
theorem b_Md_reason_45 : mj_Ch zG ("StreamWatchModel", "reason", c_Md_reason, 5) 45 [x_istore 3, x_iload 3, x_aload 0, x_getf 11 2] 51 := ⟨_, i_Md_reason_45, _, i_Md_reason_46, _, i_Md_reason_47, _, i_Md_reason_48, rfl⟩
theorem b_Md_reason_54 : mj_Ch zG ("StreamWatchModel", "reason", c_Md_reason, 5) 54 [x_iload 3, x_iload 2, x_const 20, x_iadd] 59 := ⟨_, i_Md_reason_54, _, i_Md_reason_55, _, i_Md_reason_56, _, i_Md_reason_58, rfl⟩
theorem b_Md_reason_62 : mj_Ch zG ("StreamWatchModel", "reason", c_Md_reason, 5) 62 [x_const 3] 63 := ⟨_, i_Md_reason_62, rfl⟩
theorem b_Md_reason_64 : mj_Ch zG ("StreamWatchModel", "reason", c_Md_reason, 5) 64 [x_iload 1] 65 := ⟨_, i_Md_reason_64, rfl⟩
theorem b_Md_reason_68 : mj_Ch zG ("StreamWatchModel", "reason", c_Md_reason, 5) 68 [x_aload 0] 69 := ⟨_, i_Md_reason_68, rfl⟩
theorem b_Md_reason_72 : mj_Ch zG ("StreamWatchModel", "reason", c_Md_reason, 5) 72 [x_const 65535] 74 := ⟨_, i_Md_reason_72, rfl⟩
theorem b_Md_reason_77 : mj_Ch zG ("StreamWatchModel", "reason", c_Md_reason, 5) 77 [x_const 4] 78 := ⟨_, i_Md_reason_77, rfl⟩
theorem b_Md_reason_79 : mj_Ch zG ("StreamWatchModel", "reason", c_Md_reason, 5) 79 [x_aload 0, x_const 6] 82 := ⟨_, i_Md_reason_79, _, i_Md_reason_80, rfl⟩
theorem b_Md_reason_85 : mj_Ch zG ("StreamWatchModel", "reason", c_Md_reason, 5) 85 [x_const 16383, x_iand] 89 := ⟨_, i_Md_reason_85, _, i_Md_reason_88, rfl⟩
theorem b_Md_reason_92 : mj_Ch zG ("StreamWatchModel", "reason", c_Md_reason, 5) 92 [x_const 5] 93 := ⟨_, i_Md_reason_92, rfl⟩
theorem b_Md_reason_94 : mj_Ch zG ("StreamWatchModel", "reason", c_Md_reason, 5) 94 [x_aload 0, x_getf 11 3, x_const 9, x_iald 0, x_const 6] 103 := ⟨_, i_Md_reason_94, _, i_Md_reason_95, _, i_Md_reason_98, _, i_Md_reason_100, _, i_Md_reason_101, rfl⟩
theorem b_Md_reason_106 : mj_Ch zG ("StreamWatchModel", "reason", c_Md_reason, 5) 106 [x_const 6] 108 := ⟨_, i_Md_reason_106, rfl⟩
theorem b_Md_reason_109 : mj_Ch zG ("StreamWatchModel", "reason", c_Md_reason, 5) 109 [x_aload 0, x_getf 11 3, x_iload 2, x_const 12, x_iadd, x_iald 0, x_const 4, x_ishr, x_istore 4, x_iload 4, x_const 5] 125 := ⟨_, i_Md_reason_109, _, i_Md_reason_110, _, i_Md_reason_113, _, i_Md_reason_114, _, i_Md_reason_116, _, i_Md_reason_117, _, i_Md_reason_118, _, i_Md_reason_119, _, i_Md_reason_120, _, i_Md_reason_122, _, i_Md_reason_124, rfl⟩
theorem b_Md_reason_128 : mj_Ch zG ("StreamWatchModel", "reason", c_Md_reason, 5) 128 [x_iload 4, x_const 8] 132 := ⟨_, i_Md_reason_128, _, i_Md_reason_130, rfl⟩
theorem b_Md_reason_135 : mj_Ch zG ("StreamWatchModel", "reason", c_Md_reason, 5) 135 [x_iload 2, x_const 4, x_iload 4, x_imul, x_iadd, x_iload 3] 142 := ⟨_, i_Md_reason_135, _, i_Md_reason_136, _, i_Md_reason_137, _, i_Md_reason_139, _, i_Md_reason_140, _, i_Md_reason_141, rfl⟩
theorem b_Md_reason_145 : mj_Ch zG ("StreamWatchModel", "reason", c_Md_reason, 5) 145 [x_const 7] 147 := ⟨_, i_Md_reason_145, rfl⟩
theorem b_Md_reason_148 : mj_Ch zG ("StreamWatchModel", "reason", c_Md_reason, 5) 148 [x_iload 1] 149 := ⟨_, i_Md_reason_148, rfl⟩
theorem b_Md_reason_152 : mj_Ch zG ("StreamWatchModel", "reason", c_Md_reason, 5) 152 [x_aload 0] 153 := ⟨_, i_Md_reason_152, rfl⟩
theorem b_Md_reason_156 : mj_Ch zG ("StreamWatchModel", "reason", c_Md_reason, 5) 156 [x_const 65535] 158 := ⟨_, i_Md_reason_156, rfl⟩
theorem b_Md_reason_161 : mj_Ch zG ("StreamWatchModel", "reason", c_Md_reason, 5) 161 [x_const 8, x_skip] 167 := ⟨_, i_Md_reason_161, _, i_Md_reason_163, rfl⟩
theorem b_Md_reason_166 : mj_Ch zG ("StreamWatchModel", "reason", c_Md_reason, 5) 166 [x_const 0] 167 := ⟨_, i_Md_reason_166, rfl⟩
theorem i_Md_close_0 : mj_Snd zG ("StreamWatchModel", "close", c_Md_close, 3) 0 (x_aload 0) 1 := mj_aload_n (j := 0) rfl (by decide +kernel)
theorem i_Md_close_1 : mj_Snd zG ("StreamWatchModel", "close", c_Md_close, 3) 1 (x_getf 11 3) 4 := mj_getf (T := T_Md) rfl (by decide) u_Md z4_68 (by decide +kernel)
theorem i_Md_close_4 : mj_Snd zG ("StreamWatchModel", "close", c_Md_close, 3) 4 (x_const 10) 6 := mj_bipush (n := 10) (by decide) (by decide +kernel)
theorem i_Md_close_6 : mj_Snd zG ("StreamWatchModel", "close", c_Md_close, 3) 6 (x_const 0) 7 := mj_const (n := 0) (by decide) (by decide +kernel)
theorem i_Md_close_7 : mj_Snd zG ("StreamWatchModel", "close", c_Md_close, 3) 7 (x_iast 0) 8 := mj_iast rfl (by decide +kernel)
theorem i_Md_close_8 : mj_Snd zG ("StreamWatchModel", "close", c_Md_close, 3) 8 (x_aload 0) 9 := mj_aload_n (j := 0) rfl (by decide +kernel)
theorem i_Md_close_9 : mj_Snd zG ("StreamWatchModel", "close", c_Md_close, 3) 9 (x_getf 11 3) 12 := mj_getf (T := T_Md) rfl (by decide) u_Md z4_68 (by decide +kernel)
theorem i_Md_close_12 : mj_Snd zG ("StreamWatchModel", "close", c_Md_close, 3) 12 (x_const 11) 14 := mj_bipush (n := 11) (by decide) (by decide +kernel)
theorem i_Md_close_14 : mj_Snd zG ("StreamWatchModel", "close", c_Md_close, 3) 14 (x_const 0) 15 := mj_const (n := 0) (by decide) (by decide +kernel)
theorem i_Md_close_15 : mj_Snd zG ("StreamWatchModel", "close", c_Md_close, 3) 15 (x_iast 0) 16 := mj_iast rfl (by decide +kernel)
theorem i_Md_close_16 : mj_Snd zG ("StreamWatchModel", "close", c_Md_close, 3) 16 (x_const 65535) 18 := mj_ldc z4_187 (by decide +kernel)
theorem i_Md_close_18 : mj_Snd zG ("StreamWatchModel", "close", c_Md_close, 3) 18 (x_aload 0) 19 := mj_aload_n (j := 0) rfl (by decide +kernel)
theorem d_Md_close_19 : decode c_Md_close 19 = .ok (.invokevirtual 129, 3) := by decide +kernel
theorem i_Md_close_22 : mj_Snd zG ("StreamWatchModel", "close", c_Md_close, 3) 22 (x_isub) 23 := mj_isub (by decide +kernel)
theorem i_Md_close_23 : mj_Snd zG ("StreamWatchModel", "close", c_Md_close, 3) 23 (x_istore 1) 24 := mj_istore_n (j := 1) rfl (by decide) (by decide +kernel)
theorem i_Md_close_24 : mj_Snd zG ("StreamWatchModel", "close", c_Md_close, 3) 24 (x_aload 0) 25 := mj_aload_n (j := 0) rfl (by decide +kernel)
theorem i_Md_close_25 : mj_Snd zG ("StreamWatchModel", "close", c_Md_close, 3) 25 (x_getf 11 3) 28 := mj_getf (T := T_Md) rfl (by decide) u_Md z4_68 (by decide +kernel)
theorem i_Md_close_28 : mj_Snd zG ("StreamWatchModel", "close", c_Md_close, 3) 28 (x_const 10) 30 := mj_bipush (n := 10) (by decide) (by decide +kernel)
theorem i_Md_close_30 : mj_Snd zG ("StreamWatchModel", "close", c_Md_close, 3) 30 (x_iload 1) 31 := mj_iload_n (j := 1) rfl (by decide +kernel)
theorem i_Md_close_31 : mj_Snd zG ("StreamWatchModel", "close", c_Md_close, 3) 31 (x_const 8) 33 := mj_bipush (n := 8) (by decide) (by decide +kernel)
theorem i_Md_close_33 : mj_Snd zG ("StreamWatchModel", "close", c_Md_close, 3) 33 (x_ishr) 34 := mj_ishr (by decide +kernel)
theorem i_Md_close_34 : mj_Snd zG ("StreamWatchModel", "close", c_Md_close, 3) 34 (x_iast 0) 35 := mj_iast rfl (by decide +kernel)
theorem i_Md_close_35 : mj_Snd zG ("StreamWatchModel", "close", c_Md_close, 3) 35 (x_aload 0) 36 := mj_aload_n (j := 0) rfl (by decide +kernel)
theorem i_Md_close_36 : mj_Snd zG ("StreamWatchModel", "close", c_Md_close, 3) 36 (x_getf 11 3) 39 := mj_getf (T := T_Md) rfl (by decide) u_Md z4_68 (by decide +kernel)
theorem i_Md_close_39 : mj_Snd zG ("StreamWatchModel", "close", c_Md_close, 3) 39 (x_const 11) 41 := mj_bipush (n := 11) (by decide) (by decide +kernel)
theorem i_Md_close_41 : mj_Snd zG ("StreamWatchModel", "close", c_Md_close, 3) 41 (x_iload 1) 42 := mj_iload_n (j := 1) rfl (by decide +kernel)
theorem i_Md_close_42 : mj_Snd zG ("StreamWatchModel", "close", c_Md_close, 3) 42 (x_const 255) 45 := mj_sipush (n := 255) (by decide) (by decide +kernel)
theorem i_Md_close_45 : mj_Snd zG ("StreamWatchModel", "close", c_Md_close, 3) 45 (x_iand) 46 := mj_iand (by decide +kernel)
theorem i_Md_close_46 : mj_Snd zG ("StreamWatchModel", "close", c_Md_close, 3) 46 (x_iast 0) 47 := mj_iast rfl (by decide +kernel)
theorem i_Md_close_47 : mj_Snd zG ("StreamWatchModel", "close", c_Md_close, 3) 47 (x_aload 0) 48 := mj_aload_n (j := 0) rfl (by decide +kernel)
theorem d_Md_close_48 : decode c_Md_close 48 = .ok (.invokevirtual 118, 3) := by decide +kernel
theorem i_Md_close_51 : mj_Snd zG ("StreamWatchModel", "close", c_Md_close, 3) 51 (x_const 16) 53 := mj_bipush (n := 16) (by decide) (by decide +kernel)
theorem i_Md_close_53 : mj_Snd zG ("StreamWatchModel", "close", c_Md_close, 3) 53 (x_iadd) 54 := mj_iadd (by decide +kernel)
theorem i_Md_close_54 : mj_Snd zG ("StreamWatchModel", "close", c_Md_close, 3) 54 (x_istore 2) 55 := mj_istore_n (j := 2) rfl (by decide) (by decide +kernel)
theorem i_Md_close_55 : mj_Snd zG ("StreamWatchModel", "close", c_Md_close, 3) 55 (x_aload 0) 56 := mj_aload_n (j := 0) rfl (by decide +kernel)
theorem i_Md_close_56 : mj_Snd zG ("StreamWatchModel", "close", c_Md_close, 3) 56 (x_getf 11 3) 59 := mj_getf (T := T_Md) rfl (by decide) u_Md z4_68 (by decide +kernel)
theorem i_Md_close_59 : mj_Snd zG ("StreamWatchModel", "close", c_Md_close, 3) 59 (x_iload 2) 60 := mj_iload_n (j := 2) rfl (by decide +kernel)
theorem i_Md_close_60 : mj_Snd zG ("StreamWatchModel", "close", c_Md_close, 3) 60 (x_const 0) 61 := mj_const (n := 0) (by decide) (by decide +kernel)
theorem i_Md_close_61 : mj_Snd zG ("StreamWatchModel", "close", c_Md_close, 3) 61 (x_iast 0) 62 := mj_iast rfl (by decide +kernel)
theorem i_Md_close_62 : mj_Snd zG ("StreamWatchModel", "close", c_Md_close, 3) 62 (x_aload 0) 63 := mj_aload_n (j := 0) rfl (by decide +kernel)
theorem i_Md_close_63 : mj_Snd zG ("StreamWatchModel", "close", c_Md_close, 3) 63 (x_getf 11 3) 66 := mj_getf (T := T_Md) rfl (by decide) u_Md z4_68 (by decide +kernel)
theorem i_Md_close_66 : mj_Snd zG ("StreamWatchModel", "close", c_Md_close, 3) 66 (x_iload 2) 67 := mj_iload_n (j := 2) rfl (by decide +kernel)
theorem i_Md_close_67 : mj_Snd zG ("StreamWatchModel", "close", c_Md_close, 3) 67 (x_const 1) 68 := mj_const (n := 1) (by decide) (by decide +kernel)
theorem i_Md_close_68 : mj_Snd zG ("StreamWatchModel", "close", c_Md_close, 3) 68 (x_iadd) 69 := mj_iadd (by decide +kernel)
theorem i_Md_close_69 : mj_Snd zG ("StreamWatchModel", "close", c_Md_close, 3) 69 (x_const 0) 70 := mj_const (n := 0) (by decide) (by decide +kernel)
theorem i_Md_close_70 : mj_Snd zG ("StreamWatchModel", "close", c_Md_close, 3) 70 (x_iast 0) 71 := mj_iast rfl (by decide +kernel)
theorem i_Md_close_71 : mj_Snd zG ("StreamWatchModel", "close", c_Md_close, 3) 71 (x_const 65535) 73 := mj_ldc z4_187 (by decide +kernel)
theorem i_Md_close_73 : mj_Snd zG ("StreamWatchModel", "close", c_Md_close, 3) 73 (x_aload 0) 74 := mj_aload_n (j := 0) rfl (by decide +kernel)
theorem d_Md_close_74 : decode c_Md_close 74 = .ok (.invokevirtual 132, 3) := by decide +kernel
theorem i_Md_close_77 : mj_Snd zG ("StreamWatchModel", "close", c_Md_close, 3) 77 (x_isub) 78 := mj_isub (by decide +kernel)
theorem i_Md_close_78 : mj_Snd zG ("StreamWatchModel", "close", c_Md_close, 3) 78 (x_istore 1) 79 := mj_istore_n (j := 1) rfl (by decide) (by decide +kernel)
theorem i_Md_close_79 : mj_Snd zG ("StreamWatchModel", "close", c_Md_close, 3) 79 (x_aload 0) 80 := mj_aload_n (j := 0) rfl (by decide +kernel)
theorem i_Md_close_80 : mj_Snd zG ("StreamWatchModel", "close", c_Md_close, 3) 80 (x_getf 11 3) 83 := mj_getf (T := T_Md) rfl (by decide) u_Md z4_68 (by decide +kernel)
theorem i_Md_close_83 : mj_Snd zG ("StreamWatchModel", "close", c_Md_close, 3) 83 (x_iload 2) 84 := mj_iload_n (j := 2) rfl (by decide +kernel)
theorem i_Md_close_84 : mj_Snd zG ("StreamWatchModel", "close", c_Md_close, 3) 84 (x_iload 1) 85 := mj_iload_n (j := 1) rfl (by decide +kernel)
theorem i_Md_close_85 : mj_Snd zG ("StreamWatchModel", "close", c_Md_close, 3) 85 (x_const 8) 87 := mj_bipush (n := 8) (by decide) (by decide +kernel)
theorem i_Md_close_87 : mj_Snd zG ("StreamWatchModel", "close", c_Md_close, 3) 87 (x_ishr) 88 := mj_ishr (by decide +kernel)
theorem i_Md_close_88 : mj_Snd zG ("StreamWatchModel", "close", c_Md_close, 3) 88 (x_iast 0) 89 := mj_iast rfl (by decide +kernel)
theorem i_Md_close_89 : mj_Snd zG ("StreamWatchModel", "close", c_Md_close, 3) 89 (x_aload 0) 90 := mj_aload_n (j := 0) rfl (by decide +kernel)
theorem i_Md_close_90 : mj_Snd zG ("StreamWatchModel", "close", c_Md_close, 3) 90 (x_getf 11 3) 93 := mj_getf (T := T_Md) rfl (by decide) u_Md z4_68 (by decide +kernel)
theorem i_Md_close_93 : mj_Snd zG ("StreamWatchModel", "close", c_Md_close, 3) 93 (x_iload 2) 94 := mj_iload_n (j := 2) rfl (by decide +kernel)
theorem i_Md_close_94 : mj_Snd zG ("StreamWatchModel", "close", c_Md_close, 3) 94 (x_const 1) 95 := mj_const (n := 1) (by decide) (by decide +kernel)
theorem i_Md_close_95 : mj_Snd zG ("StreamWatchModel", "close", c_Md_close, 3) 95 (x_iadd) 96 := mj_iadd (by decide +kernel)
theorem i_Md_close_96 : mj_Snd zG ("StreamWatchModel", "close", c_Md_close, 3) 96 (x_iload 1) 97 := mj_iload_n (j := 1) rfl (by decide +kernel)
theorem i_Md_close_97 : mj_Snd zG ("StreamWatchModel", "close", c_Md_close, 3) 97 (x_const 255) 100 := mj_sipush (n := 255) (by decide) (by decide +kernel)
theorem i_Md_close_100 : mj_Snd zG ("StreamWatchModel", "close", c_Md_close, 3) 100 (x_iand) 101 := mj_iand (by decide +kernel)
theorem i_Md_close_101 : mj_Snd zG ("StreamWatchModel", "close", c_Md_close, 3) 101 (x_iast 0) 102 := mj_iast rfl (by decide +kernel)
theorem d_Md_close_102 : decode c_Md_close 102 = .ok (.return_, 1) := by decide +kernel
theorem b_Md_close_0 : mj_Ch zG ("StreamWatchModel", "close", c_Md_close, 3) 0 [x_aload 0, x_getf 11 3, x_const 10, x_const 0, x_iast 0, x_aload 0, x_getf 11 3, x_const 11, x_const 0, x_iast 0, x_const 65535, x_aload 0] 19 := ⟨_, i_Md_close_0, _, i_Md_close_1, _, i_Md_close_4, _, i_Md_close_6, _, i_Md_close_7, _, i_Md_close_8, _, i_Md_close_9, _, i_Md_close_12, _, i_Md_close_14, _, i_Md_close_15, _, i_Md_close_16, _, i_Md_close_18, rfl⟩
theorem b_Md_close_22 : mj_Ch zG ("StreamWatchModel", "close", c_Md_close, 3) 22 [x_isub, x_istore 1, x_aload 0, x_getf 11 3, x_const 10, x_iload 1, x_const 8, x_ishr, x_iast 0, x_aload 0, x_getf 11 3, x_const 11, x_iload 1, x_const 255, x_iand, x_iast 0, x_aload 0] 48 := ⟨_, i_Md_close_22, _, i_Md_close_23, _, i_Md_close_24, _, i_Md_close_25, _, i_Md_close_28, _, i_Md_close_30, _, i_Md_close_31, _, i_Md_close_33, _, i_Md_close_34, _, i_Md_close_35, _, i_Md_close_36, _, i_Md_close_39, _, i_Md_close_41, _, i_Md_close_42, _, i_Md_close_45, _, i_Md_close_46, _, i_Md_close_47, rfl⟩
theorem b_Md_close_51 : mj_Ch zG ("StreamWatchModel", "close", c_Md_close, 3) 51 [x_const 16, x_iadd, x_istore 2, x_aload 0, x_getf 11 3, x_iload 2, x_const 0, x_iast 0, x_aload 0, x_getf 11 3, x_iload 2, x_const 1, x_iadd, x_const 0, x_iast 0, x_const 65535, x_aload 0] 74 := ⟨_, i_Md_close_51, _, i_Md_close_53, _, i_Md_close_54, _, i_Md_close_55, _, i_Md_close_56, _, i_Md_close_59, _, i_Md_close_60, _, i_Md_close_61, _, i_Md_close_62, _, i_Md_close_63, _, i_Md_close_66, _, i_Md_close_67, _, i_Md_close_68, _, i_Md_close_69, _, i_Md_close_70, _, i_Md_close_71, _, i_Md_close_73, rfl⟩
theorem b_Md_close_77 : mj_Ch zG ("StreamWatchModel", "close", c_Md_close, 3) 77 [x_isub, x_istore 1, x_aload 0, x_getf 11 3, x_iload 2, x_iload 1, x_const 8, x_ishr, x_iast 0, x_aload 0, x_getf 11 3, x_iload 2, x_const 1, x_iadd, x_iload 1, x_const 255, x_iand, x_iast 0] 102 := ⟨_, i_Md_close_77, _, i_Md_close_78, _, i_Md_close_79, _, i_Md_close_80, _, i_Md_close_83, _, i_Md_close_84, _, i_Md_close_85, _, i_Md_close_87, _, i_Md_close_88, _, i_Md_close_89, _, i_Md_close_90, _, i_Md_close_93, _, i_Md_close_94, _, i_Md_close_95, _, i_Md_close_96, _, i_Md_close_97, _, i_Md_close_100, _, i_Md_close_101, rfl⟩
theorem i_Md_seal_0 : mj_Snd zG ("StreamWatchModel", "seal", c_Md_seal, 1) 0 (x_aload 0) 1 := mj_aload_n (j := 0) rfl (by decide +kernel)
theorem i_Md_seal_1 : mj_Snd zG ("StreamWatchModel", "seal", c_Md_seal, 1) 1 (x_const 0) 2 := mj_const (n := 0) (by decide) (by decide +kernel)
theorem i_Md_seal_2 : mj_Snd zG ("StreamWatchModel", "seal", c_Md_seal, 1) 2 (x_putf 11 0 0) 5 := mj_putG (T := T_Md) (ty0 := t_Md) rfl (by decide) u_Md t_Md_ok n_Md z4_65 (Or.inl rfl) (by decide +kernel)
theorem i_Md_seal_5 : mj_Snd zG ("StreamWatchModel", "seal", c_Md_seal, 1) 5 (x_aload 0) 6 := mj_aload_n (j := 0) rfl (by decide +kernel)
theorem i_Md_seal_6 : mj_Snd zG ("StreamWatchModel", "seal", c_Md_seal, 1) 6 (x_const 0) 7 := mj_const (n := 0) (by decide) (by decide +kernel)
theorem d_Md_seal_7 : decode c_Md_seal 7 = .ok (.invokevirtual 135, 3) := by decide +kernel
theorem d_Md_seal_10 : decode c_Md_seal 10 = .ok (.ifCond .le 5, 3) := by decide +kernel
theorem i_Md_seal_13 : mj_Snd zG ("StreamWatchModel", "seal", c_Md_seal, 1) 13 (x_const 0) 14 := mj_const (n := 0) (by decide) (by decide +kernel)
theorem d_Md_seal_14 : decode c_Md_seal 14 = .ok (.ireturn, 1) := by decide +kernel
theorem i_Md_seal_15 : mj_Snd zG ("StreamWatchModel", "seal", c_Md_seal, 1) 15 (x_aload 0) 16 := mj_aload_n (j := 0) rfl (by decide +kernel)
theorem d_Md_seal_16 : decode c_Md_seal 16 = .ok (.invokevirtual 110, 3) := by decide +kernel
theorem i_Md_seal_19 : mj_Snd zG ("StreamWatchModel", "seal", c_Md_seal, 1) 19 (x_const 1) 20 := mj_const (n := 1) (by decide) (by decide +kernel)
theorem d_Md_seal_20 : decode c_Md_seal 20 = .ok (.ireturn, 1) := by decide +kernel
theorem b_Md_seal_0 : mj_Ch zG ("StreamWatchModel", "seal", c_Md_seal, 1) 0 [x_aload 0, x_const 0, x_putf 11 0 0, x_aload 0, x_const 0] 7 := ⟨_, i_Md_seal_0, _, i_Md_seal_1, _, i_Md_seal_2, _, i_Md_seal_5, _, i_Md_seal_6, rfl⟩
theorem b_Md_seal_13 : mj_Ch zG ("StreamWatchModel", "seal", c_Md_seal, 1) 13 [x_const 0] 14 := ⟨_, i_Md_seal_13, rfl⟩
theorem b_Md_seal_15 : mj_Ch zG ("StreamWatchModel", "seal", c_Md_seal, 1) 15 [x_aload 0] 16 := ⟨_, i_Md_seal_15, rfl⟩
theorem b_Md_seal_19 : mj_Ch zG ("StreamWatchModel", "seal", c_Md_seal, 1) 19 [x_const 1] 20 := ⟨_, i_Md_seal_19, rfl⟩
theorem i_Md_rule_0 : mj_Snd zG ("StreamWatchModel", "rule", c_Md_rule, 3) 0 (x_aload 0) 1 := mj_aload_n (j := 0) rfl (by decide +kernel)
theorem i_Md_rule_1 : mj_Snd zG ("StreamWatchModel", "rule", c_Md_rule, 3) 1 (x_iload 1) 2 := mj_iload_n (j := 1) rfl (by decide +kernel)
theorem d_Md_rule_2 : decode c_Md_rule 2 = .ok (.ifCond .lt 18, 3) := by decide +kernel
theorem i_Md_rule_5 : mj_Snd zG ("StreamWatchModel", "rule", c_Md_rule, 3) 5 (x_iload 1) 6 := mj_iload_n (j := 1) rfl (by decide +kernel)
theorem i_Md_rule_6 : mj_Snd zG ("StreamWatchModel", "rule", c_Md_rule, 3) 6 (x_const 2) 7 := mj_const (n := 2) (by decide) (by decide +kernel)
theorem d_Md_rule_7 : decode c_Md_rule 7 = .ok (.if_icmp .gt 13, 3) := by decide +kernel
theorem i_Md_rule_10 : mj_Snd zG ("StreamWatchModel", "rule", c_Md_rule, 3) 10 (x_iload 2) 11 := mj_iload_n (j := 2) rfl (by decide +kernel)
theorem d_Md_rule_11 : decode c_Md_rule 11 = .ok (.ifCond .lt 9, 3) := by decide +kernel
theorem i_Md_rule_14 : mj_Snd zG ("StreamWatchModel", "rule", c_Md_rule, 3) 14 (x_iload 2) 15 := mj_iload_n (j := 2) rfl (by decide +kernel)
theorem i_Md_rule_15 : mj_Snd zG ("StreamWatchModel", "rule", c_Md_rule, 3) 15 (x_const 65535) 17 := mj_ldc z4_187 (by decide +kernel)
theorem d_Md_rule_17 : decode c_Md_rule 17 = .ok (.if_icmp .le 7, 3) := by decide +kernel
theorem i_Md_rule_20 : mj_Snd zG ("StreamWatchModel", "rule", c_Md_rule, 3) 20 (x_const 1) 21 := mj_const (n := 1) (by decide) (by decide +kernel)
theorem i_Md_rule_21 : mj_Snd zG ("StreamWatchModel", "rule", c_Md_rule, 3) 21 (x_skip) 38 := mj_goto (off := 17) (by decide) (by decide +kernel)
theorem i_Md_rule_24 : mj_Snd zG ("StreamWatchModel", "rule", c_Md_rule, 3) 24 (x_aload 0) 25 := mj_aload_n (j := 0) rfl (by decide +kernel)
theorem i_Md_rule_25 : mj_Snd zG ("StreamWatchModel", "rule", c_Md_rule, 3) 25 (x_getf 11 19) 28 := mj_getf (T := T_Md) rfl (by decide) u_Md z4_84 (by decide +kernel)
theorem i_Md_rule_28 : mj_Snd zG ("StreamWatchModel", "rule", c_Md_rule, 3) 28 (x_const 6) 30 := mj_bipush (n := 6) (by decide) (by decide +kernel)
theorem d_Md_rule_30 : decode c_Md_rule 30 = .ok (.if_icmp .ne 7, 3) := by decide +kernel
theorem i_Md_rule_33 : mj_Snd zG ("StreamWatchModel", "rule", c_Md_rule, 3) 33 (x_const 2) 34 := mj_const (n := 2) (by decide) (by decide +kernel)
theorem i_Md_rule_34 : mj_Snd zG ("StreamWatchModel", "rule", c_Md_rule, 3) 34 (x_skip) 38 := mj_goto (off := 4) (by decide) (by decide +kernel)
theorem i_Md_rule_37 : mj_Snd zG ("StreamWatchModel", "rule", c_Md_rule, 3) 37 (x_const 0) 38 := mj_const (n := 0) (by decide) (by decide +kernel)
theorem i_Md_rule_38 : mj_Snd zG ("StreamWatchModel", "rule", c_Md_rule, 3) 38 (x_putf 11 0 0) 41 := mj_putG (T := T_Md) (ty0 := t_Md) rfl (by decide) u_Md t_Md_ok n_Md z4_65 (Or.inl rfl) (by decide +kernel)
theorem i_Md_rule_41 : mj_Snd zG ("StreamWatchModel", "rule", c_Md_rule, 3) 41 (x_aload 0) 42 := mj_aload_n (j := 0) rfl (by decide +kernel)
theorem i_Md_rule_42 : mj_Snd zG ("StreamWatchModel", "rule", c_Md_rule, 3) 42 (x_getf 11 0) 45 := mj_getf (T := T_Md) rfl (by decide) u_Md z4_65 (by decide +kernel)
theorem d_Md_rule_45 : decode c_Md_rule 45 = .ok (.ifCond .le 5, 3) := by decide +kernel
theorem i_Md_rule_48 : mj_Snd zG ("StreamWatchModel", "rule", c_Md_rule, 3) 48 (x_const 0) 49 := mj_const (n := 0) (by decide) (by decide +kernel)
theorem d_Md_rule_49 : decode c_Md_rule 49 = .ok (.ireturn, 1) := by decide +kernel
theorem i_Md_rule_50 : mj_Snd zG ("StreamWatchModel", "rule", c_Md_rule, 3) 50 (x_aload 0) 51 := mj_aload_n (j := 0) rfl (by decide +kernel)
theorem i_Md_rule_51 : mj_Snd zG ("StreamWatchModel", "rule", c_Md_rule, 3) 51 (x_getf 11 20) 54 := mj_getf (T := T_Md) rfl (by decide) u_Md z4_85 (by decide +kernel)
theorem i_Md_rule_54 : mj_Snd zG ("StreamWatchModel", "rule", c_Md_rule, 3) 54 (x_aload 0) 55 := mj_aload_n (j := 0) rfl (by decide +kernel)
theorem i_Md_rule_55 : mj_Snd zG ("StreamWatchModel", "rule", c_Md_rule, 3) 55 (x_getf 11 19) 58 := mj_getf (T := T_Md) rfl (by decide) u_Md z4_84 (by decide +kernel)
theorem i_Md_rule_58 : mj_Snd zG ("StreamWatchModel", "rule", c_Md_rule, 3) 58 (x_iload 1) 59 := mj_iload_n (j := 1) rfl (by decide +kernel)
theorem i_Md_rule_59 : mj_Snd zG ("StreamWatchModel", "rule", c_Md_rule, 3) 59 (x_iast 0) 60 := mj_iast rfl (by decide +kernel)
theorem i_Md_rule_60 : mj_Snd zG ("StreamWatchModel", "rule", c_Md_rule, 3) 60 (x_aload 0) 61 := mj_aload_n (j := 0) rfl (by decide +kernel)
theorem i_Md_rule_61 : mj_Snd zG ("StreamWatchModel", "rule", c_Md_rule, 3) 61 (x_getf 11 21) 64 := mj_getf (T := T_Md) rfl (by decide) u_Md z4_86 (by decide +kernel)
theorem i_Md_rule_64 : mj_Snd zG ("StreamWatchModel", "rule", c_Md_rule, 3) 64 (x_aload 0) 65 := mj_aload_n (j := 0) rfl (by decide +kernel)
theorem i_Md_rule_65 : mj_Snd zG ("StreamWatchModel", "rule", c_Md_rule, 3) 65 (x_getf 11 19) 68 := mj_getf (T := T_Md) rfl (by decide) u_Md z4_84 (by decide +kernel)
theorem i_Md_rule_68 : mj_Snd zG ("StreamWatchModel", "rule", c_Md_rule, 3) 68 (x_iload 2) 69 := mj_iload_n (j := 2) rfl (by decide +kernel)
theorem i_Md_rule_69 : mj_Snd zG ("StreamWatchModel", "rule", c_Md_rule, 3) 69 (x_iast 0) 70 := mj_iast rfl (by decide +kernel)
theorem i_Md_rule_70 : mj_Snd zG ("StreamWatchModel", "rule", c_Md_rule, 3) 70 (x_aload 0) 71 := mj_aload_n (j := 0) rfl (by decide +kernel)
theorem i_Md_rule_71 : mj_Snd zG ("StreamWatchModel", "rule", c_Md_rule, 3) 71 (x_getf 11 22) 74 := mj_getf (T := T_Md) rfl (by decide) u_Md z4_87 (by decide +kernel)
theorem i_Md_rule_74 : mj_Snd zG ("StreamWatchModel", "rule", c_Md_rule, 3) 74 (x_aload 0) 75 := mj_aload_n (j := 0) rfl (by decide +kernel)
theorem i_Md_rule_75 : mj_Snd zG ("StreamWatchModel", "rule", c_Md_rule, 3) 75 (x_getf 11 19) 78 := mj_getf (T := T_Md) rfl (by decide) u_Md z4_84 (by decide +kernel)
theorem i_Md_rule_78 : mj_Snd zG ("StreamWatchModel", "rule", c_Md_rule, 3) 78 (x_const 0) 79 := mj_const (n := 0) (by decide) (by decide +kernel)
theorem i_Md_rule_79 : mj_Snd zG ("StreamWatchModel", "rule", c_Md_rule, 3) 79 (x_iast 0) 80 := mj_iast rfl (by decide +kernel)
theorem i_Md_rule_80 : mj_Snd zG ("StreamWatchModel", "rule", c_Md_rule, 3) 80 (x_aload 0) 81 := mj_aload_n (j := 0) rfl (by decide +kernel)
theorem i_Md_rule_81 : mj_Snd zG ("StreamWatchModel", "rule", c_Md_rule, 3) 81 (x_dup) 82 := mj_dup (by decide +kernel)
theorem i_Md_rule_82 : mj_Snd zG ("StreamWatchModel", "rule", c_Md_rule, 3) 82 (x_getf 11 19) 85 := mj_getf (T := T_Md) rfl (by decide) u_Md z4_84 (by decide +kernel)
theorem i_Md_rule_85 : mj_Snd zG ("StreamWatchModel", "rule", c_Md_rule, 3) 85 (x_const 1) 86 := mj_const (n := 1) (by decide) (by decide +kernel)
theorem i_Md_rule_86 : mj_Snd zG ("StreamWatchModel", "rule", c_Md_rule, 3) 86 (x_iadd) 87 := mj_iadd (by decide +kernel)
theorem i_Md_rule_87 : mj_Snd zG ("StreamWatchModel", "rule", c_Md_rule, 3) 87 (x_putf 11 19 0) 90 := mj_putG (T := T_Md) (ty0 := t_Md) rfl (by decide) u_Md t_Md_ok n_Md z4_84 (Or.inl rfl) (by decide +kernel)
theorem i_Md_rule_90 : mj_Snd zG ("StreamWatchModel", "rule", c_Md_rule, 3) 90 (x_aload 0) 91 := mj_aload_n (j := 0) rfl (by decide +kernel)
theorem i_Md_rule_91 : mj_Snd zG ("StreamWatchModel", "rule", c_Md_rule, 3) 91 (x_getf 11 19) 94 := mj_getf (T := T_Md) rfl (by decide) u_Md z4_84 (by decide +kernel)
theorem i_Md_rule_94 : mj_Snd zG ("StreamWatchModel", "rule", c_Md_rule, 3) 94 (x_const 1) 95 := mj_const (n := 1) (by decide) (by decide +kernel)
theorem i_Md_rule_95 : mj_Snd zG ("StreamWatchModel", "rule", c_Md_rule, 3) 95 (x_isub) 96 := mj_isub (by decide +kernel)
theorem d_Md_rule_96 : decode c_Md_rule 96 = .ok (.ireturn, 1) := by decide +kernel
theorem b_Md_rule_0 : mj_Ch zG ("StreamWatchModel", "rule", c_Md_rule, 3) 0 [x_aload 0, x_iload 1] 2 := ⟨_, i_Md_rule_0, _, i_Md_rule_1, rfl⟩
theorem b_Md_rule_5 : mj_Ch zG ("StreamWatchModel", "rule", c_Md_rule, 3) 5 [x_iload 1, x_const 2] 7 := ⟨_, i_Md_rule_5, _, i_Md_rule_6, rfl⟩
theorem b_Md_rule_10 : mj_Ch zG ("StreamWatchModel", "rule", c_Md_rule, 3) 10 [x_iload 2] 11 := ⟨_, i_Md_rule_10, rfl⟩
theorem b_Md_rule_14 : mj_Ch zG ("StreamWatchModel", "rule", c_Md_rule, 3) 14 [x_iload 2, x_const 65535] 17 := ⟨_, i_Md_rule_14, _, i_Md_rule_15, rfl⟩
theorem b_Md_rule_20 : mj_Ch zG ("StreamWatchModel", "rule", c_Md_rule, 3) 20 [x_const 1, x_skip] 38 := ⟨_, i_Md_rule_20, _, i_Md_rule_21, rfl⟩
theorem b_Md_rule_24 : mj_Ch zG ("StreamWatchModel", "rule", c_Md_rule, 3) 24 [x_aload 0, x_getf 11 19, x_const 6] 30 := ⟨_, i_Md_rule_24, _, i_Md_rule_25, _, i_Md_rule_28, rfl⟩
theorem b_Md_rule_33 : mj_Ch zG ("StreamWatchModel", "rule", c_Md_rule, 3) 33 [x_const 2, x_skip] 38 := ⟨_, i_Md_rule_33, _, i_Md_rule_34, rfl⟩
theorem b_Md_rule_37 : mj_Ch zG ("StreamWatchModel", "rule", c_Md_rule, 3) 37 [x_const 0] 38 := ⟨_, i_Md_rule_37, rfl⟩
theorem b_Md_rule_38 : mj_Ch zG ("StreamWatchModel", "rule", c_Md_rule, 3) 38 [x_putf 11 0 0, x_aload 0, x_getf 11 0] 45 := ⟨_, i_Md_rule_38, _, i_Md_rule_41, _, i_Md_rule_42, rfl⟩
theorem b_Md_rule_48 : mj_Ch zG ("StreamWatchModel", "rule", c_Md_rule, 3) 48 [x_const 0] 49 := ⟨_, i_Md_rule_48, rfl⟩
theorem b_Md_rule_50 : mj_Ch zG ("StreamWatchModel", "rule", c_Md_rule, 3) 50 [x_aload 0, x_getf 11 20, x_aload 0, x_getf 11 19, x_iload 1, x_iast 0, x_aload 0, x_getf 11 21, x_aload 0, x_getf 11 19, x_iload 2, x_iast 0, x_aload 0, x_getf 11 22, x_aload 0, x_getf 11 19, x_const 0, x_iast 0, x_aload 0, x_dup, x_getf 11 19, x_const 1, x_iadd, x_putf 11 19 0, x_aload 0, x_getf 11 19, x_const 1, x_isub] 96 := ⟨_, i_Md_rule_50, _, i_Md_rule_51, _, i_Md_rule_54, _, i_Md_rule_55, _, i_Md_rule_58, _, i_Md_rule_59, _, i_Md_rule_60, _, i_Md_rule_61, _, i_Md_rule_64, _, i_Md_rule_65, _, i_Md_rule_68, _, i_Md_rule_69, _, i_Md_rule_70, _, i_Md_rule_71, _, i_Md_rule_74, _, i_Md_rule_75, _, i_Md_rule_78, _, i_Md_rule_79, _, i_Md_rule_80, _, i_Md_rule_81, _, i_Md_rule_82, _, i_Md_rule_85, _, i_Md_rule_86, _, i_Md_rule_87, _, i_Md_rule_90, _, i_Md_rule_91, _, i_Md_rule_94, _, i_Md_rule_95, rfl⟩
theorem i_Md_option_0 : mj_Snd zG ("StreamWatchModel", "option", c_Md_option, 9) 0 (x_aload 0) 1 := mj_aload_n (j := 0) rfl (by decide +kernel)
theorem i_Md_option_1 : mj_Snd zG ("StreamWatchModel", "option", c_Md_option, 9) 1 (x_iload 1) 2 := mj_iload_n (j := 1) rfl (by decide +kernel)
theorem i_Md_option_2 : mj_Snd zG ("StreamWatchModel", "option", c_Md_option, 9) 2 (x_const 1) 3 := mj_const (n := 1) (by decide) (by decide +kernel)
theorem d_Md_option_3 : decode c_Md_option 3 = .ok (.if_icmp .lt 47, 3) := by decide +kernel
theorem i_Md_option_6 : mj_Snd zG ("StreamWatchModel", "option", c_Md_option, 9) 6 (x_iload 1) 7 := mj_iload_n (j := 1) rfl (by decide +kernel)
theorem i_Md_option_7 : mj_Snd zG ("StreamWatchModel", "option", c_Md_option, 9) 7 (x_const 6) 9 := mj_bipush (n := 6) (by decide) (by decide +kernel)
theorem d_Md_option_9 : decode c_Md_option 9 = .ok (.if_icmp .gt 41, 3) := by decide +kernel
theorem i_Md_option_12 : mj_Snd zG ("StreamWatchModel", "option", c_Md_option, 9) 12 (x_iload 4) 14 := mj_iload (by decide +kernel)
theorem d_Md_option_14 : decode c_Md_option 14 = .ok (.ifCond .lt 36, 3) := by decide +kernel
theorem i_Md_option_17 : mj_Snd zG ("StreamWatchModel", "option", c_Md_option, 9) 17 (x_iload 4) 19 := mj_iload (by decide +kernel)
theorem i_Md_option_19 : mj_Snd zG ("StreamWatchModel", "option", c_Md_option, 9) 19 (x_const 7) 21 := mj_bipush (n := 7) (by decide) (by decide +kernel)
theorem d_Md_option_21 : decode c_Md_option 21 = .ok (.if_icmp .gt 29, 3) := by decide +kernel
theorem i_Md_option_24 : mj_Snd zG ("StreamWatchModel", "option", c_Md_option, 9) 24 (x_iload 5) 26 := mj_iload (by decide +kernel)
theorem i_Md_option_26 : mj_Snd zG ("StreamWatchModel", "option", c_Md_option, 9) 26 (x_const (-80)) 28 := mj_bipush (n := (-80)) (by decide) (by decide +kernel)
theorem d_Md_option_28 : decode c_Md_option 28 = .ok (.if_icmp .lt 22, 3) := by decide +kernel
theorem i_Md_option_31 : mj_Snd zG ("StreamWatchModel", "option", c_Md_option, 9) 31 (x_iload 5) 33 := mj_iload (by decide +kernel)
theorem i_Md_option_33 : mj_Snd zG ("StreamWatchModel", "option", c_Md_option, 9) 33 (x_const 80) 35 := mj_bipush (n := 80) (by decide) (by decide +kernel)
theorem d_Md_option_35 : decode c_Md_option 35 = .ok (.if_icmp .gt 15, 3) := by decide +kernel
theorem i_Md_option_38 : mj_Snd zG ("StreamWatchModel", "option", c_Md_option, 9) 38 (x_iload 6) 40 := mj_iload (by decide +kernel)
theorem d_Md_option_40 : decode c_Md_option 40 = .ok (.ifCond .lt 10, 3) := by decide +kernel
theorem i_Md_option_43 : mj_Snd zG ("StreamWatchModel", "option", c_Md_option, 9) 43 (x_iload 6) 45 := mj_iload (by decide +kernel)
theorem i_Md_option_45 : mj_Snd zG ("StreamWatchModel", "option", c_Md_option, 9) 45 (x_const 80) 47 := mj_bipush (n := 80) (by decide) (by decide +kernel)
theorem d_Md_option_47 : decode c_Md_option 47 = .ok (.if_icmp .le 7, 3) := by decide +kernel
theorem i_Md_option_50 : mj_Snd zG ("StreamWatchModel", "option", c_Md_option, 9) 50 (x_const 1) 51 := mj_const (n := 1) (by decide) (by decide +kernel)
theorem i_Md_option_51 : mj_Snd zG ("StreamWatchModel", "option", c_Md_option, 9) 51 (x_skip) 55 := mj_goto (off := 4) (by decide) (by decide +kernel)
theorem i_Md_option_54 : mj_Snd zG ("StreamWatchModel", "option", c_Md_option, 9) 54 (x_const 0) 55 := mj_const (n := 0) (by decide) (by decide +kernel)
theorem i_Md_option_55 : mj_Snd zG ("StreamWatchModel", "option", c_Md_option, 9) 55 (x_putf 11 0 0) 58 := mj_putG (T := T_Md) (ty0 := t_Md) rfl (by decide) u_Md t_Md_ok n_Md z4_65 (Or.inl rfl) (by decide +kernel)
theorem i_Md_option_58 : mj_Snd zG ("StreamWatchModel", "option", c_Md_option, 9) 58 (x_aload 0) 59 := mj_aload_n (j := 0) rfl (by decide +kernel)
theorem i_Md_option_59 : mj_Snd zG ("StreamWatchModel", "option", c_Md_option, 9) 59 (x_getf 11 0) 62 := mj_getf (T := T_Md) rfl (by decide) u_Md z4_65 (by decide +kernel)
theorem d_Md_option_62 : decode c_Md_option 62 = .ok (.ifCond .le 5, 3) := by decide +kernel
theorem i_Md_option_65 : mj_Snd zG ("StreamWatchModel", "option", c_Md_option, 9) 65 (x_const 0) 66 := mj_const (n := 0) (by decide) (by decide +kernel)
theorem d_Md_option_66 : decode c_Md_option 66 = .ok (.ireturn, 1) := by decide +kernel
theorem i_Md_option_67 : mj_Snd zG ("StreamWatchModel", "option", c_Md_option, 9) 67 (x_aload 0) 68 := mj_aload_n (j := 0) rfl (by decide +kernel)
theorem i_Md_option_68 : mj_Snd zG ("StreamWatchModel", "option", c_Md_option, 9) 68 (x_aload 0) 69 := mj_aload_n (j := 0) rfl (by decide +kernel)
theorem i_Md_option_69 : mj_Snd zG ("StreamWatchModel", "option", c_Md_option, 9) 69 (x_getf 11 19) 72 := mj_getf (T := T_Md) rfl (by decide) u_Md z4_84 (by decide +kernel)
theorem d_Md_option_72 : decode c_Md_option 72 = .ok (.ifCond .eq 29, 3) := by decide +kernel
theorem i_Md_option_75 : mj_Snd zG ("StreamWatchModel", "option", c_Md_option, 9) 75 (x_aload 0) 76 := mj_aload_n (j := 0) rfl (by decide +kernel)
theorem i_Md_option_76 : mj_Snd zG ("StreamWatchModel", "option", c_Md_option, 9) 76 (x_getf 11 22) 79 := mj_getf (T := T_Md) rfl (by decide) u_Md z4_87 (by decide +kernel)
theorem i_Md_option_79 : mj_Snd zG ("StreamWatchModel", "option", c_Md_option, 9) 79 (x_aload 0) 80 := mj_aload_n (j := 0) rfl (by decide +kernel)
theorem i_Md_option_80 : mj_Snd zG ("StreamWatchModel", "option", c_Md_option, 9) 80 (x_getf 11 19) 83 := mj_getf (T := T_Md) rfl (by decide) u_Md z4_84 (by decide +kernel)
theorem d_Md_option_83 : decode c_Md_option 83 = .ok (.ifCond .ne 7, 3) := by decide +kernel
theorem i_Md_option_86 : mj_Snd zG ("StreamWatchModel", "option", c_Md_option, 9) 86 (x_const 0) 87 := mj_const (n := 0) (by decide) (by decide +kernel)
theorem i_Md_option_87 : mj_Snd zG ("StreamWatchModel", "option", c_Md_option, 9) 87 (x_skip) 96 := mj_goto (off := 9) (by decide) (by decide +kernel)
theorem i_Md_option_90 : mj_Snd zG ("StreamWatchModel", "option", c_Md_option, 9) 90 (x_aload 0) 91 := mj_aload_n (j := 0) rfl (by decide +kernel)
theorem i_Md_option_91 : mj_Snd zG ("StreamWatchModel", "option", c_Md_option, 9) 91 (x_getf 11 19) 94 := mj_getf (T := T_Md) rfl (by decide) u_Md z4_84 (by decide +kernel)
theorem i_Md_option_94 : mj_Snd zG ("StreamWatchModel", "option", c_Md_option, 9) 94 (x_const 1) 95 := mj_const (n := 1) (by decide) (by decide +kernel)
theorem i_Md_option_95 : mj_Snd zG ("StreamWatchModel", "option", c_Md_option, 9) 95 (x_isub) 96 := mj_isub (by decide +kernel)
theorem i_Md_option_96 : mj_Snd zG ("StreamWatchModel", "option", c_Md_option, 9) 96 (x_iald 0) 97 := mj_iald rfl (by decide +kernel)
theorem i_Md_option_97 : mj_Snd zG ("StreamWatchModel", "option", c_Md_option, 9) 97 (x_const 3) 98 := mj_const (n := 3) (by decide) (by decide +kernel)
theorem d_Md_option_98 : decode c_Md_option 98 = .ok (.if_icmp .ne 7, 3) := by decide +kernel
theorem i_Md_option_101 : mj_Snd zG ("StreamWatchModel", "option", c_Md_option, 9) 101 (x_const 2) 102 := mj_const (n := 2) (by decide) (by decide +kernel)
theorem i_Md_option_102 : mj_Snd zG ("StreamWatchModel", "option", c_Md_option, 9) 102 (x_skip) 106 := mj_goto (off := 4) (by decide) (by decide +kernel)
theorem i_Md_option_105 : mj_Snd zG ("StreamWatchModel", "option", c_Md_option, 9) 105 (x_const 0) 106 := mj_const (n := 0) (by decide) (by decide +kernel)
theorem i_Md_option_106 : mj_Snd zG ("StreamWatchModel", "option", c_Md_option, 9) 106 (x_putf 11 0 0) 109 := mj_putG (T := T_Md) (ty0 := t_Md) rfl (by decide) u_Md t_Md_ok n_Md z4_65 (Or.inl rfl) (by decide +kernel)
theorem i_Md_option_109 : mj_Snd zG ("StreamWatchModel", "option", c_Md_option, 9) 109 (x_aload 0) 110 := mj_aload_n (j := 0) rfl (by decide +kernel)
theorem i_Md_option_110 : mj_Snd zG ("StreamWatchModel", "option", c_Md_option, 9) 110 (x_getf 11 0) 113 := mj_getf (T := T_Md) rfl (by decide) u_Md z4_65 (by decide +kernel)
theorem d_Md_option_113 : decode c_Md_option 113 = .ok (.ifCond .le 5, 3) := by decide +kernel
theorem i_Md_option_116 : mj_Snd zG ("StreamWatchModel", "option", c_Md_option, 9) 116 (x_const 0) 117 := mj_const (n := 0) (by decide) (by decide +kernel)
theorem d_Md_option_117 : decode c_Md_option 117 = .ok (.ireturn, 1) := by decide +kernel
theorem i_Md_option_118 : mj_Snd zG ("StreamWatchModel", "option", c_Md_option, 9) 118 (x_const 3) 119 := mj_const (n := 3) (by decide) (by decide +kernel)
theorem i_Md_option_119 : mj_Snd zG ("StreamWatchModel", "option", c_Md_option, 9) 119 (x_aload 0) 120 := mj_aload_n (j := 0) rfl (by decide +kernel)
theorem i_Md_option_120 : mj_Snd zG ("StreamWatchModel", "option", c_Md_option, 9) 120 (x_getf 11 19) 123 := mj_getf (T := T_Md) rfl (by decide) u_Md z4_84 (by decide +kernel)
theorem i_Md_option_123 : mj_Snd zG ("StreamWatchModel", "option", c_Md_option, 9) 123 (x_const 1) 124 := mj_const (n := 1) (by decide) (by decide +kernel)
theorem i_Md_option_124 : mj_Snd zG ("StreamWatchModel", "option", c_Md_option, 9) 124 (x_isub) 125 := mj_isub (by decide +kernel)
theorem i_Md_option_125 : mj_Snd zG ("StreamWatchModel", "option", c_Md_option, 9) 125 (x_imul) 126 := mj_imul (by decide +kernel)
theorem i_Md_option_126 : mj_Snd zG ("StreamWatchModel", "option", c_Md_option, 9) 126 (x_aload 0) 127 := mj_aload_n (j := 0) rfl (by decide +kernel)
theorem i_Md_option_127 : mj_Snd zG ("StreamWatchModel", "option", c_Md_option, 9) 127 (x_getf 11 22) 130 := mj_getf (T := T_Md) rfl (by decide) u_Md z4_87 (by decide +kernel)
theorem i_Md_option_130 : mj_Snd zG ("StreamWatchModel", "option", c_Md_option, 9) 130 (x_aload 0) 131 := mj_aload_n (j := 0) rfl (by decide +kernel)
theorem i_Md_option_131 : mj_Snd zG ("StreamWatchModel", "option", c_Md_option, 9) 131 (x_getf 11 19) 134 := mj_getf (T := T_Md) rfl (by decide) u_Md z4_84 (by decide +kernel)
theorem i_Md_option_134 : mj_Snd zG ("StreamWatchModel", "option", c_Md_option, 9) 134 (x_const 1) 135 := mj_const (n := 1) (by decide) (by decide +kernel)
theorem i_Md_option_135 : mj_Snd zG ("StreamWatchModel", "option", c_Md_option, 9) 135 (x_isub) 136 := mj_isub (by decide +kernel)
theorem i_Md_option_136 : mj_Snd zG ("StreamWatchModel", "option", c_Md_option, 9) 136 (x_iald 0) 137 := mj_iald rfl (by decide +kernel)
theorem i_Md_option_137 : mj_Snd zG ("StreamWatchModel", "option", c_Md_option, 9) 137 (x_iadd) 138 := mj_iadd (by decide +kernel)
theorem i_Md_option_138 : mj_Snd zG ("StreamWatchModel", "option", c_Md_option, 9) 138 (x_istore 7) 140 := mj_istore (by decide) (by decide +kernel)
theorem i_Md_option_140 : mj_Snd zG ("StreamWatchModel", "option", c_Md_option, 9) 140 (x_aload 0) 141 := mj_aload_n (j := 0) rfl (by decide +kernel)
theorem i_Md_option_141 : mj_Snd zG ("StreamWatchModel", "option", c_Md_option, 9) 141 (x_getf 11 23) 144 := mj_getf (T := T_Md) rfl (by decide) u_Md z4_88 (by decide +kernel)
theorem i_Md_option_144 : mj_Snd zG ("StreamWatchModel", "option", c_Md_option, 9) 144 (x_iload 7) 146 := mj_iload (by decide +kernel)
theorem i_Md_option_146 : mj_Snd zG ("StreamWatchModel", "option", c_Md_option, 9) 146 (x_iload 1) 147 := mj_iload_n (j := 1) rfl (by decide +kernel)
theorem i_Md_option_147 : mj_Snd zG ("StreamWatchModel", "option", c_Md_option, 9) 147 (x_iast 0) 148 := mj_iast rfl (by decide +kernel)
theorem i_Md_option_148 : mj_Snd zG ("StreamWatchModel", "option", c_Md_option, 9) 148 (x_const 0) 149 := mj_const (n := 0) (by decide) (by decide +kernel)
theorem i_Md_option_149 : mj_Snd zG ("StreamWatchModel", "option", c_Md_option, 9) 149 (x_istore 8) 151 := mj_istore (by decide) (by decide +kernel)
theorem i_Md_option_151 : mj_Snd zG ("StreamWatchModel", "option", c_Md_option, 9) 151 (x_iload 8) 153 := mj_iload (by decide +kernel)
theorem i_Md_option_153 : mj_Snd zG ("StreamWatchModel", "option", c_Md_option, 9) 153 (x_iload 1) 154 := mj_iload_n (j := 1) rfl (by decide +kernel)
theorem d_Md_option_154 : decode c_Md_option 154 = .ok (.if_icmp .ge 38, 3) := by decide +kernel
theorem i_Md_option_157 : mj_Snd zG ("StreamWatchModel", "option", c_Md_option, 9) 157 (x_aload 0) 158 := mj_aload_n (j := 0) rfl (by decide +kernel)
theorem i_Md_option_158 : mj_Snd zG ("StreamWatchModel", "option", c_Md_option, 9) 158 (x_getf 11 24) 161 := mj_getf (T := T_Md) rfl (by decide) u_Md z4_89 (by decide +kernel)
theorem i_Md_option_161 : mj_Snd zG ("StreamWatchModel", "option", c_Md_option, 9) 161 (x_const 6) 163 := mj_bipush (n := 6) (by decide) (by decide +kernel)
theorem i_Md_option_163 : mj_Snd zG ("StreamWatchModel", "option", c_Md_option, 9) 163 (x_iload 7) 165 := mj_iload (by decide +kernel)
theorem i_Md_option_165 : mj_Snd zG ("StreamWatchModel", "option", c_Md_option, 9) 165 (x_imul) 166 := mj_imul (by decide +kernel)
theorem i_Md_option_166 : mj_Snd zG ("StreamWatchModel", "option", c_Md_option, 9) 166 (x_iload 8) 168 := mj_iload (by decide +kernel)
theorem i_Md_option_168 : mj_Snd zG ("StreamWatchModel", "option", c_Md_option, 9) 168 (x_iadd) 169 := mj_iadd (by decide +kernel)
theorem i_Md_option_169 : mj_Snd zG ("StreamWatchModel", "option", c_Md_option, 9) 169 (x_lload 2) 170 := mj_lload_n (j := 2) rfl (by decide +kernel)
theorem i_Md_option_170 : mj_Snd zG ("StreamWatchModel", "option", c_Md_option, 9) 170 (x_const 8) 172 := mj_bipush (n := 8) (by decide) (by decide +kernel)
theorem i_Md_option_172 : mj_Snd zG ("StreamWatchModel", "option", c_Md_option, 9) 172 (x_iload 1) 173 := mj_iload_n (j := 1) rfl (by decide +kernel)
theorem i_Md_option_173 : mj_Snd zG ("StreamWatchModel", "option", c_Md_option, 9) 173 (x_const 1) 174 := mj_const (n := 1) (by decide) (by decide +kernel)
theorem i_Md_option_174 : mj_Snd zG ("StreamWatchModel", "option", c_Md_option, 9) 174 (x_isub) 175 := mj_isub (by decide +kernel)
theorem i_Md_option_175 : mj_Snd zG ("StreamWatchModel", "option", c_Md_option, 9) 175 (x_iload 8) 177 := mj_iload (by decide +kernel)
theorem i_Md_option_177 : mj_Snd zG ("StreamWatchModel", "option", c_Md_option, 9) 177 (x_isub) 178 := mj_isub (by decide +kernel)
theorem i_Md_option_178 : mj_Snd zG ("StreamWatchModel", "option", c_Md_option, 9) 178 (x_imul) 179 := mj_imul (by decide +kernel)
theorem i_Md_option_179 : mj_Snd zG ("StreamWatchModel", "option", c_Md_option, 9) 179 (x_lshr) 180 := mj_lshr (by decide +kernel)
theorem i_Md_option_180 : mj_Snd zG ("StreamWatchModel", "option", c_Md_option, 9) 180 (x_l2i) 181 := mj_l2i (by decide +kernel)
theorem i_Md_option_181 : mj_Snd zG ("StreamWatchModel", "option", c_Md_option, 9) 181 (x_const 255) 184 := mj_sipush (n := 255) (by decide) (by decide +kernel)
theorem i_Md_option_184 : mj_Snd zG ("StreamWatchModel", "option", c_Md_option, 9) 184 (x_iand) 185 := mj_iand (by decide +kernel)
theorem i_Md_option_185 : mj_Snd zG ("StreamWatchModel", "option", c_Md_option, 9) 185 (x_iast 0) 186 := mj_iast rfl (by decide +kernel)
theorem i_Md_option_186 : mj_Snd zG ("StreamWatchModel", "option", c_Md_option, 9) 186 (x_iinc 8 1) 189 := mj_iinc (n := 1) (by decide) (by decide) (by decide +kernel)
theorem i_Md_option_189 : mj_Snd zG ("StreamWatchModel", "option", c_Md_option, 9) 189 (x_skip) 151 := mj_goto (off := (-38)) (by decide) (by decide +kernel)
theorem i_Md_option_192 : mj_Snd zG ("StreamWatchModel", "option", c_Md_option, 9) 192 (x_aload 0) 193 := mj_aload_n (j := 0) rfl (by decide +kernel)
theorem i_Md_option_193 : mj_Snd zG ("StreamWatchModel", "option", c_Md_option, 9) 193 (x_getf 11 25) 196 := mj_getf (T := T_Md) rfl (by decide) u_Md z4_90 (by decide +kernel)
theorem i_Md_option_196 : mj_Snd zG ("StreamWatchModel", "option", c_Md_option, 9) 196 (x_iload 7) 198 := mj_iload (by decide +kernel)
theorem i_Md_option_198 : mj_Snd zG ("StreamWatchModel", "option", c_Md_option, 9) 198 (x_iload 4) 200 := mj_iload (by decide +kernel)
theorem i_Md_option_200 : mj_Snd zG ("StreamWatchModel", "option", c_Md_option, 9) 200 (x_iast 0) 201 := mj_iast rfl (by decide +kernel)
theorem i_Md_option_201 : mj_Snd zG ("StreamWatchModel", "option", c_Md_option, 9) 201 (x_aload 0) 202 := mj_aload_n (j := 0) rfl (by decide +kernel)
theorem i_Md_option_202 : mj_Snd zG ("StreamWatchModel", "option", c_Md_option, 9) 202 (x_getf 11 26) 205 := mj_getf (T := T_Md) rfl (by decide) u_Md z4_91 (by decide +kernel)
theorem i_Md_option_205 : mj_Snd zG ("StreamWatchModel", "option", c_Md_option, 9) 205 (x_iload 7) 207 := mj_iload (by decide +kernel)
theorem i_Md_option_207 : mj_Snd zG ("StreamWatchModel", "option", c_Md_option, 9) 207 (x_iload 5) 209 := mj_iload (by decide +kernel)
theorem i_Md_option_209 : mj_Snd zG ("StreamWatchModel", "option", c_Md_option, 9) 209 (x_iast 0) 210 := mj_iast rfl (by decide +kernel)
theorem i_Md_option_210 : mj_Snd zG ("StreamWatchModel", "option", c_Md_option, 9) 210 (x_aload 0) 211 := mj_aload_n (j := 0) rfl (by decide +kernel)
theorem i_Md_option_211 : mj_Snd zG ("StreamWatchModel", "option", c_Md_option, 9) 211 (x_getf 11 27) 214 := mj_getf (T := T_Md) rfl (by decide) u_Md z4_92 (by decide +kernel)
theorem i_Md_option_214 : mj_Snd zG ("StreamWatchModel", "option", c_Md_option, 9) 214 (x_iload 7) 216 := mj_iload (by decide +kernel)
theorem i_Md_option_216 : mj_Snd zG ("StreamWatchModel", "option", c_Md_option, 9) 216 (x_iload 6) 218 := mj_iload (by decide +kernel)
theorem i_Md_option_218 : mj_Snd zG ("StreamWatchModel", "option", c_Md_option, 9) 218 (x_iast 0) 219 := mj_iast rfl (by decide +kernel)
theorem i_Md_option_219 : mj_Snd zG ("StreamWatchModel", "option", c_Md_option, 9) 219 (x_aload 0) 220 := mj_aload_n (j := 0) rfl (by decide +kernel)
theorem i_Md_option_220 : mj_Snd zG ("StreamWatchModel", "option", c_Md_option, 9) 220 (x_getf 11 22) 223 := mj_getf (T := T_Md) rfl (by decide) u_Md z4_87 (by decide +kernel)
theorem i_Md_option_223 : mj_Snd zG ("StreamWatchModel", "option", c_Md_option, 9) 223 (x_aload 0) 224 := mj_aload_n (j := 0) rfl (by decide +kernel)
theorem i_Md_option_224 : mj_Snd zG ("StreamWatchModel", "option", c_Md_option, 9) 224 (x_getf 11 19) 227 := mj_getf (T := T_Md) rfl (by decide) u_Md z4_84 (by decide +kernel)
theorem i_Md_option_227 : mj_Snd zG ("StreamWatchModel", "option", c_Md_option, 9) 227 (x_const 1) 228 := mj_const (n := 1) (by decide) (by decide +kernel)
theorem i_Md_option_228 : mj_Snd zG ("StreamWatchModel", "option", c_Md_option, 9) 228 (x_isub) 229 := mj_isub (by decide +kernel)
theorem i_Md_option_229 : mj_Snd zG ("StreamWatchModel", "option", c_Md_option, 9) 229 (x_dup2) 230 := mj_dup2 (by decide +kernel)
theorem i_Md_option_230 : mj_Snd zG ("StreamWatchModel", "option", c_Md_option, 9) 230 (x_iald 0) 231 := mj_iald rfl (by decide +kernel)
theorem i_Md_option_231 : mj_Snd zG ("StreamWatchModel", "option", c_Md_option, 9) 231 (x_const 1) 232 := mj_const (n := 1) (by decide) (by decide +kernel)
theorem i_Md_option_232 : mj_Snd zG ("StreamWatchModel", "option", c_Md_option, 9) 232 (x_iadd) 233 := mj_iadd (by decide +kernel)
theorem i_Md_option_233 : mj_Snd zG ("StreamWatchModel", "option", c_Md_option, 9) 233 (x_iast 0) 234 := mj_iast rfl (by decide +kernel)
theorem i_Md_option_234 : mj_Snd zG ("StreamWatchModel", "option", c_Md_option, 9) 234 (x_aload 0) 235 := mj_aload_n (j := 0) rfl (by decide +kernel)
theorem i_Md_option_235 : mj_Snd zG ("StreamWatchModel", "option", c_Md_option, 9) 235 (x_getf 11 22) 238 := mj_getf (T := T_Md) rfl (by decide) u_Md z4_87 (by decide +kernel)
theorem i_Md_option_238 : mj_Snd zG ("StreamWatchModel", "option", c_Md_option, 9) 238 (x_aload 0) 239 := mj_aload_n (j := 0) rfl (by decide +kernel)
theorem i_Md_option_239 : mj_Snd zG ("StreamWatchModel", "option", c_Md_option, 9) 239 (x_getf 11 19) 242 := mj_getf (T := T_Md) rfl (by decide) u_Md z4_84 (by decide +kernel)
theorem i_Md_option_242 : mj_Snd zG ("StreamWatchModel", "option", c_Md_option, 9) 242 (x_const 1) 243 := mj_const (n := 1) (by decide) (by decide +kernel)
theorem i_Md_option_243 : mj_Snd zG ("StreamWatchModel", "option", c_Md_option, 9) 243 (x_isub) 244 := mj_isub (by decide +kernel)
theorem i_Md_option_244 : mj_Snd zG ("StreamWatchModel", "option", c_Md_option, 9) 244 (x_iald 0) 245 := mj_iald rfl (by decide +kernel)
theorem d_Md_option_245 : decode c_Md_option 245 = .ok (.ireturn, 1) := by decide +kernel
theorem b_Md_option_0 : mj_Ch zG ("StreamWatchModel", "option", c_Md_option, 9) 0 [x_aload 0, x_iload 1, x_const 1] 3 := ⟨_, i_Md_option_0, _, i_Md_option_1, _, i_Md_option_2, rfl⟩
theorem b_Md_option_6 : mj_Ch zG ("StreamWatchModel", "option", c_Md_option, 9) 6 [x_iload 1, x_const 6] 9 := ⟨_, i_Md_option_6, _, i_Md_option_7, rfl⟩
theorem b_Md_option_12 : mj_Ch zG ("StreamWatchModel", "option", c_Md_option, 9) 12 [x_iload 4] 14 := ⟨_, i_Md_option_12, rfl⟩
theorem b_Md_option_17 : mj_Ch zG ("StreamWatchModel", "option", c_Md_option, 9) 17 [x_iload 4, x_const 7] 21 := ⟨_, i_Md_option_17, _, i_Md_option_19, rfl⟩
theorem b_Md_option_24 : mj_Ch zG ("StreamWatchModel", "option", c_Md_option, 9) 24 [x_iload 5, x_const (-80)] 28 := ⟨_, i_Md_option_24, _, i_Md_option_26, rfl⟩
theorem b_Md_option_31 : mj_Ch zG ("StreamWatchModel", "option", c_Md_option, 9) 31 [x_iload 5, x_const 80] 35 := ⟨_, i_Md_option_31, _, i_Md_option_33, rfl⟩
theorem b_Md_option_38 : mj_Ch zG ("StreamWatchModel", "option", c_Md_option, 9) 38 [x_iload 6] 40 := ⟨_, i_Md_option_38, rfl⟩
theorem b_Md_option_43 : mj_Ch zG ("StreamWatchModel", "option", c_Md_option, 9) 43 [x_iload 6, x_const 80] 47 := ⟨_, i_Md_option_43, _, i_Md_option_45, rfl⟩
theorem b_Md_option_50 : mj_Ch zG ("StreamWatchModel", "option", c_Md_option, 9) 50 [x_const 1, x_skip] 55 := ⟨_, i_Md_option_50, _, i_Md_option_51, rfl⟩
theorem b_Md_option_54 : mj_Ch zG ("StreamWatchModel", "option", c_Md_option, 9) 54 [x_const 0] 55 := ⟨_, i_Md_option_54, rfl⟩
theorem b_Md_option_55 : mj_Ch zG ("StreamWatchModel", "option", c_Md_option, 9) 55 [x_putf 11 0 0, x_aload 0, x_getf 11 0] 62 := ⟨_, i_Md_option_55, _, i_Md_option_58, _, i_Md_option_59, rfl⟩
theorem b_Md_option_65 : mj_Ch zG ("StreamWatchModel", "option", c_Md_option, 9) 65 [x_const 0] 66 := ⟨_, i_Md_option_65, rfl⟩
theorem b_Md_option_67 : mj_Ch zG ("StreamWatchModel", "option", c_Md_option, 9) 67 [x_aload 0, x_aload 0, x_getf 11 19] 72 := ⟨_, i_Md_option_67, _, i_Md_option_68, _, i_Md_option_69, rfl⟩
theorem b_Md_option_75 : mj_Ch zG ("StreamWatchModel", "option", c_Md_option, 9) 75 [x_aload 0, x_getf 11 22, x_aload 0, x_getf 11 19] 83 := ⟨_, i_Md_option_75, _, i_Md_option_76, _, i_Md_option_79, _, i_Md_option_80, rfl⟩
theorem b_Md_option_86 : mj_Ch zG ("StreamWatchModel", "option", c_Md_option, 9) 86 [x_const 0, x_skip] 96 := ⟨_, i_Md_option_86, _, i_Md_option_87, rfl⟩
theorem b_Md_option_90 : mj_Ch zG ("StreamWatchModel", "option", c_Md_option, 9) 90 [x_aload 0, x_getf 11 19, x_const 1, x_isub] 96 := ⟨_, i_Md_option_90, _, i_Md_option_91, _, i_Md_option_94, _, i_Md_option_95, rfl⟩
theorem b_Md_option_96 : mj_Ch zG ("StreamWatchModel", "option", c_Md_option, 9) 96 [x_iald 0, x_const 3] 98 := ⟨_, i_Md_option_96, _, i_Md_option_97, rfl⟩
theorem b_Md_option_101 : mj_Ch zG ("StreamWatchModel", "option", c_Md_option, 9) 101 [x_const 2, x_skip] 106 := ⟨_, i_Md_option_101, _, i_Md_option_102, rfl⟩
theorem b_Md_option_105 : mj_Ch zG ("StreamWatchModel", "option", c_Md_option, 9) 105 [x_const 0] 106 := ⟨_, i_Md_option_105, rfl⟩
theorem b_Md_option_106 : mj_Ch zG ("StreamWatchModel", "option", c_Md_option, 9) 106 [x_putf 11 0 0, x_aload 0, x_getf 11 0] 113 := ⟨_, i_Md_option_106, _, i_Md_option_109, _, i_Md_option_110, rfl⟩
theorem b_Md_option_116 : mj_Ch zG ("StreamWatchModel", "option", c_Md_option, 9) 116 [x_const 0] 117 := ⟨_, i_Md_option_116, rfl⟩
theorem b_Md_option_118 : mj_Ch zG ("StreamWatchModel", "option", c_Md_option, 9) 118 [x_const 3, x_aload 0, x_getf 11 19, x_const 1, x_isub, x_imul, x_aload 0, x_getf 11 22, x_aload 0, x_getf 11 19, x_const 1, x_isub, x_iald 0, x_iadd, x_istore 7, x_aload 0, x_getf 11 23, x_iload 7, x_iload 1, x_iast 0, x_const 0, x_istore 8] 151 := ⟨_, i_Md_option_118, _, i_Md_option_119, _, i_Md_option_120, _, i_Md_option_123, _, i_Md_option_124, _, i_Md_option_125, _, i_Md_option_126, _, i_Md_option_127, _, i_Md_option_130, _, i_Md_option_131, _, i_Md_option_134, _, i_Md_option_135, _, i_Md_option_136, _, i_Md_option_137, _, i_Md_option_138, _, i_Md_option_140, _, i_Md_option_141, _, i_Md_option_144, _, i_Md_option_146, _, i_Md_option_147, _, i_Md_option_148, _, i_Md_option_149, rfl⟩
theorem b_Md_option_151 : mj_Ch zG ("StreamWatchModel", "option", c_Md_option, 9) 151 [x_iload 8, x_iload 1] 154 := ⟨_, i_Md_option_151, _, i_Md_option_153, rfl⟩
theorem b_Md_option_157 : mj_Ch zG ("StreamWatchModel", "option", c_Md_option, 9) 157 [x_aload 0, x_getf 11 24, x_const 6, x_iload 7, x_imul, x_iload 8, x_iadd, x_lload 2, x_const 8, x_iload 1, x_const 1, x_isub, x_iload 8, x_isub, x_imul, x_lshr, x_l2i, x_const 255, x_iand, x_iast 0, x_iinc 8 1, x_skip] 151 := ⟨_, i_Md_option_157, _, i_Md_option_158, _, i_Md_option_161, _, i_Md_option_163, _, i_Md_option_165, _, i_Md_option_166, _, i_Md_option_168, _, i_Md_option_169, _, i_Md_option_170, _, i_Md_option_172, _, i_Md_option_173, _, i_Md_option_174, _, i_Md_option_175, _, i_Md_option_177, _, i_Md_option_178, _, i_Md_option_179, _, i_Md_option_180, _, i_Md_option_181, _, i_Md_option_184, _, i_Md_option_185, _, i_Md_option_186, _, i_Md_option_189, rfl⟩
theorem b_Md_option_192 : mj_Ch zG ("StreamWatchModel", "option", c_Md_option, 9) 192 [x_aload 0, x_getf 11 25, x_iload 7, x_iload 4, x_iast 0, x_aload 0, x_getf 11 26, x_iload 7, x_iload 5, x_iast 0, x_aload 0, x_getf 11 27, x_iload 7, x_iload 6, x_iast 0, x_aload 0, x_getf 11 22, x_aload 0, x_getf 11 19, x_const 1, x_isub, x_dup2, x_iald 0, x_const 1, x_iadd, x_iast 0, x_aload 0, x_getf 11 22, x_aload 0, x_getf 11 19, x_const 1, x_isub, x_iald 0] 245 := ⟨_, i_Md_option_192, _, i_Md_option_193, _, i_Md_option_196, _, i_Md_option_198, _, i_Md_option_200, _, i_Md_option_201, _, i_Md_option_202, _, i_Md_option_205, _, i_Md_option_207, _, i_Md_option_209, _, i_Md_option_210, _, i_Md_option_211, _, i_Md_option_214, _, i_Md_option_216, _, i_Md_option_218, _, i_Md_option_219, _, i_Md_option_220, _, i_Md_option_223, _, i_Md_option_224, _, i_Md_option_227, _, i_Md_option_228, _, i_Md_option_229, _, i_Md_option_230, _, i_Md_option_231, _, i_Md_option_232, _, i_Md_option_233, _, i_Md_option_234, _, i_Md_option_235, _, i_Md_option_238, _, i_Md_option_239, _, i_Md_option_242, _, i_Md_option_243, _, i_Md_option_244, rfl⟩
theorem i_Md_upper_0 : mj_Snd zG ("StreamWatchModel", "upper", c_Md_upper, 1) 0 (x_iload 0) 1 := mj_iload_n (j := 0) rfl (by decide +kernel)
theorem i_Md_upper_1 : mj_Snd zG ("StreamWatchModel", "upper", c_Md_upper, 1) 1 (x_const 97) 3 := mj_bipush (n := 97) (by decide) (by decide +kernel)
theorem d_Md_upper_3 : decode c_Md_upper 3 = .ok (.if_icmp .lt 16, 3) := by decide +kernel
theorem i_Md_upper_6 : mj_Snd zG ("StreamWatchModel", "upper", c_Md_upper, 1) 6 (x_iload 0) 7 := mj_iload_n (j := 0) rfl (by decide +kernel)
theorem i_Md_upper_7 : mj_Snd zG ("StreamWatchModel", "upper", c_Md_upper, 1) 7 (x_const 122) 9 := mj_bipush (n := 122) (by decide) (by decide +kernel)
theorem d_Md_upper_9 : decode c_Md_upper 9 = .ok (.if_icmp .gt 10, 3) := by decide +kernel
theorem i_Md_upper_12 : mj_Snd zG ("StreamWatchModel", "upper", c_Md_upper, 1) 12 (x_iload 0) 13 := mj_iload_n (j := 0) rfl (by decide +kernel)
theorem i_Md_upper_13 : mj_Snd zG ("StreamWatchModel", "upper", c_Md_upper, 1) 13 (x_const 32) 15 := mj_bipush (n := 32) (by decide) (by decide +kernel)
theorem i_Md_upper_15 : mj_Snd zG ("StreamWatchModel", "upper", c_Md_upper, 1) 15 (x_isub) 16 := mj_isub (by decide +kernel)
theorem i_Md_upper_16 : mj_Snd zG ("StreamWatchModel", "upper", c_Md_upper, 1) 16 (x_skip) 20 := mj_goto (off := 4) (by decide) (by decide +kernel)
theorem i_Md_upper_19 : mj_Snd zG ("StreamWatchModel", "upper", c_Md_upper, 1) 19 (x_iload 0) 20 := mj_iload_n (j := 0) rfl (by decide +kernel)
theorem d_Md_upper_20 : decode c_Md_upper 20 = .ok (.ireturn, 1) := by decide +kernel
theorem b_Md_upper_0 : mj_Ch zG ("StreamWatchModel", "upper", c_Md_upper, 1) 0 [x_iload 0, x_const 97] 3 := ⟨_, i_Md_upper_0, _, i_Md_upper_1, rfl⟩
theorem b_Md_upper_6 : mj_Ch zG ("StreamWatchModel", "upper", c_Md_upper, 1) 6 [x_iload 0, x_const 122] 9 := ⟨_, i_Md_upper_6, _, i_Md_upper_7, rfl⟩
theorem b_Md_upper_12 : mj_Ch zG ("StreamWatchModel", "upper", c_Md_upper, 1) 12 [x_iload 0, x_const 32, x_isub, x_skip] 20 := ⟨_, i_Md_upper_12, _, i_Md_upper_13, _, i_Md_upper_15, _, i_Md_upper_16, rfl⟩
theorem b_Md_upper_19 : mj_Ch zG ("StreamWatchModel", "upper", c_Md_upper, 1) 19 [x_iload 0] 20 := ⟨_, i_Md_upper_19, rfl⟩
theorem i_Md_found_0 : mj_Snd zG ("StreamWatchModel", "found", c_Md_found, 11) 0 (x_aload 0) 1 := mj_aload_n (j := 0) rfl (by decide +kernel)
theorem i_Md_found_1 : mj_Snd zG ("StreamWatchModel", "found", c_Md_found, 11) 1 (x_getf 11 23) 4 := mj_getf (T := T_Md) rfl (by decide) u_Md z4_88 (by decide +kernel)
theorem i_Md_found_4 : mj_Snd zG ("StreamWatchModel", "found", c_Md_found, 11) 4 (x_iload 1) 5 := mj_iload_n (j := 1) rfl (by decide +kernel)
theorem i_Md_found_5 : mj_Snd zG ("StreamWatchModel", "found", c_Md_found, 11) 5 (x_iald 0) 6 := mj_iald rfl (by decide +kernel)
theorem i_Md_found_6 : mj_Snd zG ("StreamWatchModel", "found", c_Md_found, 11) 6 (x_istore 5) 8 := mj_istore (by decide) (by decide +kernel)
theorem i_Md_found_8 : mj_Snd zG ("StreamWatchModel", "found", c_Md_found, 11) 8 (x_iload 3) 9 := mj_iload_n (j := 3) rfl (by decide +kernel)
theorem i_Md_found_9 : mj_Snd zG ("StreamWatchModel", "found", c_Md_found, 11) 9 (x_iload 4) 11 := mj_iload (by decide +kernel)
theorem i_Md_found_11 : mj_Snd zG ("StreamWatchModel", "found", c_Md_found, 11) 11 (x_isub) 12 := mj_isub (by decide +kernel)
theorem i_Md_found_12 : mj_Snd zG ("StreamWatchModel", "found", c_Md_found, 11) 12 (x_istore 6) 14 := mj_istore (by decide) (by decide +kernel)
theorem i_Md_found_14 : mj_Snd zG ("StreamWatchModel", "found", c_Md_found, 11) 14 (x_iload 3) 15 := mj_iload_n (j := 3) rfl (by decide +kernel)
theorem i_Md_found_15 : mj_Snd zG ("StreamWatchModel", "found", c_Md_found, 11) 15 (x_iload 5) 17 := mj_iload (by decide +kernel)
theorem i_Md_found_17 : mj_Snd zG ("StreamWatchModel", "found", c_Md_found, 11) 17 (x_iadd) 18 := mj_iadd (by decide +kernel)
theorem i_Md_found_18 : mj_Snd zG ("StreamWatchModel", "found", c_Md_found, 11) 18 (x_aload 0) 19 := mj_aload_n (j := 0) rfl (by decide +kernel)
theorem i_Md_found_19 : mj_Snd zG ("StreamWatchModel", "found", c_Md_found, 11) 19 (x_getf 11 14) 22 := mj_getf (T := T_Md) rfl (by decide) u_Md z4_79 (by decide +kernel)
theorem i_Md_found_22 : mj_Snd zG ("StreamWatchModel", "found", c_Md_found, 11) 22 (x_iload 2) 23 := mj_iload_n (j := 2) rfl (by decide +kernel)
theorem i_Md_found_23 : mj_Snd zG ("StreamWatchModel", "found", c_Md_found, 11) 23 (x_iald 0) 24 := mj_iald rfl (by decide +kernel)
theorem d_Md_found_24 : decode c_Md_found 24 = .ok (.if_icmp .gt 44, 3) := by decide +kernel
theorem i_Md_found_27 : mj_Snd zG ("StreamWatchModel", "found", c_Md_found, 11) 27 (x_iload 6) 29 := mj_iload (by decide +kernel)
theorem i_Md_found_29 : mj_Snd zG ("StreamWatchModel", "found", c_Md_found, 11) 29 (x_aload 0) 30 := mj_aload_n (j := 0) rfl (by decide +kernel)
theorem i_Md_found_30 : mj_Snd zG ("StreamWatchModel", "found", c_Md_found, 11) 30 (x_getf 11 26) 33 := mj_getf (T := T_Md) rfl (by decide) u_Md z4_91 (by decide +kernel)
theorem i_Md_found_33 : mj_Snd zG ("StreamWatchModel", "found", c_Md_found, 11) 33 (x_iload 1) 34 := mj_iload_n (j := 1) rfl (by decide +kernel)
theorem i_Md_found_34 : mj_Snd zG ("StreamWatchModel", "found", c_Md_found, 11) 34 (x_iald 0) 35 := mj_iald rfl (by decide +kernel)
theorem d_Md_found_35 : decode c_Md_found 35 = .ok (.if_icmp .lt 33, 3) := by decide +kernel
theorem i_Md_found_38 : mj_Snd zG ("StreamWatchModel", "found", c_Md_found, 11) 38 (x_aload 0) 39 := mj_aload_n (j := 0) rfl (by decide +kernel)
theorem i_Md_found_39 : mj_Snd zG ("StreamWatchModel", "found", c_Md_found, 11) 39 (x_getf 11 27) 42 := mj_getf (T := T_Md) rfl (by decide) u_Md z4_92 (by decide +kernel)
theorem i_Md_found_42 : mj_Snd zG ("StreamWatchModel", "found", c_Md_found, 11) 42 (x_iload 1) 43 := mj_iload_n (j := 1) rfl (by decide +kernel)
theorem i_Md_found_43 : mj_Snd zG ("StreamWatchModel", "found", c_Md_found, 11) 43 (x_iald 0) 44 := mj_iald rfl (by decide +kernel)
theorem d_Md_found_44 : decode c_Md_found 44 = .ok (.ifCond .le 26, 3) := by decide +kernel
theorem i_Md_found_47 : mj_Snd zG ("StreamWatchModel", "found", c_Md_found, 11) 47 (x_iload 6) 49 := mj_iload (by decide +kernel)
theorem i_Md_found_49 : mj_Snd zG ("StreamWatchModel", "found", c_Md_found, 11) 49 (x_iload 5) 51 := mj_iload (by decide +kernel)
theorem i_Md_found_51 : mj_Snd zG ("StreamWatchModel", "found", c_Md_found, 11) 51 (x_iadd) 52 := mj_iadd (by decide +kernel)
theorem i_Md_found_52 : mj_Snd zG ("StreamWatchModel", "found", c_Md_found, 11) 52 (x_aload 0) 53 := mj_aload_n (j := 0) rfl (by decide +kernel)
theorem i_Md_found_53 : mj_Snd zG ("StreamWatchModel", "found", c_Md_found, 11) 53 (x_getf 11 26) 56 := mj_getf (T := T_Md) rfl (by decide) u_Md z4_91 (by decide +kernel)
theorem i_Md_found_56 : mj_Snd zG ("StreamWatchModel", "found", c_Md_found, 11) 56 (x_iload 1) 57 := mj_iload_n (j := 1) rfl (by decide +kernel)
theorem i_Md_found_57 : mj_Snd zG ("StreamWatchModel", "found", c_Md_found, 11) 57 (x_iald 0) 58 := mj_iald rfl (by decide +kernel)
theorem i_Md_found_58 : mj_Snd zG ("StreamWatchModel", "found", c_Md_found, 11) 58 (x_aload 0) 59 := mj_aload_n (j := 0) rfl (by decide +kernel)
theorem i_Md_found_59 : mj_Snd zG ("StreamWatchModel", "found", c_Md_found, 11) 59 (x_getf 11 27) 62 := mj_getf (T := T_Md) rfl (by decide) u_Md z4_92 (by decide +kernel)
theorem i_Md_found_62 : mj_Snd zG ("StreamWatchModel", "found", c_Md_found, 11) 62 (x_iload 1) 63 := mj_iload_n (j := 1) rfl (by decide +kernel)
theorem i_Md_found_63 : mj_Snd zG ("StreamWatchModel", "found", c_Md_found, 11) 63 (x_iald 0) 64 := mj_iald rfl (by decide +kernel)
theorem i_Md_found_64 : mj_Snd zG ("StreamWatchModel", "found", c_Md_found, 11) 64 (x_iadd) 65 := mj_iadd (by decide +kernel)
theorem d_Md_found_65 : decode c_Md_found 65 = .ok (.if_icmp .le 5, 3) := by decide +kernel
theorem i_Md_found_68 : mj_Snd zG ("StreamWatchModel", "found", c_Md_found, 11) 68 (x_const 0) 69 := mj_const (n := 0) (by decide) (by decide +kernel)
theorem d_Md_found_69 : decode c_Md_found 69 = .ok (.ireturn, 1) := by decide +kernel
theorem i_Md_found_70 : mj_Snd zG ("StreamWatchModel", "found", c_Md_found, 11) 70 (x_aload 0) 71 := mj_aload_n (j := 0) rfl (by decide +kernel)
theorem i_Md_found_71 : mj_Snd zG ("StreamWatchModel", "found", c_Md_found, 11) 71 (x_getf 11 25) 74 := mj_getf (T := T_Md) rfl (by decide) u_Md z4_90 (by decide +kernel)
theorem i_Md_found_74 : mj_Snd zG ("StreamWatchModel", "found", c_Md_found, 11) 74 (x_iload 1) 75 := mj_iload_n (j := 1) rfl (by decide +kernel)
theorem i_Md_found_75 : mj_Snd zG ("StreamWatchModel", "found", c_Md_found, 11) 75 (x_iald 0) 76 := mj_iald rfl (by decide +kernel)
theorem i_Md_found_76 : mj_Snd zG ("StreamWatchModel", "found", c_Md_found, 11) 76 (x_const 1) 77 := mj_const (n := 1) (by decide) (by decide +kernel)
theorem i_Md_found_77 : mj_Snd zG ("StreamWatchModel", "found", c_Md_found, 11) 77 (x_iand) 78 := mj_iand (by decide +kernel)
theorem i_Md_found_78 : mj_Snd zG ("StreamWatchModel", "found", c_Md_found, 11) 78 (x_const 1) 79 := mj_const (n := 1) (by decide) (by decide +kernel)
theorem d_Md_found_79 : decode c_Md_found 79 = .ok (.if_icmp .ne 7, 3) := by decide +kernel
theorem i_Md_found_82 : mj_Snd zG ("StreamWatchModel", "found", c_Md_found, 11) 82 (x_const 1) 83 := mj_const (n := 1) (by decide) (by decide +kernel)
theorem i_Md_found_83 : mj_Snd zG ("StreamWatchModel", "found", c_Md_found, 11) 83 (x_skip) 87 := mj_goto (off := 4) (by decide) (by decide +kernel)
theorem i_Md_found_86 : mj_Snd zG ("StreamWatchModel", "found", c_Md_found, 11) 86 (x_const 0) 87 := mj_const (n := 0) (by decide) (by decide +kernel)
theorem i_Md_found_87 : mj_Snd zG ("StreamWatchModel", "found", c_Md_found, 11) 87 (x_istore 7) 89 := mj_istore (by decide) (by decide +kernel)
theorem i_Md_found_89 : mj_Snd zG ("StreamWatchModel", "found", c_Md_found, 11) 89 (x_const 0) 90 := mj_const (n := 0) (by decide) (by decide +kernel)
theorem i_Md_found_90 : mj_Snd zG ("StreamWatchModel", "found", c_Md_found, 11) 90 (x_istore 8) 92 := mj_istore (by decide) (by decide +kernel)
theorem i_Md_found_92 : mj_Snd zG ("StreamWatchModel", "found", c_Md_found, 11) 92 (x_iload 8) 94 := mj_iload (by decide +kernel)
theorem i_Md_found_94 : mj_Snd zG ("StreamWatchModel", "found", c_Md_found, 11) 94 (x_iload 5) 96 := mj_iload (by decide +kernel)
theorem d_Md_found_96 : decode c_Md_found 96 = .ok (.if_icmp .ge 69, 3) := by decide +kernel
theorem i_Md_found_99 : mj_Snd zG ("StreamWatchModel", "found", c_Md_found, 11) 99 (x_aload 0) 100 := mj_aload_n (j := 0) rfl (by decide +kernel)
theorem i_Md_found_100 : mj_Snd zG ("StreamWatchModel", "found", c_Md_found, 11) 100 (x_getf 11 24) 103 := mj_getf (T := T_Md) rfl (by decide) u_Md z4_89 (by decide +kernel)
theorem i_Md_found_103 : mj_Snd zG ("StreamWatchModel", "found", c_Md_found, 11) 103 (x_const 6) 105 := mj_bipush (n := 6) (by decide) (by decide +kernel)
theorem i_Md_found_105 : mj_Snd zG ("StreamWatchModel", "found", c_Md_found, 11) 105 (x_iload 1) 106 := mj_iload_n (j := 1) rfl (by decide +kernel)
theorem i_Md_found_106 : mj_Snd zG ("StreamWatchModel", "found", c_Md_found, 11) 106 (x_imul) 107 := mj_imul (by decide +kernel)
theorem i_Md_found_107 : mj_Snd zG ("StreamWatchModel", "found", c_Md_found, 11) 107 (x_iload 8) 109 := mj_iload (by decide +kernel)
theorem i_Md_found_109 : mj_Snd zG ("StreamWatchModel", "found", c_Md_found, 11) 109 (x_iadd) 110 := mj_iadd (by decide +kernel)
theorem i_Md_found_110 : mj_Snd zG ("StreamWatchModel", "found", c_Md_found, 11) 110 (x_iald 0) 111 := mj_iald rfl (by decide +kernel)
theorem i_Md_found_111 : mj_Snd zG ("StreamWatchModel", "found", c_Md_found, 11) 111 (x_istore 9) 113 := mj_istore (by decide) (by decide +kernel)
theorem i_Md_found_113 : mj_Snd zG ("StreamWatchModel", "found", c_Md_found, 11) 113 (x_aload 0) 114 := mj_aload_n (j := 0) rfl (by decide +kernel)
theorem i_Md_found_114 : mj_Snd zG ("StreamWatchModel", "found", c_Md_found, 11) 114 (x_getf 11 15) 117 := mj_getf (T := T_Md) rfl (by decide) u_Md z4_80 (by decide +kernel)
theorem i_Md_found_117 : mj_Snd zG ("StreamWatchModel", "found", c_Md_found, 11) 117 (x_const 80) 119 := mj_bipush (n := 80) (by decide) (by decide +kernel)
theorem i_Md_found_119 : mj_Snd zG ("StreamWatchModel", "found", c_Md_found, 11) 119 (x_iload 2) 120 := mj_iload_n (j := 2) rfl (by decide +kernel)
theorem i_Md_found_120 : mj_Snd zG ("StreamWatchModel", "found", c_Md_found, 11) 120 (x_imul) 121 := mj_imul (by decide +kernel)
theorem i_Md_found_121 : mj_Snd zG ("StreamWatchModel", "found", c_Md_found, 11) 121 (x_iload 3) 122 := mj_iload_n (j := 3) rfl (by decide +kernel)
theorem i_Md_found_122 : mj_Snd zG ("StreamWatchModel", "found", c_Md_found, 11) 122 (x_iadd) 123 := mj_iadd (by decide +kernel)
theorem i_Md_found_123 : mj_Snd zG ("StreamWatchModel", "found", c_Md_found, 11) 123 (x_iload 8) 125 := mj_iload (by decide +kernel)
theorem i_Md_found_125 : mj_Snd zG ("StreamWatchModel", "found", c_Md_found, 11) 125 (x_iadd) 126 := mj_iadd (by decide +kernel)
theorem i_Md_found_126 : mj_Snd zG ("StreamWatchModel", "found", c_Md_found, 11) 126 (x_iald 0) 127 := mj_iald rfl (by decide +kernel)
theorem i_Md_found_127 : mj_Snd zG ("StreamWatchModel", "found", c_Md_found, 11) 127 (x_istore 10) 129 := mj_istore (by decide) (by decide +kernel)
theorem i_Md_found_129 : mj_Snd zG ("StreamWatchModel", "found", c_Md_found, 11) 129 (x_iload 7) 131 := mj_iload (by decide +kernel)
theorem d_Md_found_131 : decode c_Md_found 131 = .ok (.ifCond .eq 19, 3) := by decide +kernel
theorem i_Md_found_134 : mj_Snd zG ("StreamWatchModel", "found", c_Md_found, 11) 134 (x_iload 9) 136 := mj_iload (by decide +kernel)
theorem d_Md_found_136 : decode c_Md_found 136 = .ok (.invokestatic 142, 3) := by decide +kernel
theorem i_Md_found_139 : mj_Snd zG ("StreamWatchModel", "found", c_Md_found, 11) 139 (x_iload 10) 141 := mj_iload (by decide +kernel)
theorem d_Md_found_141 : decode c_Md_found 141 = .ok (.invokestatic 142, 3) := by decide +kernel
theorem d_Md_found_144 : decode c_Md_found 144 = .ok (.if_icmp .eq 15, 3) := by decide +kernel
theorem i_Md_found_147 : mj_Snd zG ("StreamWatchModel", "found", c_Md_found, 11) 147 (x_skip) 157 := mj_goto (off := 10) (by decide) (by decide +kernel)
theorem i_Md_found_150 : mj_Snd zG ("StreamWatchModel", "found", c_Md_found, 11) 150 (x_iload 9) 152 := mj_iload (by decide +kernel)
theorem i_Md_found_152 : mj_Snd zG ("StreamWatchModel", "found", c_Md_found, 11) 152 (x_iload 10) 154 := mj_iload (by decide +kernel)
theorem d_Md_found_154 : decode c_Md_found 154 = .ok (.if_icmp .eq 5, 3) := by decide +kernel
theorem i_Md_found_157 : mj_Snd zG ("StreamWatchModel", "found", c_Md_found, 11) 157 (x_const 0) 158 := mj_const (n := 0) (by decide) (by decide +kernel)
theorem d_Md_found_158 : decode c_Md_found 158 = .ok (.ireturn, 1) := by decide +kernel
theorem i_Md_found_159 : mj_Snd zG ("StreamWatchModel", "found", c_Md_found, 11) 159 (x_iinc 8 1) 162 := mj_iinc (n := 1) (by decide) (by decide) (by decide +kernel)
theorem i_Md_found_162 : mj_Snd zG ("StreamWatchModel", "found", c_Md_found, 11) 162 (x_skip) 92 := mj_goto (off := (-70)) (by decide) (by decide +kernel)
theorem i_Md_found_165 : mj_Snd zG ("StreamWatchModel", "found", c_Md_found, 11) 165 (x_const 1) 166 := mj_const (n := 1) (by decide) (by decide +kernel)
theorem d_Md_found_166 : decode c_Md_found 166 = .ok (.ireturn, 1) := by decide +kernel
theorem b_Md_found_0 : mj_Ch zG ("StreamWatchModel", "found", c_Md_found, 11) 0 [x_aload 0, x_getf 11 23, x_iload 1, x_iald 0, x_istore 5, x_iload 3, x_iload 4, x_isub, x_istore 6, x_iload 3, x_iload 5, x_iadd, x_aload 0, x_getf 11 14, x_iload 2, x_iald 0] 24 := ⟨_, i_Md_found_0, _, i_Md_found_1, _, i_Md_found_4, _, i_Md_found_5, _, i_Md_found_6, _, i_Md_found_8, _, i_Md_found_9, _, i_Md_found_11, _, i_Md_found_12, _, i_Md_found_14, _, i_Md_found_15, _, i_Md_found_17, _, i_Md_found_18, _, i_Md_found_19, _, i_Md_found_22, _, i_Md_found_23, rfl⟩
theorem b_Md_found_27 : mj_Ch zG ("StreamWatchModel", "found", c_Md_found, 11) 27 [x_iload 6, x_aload 0, x_getf 11 26, x_iload 1, x_iald 0] 35 := ⟨_, i_Md_found_27, _, i_Md_found_29, _, i_Md_found_30, _, i_Md_found_33, _, i_Md_found_34, rfl⟩
theorem b_Md_found_38 : mj_Ch zG ("StreamWatchModel", "found", c_Md_found, 11) 38 [x_aload 0, x_getf 11 27, x_iload 1, x_iald 0] 44 := ⟨_, i_Md_found_38, _, i_Md_found_39, _, i_Md_found_42, _, i_Md_found_43, rfl⟩
theorem b_Md_found_47 : mj_Ch zG ("StreamWatchModel", "found", c_Md_found, 11) 47 [x_iload 6, x_iload 5, x_iadd, x_aload 0, x_getf 11 26, x_iload 1, x_iald 0, x_aload 0, x_getf 11 27, x_iload 1, x_iald 0, x_iadd] 65 := ⟨_, i_Md_found_47, _, i_Md_found_49, _, i_Md_found_51, _, i_Md_found_52, _, i_Md_found_53, _, i_Md_found_56, _, i_Md_found_57, _, i_Md_found_58, _, i_Md_found_59, _, i_Md_found_62, _, i_Md_found_63, _, i_Md_found_64, rfl⟩
theorem b_Md_found_68 : mj_Ch zG ("StreamWatchModel", "found", c_Md_found, 11) 68 [x_const 0] 69 := ⟨_, i_Md_found_68, rfl⟩
theorem b_Md_found_70 : mj_Ch zG ("StreamWatchModel", "found", c_Md_found, 11) 70 [x_aload 0, x_getf 11 25, x_iload 1, x_iald 0, x_const 1, x_iand, x_const 1] 79 := ⟨_, i_Md_found_70, _, i_Md_found_71, _, i_Md_found_74, _, i_Md_found_75, _, i_Md_found_76, _, i_Md_found_77, _, i_Md_found_78, rfl⟩
theorem b_Md_found_82 : mj_Ch zG ("StreamWatchModel", "found", c_Md_found, 11) 82 [x_const 1, x_skip] 87 := ⟨_, i_Md_found_82, _, i_Md_found_83, rfl⟩
theorem b_Md_found_86 : mj_Ch zG ("StreamWatchModel", "found", c_Md_found, 11) 86 [x_const 0] 87 := ⟨_, i_Md_found_86, rfl⟩
theorem b_Md_found_87 : mj_Ch zG ("StreamWatchModel", "found", c_Md_found, 11) 87 [x_istore 7, x_const 0, x_istore 8] 92 := ⟨_, i_Md_found_87, _, i_Md_found_89, _, i_Md_found_90, rfl⟩
theorem b_Md_found_92 : mj_Ch zG ("StreamWatchModel", "found", c_Md_found, 11) 92 [x_iload 8, x_iload 5] 96 := ⟨_, i_Md_found_92, _, i_Md_found_94, rfl⟩
theorem b_Md_found_99 : mj_Ch zG ("StreamWatchModel", "found", c_Md_found, 11) 99 [x_aload 0, x_getf 11 24, x_const 6, x_iload 1, x_imul, x_iload 8, x_iadd, x_iald 0, x_istore 9, x_aload 0, x_getf 11 15, x_const 80, x_iload 2, x_imul, x_iload 3, x_iadd, x_iload 8, x_iadd, x_iald 0, x_istore 10, x_iload 7] 131 := ⟨_, i_Md_found_99, _, i_Md_found_100, _, i_Md_found_103, _, i_Md_found_105, _, i_Md_found_106, _, i_Md_found_107, _, i_Md_found_109, _, i_Md_found_110, _, i_Md_found_111, _, i_Md_found_113, _, i_Md_found_114, _, i_Md_found_117, _, i_Md_found_119, _, i_Md_found_120, _, i_Md_found_121, _, i_Md_found_122, _, i_Md_found_123, _, i_Md_found_125, _, i_Md_found_126, _, i_Md_found_127, _, i_Md_found_129, rfl⟩
theorem b_Md_found_134 : mj_Ch zG ("StreamWatchModel", "found", c_Md_found, 11) 134 [x_iload 9] 136 := ⟨_, i_Md_found_134, rfl⟩
theorem b_Md_found_139 : mj_Ch zG ("StreamWatchModel", "found", c_Md_found, 11) 139 [x_iload 10] 141 := ⟨_, i_Md_found_139, rfl⟩
theorem b_Md_found_147 : mj_Ch zG ("StreamWatchModel", "found", c_Md_found, 11) 147 [x_skip] 157 := ⟨_, i_Md_found_147, rfl⟩
theorem b_Md_found_150 : mj_Ch zG ("StreamWatchModel", "found", c_Md_found, 11) 150 [x_iload 9, x_iload 10] 154 := ⟨_, i_Md_found_150, _, i_Md_found_152, rfl⟩
theorem b_Md_found_157 : mj_Ch zG ("StreamWatchModel", "found", c_Md_found, 11) 157 [x_const 0] 158 := ⟨_, i_Md_found_157, rfl⟩
theorem b_Md_found_159 : mj_Ch zG ("StreamWatchModel", "found", c_Md_found, 11) 159 [x_iinc 8 1, x_skip] 92 := ⟨_, i_Md_found_159, _, i_Md_found_162, rfl⟩
theorem b_Md_found_165 : mj_Ch zG ("StreamWatchModel", "found", c_Md_found, 11) 165 [x_const 1] 166 := ⟨_, i_Md_found_165, rfl⟩
theorem i_Md_base_0 : mj_Snd zG ("StreamWatchModel", "base", c_Md_base, 3) 0 (x_aload 0) 1 := mj_aload_n (j := 0) rfl (by decide +kernel)
theorem i_Md_base_1 : mj_Snd zG ("StreamWatchModel", "base", c_Md_base, 3) 1 (x_getf 11 25) 4 := mj_getf (T := T_Md) rfl (by decide) u_Md z4_90 (by decide +kernel)
theorem i_Md_base_4 : mj_Snd zG ("StreamWatchModel", "base", c_Md_base, 3) 4 (x_iload 1) 5 := mj_iload_n (j := 1) rfl (by decide +kernel)
theorem i_Md_base_5 : mj_Snd zG ("StreamWatchModel", "base", c_Md_base, 3) 5 (x_iald 0) 6 := mj_iald rfl (by decide +kernel)
theorem i_Md_base_6 : mj_Snd zG ("StreamWatchModel", "base", c_Md_base, 3) 6 (x_const 4) 7 := mj_const (n := 4) (by decide) (by decide +kernel)
theorem i_Md_base_7 : mj_Snd zG ("StreamWatchModel", "base", c_Md_base, 3) 7 (x_iand) 8 := mj_iand (by decide +kernel)
theorem d_Md_base_8 : decode c_Md_base 8 = .ok (.ifCond .eq 7, 3) := by decide +kernel
theorem i_Md_base_11 : mj_Snd zG ("StreamWatchModel", "base", c_Md_base, 3) 11 (x_iload 2) 12 := mj_iload_n (j := 2) rfl (by decide +kernel)
theorem d_Md_base_12 : decode c_Md_base 12 = .ok (.ifCond .ne 7, 3) := by decide +kernel
theorem i_Md_base_15 : mj_Snd zG ("StreamWatchModel", "base", c_Md_base, 3) 15 (x_const 0) 16 := mj_const (n := 0) (by decide) (by decide +kernel)
theorem i_Md_base_16 : mj_Snd zG ("StreamWatchModel", "base", c_Md_base, 3) 16 (x_skip) 41 := mj_goto (off := 25) (by decide) (by decide +kernel)
theorem i_Md_base_19 : mj_Snd zG ("StreamWatchModel", "base", c_Md_base, 3) 19 (x_aload 0) 20 := mj_aload_n (j := 0) rfl (by decide +kernel)
theorem i_Md_base_20 : mj_Snd zG ("StreamWatchModel", "base", c_Md_base, 3) 20 (x_getf 11 30) 23 := mj_getf (T := T_Md) rfl (by decide) u_Md z4_95 (by decide +kernel)
theorem i_Md_base_23 : mj_Snd zG ("StreamWatchModel", "base", c_Md_base, 3) 23 (x_iload 2) 24 := mj_iload_n (j := 2) rfl (by decide +kernel)
theorem i_Md_base_24 : mj_Snd zG ("StreamWatchModel", "base", c_Md_base, 3) 24 (x_const 1) 25 := mj_const (n := 1) (by decide) (by decide +kernel)
theorem i_Md_base_25 : mj_Snd zG ("StreamWatchModel", "base", c_Md_base, 3) 25 (x_isub) 26 := mj_isub (by decide +kernel)
theorem i_Md_base_26 : mj_Snd zG ("StreamWatchModel", "base", c_Md_base, 3) 26 (x_iald 0) 27 := mj_iald rfl (by decide +kernel)
theorem i_Md_base_27 : mj_Snd zG ("StreamWatchModel", "base", c_Md_base, 3) 27 (x_aload 0) 28 := mj_aload_n (j := 0) rfl (by decide +kernel)
theorem i_Md_base_28 : mj_Snd zG ("StreamWatchModel", "base", c_Md_base, 3) 28 (x_getf 11 23) 31 := mj_getf (T := T_Md) rfl (by decide) u_Md z4_88 (by decide +kernel)
theorem i_Md_base_31 : mj_Snd zG ("StreamWatchModel", "base", c_Md_base, 3) 31 (x_aload 0) 32 := mj_aload_n (j := 0) rfl (by decide +kernel)
theorem i_Md_base_32 : mj_Snd zG ("StreamWatchModel", "base", c_Md_base, 3) 32 (x_getf 11 29) 35 := mj_getf (T := T_Md) rfl (by decide) u_Md z4_94 (by decide +kernel)
theorem i_Md_base_35 : mj_Snd zG ("StreamWatchModel", "base", c_Md_base, 3) 35 (x_iload 2) 36 := mj_iload_n (j := 2) rfl (by decide +kernel)
theorem i_Md_base_36 : mj_Snd zG ("StreamWatchModel", "base", c_Md_base, 3) 36 (x_const 1) 37 := mj_const (n := 1) (by decide) (by decide +kernel)
theorem i_Md_base_37 : mj_Snd zG ("StreamWatchModel", "base", c_Md_base, 3) 37 (x_isub) 38 := mj_isub (by decide +kernel)
theorem i_Md_base_38 : mj_Snd zG ("StreamWatchModel", "base", c_Md_base, 3) 38 (x_iald 0) 39 := mj_iald rfl (by decide +kernel)
theorem i_Md_base_39 : mj_Snd zG ("StreamWatchModel", "base", c_Md_base, 3) 39 (x_iald 0) 40 := mj_iald rfl (by decide +kernel)
theorem i_Md_base_40 : mj_Snd zG ("StreamWatchModel", "base", c_Md_base, 3) 40 (x_iadd) 41 := mj_iadd (by decide +kernel)
theorem d_Md_base_41 : decode c_Md_base 41 = .ok (.ireturn, 1) := by decide +kernel
theorem b_Md_base_0 : mj_Ch zG ("StreamWatchModel", "base", c_Md_base, 3) 0 [x_aload 0, x_getf 11 25, x_iload 1, x_iald 0, x_const 4, x_iand] 8 := ⟨_, i_Md_base_0, _, i_Md_base_1, _, i_Md_base_4, _, i_Md_base_5, _, i_Md_base_6, _, i_Md_base_7, rfl⟩
theorem b_Md_base_11 : mj_Ch zG ("StreamWatchModel", "base", c_Md_base, 3) 11 [x_iload 2] 12 := ⟨_, i_Md_base_11, rfl⟩
theorem b_Md_base_15 : mj_Ch zG ("StreamWatchModel", "base", c_Md_base, 3) 15 [x_const 0, x_skip] 41 := ⟨_, i_Md_base_15, _, i_Md_base_16, rfl⟩
theorem b_Md_base_19 : mj_Ch zG ("StreamWatchModel", "base", c_Md_base, 3) 19 [x_aload 0, x_getf 11 30, x_iload 2, x_const 1, x_isub, x_iald 0, x_aload 0, x_getf 11 23, x_aload 0, x_getf 11 29, x_iload 2, x_const 1, x_isub, x_iald 0, x_iald 0, x_iadd] 41 := ⟨_, i_Md_base_19, _, i_Md_base_20, _, i_Md_base_23, _, i_Md_base_24, _, i_Md_base_25, _, i_Md_base_26, _, i_Md_base_27, _, i_Md_base_28, _, i_Md_base_31, _, i_Md_base_32, _, i_Md_base_35, _, i_Md_base_36, _, i_Md_base_37, _, i_Md_base_38, _, i_Md_base_39, _, i_Md_base_40, rfl⟩
theorem i_Md_clean_0 : mj_Snd zG ("StreamWatchModel", "clean", c_Md_clean, 8) 0 (x_const 0) 1 := mj_const (n := 0) (by decide) (by decide +kernel)
theorem i_Md_clean_1 : mj_Snd zG ("StreamWatchModel", "clean", c_Md_clean, 8) 1 (x_istore 3) 2 := mj_istore_n (j := 3) rfl (by decide) (by decide +kernel)
theorem i_Md_clean_2 : mj_Snd zG ("StreamWatchModel", "clean", c_Md_clean, 8) 2 (x_iload 3) 3 := mj_iload_n (j := 3) rfl (by decide +kernel)
theorem i_Md_clean_3 : mj_Snd zG ("StreamWatchModel", "clean", c_Md_clean, 8) 3 (x_aload 0) 4 := mj_aload_n (j := 0) rfl (by decide +kernel)
theorem i_Md_clean_4 : mj_Snd zG ("StreamWatchModel", "clean", c_Md_clean, 8) 4 (x_getf 11 22) 7 := mj_getf (T := T_Md) rfl (by decide) u_Md z4_87 (by decide +kernel)
theorem i_Md_clean_7 : mj_Snd zG ("StreamWatchModel", "clean", c_Md_clean, 8) 7 (x_iload 1) 8 := mj_iload_n (j := 1) rfl (by decide +kernel)
theorem i_Md_clean_8 : mj_Snd zG ("StreamWatchModel", "clean", c_Md_clean, 8) 8 (x_iald 0) 9 := mj_iald rfl (by decide +kernel)
theorem d_Md_clean_9 : decode c_Md_clean 9 = .ok (.if_icmp .ge 105, 3) := by decide +kernel
theorem i_Md_clean_12 : mj_Snd zG ("StreamWatchModel", "clean", c_Md_clean, 8) 12 (x_const 3) 13 := mj_const (n := 3) (by decide) (by decide +kernel)
theorem i_Md_clean_13 : mj_Snd zG ("StreamWatchModel", "clean", c_Md_clean, 8) 13 (x_iload 1) 14 := mj_iload_n (j := 1) rfl (by decide +kernel)
theorem i_Md_clean_14 : mj_Snd zG ("StreamWatchModel", "clean", c_Md_clean, 8) 14 (x_imul) 15 := mj_imul (by decide +kernel)
theorem i_Md_clean_15 : mj_Snd zG ("StreamWatchModel", "clean", c_Md_clean, 8) 15 (x_iload 3) 16 := mj_iload_n (j := 3) rfl (by decide +kernel)
theorem i_Md_clean_16 : mj_Snd zG ("StreamWatchModel", "clean", c_Md_clean, 8) 16 (x_iadd) 17 := mj_iadd (by decide +kernel)
theorem i_Md_clean_17 : mj_Snd zG ("StreamWatchModel", "clean", c_Md_clean, 8) 17 (x_istore 4) 19 := mj_istore (by decide) (by decide +kernel)
theorem i_Md_clean_19 : mj_Snd zG ("StreamWatchModel", "clean", c_Md_clean, 8) 19 (x_aload 0) 20 := mj_aload_n (j := 0) rfl (by decide +kernel)
theorem i_Md_clean_20 : mj_Snd zG ("StreamWatchModel", "clean", c_Md_clean, 8) 20 (x_getf 11 25) 23 := mj_getf (T := T_Md) rfl (by decide) u_Md z4_90 (by decide +kernel)
theorem i_Md_clean_23 : mj_Snd zG ("StreamWatchModel", "clean", c_Md_clean, 8) 23 (x_iload 4) 25 := mj_iload (by decide +kernel)
theorem i_Md_clean_25 : mj_Snd zG ("StreamWatchModel", "clean", c_Md_clean, 8) 25 (x_iald 0) 26 := mj_iald rfl (by decide +kernel)
theorem i_Md_clean_26 : mj_Snd zG ("StreamWatchModel", "clean", c_Md_clean, 8) 26 (x_const 2) 27 := mj_const (n := 2) (by decide) (by decide +kernel)
theorem i_Md_clean_27 : mj_Snd zG ("StreamWatchModel", "clean", c_Md_clean, 8) 27 (x_iand) 28 := mj_iand (by decide +kernel)
theorem i_Md_clean_28 : mj_Snd zG ("StreamWatchModel", "clean", c_Md_clean, 8) 28 (x_const 2) 29 := mj_const (n := 2) (by decide) (by decide +kernel)
theorem d_Md_clean_29 : decode c_Md_clean 29 = .ok (.if_icmp .ne 79, 3) := by decide +kernel
theorem i_Md_clean_32 : mj_Snd zG ("StreamWatchModel", "clean", c_Md_clean, 8) 32 (x_const 0) 33 := mj_const (n := 0) (by decide) (by decide +kernel)
theorem i_Md_clean_33 : mj_Snd zG ("StreamWatchModel", "clean", c_Md_clean, 8) 33 (x_istore 5) 35 := mj_istore (by decide) (by decide +kernel)
theorem i_Md_clean_35 : mj_Snd zG ("StreamWatchModel", "clean", c_Md_clean, 8) 35 (x_iload 5) 37 := mj_iload (by decide +kernel)
theorem i_Md_clean_37 : mj_Snd zG ("StreamWatchModel", "clean", c_Md_clean, 8) 37 (x_aload 0) 38 := mj_aload_n (j := 0) rfl (by decide +kernel)
theorem i_Md_clean_38 : mj_Snd zG ("StreamWatchModel", "clean", c_Md_clean, 8) 38 (x_getf 11 28) 41 := mj_getf (T := T_Md) rfl (by decide) u_Md z4_93 (by decide +kernel)
theorem d_Md_clean_41 : decode c_Md_clean 41 = .ok (.if_icmp .ge 21, 3) := by decide +kernel
theorem i_Md_clean_44 : mj_Snd zG ("StreamWatchModel", "clean", c_Md_clean, 8) 44 (x_aload 0) 45 := mj_aload_n (j := 0) rfl (by decide +kernel)
theorem i_Md_clean_45 : mj_Snd zG ("StreamWatchModel", "clean", c_Md_clean, 8) 45 (x_getf 11 29) 48 := mj_getf (T := T_Md) rfl (by decide) u_Md z4_94 (by decide +kernel)
theorem i_Md_clean_48 : mj_Snd zG ("StreamWatchModel", "clean", c_Md_clean, 8) 48 (x_iload 5) 50 := mj_iload (by decide +kernel)
theorem i_Md_clean_50 : mj_Snd zG ("StreamWatchModel", "clean", c_Md_clean, 8) 50 (x_iald 0) 51 := mj_iald rfl (by decide +kernel)
theorem i_Md_clean_51 : mj_Snd zG ("StreamWatchModel", "clean", c_Md_clean, 8) 51 (x_iload 4) 53 := mj_iload (by decide +kernel)
theorem d_Md_clean_53 : decode c_Md_clean 53 = .ok (.if_icmp .ge 9, 3) := by decide +kernel
theorem i_Md_clean_56 : mj_Snd zG ("StreamWatchModel", "clean", c_Md_clean, 8) 56 (x_iinc 5 1) 59 := mj_iinc (n := 1) (by decide) (by decide) (by decide +kernel)
theorem i_Md_clean_59 : mj_Snd zG ("StreamWatchModel", "clean", c_Md_clean, 8) 59 (x_skip) 35 := mj_goto (off := (-24)) (by decide) (by decide +kernel)
theorem i_Md_clean_62 : mj_Snd zG ("StreamWatchModel", "clean", c_Md_clean, 8) 62 (x_aload 0) 63 := mj_aload_n (j := 0) rfl (by decide +kernel)
theorem i_Md_clean_63 : mj_Snd zG ("StreamWatchModel", "clean", c_Md_clean, 8) 63 (x_iload 4) 65 := mj_iload (by decide +kernel)
theorem i_Md_clean_65 : mj_Snd zG ("StreamWatchModel", "clean", c_Md_clean, 8) 65 (x_iload 5) 67 := mj_iload (by decide +kernel)
theorem d_Md_clean_67 : decode c_Md_clean 67 = .ok (.invokevirtual 148, 3) := by decide +kernel
theorem i_Md_clean_70 : mj_Snd zG ("StreamWatchModel", "clean", c_Md_clean, 8) 70 (x_istore 6) 72 := mj_istore (by decide) (by decide +kernel)
theorem i_Md_clean_72 : mj_Snd zG ("StreamWatchModel", "clean", c_Md_clean, 8) 72 (x_const 0) 73 := mj_const (n := 0) (by decide) (by decide +kernel)
theorem i_Md_clean_73 : mj_Snd zG ("StreamWatchModel", "clean", c_Md_clean, 8) 73 (x_istore 7) 75 := mj_istore (by decide) (by decide +kernel)
theorem i_Md_clean_75 : mj_Snd zG ("StreamWatchModel", "clean", c_Md_clean, 8) 75 (x_iload 7) 77 := mj_iload (by decide +kernel)
theorem i_Md_clean_77 : mj_Snd zG ("StreamWatchModel", "clean", c_Md_clean, 8) 77 (x_aload 0) 78 := mj_aload_n (j := 0) rfl (by decide +kernel)
theorem i_Md_clean_78 : mj_Snd zG ("StreamWatchModel", "clean", c_Md_clean, 8) 78 (x_getf 11 14) 81 := mj_getf (T := T_Md) rfl (by decide) u_Md z4_79 (by decide +kernel)
theorem i_Md_clean_81 : mj_Snd zG ("StreamWatchModel", "clean", c_Md_clean, 8) 81 (x_iload 2) 82 := mj_iload_n (j := 2) rfl (by decide +kernel)
theorem i_Md_clean_82 : mj_Snd zG ("StreamWatchModel", "clean", c_Md_clean, 8) 82 (x_iald 0) 83 := mj_iald rfl (by decide +kernel)
theorem d_Md_clean_83 : decode c_Md_clean 83 = .ok (.if_icmp .ge 25, 3) := by decide +kernel
theorem i_Md_clean_86 : mj_Snd zG ("StreamWatchModel", "clean", c_Md_clean, 8) 86 (x_aload 0) 87 := mj_aload_n (j := 0) rfl (by decide +kernel)
theorem i_Md_clean_87 : mj_Snd zG ("StreamWatchModel", "clean", c_Md_clean, 8) 87 (x_iload 4) 89 := mj_iload (by decide +kernel)
theorem i_Md_clean_89 : mj_Snd zG ("StreamWatchModel", "clean", c_Md_clean, 8) 89 (x_iload 2) 90 := mj_iload_n (j := 2) rfl (by decide +kernel)
theorem i_Md_clean_90 : mj_Snd zG ("StreamWatchModel", "clean", c_Md_clean, 8) 90 (x_iload 7) 92 := mj_iload (by decide +kernel)
theorem i_Md_clean_92 : mj_Snd zG ("StreamWatchModel", "clean", c_Md_clean, 8) 92 (x_iload 6) 94 := mj_iload (by decide +kernel)
theorem d_Md_clean_94 : decode c_Md_clean 94 = .ok (.invokevirtual 151, 3) := by decide +kernel
theorem d_Md_clean_97 : decode c_Md_clean 97 = .ok (.ifCond .eq 5, 3) := by decide +kernel
theorem i_Md_clean_100 : mj_Snd zG ("StreamWatchModel", "clean", c_Md_clean, 8) 100 (x_const 0) 101 := mj_const (n := 0) (by decide) (by decide +kernel)
theorem d_Md_clean_101 : decode c_Md_clean 101 = .ok (.ireturn, 1) := by decide +kernel
theorem i_Md_clean_102 : mj_Snd zG ("StreamWatchModel", "clean", c_Md_clean, 8) 102 (x_iinc 7 1) 105 := mj_iinc (n := 1) (by decide) (by decide) (by decide +kernel)
theorem i_Md_clean_105 : mj_Snd zG ("StreamWatchModel", "clean", c_Md_clean, 8) 105 (x_skip) 75 := mj_goto (off := (-30)) (by decide) (by decide +kernel)
theorem i_Md_clean_108 : mj_Snd zG ("StreamWatchModel", "clean", c_Md_clean, 8) 108 (x_iinc 3 1) 111 := mj_iinc (n := 1) (by decide) (by decide) (by decide +kernel)
theorem i_Md_clean_111 : mj_Snd zG ("StreamWatchModel", "clean", c_Md_clean, 8) 111 (x_skip) 2 := mj_goto (off := (-109)) (by decide) (by decide +kernel)
theorem i_Md_clean_114 : mj_Snd zG ("StreamWatchModel", "clean", c_Md_clean, 8) 114 (x_const 1) 115 := mj_const (n := 1) (by decide) (by decide +kernel)
theorem d_Md_clean_115 : decode c_Md_clean 115 = .ok (.ireturn, 1) := by decide +kernel
theorem b_Md_clean_0 : mj_Ch zG ("StreamWatchModel", "clean", c_Md_clean, 8) 0 [x_const 0, x_istore 3] 2 := ⟨_, i_Md_clean_0, _, i_Md_clean_1, rfl⟩
theorem b_Md_clean_2 : mj_Ch zG ("StreamWatchModel", "clean", c_Md_clean, 8) 2 [x_iload 3, x_aload 0, x_getf 11 22, x_iload 1, x_iald 0] 9 := ⟨_, i_Md_clean_2, _, i_Md_clean_3, _, i_Md_clean_4, _, i_Md_clean_7, _, i_Md_clean_8, rfl⟩
theorem b_Md_clean_12 : mj_Ch zG ("StreamWatchModel", "clean", c_Md_clean, 8) 12 [x_const 3, x_iload 1, x_imul, x_iload 3, x_iadd, x_istore 4, x_aload 0, x_getf 11 25, x_iload 4, x_iald 0, x_const 2, x_iand, x_const 2] 29 := ⟨_, i_Md_clean_12, _, i_Md_clean_13, _, i_Md_clean_14, _, i_Md_clean_15, _, i_Md_clean_16, _, i_Md_clean_17, _, i_Md_clean_19, _, i_Md_clean_20, _, i_Md_clean_23, _, i_Md_clean_25, _, i_Md_clean_26, _, i_Md_clean_27, _, i_Md_clean_28, rfl⟩
theorem b_Md_clean_32 : mj_Ch zG ("StreamWatchModel", "clean", c_Md_clean, 8) 32 [x_const 0, x_istore 5] 35 := ⟨_, i_Md_clean_32, _, i_Md_clean_33, rfl⟩
theorem b_Md_clean_35 : mj_Ch zG ("StreamWatchModel", "clean", c_Md_clean, 8) 35 [x_iload 5, x_aload 0, x_getf 11 28] 41 := ⟨_, i_Md_clean_35, _, i_Md_clean_37, _, i_Md_clean_38, rfl⟩
theorem b_Md_clean_44 : mj_Ch zG ("StreamWatchModel", "clean", c_Md_clean, 8) 44 [x_aload 0, x_getf 11 29, x_iload 5, x_iald 0, x_iload 4] 53 := ⟨_, i_Md_clean_44, _, i_Md_clean_45, _, i_Md_clean_48, _, i_Md_clean_50, _, i_Md_clean_51, rfl⟩
theorem b_Md_clean_56 : mj_Ch zG ("StreamWatchModel", "clean", c_Md_clean, 8) 56 [x_iinc 5 1, x_skip] 35 := ⟨_, i_Md_clean_56, _, i_Md_clean_59, rfl⟩
theorem b_Md_clean_62 : mj_Ch zG ("StreamWatchModel", "clean", c_Md_clean, 8) 62 [x_aload 0, x_iload 4, x_iload 5] 67 := ⟨_, i_Md_clean_62, _, i_Md_clean_63, _, i_Md_clean_65, rfl⟩
theorem b_Md_clean_70 : mj_Ch zG ("StreamWatchModel", "clean", c_Md_clean, 8) 70 [x_istore 6, x_const 0, x_istore 7] 75 := ⟨_, i_Md_clean_70, _, i_Md_clean_72, _, i_Md_clean_73, rfl⟩
theorem b_Md_clean_75 : mj_Ch zG ("StreamWatchModel", "clean", c_Md_clean, 8) 75 [x_iload 7, x_aload 0, x_getf 11 14, x_iload 2, x_iald 0] 83 := ⟨_, i_Md_clean_75, _, i_Md_clean_77, _, i_Md_clean_78, _, i_Md_clean_81, _, i_Md_clean_82, rfl⟩
theorem b_Md_clean_86 : mj_Ch zG ("StreamWatchModel", "clean", c_Md_clean, 8) 86 [x_aload 0, x_iload 4, x_iload 2, x_iload 7, x_iload 6] 94 := ⟨_, i_Md_clean_86, _, i_Md_clean_87, _, i_Md_clean_89, _, i_Md_clean_90, _, i_Md_clean_92, rfl⟩
theorem b_Md_clean_100 : mj_Ch zG ("StreamWatchModel", "clean", c_Md_clean, 8) 100 [x_const 0] 101 := ⟨_, i_Md_clean_100, rfl⟩
theorem b_Md_clean_102 : mj_Ch zG ("StreamWatchModel", "clean", c_Md_clean, 8) 102 [x_iinc 7 1, x_skip] 75 := ⟨_, i_Md_clean_102, _, i_Md_clean_105, rfl⟩
theorem b_Md_clean_108 : mj_Ch zG ("StreamWatchModel", "clean", c_Md_clean, 8) 108 [x_iinc 3 1, x_skip] 2 := ⟨_, i_Md_clean_108, _, i_Md_clean_111, rfl⟩
theorem b_Md_clean_114 : mj_Ch zG ("StreamWatchModel", "clean", c_Md_clean, 8) 114 [x_const 1] 115 := ⟨_, i_Md_clean_114, rfl⟩
theorem i_Md_holdsOn_0 : mj_Snd zG ("StreamWatchModel", "holdsOn", c_Md_holdsOn, 4) 0 (x_aload 0) 1 := mj_aload_n (j := 0) rfl (by decide +kernel)
theorem i_Md_holdsOn_1 : mj_Snd zG ("StreamWatchModel", "holdsOn", c_Md_holdsOn, 4) 1 (x_const 0) 2 := mj_const (n := 0) (by decide) (by decide +kernel)
theorem i_Md_holdsOn_2 : mj_Snd zG ("StreamWatchModel", "holdsOn", c_Md_holdsOn, 4) 2 (x_putf 11 28 0) 5 := mj_putG (T := T_Md) (ty0 := t_Md) rfl (by decide) u_Md t_Md_ok n_Md z4_93 (Or.inl rfl) (by decide +kernel)
theorem i_Md_holdsOn_5 : mj_Snd zG ("StreamWatchModel", "holdsOn", c_Md_holdsOn, 4) 5 (x_const 0) 6 := mj_const (n := 0) (by decide) (by decide +kernel)
theorem i_Md_holdsOn_6 : mj_Snd zG ("StreamWatchModel", "holdsOn", c_Md_holdsOn, 4) 6 (x_istore 3) 7 := mj_istore_n (j := 3) rfl (by decide) (by decide +kernel)
theorem i_Md_holdsOn_7 : mj_Snd zG ("StreamWatchModel", "holdsOn", c_Md_holdsOn, 4) 7 (x_iload 3) 8 := mj_iload_n (j := 3) rfl (by decide +kernel)
theorem i_Md_holdsOn_8 : mj_Snd zG ("StreamWatchModel", "holdsOn", c_Md_holdsOn, 4) 8 (x_aload 0) 9 := mj_aload_n (j := 0) rfl (by decide +kernel)
theorem i_Md_holdsOn_9 : mj_Snd zG ("StreamWatchModel", "holdsOn", c_Md_holdsOn, 4) 9 (x_getf 11 22) 12 := mj_getf (T := T_Md) rfl (by decide) u_Md z4_87 (by decide +kernel)
theorem i_Md_holdsOn_12 : mj_Snd zG ("StreamWatchModel", "holdsOn", c_Md_holdsOn, 4) 12 (x_iload 1) 13 := mj_iload_n (j := 1) rfl (by decide +kernel)
theorem i_Md_holdsOn_13 : mj_Snd zG ("StreamWatchModel", "holdsOn", c_Md_holdsOn, 4) 13 (x_iald 0) 14 := mj_iald rfl (by decide +kernel)
theorem d_Md_holdsOn_14 : decode c_Md_holdsOn 14 = .ok (.if_icmp .ge 48, 3) := by decide +kernel
theorem i_Md_holdsOn_17 : mj_Snd zG ("StreamWatchModel", "holdsOn", c_Md_holdsOn, 4) 17 (x_aload 0) 18 := mj_aload_n (j := 0) rfl (by decide +kernel)
theorem i_Md_holdsOn_18 : mj_Snd zG ("StreamWatchModel", "holdsOn", c_Md_holdsOn, 4) 18 (x_getf 11 25) 21 := mj_getf (T := T_Md) rfl (by decide) u_Md z4_90 (by decide +kernel)
theorem i_Md_holdsOn_21 : mj_Snd zG ("StreamWatchModel", "holdsOn", c_Md_holdsOn, 4) 21 (x_const 3) 22 := mj_const (n := 3) (by decide) (by decide +kernel)
theorem i_Md_holdsOn_22 : mj_Snd zG ("StreamWatchModel", "holdsOn", c_Md_holdsOn, 4) 22 (x_iload 1) 23 := mj_iload_n (j := 1) rfl (by decide +kernel)
theorem i_Md_holdsOn_23 : mj_Snd zG ("StreamWatchModel", "holdsOn", c_Md_holdsOn, 4) 23 (x_imul) 24 := mj_imul (by decide +kernel)
theorem i_Md_holdsOn_24 : mj_Snd zG ("StreamWatchModel", "holdsOn", c_Md_holdsOn, 4) 24 (x_iload 3) 25 := mj_iload_n (j := 3) rfl (by decide +kernel)
theorem i_Md_holdsOn_25 : mj_Snd zG ("StreamWatchModel", "holdsOn", c_Md_holdsOn, 4) 25 (x_iadd) 26 := mj_iadd (by decide +kernel)
theorem i_Md_holdsOn_26 : mj_Snd zG ("StreamWatchModel", "holdsOn", c_Md_holdsOn, 4) 26 (x_iald 0) 27 := mj_iald rfl (by decide +kernel)
theorem i_Md_holdsOn_27 : mj_Snd zG ("StreamWatchModel", "holdsOn", c_Md_holdsOn, 4) 27 (x_const 2) 28 := mj_const (n := 2) (by decide) (by decide +kernel)
theorem i_Md_holdsOn_28 : mj_Snd zG ("StreamWatchModel", "holdsOn", c_Md_holdsOn, 4) 28 (x_iand) 29 := mj_iand (by decide +kernel)
theorem d_Md_holdsOn_29 : decode c_Md_holdsOn 29 = .ok (.ifCond .ne 27, 3) := by decide +kernel
theorem i_Md_holdsOn_32 : mj_Snd zG ("StreamWatchModel", "holdsOn", c_Md_holdsOn, 4) 32 (x_aload 0) 33 := mj_aload_n (j := 0) rfl (by decide +kernel)
theorem i_Md_holdsOn_33 : mj_Snd zG ("StreamWatchModel", "holdsOn", c_Md_holdsOn, 4) 33 (x_getf 11 29) 36 := mj_getf (T := T_Md) rfl (by decide) u_Md z4_94 (by decide +kernel)
theorem i_Md_holdsOn_36 : mj_Snd zG ("StreamWatchModel", "holdsOn", c_Md_holdsOn, 4) 36 (x_aload 0) 37 := mj_aload_n (j := 0) rfl (by decide +kernel)
theorem i_Md_holdsOn_37 : mj_Snd zG ("StreamWatchModel", "holdsOn", c_Md_holdsOn, 4) 37 (x_getf 11 28) 40 := mj_getf (T := T_Md) rfl (by decide) u_Md z4_93 (by decide +kernel)
theorem i_Md_holdsOn_40 : mj_Snd zG ("StreamWatchModel", "holdsOn", c_Md_holdsOn, 4) 40 (x_const 3) 41 := mj_const (n := 3) (by decide) (by decide +kernel)
theorem i_Md_holdsOn_41 : mj_Snd zG ("StreamWatchModel", "holdsOn", c_Md_holdsOn, 4) 41 (x_iload 1) 42 := mj_iload_n (j := 1) rfl (by decide +kernel)
theorem i_Md_holdsOn_42 : mj_Snd zG ("StreamWatchModel", "holdsOn", c_Md_holdsOn, 4) 42 (x_imul) 43 := mj_imul (by decide +kernel)
theorem i_Md_holdsOn_43 : mj_Snd zG ("StreamWatchModel", "holdsOn", c_Md_holdsOn, 4) 43 (x_iload 3) 44 := mj_iload_n (j := 3) rfl (by decide +kernel)
theorem i_Md_holdsOn_44 : mj_Snd zG ("StreamWatchModel", "holdsOn", c_Md_holdsOn, 4) 44 (x_iadd) 45 := mj_iadd (by decide +kernel)
theorem i_Md_holdsOn_45 : mj_Snd zG ("StreamWatchModel", "holdsOn", c_Md_holdsOn, 4) 45 (x_iast 0) 46 := mj_iast rfl (by decide +kernel)
theorem i_Md_holdsOn_46 : mj_Snd zG ("StreamWatchModel", "holdsOn", c_Md_holdsOn, 4) 46 (x_aload 0) 47 := mj_aload_n (j := 0) rfl (by decide +kernel)
theorem i_Md_holdsOn_47 : mj_Snd zG ("StreamWatchModel", "holdsOn", c_Md_holdsOn, 4) 47 (x_dup) 48 := mj_dup (by decide +kernel)
theorem i_Md_holdsOn_48 : mj_Snd zG ("StreamWatchModel", "holdsOn", c_Md_holdsOn, 4) 48 (x_getf 11 28) 51 := mj_getf (T := T_Md) rfl (by decide) u_Md z4_93 (by decide +kernel)
theorem i_Md_holdsOn_51 : mj_Snd zG ("StreamWatchModel", "holdsOn", c_Md_holdsOn, 4) 51 (x_const 1) 52 := mj_const (n := 1) (by decide) (by decide +kernel)
theorem i_Md_holdsOn_52 : mj_Snd zG ("StreamWatchModel", "holdsOn", c_Md_holdsOn, 4) 52 (x_iadd) 53 := mj_iadd (by decide +kernel)
theorem i_Md_holdsOn_53 : mj_Snd zG ("StreamWatchModel", "holdsOn", c_Md_holdsOn, 4) 53 (x_putf 11 28 0) 56 := mj_putG (T := T_Md) (ty0 := t_Md) rfl (by decide) u_Md t_Md_ok n_Md z4_93 (Or.inl rfl) (by decide +kernel)
theorem i_Md_holdsOn_56 : mj_Snd zG ("StreamWatchModel", "holdsOn", c_Md_holdsOn, 4) 56 (x_iinc 3 1) 59 := mj_iinc (n := 1) (by decide) (by decide) (by decide +kernel)
theorem i_Md_holdsOn_59 : mj_Snd zG ("StreamWatchModel", "holdsOn", c_Md_holdsOn, 4) 59 (x_skip) 7 := mj_goto (off := (-52)) (by decide) (by decide +kernel)
theorem i_Md_holdsOn_62 : mj_Snd zG ("StreamWatchModel", "holdsOn", c_Md_holdsOn, 4) 62 (x_aload 0) 63 := mj_aload_n (j := 0) rfl (by decide +kernel)
theorem i_Md_holdsOn_63 : mj_Snd zG ("StreamWatchModel", "holdsOn", c_Md_holdsOn, 4) 63 (x_getf 11 28) 66 := mj_getf (T := T_Md) rfl (by decide) u_Md z4_93 (by decide +kernel)
theorem d_Md_holdsOn_66 : decode c_Md_holdsOn 66 = .ok (.ifCond .ne 27, 3) := by decide +kernel
theorem i_Md_holdsOn_69 : mj_Snd zG ("StreamWatchModel", "holdsOn", c_Md_holdsOn, 4) 69 (x_aload 0) 70 := mj_aload_n (j := 0) rfl (by decide +kernel)
theorem i_Md_holdsOn_70 : mj_Snd zG ("StreamWatchModel", "holdsOn", c_Md_holdsOn, 4) 70 (x_getf 11 22) 73 := mj_getf (T := T_Md) rfl (by decide) u_Md z4_87 (by decide +kernel)
theorem i_Md_holdsOn_73 : mj_Snd zG ("StreamWatchModel", "holdsOn", c_Md_holdsOn, 4) 73 (x_iload 1) 74 := mj_iload_n (j := 1) rfl (by decide +kernel)
theorem i_Md_holdsOn_74 : mj_Snd zG ("StreamWatchModel", "holdsOn", c_Md_holdsOn, 4) 74 (x_iald 0) 75 := mj_iald rfl (by decide +kernel)
theorem d_Md_holdsOn_75 : decode c_Md_holdsOn 75 = .ok (.ifCond .le 16, 3) := by decide +kernel
theorem i_Md_holdsOn_78 : mj_Snd zG ("StreamWatchModel", "holdsOn", c_Md_holdsOn, 4) 78 (x_aload 0) 79 := mj_aload_n (j := 0) rfl (by decide +kernel)
theorem i_Md_holdsOn_79 : mj_Snd zG ("StreamWatchModel", "holdsOn", c_Md_holdsOn, 4) 79 (x_iload 1) 80 := mj_iload_n (j := 1) rfl (by decide +kernel)
theorem i_Md_holdsOn_80 : mj_Snd zG ("StreamWatchModel", "holdsOn", c_Md_holdsOn, 4) 80 (x_iload 2) 81 := mj_iload_n (j := 2) rfl (by decide +kernel)
theorem d_Md_holdsOn_81 : decode c_Md_holdsOn 81 = .ok (.invokevirtual 155, 3) := by decide +kernel
theorem d_Md_holdsOn_84 : decode c_Md_holdsOn 84 = .ok (.ifCond .eq 7, 3) := by decide +kernel
theorem i_Md_holdsOn_87 : mj_Snd zG ("StreamWatchModel", "holdsOn", c_Md_holdsOn, 4) 87 (x_const 1) 88 := mj_const (n := 1) (by decide) (by decide +kernel)
theorem i_Md_holdsOn_88 : mj_Snd zG ("StreamWatchModel", "holdsOn", c_Md_holdsOn, 4) 88 (x_skip) 92 := mj_goto (off := 4) (by decide) (by decide +kernel)
theorem i_Md_holdsOn_91 : mj_Snd zG ("StreamWatchModel", "holdsOn", c_Md_holdsOn, 4) 91 (x_const 0) 92 := mj_const (n := 0) (by decide) (by decide +kernel)
theorem d_Md_holdsOn_92 : decode c_Md_holdsOn 92 = .ok (.ireturn, 1) := by decide +kernel
theorem i_Md_holdsOn_93 : mj_Snd zG ("StreamWatchModel", "holdsOn", c_Md_holdsOn, 4) 93 (x_const 0) 94 := mj_const (n := 0) (by decide) (by decide +kernel)
theorem i_Md_holdsOn_94 : mj_Snd zG ("StreamWatchModel", "holdsOn", c_Md_holdsOn, 4) 94 (x_istore 3) 95 := mj_istore_n (j := 3) rfl (by decide) (by decide +kernel)
theorem i_Md_holdsOn_95 : mj_Snd zG ("StreamWatchModel", "holdsOn", c_Md_holdsOn, 4) 95 (x_aload 0) 96 := mj_aload_n (j := 0) rfl (by decide +kernel)
theorem i_Md_holdsOn_96 : mj_Snd zG ("StreamWatchModel", "holdsOn", c_Md_holdsOn, 4) 96 (x_getf 11 30) 99 := mj_getf (T := T_Md) rfl (by decide) u_Md z4_95 (by decide +kernel)
theorem i_Md_holdsOn_99 : mj_Snd zG ("StreamWatchModel", "holdsOn", c_Md_holdsOn, 4) 99 (x_const 0) 100 := mj_const (n := 0) (by decide) (by decide +kernel)
theorem i_Md_holdsOn_100 : mj_Snd zG ("StreamWatchModel", "holdsOn", c_Md_holdsOn, 4) 100 (x_const (-1)) 101 := mj_const (n := (-1)) (by decide) (by decide +kernel)
theorem i_Md_holdsOn_101 : mj_Snd zG ("StreamWatchModel", "holdsOn", c_Md_holdsOn, 4) 101 (x_iast 0) 102 := mj_iast rfl (by decide +kernel)
theorem i_Md_holdsOn_102 : mj_Snd zG ("StreamWatchModel", "holdsOn", c_Md_holdsOn, 4) 102 (x_iload 3) 103 := mj_iload_n (j := 3) rfl (by decide +kernel)
theorem d_Md_holdsOn_103 : decode c_Md_holdsOn 103 = .ok (.ifCond .lt 99, 3) := by decide +kernel
theorem i_Md_holdsOn_106 : mj_Snd zG ("StreamWatchModel", "holdsOn", c_Md_holdsOn, 4) 106 (x_aload 0) 107 := mj_aload_n (j := 0) rfl (by decide +kernel)
theorem i_Md_holdsOn_107 : mj_Snd zG ("StreamWatchModel", "holdsOn", c_Md_holdsOn, 4) 107 (x_getf 11 30) 110 := mj_getf (T := T_Md) rfl (by decide) u_Md z4_95 (by decide +kernel)
theorem i_Md_holdsOn_110 : mj_Snd zG ("StreamWatchModel", "holdsOn", c_Md_holdsOn, 4) 110 (x_iload 3) 111 := mj_iload_n (j := 3) rfl (by decide +kernel)
theorem i_Md_holdsOn_111 : mj_Snd zG ("StreamWatchModel", "holdsOn", c_Md_holdsOn, 4) 111 (x_dup2) 112 := mj_dup2 (by decide +kernel)
theorem i_Md_holdsOn_112 : mj_Snd zG ("StreamWatchModel", "holdsOn", c_Md_holdsOn, 4) 112 (x_iald 0) 113 := mj_iald rfl (by decide +kernel)
theorem i_Md_holdsOn_113 : mj_Snd zG ("StreamWatchModel", "holdsOn", c_Md_holdsOn, 4) 113 (x_const 1) 114 := mj_const (n := 1) (by decide) (by decide +kernel)
theorem i_Md_holdsOn_114 : mj_Snd zG ("StreamWatchModel", "holdsOn", c_Md_holdsOn, 4) 114 (x_iadd) 115 := mj_iadd (by decide +kernel)
theorem i_Md_holdsOn_115 : mj_Snd zG ("StreamWatchModel", "holdsOn", c_Md_holdsOn, 4) 115 (x_iast 0) 116 := mj_iast rfl (by decide +kernel)
theorem i_Md_holdsOn_116 : mj_Snd zG ("StreamWatchModel", "holdsOn", c_Md_holdsOn, 4) 116 (x_aload 0) 117 := mj_aload_n (j := 0) rfl (by decide +kernel)
theorem i_Md_holdsOn_117 : mj_Snd zG ("StreamWatchModel", "holdsOn", c_Md_holdsOn, 4) 117 (x_getf 11 30) 120 := mj_getf (T := T_Md) rfl (by decide) u_Md z4_95 (by decide +kernel)
theorem i_Md_holdsOn_120 : mj_Snd zG ("StreamWatchModel", "holdsOn", c_Md_holdsOn, 4) 120 (x_iload 3) 121 := mj_iload_n (j := 3) rfl (by decide +kernel)
theorem i_Md_holdsOn_121 : mj_Snd zG ("StreamWatchModel", "holdsOn", c_Md_holdsOn, 4) 121 (x_iald 0) 122 := mj_iald rfl (by decide +kernel)
theorem i_Md_holdsOn_122 : mj_Snd zG ("StreamWatchModel", "holdsOn", c_Md_holdsOn, 4) 122 (x_aload 0) 123 := mj_aload_n (j := 0) rfl (by decide +kernel)
theorem i_Md_holdsOn_123 : mj_Snd zG ("StreamWatchModel", "holdsOn", c_Md_holdsOn, 4) 123 (x_getf 11 14) 126 := mj_getf (T := T_Md) rfl (by decide) u_Md z4_79 (by decide +kernel)
theorem i_Md_holdsOn_126 : mj_Snd zG ("StreamWatchModel", "holdsOn", c_Md_holdsOn, 4) 126 (x_iload 2) 127 := mj_iload_n (j := 2) rfl (by decide +kernel)
theorem i_Md_holdsOn_127 : mj_Snd zG ("StreamWatchModel", "holdsOn", c_Md_holdsOn, 4) 127 (x_iald 0) 128 := mj_iald rfl (by decide +kernel)
theorem d_Md_holdsOn_128 : decode c_Md_holdsOn 128 = .ok (.if_icmp .lt 9, 3) := by decide +kernel
theorem i_Md_holdsOn_131 : mj_Snd zG ("StreamWatchModel", "holdsOn", c_Md_holdsOn, 4) 131 (x_iinc 3 (-1)) 134 := mj_iinc (n := (-1)) (by decide) (by decide) (by decide +kernel)
theorem i_Md_holdsOn_134 : mj_Snd zG ("StreamWatchModel", "holdsOn", c_Md_holdsOn, 4) 134 (x_skip) 102 := mj_goto (off := (-32)) (by decide) (by decide +kernel)
theorem i_Md_holdsOn_137 : mj_Snd zG ("StreamWatchModel", "holdsOn", c_Md_holdsOn, 4) 137 (x_aload 0) 138 := mj_aload_n (j := 0) rfl (by decide +kernel)
theorem i_Md_holdsOn_138 : mj_Snd zG ("StreamWatchModel", "holdsOn", c_Md_holdsOn, 4) 138 (x_aload 0) 139 := mj_aload_n (j := 0) rfl (by decide +kernel)
theorem i_Md_holdsOn_139 : mj_Snd zG ("StreamWatchModel", "holdsOn", c_Md_holdsOn, 4) 139 (x_getf 11 29) 142 := mj_getf (T := T_Md) rfl (by decide) u_Md z4_94 (by decide +kernel)
theorem i_Md_holdsOn_142 : mj_Snd zG ("StreamWatchModel", "holdsOn", c_Md_holdsOn, 4) 142 (x_iload 3) 143 := mj_iload_n (j := 3) rfl (by decide +kernel)
theorem i_Md_holdsOn_143 : mj_Snd zG ("StreamWatchModel", "holdsOn", c_Md_holdsOn, 4) 143 (x_iald 0) 144 := mj_iald rfl (by decide +kernel)
theorem i_Md_holdsOn_144 : mj_Snd zG ("StreamWatchModel", "holdsOn", c_Md_holdsOn, 4) 144 (x_iload 2) 145 := mj_iload_n (j := 2) rfl (by decide +kernel)
theorem i_Md_holdsOn_145 : mj_Snd zG ("StreamWatchModel", "holdsOn", c_Md_holdsOn, 4) 145 (x_aload 0) 146 := mj_aload_n (j := 0) rfl (by decide +kernel)
theorem i_Md_holdsOn_146 : mj_Snd zG ("StreamWatchModel", "holdsOn", c_Md_holdsOn, 4) 146 (x_getf 11 30) 149 := mj_getf (T := T_Md) rfl (by decide) u_Md z4_95 (by decide +kernel)
theorem i_Md_holdsOn_149 : mj_Snd zG ("StreamWatchModel", "holdsOn", c_Md_holdsOn, 4) 149 (x_iload 3) 150 := mj_iload_n (j := 3) rfl (by decide +kernel)
theorem i_Md_holdsOn_150 : mj_Snd zG ("StreamWatchModel", "holdsOn", c_Md_holdsOn, 4) 150 (x_iald 0) 151 := mj_iald rfl (by decide +kernel)
theorem i_Md_holdsOn_151 : mj_Snd zG ("StreamWatchModel", "holdsOn", c_Md_holdsOn, 4) 151 (x_aload 0) 152 := mj_aload_n (j := 0) rfl (by decide +kernel)
theorem i_Md_holdsOn_152 : mj_Snd zG ("StreamWatchModel", "holdsOn", c_Md_holdsOn, 4) 152 (x_aload 0) 153 := mj_aload_n (j := 0) rfl (by decide +kernel)
theorem i_Md_holdsOn_153 : mj_Snd zG ("StreamWatchModel", "holdsOn", c_Md_holdsOn, 4) 153 (x_getf 11 29) 156 := mj_getf (T := T_Md) rfl (by decide) u_Md z4_94 (by decide +kernel)
theorem i_Md_holdsOn_156 : mj_Snd zG ("StreamWatchModel", "holdsOn", c_Md_holdsOn, 4) 156 (x_iload 3) 157 := mj_iload_n (j := 3) rfl (by decide +kernel)
theorem i_Md_holdsOn_157 : mj_Snd zG ("StreamWatchModel", "holdsOn", c_Md_holdsOn, 4) 157 (x_iald 0) 158 := mj_iald rfl (by decide +kernel)
theorem i_Md_holdsOn_158 : mj_Snd zG ("StreamWatchModel", "holdsOn", c_Md_holdsOn, 4) 158 (x_iload 3) 159 := mj_iload_n (j := 3) rfl (by decide +kernel)
theorem d_Md_holdsOn_159 : decode c_Md_holdsOn 159 = .ok (.invokevirtual 148, 3) := by decide +kernel
theorem d_Md_holdsOn_162 : decode c_Md_holdsOn 162 = .ok (.invokevirtual 151, 3) := by decide +kernel
theorem d_Md_holdsOn_165 : decode c_Md_holdsOn 165 = .ok (.ifCond .eq (-63), 3) := by decide +kernel
theorem i_Md_holdsOn_168 : mj_Snd zG ("StreamWatchModel", "holdsOn", c_Md_holdsOn, 4) 168 (x_iload 3) 169 := mj_iload_n (j := 3) rfl (by decide +kernel)
theorem i_Md_holdsOn_169 : mj_Snd zG ("StreamWatchModel", "holdsOn", c_Md_holdsOn, 4) 169 (x_const 1) 170 := mj_const (n := 1) (by decide) (by decide +kernel)
theorem i_Md_holdsOn_170 : mj_Snd zG ("StreamWatchModel", "holdsOn", c_Md_holdsOn, 4) 170 (x_iadd) 171 := mj_iadd (by decide +kernel)
theorem i_Md_holdsOn_171 : mj_Snd zG ("StreamWatchModel", "holdsOn", c_Md_holdsOn, 4) 171 (x_aload 0) 172 := mj_aload_n (j := 0) rfl (by decide +kernel)
theorem i_Md_holdsOn_172 : mj_Snd zG ("StreamWatchModel", "holdsOn", c_Md_holdsOn, 4) 172 (x_getf 11 28) 175 := mj_getf (T := T_Md) rfl (by decide) u_Md z4_93 (by decide +kernel)
theorem d_Md_holdsOn_175 : decode c_Md_holdsOn 175 = .ok (.if_icmp .ge 16, 3) := by decide +kernel
theorem i_Md_holdsOn_178 : mj_Snd zG ("StreamWatchModel", "holdsOn", c_Md_holdsOn, 4) 178 (x_iinc 3 1) 181 := mj_iinc (n := 1) (by decide) (by decide) (by decide +kernel)
theorem i_Md_holdsOn_181 : mj_Snd zG ("StreamWatchModel", "holdsOn", c_Md_holdsOn, 4) 181 (x_aload 0) 182 := mj_aload_n (j := 0) rfl (by decide +kernel)
theorem i_Md_holdsOn_182 : mj_Snd zG ("StreamWatchModel", "holdsOn", c_Md_holdsOn, 4) 182 (x_getf 11 30) 185 := mj_getf (T := T_Md) rfl (by decide) u_Md z4_95 (by decide +kernel)
theorem i_Md_holdsOn_185 : mj_Snd zG ("StreamWatchModel", "holdsOn", c_Md_holdsOn, 4) 185 (x_iload 3) 186 := mj_iload_n (j := 3) rfl (by decide +kernel)
theorem i_Md_holdsOn_186 : mj_Snd zG ("StreamWatchModel", "holdsOn", c_Md_holdsOn, 4) 186 (x_const (-1)) 187 := mj_const (n := (-1)) (by decide) (by decide +kernel)
theorem i_Md_holdsOn_187 : mj_Snd zG ("StreamWatchModel", "holdsOn", c_Md_holdsOn, 4) 187 (x_iast 0) 188 := mj_iast rfl (by decide +kernel)
theorem i_Md_holdsOn_188 : mj_Snd zG ("StreamWatchModel", "holdsOn", c_Md_holdsOn, 4) 188 (x_skip) 102 := mj_goto (off := (-86)) (by decide) (by decide +kernel)
theorem i_Md_holdsOn_191 : mj_Snd zG ("StreamWatchModel", "holdsOn", c_Md_holdsOn, 4) 191 (x_aload 0) 192 := mj_aload_n (j := 0) rfl (by decide +kernel)
theorem i_Md_holdsOn_192 : mj_Snd zG ("StreamWatchModel", "holdsOn", c_Md_holdsOn, 4) 192 (x_iload 1) 193 := mj_iload_n (j := 1) rfl (by decide +kernel)
theorem i_Md_holdsOn_193 : mj_Snd zG ("StreamWatchModel", "holdsOn", c_Md_holdsOn, 4) 193 (x_iload 2) 194 := mj_iload_n (j := 2) rfl (by decide +kernel)
theorem d_Md_holdsOn_194 : decode c_Md_holdsOn 194 = .ok (.invokevirtual 155, 3) := by decide +kernel
theorem d_Md_holdsOn_197 : decode c_Md_holdsOn 197 = .ok (.ifCond .eq (-95), 3) := by decide +kernel
theorem i_Md_holdsOn_200 : mj_Snd zG ("StreamWatchModel", "holdsOn", c_Md_holdsOn, 4) 200 (x_const 1) 201 := mj_const (n := 1) (by decide) (by decide +kernel)
theorem d_Md_holdsOn_201 : decode c_Md_holdsOn 201 = .ok (.ireturn, 1) := by decide +kernel
theorem i_Md_holdsOn_202 : mj_Snd zG ("StreamWatchModel", "holdsOn", c_Md_holdsOn, 4) 202 (x_const 0) 203 := mj_const (n := 0) (by decide) (by decide +kernel)
theorem d_Md_holdsOn_203 : decode c_Md_holdsOn 203 = .ok (.ireturn, 1) := by decide +kernel
theorem b_Md_holdsOn_0 : mj_Ch zG ("StreamWatchModel", "holdsOn", c_Md_holdsOn, 4) 0 [x_aload 0, x_const 0, x_putf 11 28 0, x_const 0, x_istore 3] 7 := ⟨_, i_Md_holdsOn_0, _, i_Md_holdsOn_1, _, i_Md_holdsOn_2, _, i_Md_holdsOn_5, _, i_Md_holdsOn_6, rfl⟩
theorem b_Md_holdsOn_7 : mj_Ch zG ("StreamWatchModel", "holdsOn", c_Md_holdsOn, 4) 7 [x_iload 3, x_aload 0, x_getf 11 22, x_iload 1, x_iald 0] 14 := ⟨_, i_Md_holdsOn_7, _, i_Md_holdsOn_8, _, i_Md_holdsOn_9, _, i_Md_holdsOn_12, _, i_Md_holdsOn_13, rfl⟩
theorem b_Md_holdsOn_17 : mj_Ch zG ("StreamWatchModel", "holdsOn", c_Md_holdsOn, 4) 17 [x_aload 0, x_getf 11 25, x_const 3, x_iload 1, x_imul, x_iload 3, x_iadd, x_iald 0, x_const 2, x_iand] 29 := ⟨_, i_Md_holdsOn_17, _, i_Md_holdsOn_18, _, i_Md_holdsOn_21, _, i_Md_holdsOn_22, _, i_Md_holdsOn_23, _, i_Md_holdsOn_24, _, i_Md_holdsOn_25, _, i_Md_holdsOn_26, _, i_Md_holdsOn_27, _, i_Md_holdsOn_28, rfl⟩
theorem b_Md_holdsOn_32 : mj_Ch zG ("StreamWatchModel", "holdsOn", c_Md_holdsOn, 4) 32 [x_aload 0, x_getf 11 29, x_aload 0, x_getf 11 28, x_const 3, x_iload 1, x_imul, x_iload 3, x_iadd, x_iast 0, x_aload 0, x_dup, x_getf 11 28, x_const 1, x_iadd, x_putf 11 28 0] 56 := ⟨_, i_Md_holdsOn_32, _, i_Md_holdsOn_33, _, i_Md_holdsOn_36, _, i_Md_holdsOn_37, _, i_Md_holdsOn_40, _, i_Md_holdsOn_41, _, i_Md_holdsOn_42, _, i_Md_holdsOn_43, _, i_Md_holdsOn_44, _, i_Md_holdsOn_45, _, i_Md_holdsOn_46, _, i_Md_holdsOn_47, _, i_Md_holdsOn_48, _, i_Md_holdsOn_51, _, i_Md_holdsOn_52, _, i_Md_holdsOn_53, rfl⟩
theorem b_Md_holdsOn_56 : mj_Ch zG ("StreamWatchModel", "holdsOn", c_Md_holdsOn, 4) 56 [x_iinc 3 1, x_skip] 7 := ⟨_, i_Md_holdsOn_56, _, i_Md_holdsOn_59, rfl⟩
theorem b_Md_holdsOn_62 : mj_Ch zG ("StreamWatchModel", "holdsOn", c_Md_holdsOn, 4) 62 [x_aload 0, x_getf 11 28] 66 := ⟨_, i_Md_holdsOn_62, _, i_Md_holdsOn_63, rfl⟩
theorem b_Md_holdsOn_69 : mj_Ch zG ("StreamWatchModel", "holdsOn", c_Md_holdsOn, 4) 69 [x_aload 0, x_getf 11 22, x_iload 1, x_iald 0] 75 := ⟨_, i_Md_holdsOn_69, _, i_Md_holdsOn_70, _, i_Md_holdsOn_73, _, i_Md_holdsOn_74, rfl⟩
theorem b_Md_holdsOn_78 : mj_Ch zG ("StreamWatchModel", "holdsOn", c_Md_holdsOn, 4) 78 [x_aload 0, x_iload 1, x_iload 2] 81 := ⟨_, i_Md_holdsOn_78, _, i_Md_holdsOn_79, _, i_Md_holdsOn_80, rfl⟩
theorem b_Md_holdsOn_87 : mj_Ch zG ("StreamWatchModel", "holdsOn", c_Md_holdsOn, 4) 87 [x_const 1, x_skip] 92 := ⟨_, i_Md_holdsOn_87, _, i_Md_holdsOn_88, rfl⟩
theorem b_Md_holdsOn_91 : mj_Ch zG ("StreamWatchModel", "holdsOn", c_Md_holdsOn, 4) 91 [x_const 0] 92 := ⟨_, i_Md_holdsOn_91, rfl⟩
theorem b_Md_holdsOn_93 : mj_Ch zG ("StreamWatchModel", "holdsOn", c_Md_holdsOn, 4) 93 [x_const 0, x_istore 3, x_aload 0, x_getf 11 30, x_const 0, x_const (-1), x_iast 0] 102 := ⟨_, i_Md_holdsOn_93, _, i_Md_holdsOn_94, _, i_Md_holdsOn_95, _, i_Md_holdsOn_96, _, i_Md_holdsOn_99, _, i_Md_holdsOn_100, _, i_Md_holdsOn_101, rfl⟩
theorem b_Md_holdsOn_102 : mj_Ch zG ("StreamWatchModel", "holdsOn", c_Md_holdsOn, 4) 102 [x_iload 3] 103 := ⟨_, i_Md_holdsOn_102, rfl⟩
theorem b_Md_holdsOn_106 : mj_Ch zG ("StreamWatchModel", "holdsOn", c_Md_holdsOn, 4) 106 [x_aload 0, x_getf 11 30, x_iload 3, x_dup2, x_iald 0, x_const 1, x_iadd, x_iast 0, x_aload 0, x_getf 11 30, x_iload 3, x_iald 0, x_aload 0, x_getf 11 14, x_iload 2, x_iald 0] 128 := ⟨_, i_Md_holdsOn_106, _, i_Md_holdsOn_107, _, i_Md_holdsOn_110, _, i_Md_holdsOn_111, _, i_Md_holdsOn_112, _, i_Md_holdsOn_113, _, i_Md_holdsOn_114, _, i_Md_holdsOn_115, _, i_Md_holdsOn_116, _, i_Md_holdsOn_117, _, i_Md_holdsOn_120, _, i_Md_holdsOn_121, _, i_Md_holdsOn_122, _, i_Md_holdsOn_123, _, i_Md_holdsOn_126, _, i_Md_holdsOn_127, rfl⟩
theorem b_Md_holdsOn_131 : mj_Ch zG ("StreamWatchModel", "holdsOn", c_Md_holdsOn, 4) 131 [x_iinc 3 (-1), x_skip] 102 := ⟨_, i_Md_holdsOn_131, _, i_Md_holdsOn_134, rfl⟩
theorem b_Md_holdsOn_137 : mj_Ch zG ("StreamWatchModel", "holdsOn", c_Md_holdsOn, 4) 137 [x_aload 0, x_aload 0, x_getf 11 29, x_iload 3, x_iald 0, x_iload 2, x_aload 0, x_getf 11 30, x_iload 3, x_iald 0, x_aload 0, x_aload 0, x_getf 11 29, x_iload 3, x_iald 0, x_iload 3] 159 := ⟨_, i_Md_holdsOn_137, _, i_Md_holdsOn_138, _, i_Md_holdsOn_139, _, i_Md_holdsOn_142, _, i_Md_holdsOn_143, _, i_Md_holdsOn_144, _, i_Md_holdsOn_145, _, i_Md_holdsOn_146, _, i_Md_holdsOn_149, _, i_Md_holdsOn_150, _, i_Md_holdsOn_151, _, i_Md_holdsOn_152, _, i_Md_holdsOn_153, _, i_Md_holdsOn_156, _, i_Md_holdsOn_157, _, i_Md_holdsOn_158, rfl⟩
theorem b_Md_holdsOn_168 : mj_Ch zG ("StreamWatchModel", "holdsOn", c_Md_holdsOn, 4) 168 [x_iload 3, x_const 1, x_iadd, x_aload 0, x_getf 11 28] 175 := ⟨_, i_Md_holdsOn_168, _, i_Md_holdsOn_169, _, i_Md_holdsOn_170, _, i_Md_holdsOn_171, _, i_Md_holdsOn_172, rfl⟩
theorem b_Md_holdsOn_178 : mj_Ch zG ("StreamWatchModel", "holdsOn", c_Md_holdsOn, 4) 178 [x_iinc 3 1, x_aload 0, x_getf 11 30, x_iload 3, x_const (-1), x_iast 0, x_skip] 102 := ⟨_, i_Md_holdsOn_178, _, i_Md_holdsOn_181, _, i_Md_holdsOn_182, _, i_Md_holdsOn_185, _, i_Md_holdsOn_186, _, i_Md_holdsOn_187, _, i_Md_holdsOn_188, rfl⟩
theorem b_Md_holdsOn_191 : mj_Ch zG ("StreamWatchModel", "holdsOn", c_Md_holdsOn, 4) 191 [x_aload 0, x_iload 1, x_iload 2] 194 := ⟨_, i_Md_holdsOn_191, _, i_Md_holdsOn_192, _, i_Md_holdsOn_193, rfl⟩
theorem b_Md_holdsOn_200 : mj_Ch zG ("StreamWatchModel", "holdsOn", c_Md_holdsOn, 4) 200 [x_const 1] 201 := ⟨_, i_Md_holdsOn_200, rfl⟩
theorem b_Md_holdsOn_202 : mj_Ch zG ("StreamWatchModel", "holdsOn", c_Md_holdsOn, 4) 202 [x_const 0] 203 := ⟨_, i_Md_holdsOn_202, rfl⟩
theorem i_Md_look_0 : mj_Snd zG ("StreamWatchModel", "look", c_Md_look, 7) 0 (x_const 0) 1 := mj_const (n := 0) (by decide) (by decide +kernel)
theorem i_Md_look_1 : mj_Snd zG ("StreamWatchModel", "look", c_Md_look, 7) 1 (x_istore 2) 2 := mj_istore_n (j := 2) rfl (by decide) (by decide +kernel)
theorem i_Md_look_2 : mj_Snd zG ("StreamWatchModel", "look", c_Md_look, 7) 2 (x_iload 1) 3 := mj_iload_n (j := 1) rfl (by decide +kernel)
theorem i_Md_look_3 : mj_Snd zG ("StreamWatchModel", "look", c_Md_look, 7) 3 (x_const 2) 4 := mj_const (n := 2) (by decide) (by decide +kernel)
theorem i_Md_look_4 : mj_Snd zG ("StreamWatchModel", "look", c_Md_look, 7) 4 (x_idiv) 5 := mj_idiv (by decide +kernel)
theorem i_Md_look_5 : mj_Snd zG ("StreamWatchModel", "look", c_Md_look, 7) 5 (x_istore 3) 6 := mj_istore_n (j := 3) rfl (by decide) (by decide +kernel)
theorem i_Md_look_6 : mj_Snd zG ("StreamWatchModel", "look", c_Md_look, 7) 6 (x_const 0) 7 := mj_const (n := 0) (by decide) (by decide +kernel)
theorem i_Md_look_7 : mj_Snd zG ("StreamWatchModel", "look", c_Md_look, 7) 7 (x_istore 4) 9 := mj_istore (by decide) (by decide +kernel)
theorem i_Md_look_9 : mj_Snd zG ("StreamWatchModel", "look", c_Md_look, 7) 9 (x_iload 4) 11 := mj_iload (by decide +kernel)
theorem i_Md_look_11 : mj_Snd zG ("StreamWatchModel", "look", c_Md_look, 7) 11 (x_aload 0) 12 := mj_aload_n (j := 0) rfl (by decide +kernel)
theorem i_Md_look_12 : mj_Snd zG ("StreamWatchModel", "look", c_Md_look, 7) 12 (x_getf 11 19) 15 := mj_getf (T := T_Md) rfl (by decide) u_Md z4_84 (by decide +kernel)
theorem d_Md_look_15 : decode c_Md_look 15 = .ok (.if_icmp .ge 195, 3) := by decide +kernel
theorem i_Md_look_18 : mj_Snd zG ("StreamWatchModel", "look", c_Md_look, 7) 18 (x_aload 0) 19 := mj_aload_n (j := 0) rfl (by decide +kernel)
theorem i_Md_look_19 : mj_Snd zG ("StreamWatchModel", "look", c_Md_look, 7) 19 (x_getf 11 20) 22 := mj_getf (T := T_Md) rfl (by decide) u_Md z4_85 (by decide +kernel)
theorem i_Md_look_22 : mj_Snd zG ("StreamWatchModel", "look", c_Md_look, 7) 22 (x_iload 4) 24 := mj_iload (by decide +kernel)
theorem i_Md_look_24 : mj_Snd zG ("StreamWatchModel", "look", c_Md_look, 7) 24 (x_iald 0) 25 := mj_iald rfl (by decide +kernel)
theorem i_Md_look_25 : mj_Snd zG ("StreamWatchModel", "look", c_Md_look, 7) 25 (x_const 2) 26 := mj_const (n := 2) (by decide) (by decide +kernel)
theorem d_Md_look_26 : decode c_Md_look 26 = .ok (.if_icmp .eq 16, 3) := by decide +kernel
theorem i_Md_look_29 : mj_Snd zG ("StreamWatchModel", "look", c_Md_look, 7) 29 (x_aload 0) 30 := mj_aload_n (j := 0) rfl (by decide +kernel)
theorem i_Md_look_30 : mj_Snd zG ("StreamWatchModel", "look", c_Md_look, 7) 30 (x_getf 11 20) 33 := mj_getf (T := T_Md) rfl (by decide) u_Md z4_85 (by decide +kernel)
theorem i_Md_look_33 : mj_Snd zG ("StreamWatchModel", "look", c_Md_look, 7) 33 (x_iload 4) 35 := mj_iload (by decide +kernel)
theorem i_Md_look_35 : mj_Snd zG ("StreamWatchModel", "look", c_Md_look, 7) 35 (x_iald 0) 36 := mj_iald rfl (by decide +kernel)
theorem i_Md_look_36 : mj_Snd zG ("StreamWatchModel", "look", c_Md_look, 7) 36 (x_iload 1) 37 := mj_iload_n (j := 1) rfl (by decide +kernel)
theorem i_Md_look_37 : mj_Snd zG ("StreamWatchModel", "look", c_Md_look, 7) 37 (x_const 2) 38 := mj_const (n := 2) (by decide) (by decide +kernel)
theorem i_Md_look_38 : mj_Snd zG ("StreamWatchModel", "look", c_Md_look, 7) 38 (x_irem) 39 := mj_irem (by decide +kernel)
theorem d_Md_look_39 : decode c_Md_look 39 = .ok (.if_icmp .ne 33, 3) := by decide +kernel
theorem i_Md_look_42 : mj_Snd zG ("StreamWatchModel", "look", c_Md_look, 7) 42 (x_aload 0) 43 := mj_aload_n (j := 0) rfl (by decide +kernel)
theorem i_Md_look_43 : mj_Snd zG ("StreamWatchModel", "look", c_Md_look, 7) 43 (x_getf 11 21) 46 := mj_getf (T := T_Md) rfl (by decide) u_Md z4_86 (by decide +kernel)
theorem i_Md_look_46 : mj_Snd zG ("StreamWatchModel", "look", c_Md_look, 7) 46 (x_iload 4) 48 := mj_iload (by decide +kernel)
theorem i_Md_look_48 : mj_Snd zG ("StreamWatchModel", "look", c_Md_look, 7) 48 (x_iald 0) 49 := mj_iald rfl (by decide +kernel)
theorem d_Md_look_49 : decode c_Md_look 49 = .ok (.ifCond .eq 19, 3) := by decide +kernel
theorem i_Md_look_52 : mj_Snd zG ("StreamWatchModel", "look", c_Md_look, 7) 52 (x_aload 0) 53 := mj_aload_n (j := 0) rfl (by decide +kernel)
theorem i_Md_look_53 : mj_Snd zG ("StreamWatchModel", "look", c_Md_look, 7) 53 (x_getf 11 21) 56 := mj_getf (T := T_Md) rfl (by decide) u_Md z4_86 (by decide +kernel)
theorem i_Md_look_56 : mj_Snd zG ("StreamWatchModel", "look", c_Md_look, 7) 56 (x_iload 4) 58 := mj_iload (by decide +kernel)
theorem i_Md_look_58 : mj_Snd zG ("StreamWatchModel", "look", c_Md_look, 7) 58 (x_iald 0) 59 := mj_iald rfl (by decide +kernel)
theorem i_Md_look_59 : mj_Snd zG ("StreamWatchModel", "look", c_Md_look, 7) 59 (x_aload 0) 60 := mj_aload_n (j := 0) rfl (by decide +kernel)
theorem i_Md_look_60 : mj_Snd zG ("StreamWatchModel", "look", c_Md_look, 7) 60 (x_getf 11 8) 63 := mj_getf (T := T_Md) rfl (by decide) u_Md z4_73 (by decide +kernel)
theorem i_Md_look_63 : mj_Snd zG ("StreamWatchModel", "look", c_Md_look, 7) 63 (x_iload 3) 64 := mj_iload_n (j := 3) rfl (by decide +kernel)
theorem i_Md_look_64 : mj_Snd zG ("StreamWatchModel", "look", c_Md_look, 7) 64 (x_iald 0) 65 := mj_iald rfl (by decide +kernel)
theorem d_Md_look_65 : decode c_Md_look 65 = .ok (.if_icmp .ne 7, 3) := by decide +kernel
theorem i_Md_look_68 : mj_Snd zG ("StreamWatchModel", "look", c_Md_look, 7) 68 (x_const 1) 69 := mj_const (n := 1) (by decide) (by decide +kernel)
theorem i_Md_look_69 : mj_Snd zG ("StreamWatchModel", "look", c_Md_look, 7) 69 (x_skip) 73 := mj_goto (off := 4) (by decide) (by decide +kernel)
theorem i_Md_look_72 : mj_Snd zG ("StreamWatchModel", "look", c_Md_look, 7) 72 (x_const 0) 73 := mj_const (n := 0) (by decide) (by decide +kernel)
theorem i_Md_look_73 : mj_Snd zG ("StreamWatchModel", "look", c_Md_look, 7) 73 (x_istore 5) 75 := mj_istore (by decide) (by decide +kernel)
theorem i_Md_look_75 : mj_Snd zG ("StreamWatchModel", "look", c_Md_look, 7) 75 (x_iload 5) 77 := mj_iload (by decide +kernel)
theorem d_Md_look_77 : decode c_Md_look 77 = .ok (.ifCond .eq 127, 3) := by decide +kernel
theorem i_Md_look_80 : mj_Snd zG ("StreamWatchModel", "look", c_Md_look, 7) 80 (x_aload 0) 81 := mj_aload_n (j := 0) rfl (by decide +kernel)
theorem i_Md_look_81 : mj_Snd zG ("StreamWatchModel", "look", c_Md_look, 7) 81 (x_getf 11 18) 84 := mj_getf (T := T_Md) rfl (by decide) u_Md z4_83 (by decide +kernel)
theorem i_Md_look_84 : mj_Snd zG ("StreamWatchModel", "look", c_Md_look, 7) 84 (x_const 6) 86 := mj_bipush (n := 6) (by decide) (by decide +kernel)
theorem i_Md_look_86 : mj_Snd zG ("StreamWatchModel", "look", c_Md_look, 7) 86 (x_iload 1) 87 := mj_iload_n (j := 1) rfl (by decide +kernel)
theorem i_Md_look_87 : mj_Snd zG ("StreamWatchModel", "look", c_Md_look, 7) 87 (x_imul) 88 := mj_imul (by decide +kernel)
theorem i_Md_look_88 : mj_Snd zG ("StreamWatchModel", "look", c_Md_look, 7) 88 (x_iload 4) 90 := mj_iload (by decide +kernel)
theorem i_Md_look_90 : mj_Snd zG ("StreamWatchModel", "look", c_Md_look, 7) 90 (x_iadd) 91 := mj_iadd (by decide +kernel)
theorem i_Md_look_91 : mj_Snd zG ("StreamWatchModel", "look", c_Md_look, 7) 91 (x_iald 1) 92 := mj_zald rfl (by decide +kernel)
theorem d_Md_look_92 : decode c_Md_look 92 = .ok (.ifCond .ne 112, 3) := by decide +kernel
theorem i_Md_look_95 : mj_Snd zG ("StreamWatchModel", "look", c_Md_look, 7) 95 (x_aload 0) 96 := mj_aload_n (j := 0) rfl (by decide +kernel)
theorem i_Md_look_96 : mj_Snd zG ("StreamWatchModel", "look", c_Md_look, 7) 96 (x_iload 4) 98 := mj_iload (by decide +kernel)
theorem i_Md_look_98 : mj_Snd zG ("StreamWatchModel", "look", c_Md_look, 7) 98 (x_iload 1) 99 := mj_iload_n (j := 1) rfl (by decide +kernel)
theorem d_Md_look_99 : decode c_Md_look 99 = .ok (.invokevirtual 159, 3) := by decide +kernel
theorem d_Md_look_102 : decode c_Md_look 102 = .ok (.ifCond .eq 102, 3) := by decide +kernel
theorem i_Md_look_105 : mj_Snd zG ("StreamWatchModel", "look", c_Md_look, 7) 105 (x_aload 0) 106 := mj_aload_n (j := 0) rfl (by decide +kernel)
theorem i_Md_look_106 : mj_Snd zG ("StreamWatchModel", "look", c_Md_look, 7) 106 (x_getf 11 18) 109 := mj_getf (T := T_Md) rfl (by decide) u_Md z4_83 (by decide +kernel)
theorem i_Md_look_109 : mj_Snd zG ("StreamWatchModel", "look", c_Md_look, 7) 109 (x_const 6) 111 := mj_bipush (n := 6) (by decide) (by decide +kernel)
theorem i_Md_look_111 : mj_Snd zG ("StreamWatchModel", "look", c_Md_look, 7) 111 (x_iload 1) 112 := mj_iload_n (j := 1) rfl (by decide +kernel)
theorem i_Md_look_112 : mj_Snd zG ("StreamWatchModel", "look", c_Md_look, 7) 112 (x_imul) 113 := mj_imul (by decide +kernel)
theorem i_Md_look_113 : mj_Snd zG ("StreamWatchModel", "look", c_Md_look, 7) 113 (x_iload 4) 115 := mj_iload (by decide +kernel)
theorem i_Md_look_115 : mj_Snd zG ("StreamWatchModel", "look", c_Md_look, 7) 115 (x_iadd) 116 := mj_iadd (by decide +kernel)
theorem i_Md_look_116 : mj_Snd zG ("StreamWatchModel", "look", c_Md_look, 7) 116 (x_const 1) 117 := mj_const (n := 1) (by decide) (by decide +kernel)
theorem i_Md_look_117 : mj_Snd zG ("StreamWatchModel", "look", c_Md_look, 7) 117 (x_zast 1) 118 := mj_zast rfl (by decide +kernel)
theorem i_Md_look_118 : mj_Snd zG ("StreamWatchModel", "look", c_Md_look, 7) 118 (x_const 95) 120 := mj_bipush (n := 95) (by decide) (by decide +kernel)
theorem i_Md_look_120 : mj_Snd zG ("StreamWatchModel", "look", c_Md_look, 7) 120 (x_istore 6) 122 := mj_istore (by decide) (by decide +kernel)
theorem i_Md_look_122 : mj_Snd zG ("StreamWatchModel", "look", c_Md_look, 7) 122 (x_iload 6) 124 := mj_iload (by decide +kernel)
theorem i_Md_look_124 : mj_Snd zG ("StreamWatchModel", "look", c_Md_look, 7) 124 (x_const 4) 125 := mj_const (n := 4) (by decide) (by decide +kernel)
theorem d_Md_look_125 : decode c_Md_look 125 = .ok (.if_icmp .lt 25, 3) := by decide +kernel
theorem i_Md_look_128 : mj_Snd zG ("StreamWatchModel", "look", c_Md_look, 7) 128 (x_aload 0) 129 := mj_aload_n (j := 0) rfl (by decide +kernel)
theorem i_Md_look_129 : mj_Snd zG ("StreamWatchModel", "look", c_Md_look, 7) 129 (x_getf 11 32) 132 := mj_getf (T := T_Md) rfl (by decide) u_Md z4_97 (by decide +kernel)
theorem i_Md_look_132 : mj_Snd zG ("StreamWatchModel", "look", c_Md_look, 7) 132 (x_iload 6) 134 := mj_iload (by decide +kernel)
theorem i_Md_look_134 : mj_Snd zG ("StreamWatchModel", "look", c_Md_look, 7) 134 (x_aload 0) 135 := mj_aload_n (j := 0) rfl (by decide +kernel)
theorem i_Md_look_135 : mj_Snd zG ("StreamWatchModel", "look", c_Md_look, 7) 135 (x_getf 11 32) 138 := mj_getf (T := T_Md) rfl (by decide) u_Md z4_97 (by decide +kernel)
theorem i_Md_look_138 : mj_Snd zG ("StreamWatchModel", "look", c_Md_look, 7) 138 (x_iload 6) 140 := mj_iload (by decide +kernel)
theorem i_Md_look_140 : mj_Snd zG ("StreamWatchModel", "look", c_Md_look, 7) 140 (x_const 4) 141 := mj_const (n := 4) (by decide) (by decide +kernel)
theorem i_Md_look_141 : mj_Snd zG ("StreamWatchModel", "look", c_Md_look, 7) 141 (x_isub) 142 := mj_isub (by decide +kernel)
theorem i_Md_look_142 : mj_Snd zG ("StreamWatchModel", "look", c_Md_look, 7) 142 (x_iald 0) 143 := mj_iald rfl (by decide +kernel)
theorem i_Md_look_143 : mj_Snd zG ("StreamWatchModel", "look", c_Md_look, 7) 143 (x_iast 0) 144 := mj_iast rfl (by decide +kernel)
theorem i_Md_look_144 : mj_Snd zG ("StreamWatchModel", "look", c_Md_look, 7) 144 (x_iinc 6 (-1)) 147 := mj_iinc (n := (-1)) (by decide) (by decide) (by decide +kernel)
theorem i_Md_look_147 : mj_Snd zG ("StreamWatchModel", "look", c_Md_look, 7) 147 (x_skip) 122 := mj_goto (off := (-25)) (by decide) (by decide +kernel)
theorem i_Md_look_150 : mj_Snd zG ("StreamWatchModel", "look", c_Md_look, 7) 150 (x_aload 0) 151 := mj_aload_n (j := 0) rfl (by decide +kernel)
theorem i_Md_look_151 : mj_Snd zG ("StreamWatchModel", "look", c_Md_look, 7) 151 (x_getf 11 32) 154 := mj_getf (T := T_Md) rfl (by decide) u_Md z4_97 (by decide +kernel)
theorem i_Md_look_154 : mj_Snd zG ("StreamWatchModel", "look", c_Md_look, 7) 154 (x_const 0) 155 := mj_const (n := 0) (by decide) (by decide +kernel)
theorem i_Md_look_155 : mj_Snd zG ("StreamWatchModel", "look", c_Md_look, 7) 155 (x_iload 4) 157 := mj_iload (by decide +kernel)
theorem i_Md_look_157 : mj_Snd zG ("StreamWatchModel", "look", c_Md_look, 7) 157 (x_iast 0) 158 := mj_iast rfl (by decide +kernel)
theorem i_Md_look_158 : mj_Snd zG ("StreamWatchModel", "look", c_Md_look, 7) 158 (x_aload 0) 159 := mj_aload_n (j := 0) rfl (by decide +kernel)
theorem i_Md_look_159 : mj_Snd zG ("StreamWatchModel", "look", c_Md_look, 7) 159 (x_getf 11 32) 162 := mj_getf (T := T_Md) rfl (by decide) u_Md z4_97 (by decide +kernel)
theorem i_Md_look_162 : mj_Snd zG ("StreamWatchModel", "look", c_Md_look, 7) 162 (x_const 1) 163 := mj_const (n := 1) (by decide) (by decide +kernel)
theorem i_Md_look_163 : mj_Snd zG ("StreamWatchModel", "look", c_Md_look, 7) 163 (x_aload 0) 164 := mj_aload_n (j := 0) rfl (by decide +kernel)
theorem i_Md_look_164 : mj_Snd zG ("StreamWatchModel", "look", c_Md_look, 7) 164 (x_getf 11 6) 167 := mj_getf (T := T_Md) rfl (by decide) u_Md z4_71 (by decide +kernel)
theorem i_Md_look_167 : mj_Snd zG ("StreamWatchModel", "look", c_Md_look, 7) 167 (x_iload 3) 168 := mj_iload_n (j := 3) rfl (by decide +kernel)
theorem i_Md_look_168 : mj_Snd zG ("StreamWatchModel", "look", c_Md_look, 7) 168 (x_iald 0) 169 := mj_iald rfl (by decide +kernel)
theorem i_Md_look_169 : mj_Snd zG ("StreamWatchModel", "look", c_Md_look, 7) 169 (x_iast 0) 170 := mj_iast rfl (by decide +kernel)
theorem i_Md_look_170 : mj_Snd zG ("StreamWatchModel", "look", c_Md_look, 7) 170 (x_aload 0) 171 := mj_aload_n (j := 0) rfl (by decide +kernel)
theorem i_Md_look_171 : mj_Snd zG ("StreamWatchModel", "look", c_Md_look, 7) 171 (x_getf 11 32) 174 := mj_getf (T := T_Md) rfl (by decide) u_Md z4_97 (by decide +kernel)
theorem i_Md_look_174 : mj_Snd zG ("StreamWatchModel", "look", c_Md_look, 7) 174 (x_const 2) 175 := mj_const (n := 2) (by decide) (by decide +kernel)
theorem i_Md_look_175 : mj_Snd zG ("StreamWatchModel", "look", c_Md_look, 7) 175 (x_iload 1) 176 := mj_iload_n (j := 1) rfl (by decide +kernel)
theorem i_Md_look_176 : mj_Snd zG ("StreamWatchModel", "look", c_Md_look, 7) 176 (x_const 2) 177 := mj_const (n := 2) (by decide) (by decide +kernel)
theorem i_Md_look_177 : mj_Snd zG ("StreamWatchModel", "look", c_Md_look, 7) 177 (x_irem) 178 := mj_irem (by decide +kernel)
theorem i_Md_look_178 : mj_Snd zG ("StreamWatchModel", "look", c_Md_look, 7) 178 (x_iast 0) 179 := mj_iast rfl (by decide +kernel)
theorem i_Md_look_179 : mj_Snd zG ("StreamWatchModel", "look", c_Md_look, 7) 179 (x_aload 0) 180 := mj_aload_n (j := 0) rfl (by decide +kernel)
theorem i_Md_look_180 : mj_Snd zG ("StreamWatchModel", "look", c_Md_look, 7) 180 (x_getf 11 32) 183 := mj_getf (T := T_Md) rfl (by decide) u_Md z4_97 (by decide +kernel)
theorem i_Md_look_183 : mj_Snd zG ("StreamWatchModel", "look", c_Md_look, 7) 183 (x_const 3) 184 := mj_const (n := 3) (by decide) (by decide +kernel)
theorem i_Md_look_184 : mj_Snd zG ("StreamWatchModel", "look", c_Md_look, 7) 184 (x_aload 0) 185 := mj_aload_n (j := 0) rfl (by decide +kernel)
theorem i_Md_look_185 : mj_Snd zG ("StreamWatchModel", "look", c_Md_look, 7) 185 (x_getf 11 14) 188 := mj_getf (T := T_Md) rfl (by decide) u_Md z4_79 (by decide +kernel)
theorem i_Md_look_188 : mj_Snd zG ("StreamWatchModel", "look", c_Md_look, 7) 188 (x_iload 1) 189 := mj_iload_n (j := 1) rfl (by decide +kernel)
theorem i_Md_look_189 : mj_Snd zG ("StreamWatchModel", "look", c_Md_look, 7) 189 (x_iald 0) 190 := mj_iald rfl (by decide +kernel)
theorem i_Md_look_190 : mj_Snd zG ("StreamWatchModel", "look", c_Md_look, 7) 190 (x_iast 0) 191 := mj_iast rfl (by decide +kernel)
theorem i_Md_look_191 : mj_Snd zG ("StreamWatchModel", "look", c_Md_look, 7) 191 (x_aload 0) 192 := mj_aload_n (j := 0) rfl (by decide +kernel)
theorem i_Md_look_192 : mj_Snd zG ("StreamWatchModel", "look", c_Md_look, 7) 192 (x_dup) 193 := mj_dup (by decide +kernel)
theorem i_Md_look_193 : mj_Snd zG ("StreamWatchModel", "look", c_Md_look, 7) 193 (x_getf 11 31) 196 := mj_getf (T := T_Md) rfl (by decide) u_Md z4_96 (by decide +kernel)
theorem i_Md_look_196 : mj_Snd zG ("StreamWatchModel", "look", c_Md_look, 7) 196 (x_const 1) 197 := mj_const (n := 1) (by decide) (by decide +kernel)
theorem i_Md_look_197 : mj_Snd zG ("StreamWatchModel", "look", c_Md_look, 7) 197 (x_iadd) 198 := mj_iadd (by decide +kernel)
theorem i_Md_look_198 : mj_Snd zG ("StreamWatchModel", "look", c_Md_look, 7) 198 (x_putf 11 31 0) 201 := mj_putG (T := T_Md) (ty0 := t_Md) rfl (by decide) u_Md t_Md_ok n_Md z4_96 (Or.inl rfl) (by decide +kernel)
theorem i_Md_look_201 : mj_Snd zG ("StreamWatchModel", "look", c_Md_look, 7) 201 (x_iinc 2 1) 204 := mj_iinc (n := 1) (by decide) (by decide) (by decide +kernel)
theorem i_Md_look_204 : mj_Snd zG ("StreamWatchModel", "look", c_Md_look, 7) 204 (x_iinc 4 1) 207 := mj_iinc (n := 1) (by decide) (by decide) (by decide +kernel)
theorem i_Md_look_207 : mj_Snd zG ("StreamWatchModel", "look", c_Md_look, 7) 207 (x_skip) 9 := mj_goto (off := (-198)) (by decide) (by decide +kernel)
theorem i_Md_look_210 : mj_Snd zG ("StreamWatchModel", "look", c_Md_look, 7) 210 (x_iload 2) 211 := mj_iload_n (j := 2) rfl (by decide +kernel)
theorem d_Md_look_211 : decode c_Md_look 211 = .ok (.ireturn, 1) := by decide +kernel
theorem b_Md_look_0 : mj_Ch zG ("StreamWatchModel", "look", c_Md_look, 7) 0 [x_const 0, x_istore 2, x_iload 1, x_const 2, x_idiv, x_istore 3, x_const 0, x_istore 4] 9 := ⟨_, i_Md_look_0, _, i_Md_look_1, _, i_Md_look_2, _, i_Md_look_3, _, i_Md_look_4, _, i_Md_look_5, _, i_Md_look_6, _, i_Md_look_7, rfl⟩
theorem b_Md_look_9 : mj_Ch zG ("StreamWatchModel", "look", c_Md_look, 7) 9 [x_iload 4, x_aload 0, x_getf 11 19] 15 := ⟨_, i_Md_look_9, _, i_Md_look_11, _, i_Md_look_12, rfl⟩
theorem b_Md_look_18 : mj_Ch zG ("StreamWatchModel", "look", c_Md_look, 7) 18 [x_aload 0, x_getf 11 20, x_iload 4, x_iald 0, x_const 2] 26 := ⟨_, i_Md_look_18, _, i_Md_look_19, _, i_Md_look_22, _, i_Md_look_24, _, i_Md_look_25, rfl⟩
theorem b_Md_look_29 : mj_Ch zG ("StreamWatchModel", "look", c_Md_look, 7) 29 [x_aload 0, x_getf 11 20, x_iload 4, x_iald 0, x_iload 1, x_const 2, x_irem] 39 := ⟨_, i_Md_look_29, _, i_Md_look_30, _, i_Md_look_33, _, i_Md_look_35, _, i_Md_look_36, _, i_Md_look_37, _, i_Md_look_38, rfl⟩
theorem b_Md_look_42 : mj_Ch zG ("StreamWatchModel", "look", c_Md_look, 7) 42 [x_aload 0, x_getf 11 21, x_iload 4, x_iald 0] 49 := ⟨_, i_Md_look_42, _, i_Md_look_43, _, i_Md_look_46, _, i_Md_look_48, rfl⟩
theorem b_Md_look_52 : mj_Ch zG ("StreamWatchModel", "look", c_Md_look, 7) 52 [x_aload 0, x_getf 11 21, x_iload 4, x_iald 0, x_aload 0, x_getf 11 8, x_iload 3, x_iald 0] 65 := ⟨_, i_Md_look_52, _, i_Md_look_53, _, i_Md_look_56, _, i_Md_look_58, _, i_Md_look_59, _, i_Md_look_60, _, i_Md_look_63, _, i_Md_look_64, rfl⟩
theorem b_Md_look_68 : mj_Ch zG ("StreamWatchModel", "look", c_Md_look, 7) 68 [x_const 1, x_skip] 73 := ⟨_, i_Md_look_68, _, i_Md_look_69, rfl⟩
theorem b_Md_look_72 : mj_Ch zG ("StreamWatchModel", "look", c_Md_look, 7) 72 [x_const 0] 73 := ⟨_, i_Md_look_72, rfl⟩
theorem b_Md_look_73 : mj_Ch zG ("StreamWatchModel", "look", c_Md_look, 7) 73 [x_istore 5, x_iload 5] 77 := ⟨_, i_Md_look_73, _, i_Md_look_75, rfl⟩
theorem b_Md_look_80 : mj_Ch zG ("StreamWatchModel", "look", c_Md_look, 7) 80 [x_aload 0, x_getf 11 18, x_const 6, x_iload 1, x_imul, x_iload 4, x_iadd, x_iald 1] 92 := ⟨_, i_Md_look_80, _, i_Md_look_81, _, i_Md_look_84, _, i_Md_look_86, _, i_Md_look_87, _, i_Md_look_88, _, i_Md_look_90, _, i_Md_look_91, rfl⟩
theorem b_Md_look_95 : mj_Ch zG ("StreamWatchModel", "look", c_Md_look, 7) 95 [x_aload 0, x_iload 4, x_iload 1] 99 := ⟨_, i_Md_look_95, _, i_Md_look_96, _, i_Md_look_98, rfl⟩
theorem b_Md_look_105 : mj_Ch zG ("StreamWatchModel", "look", c_Md_look, 7) 105 [x_aload 0, x_getf 11 18, x_const 6, x_iload 1, x_imul, x_iload 4, x_iadd, x_const 1, x_zast 1, x_const 95, x_istore 6] 122 := ⟨_, i_Md_look_105, _, i_Md_look_106, _, i_Md_look_109, _, i_Md_look_111, _, i_Md_look_112, _, i_Md_look_113, _, i_Md_look_115, _, i_Md_look_116, _, i_Md_look_117, _, i_Md_look_118, _, i_Md_look_120, rfl⟩
theorem b_Md_look_122 : mj_Ch zG ("StreamWatchModel", "look", c_Md_look, 7) 122 [x_iload 6, x_const 4] 125 := ⟨_, i_Md_look_122, _, i_Md_look_124, rfl⟩
theorem b_Md_look_128 : mj_Ch zG ("StreamWatchModel", "look", c_Md_look, 7) 128 [x_aload 0, x_getf 11 32, x_iload 6, x_aload 0, x_getf 11 32, x_iload 6, x_const 4, x_isub, x_iald 0, x_iast 0, x_iinc 6 (-1), x_skip] 122 := ⟨_, i_Md_look_128, _, i_Md_look_129, _, i_Md_look_132, _, i_Md_look_134, _, i_Md_look_135, _, i_Md_look_138, _, i_Md_look_140, _, i_Md_look_141, _, i_Md_look_142, _, i_Md_look_143, _, i_Md_look_144, _, i_Md_look_147, rfl⟩
theorem b_Md_look_150 : mj_Ch zG ("StreamWatchModel", "look", c_Md_look, 7) 150 [x_aload 0, x_getf 11 32, x_const 0, x_iload 4, x_iast 0, x_aload 0, x_getf 11 32, x_const 1, x_aload 0, x_getf 11 6, x_iload 3, x_iald 0, x_iast 0, x_aload 0, x_getf 11 32, x_const 2, x_iload 1, x_const 2, x_irem, x_iast 0, x_aload 0, x_getf 11 32, x_const 3, x_aload 0, x_getf 11 14, x_iload 1, x_iald 0, x_iast 0, x_aload 0, x_dup, x_getf 11 31, x_const 1, x_iadd, x_putf 11 31 0, x_iinc 2 1] 204 := ⟨_, i_Md_look_150, _, i_Md_look_151, _, i_Md_look_154, _, i_Md_look_155, _, i_Md_look_157, _, i_Md_look_158, _, i_Md_look_159, _, i_Md_look_162, _, i_Md_look_163, _, i_Md_look_164, _, i_Md_look_167, _, i_Md_look_168, _, i_Md_look_169, _, i_Md_look_170, _, i_Md_look_171, _, i_Md_look_174, _, i_Md_look_175, _, i_Md_look_176, _, i_Md_look_177, _, i_Md_look_178, _, i_Md_look_179, _, i_Md_look_180, _, i_Md_look_183, _, i_Md_look_184, _, i_Md_look_185, _, i_Md_look_188, _, i_Md_look_189, _, i_Md_look_190, _, i_Md_look_191, _, i_Md_look_192, _, i_Md_look_193, _, i_Md_look_196, _, i_Md_look_197, _, i_Md_look_198, _, i_Md_look_201, rfl⟩
theorem b_Md_look_204 : mj_Ch zG ("StreamWatchModel", "look", c_Md_look, 7) 204 [x_iinc 4 1, x_skip] 9 := ⟨_, i_Md_look_204, _, i_Md_look_207, rfl⟩
theorem b_Md_look_210 : mj_Ch zG ("StreamWatchModel", "look", c_Md_look, 7) 210 [x_iload 2] 211 := ⟨_, i_Md_look_210, rfl⟩
theorem i_Md_begin_0 : mj_Snd zG ("StreamWatchModel", "begin", c_Md_begin, 5) 0 (x_aload 0) 1 := mj_aload_n (j := 0) rfl (by decide +kernel)
theorem i_Md_begin_1 : mj_Snd zG ("StreamWatchModel", "begin", c_Md_begin, 5) 1 (x_getf 11 4) 4 := mj_getf (T := T_Md) rfl (by decide) u_Md z4_69 (by decide +kernel)
theorem i_Md_begin_4 : mj_Snd zG ("StreamWatchModel", "begin", c_Md_begin, 5) 4 (x_iload 1) 5 := mj_iload_n (j := 1) rfl (by decide +kernel)
theorem i_Md_begin_5 : mj_Snd zG ("StreamWatchModel", "begin", c_Md_begin, 5) 5 (x_const 1) 6 := mj_const (n := 1) (by decide) (by decide +kernel)
theorem i_Md_begin_6 : mj_Snd zG ("StreamWatchModel", "begin", c_Md_begin, 5) 6 (x_zast 1) 7 := mj_zast rfl (by decide +kernel)
theorem i_Md_begin_7 : mj_Snd zG ("StreamWatchModel", "begin", c_Md_begin, 5) 7 (x_aload 0) 8 := mj_aload_n (j := 0) rfl (by decide +kernel)
theorem i_Md_begin_8 : mj_Snd zG ("StreamWatchModel", "begin", c_Md_begin, 5) 8 (x_getf 11 5) 11 := mj_getf (T := T_Md) rfl (by decide) u_Md z4_70 (by decide +kernel)
theorem i_Md_begin_11 : mj_Snd zG ("StreamWatchModel", "begin", c_Md_begin, 5) 11 (x_iload 1) 12 := mj_iload_n (j := 1) rfl (by decide +kernel)
theorem i_Md_begin_12 : mj_Snd zG ("StreamWatchModel", "begin", c_Md_begin, 5) 12 (x_aload 0) 13 := mj_aload_n (j := 0) rfl (by decide +kernel)
theorem i_Md_begin_13 : mj_Snd zG ("StreamWatchModel", "begin", c_Md_begin, 5) 13 (x_const 12) 15 := mj_bipush (n := 12) (by decide) (by decide +kernel)
theorem d_Md_begin_15 : decode c_Md_begin 15 = .ok (.invokevirtual 165, 3) := by decide +kernel
theorem i_Md_begin_18 : mj_Snd zG ("StreamWatchModel", "begin", c_Md_begin, 5) 18 (x_iast 0) 19 := mj_iast rfl (by decide +kernel)
theorem i_Md_begin_19 : mj_Snd zG ("StreamWatchModel", "begin", c_Md_begin, 5) 19 (x_aload 0) 20 := mj_aload_n (j := 0) rfl (by decide +kernel)
theorem i_Md_begin_20 : mj_Snd zG ("StreamWatchModel", "begin", c_Md_begin, 5) 20 (x_getf 11 6) 23 := mj_getf (T := T_Md) rfl (by decide) u_Md z4_71 (by decide +kernel)
theorem i_Md_begin_23 : mj_Snd zG ("StreamWatchModel", "begin", c_Md_begin, 5) 23 (x_iload 1) 24 := mj_iload_n (j := 1) rfl (by decide +kernel)
theorem i_Md_begin_24 : mj_Snd zG ("StreamWatchModel", "begin", c_Md_begin, 5) 24 (x_aload 0) 25 := mj_aload_n (j := 0) rfl (by decide +kernel)
theorem i_Md_begin_25 : mj_Snd zG ("StreamWatchModel", "begin", c_Md_begin, 5) 25 (x_iload 2) 26 := mj_iload_n (j := 2) rfl (by decide +kernel)
theorem d_Md_begin_26 : decode c_Md_begin 26 = .ok (.invokevirtual 113, 3) := by decide +kernel
theorem i_Md_begin_29 : mj_Snd zG ("StreamWatchModel", "begin", c_Md_begin, 5) 29 (x_iast 0) 30 := mj_iast rfl (by decide +kernel)
theorem i_Md_begin_30 : mj_Snd zG ("StreamWatchModel", "begin", c_Md_begin, 5) 30 (x_aload 0) 31 := mj_aload_n (j := 0) rfl (by decide +kernel)
theorem i_Md_begin_31 : mj_Snd zG ("StreamWatchModel", "begin", c_Md_begin, 5) 31 (x_getf 11 7) 34 := mj_getf (T := T_Md) rfl (by decide) u_Md z4_72 (by decide +kernel)
theorem i_Md_begin_34 : mj_Snd zG ("StreamWatchModel", "begin", c_Md_begin, 5) 34 (x_iload 1) 35 := mj_iload_n (j := 1) rfl (by decide +kernel)
theorem i_Md_begin_35 : mj_Snd zG ("StreamWatchModel", "begin", c_Md_begin, 5) 35 (x_aload 0) 36 := mj_aload_n (j := 0) rfl (by decide +kernel)
theorem i_Md_begin_36 : mj_Snd zG ("StreamWatchModel", "begin", c_Md_begin, 5) 36 (x_const 16) 38 := mj_bipush (n := 16) (by decide) (by decide +kernel)
theorem d_Md_begin_38 : decode c_Md_begin 38 = .ok (.invokevirtual 165, 3) := by decide +kernel
theorem i_Md_begin_41 : mj_Snd zG ("StreamWatchModel", "begin", c_Md_begin, 5) 41 (x_iast 0) 42 := mj_iast rfl (by decide +kernel)
theorem i_Md_begin_42 : mj_Snd zG ("StreamWatchModel", "begin", c_Md_begin, 5) 42 (x_aload 0) 43 := mj_aload_n (j := 0) rfl (by decide +kernel)
theorem i_Md_begin_43 : mj_Snd zG ("StreamWatchModel", "begin", c_Md_begin, 5) 43 (x_getf 11 8) 46 := mj_getf (T := T_Md) rfl (by decide) u_Md z4_73 (by decide +kernel)
theorem i_Md_begin_46 : mj_Snd zG ("StreamWatchModel", "begin", c_Md_begin, 5) 46 (x_iload 1) 47 := mj_iload_n (j := 1) rfl (by decide +kernel)
theorem i_Md_begin_47 : mj_Snd zG ("StreamWatchModel", "begin", c_Md_begin, 5) 47 (x_aload 0) 48 := mj_aload_n (j := 0) rfl (by decide +kernel)
theorem i_Md_begin_48 : mj_Snd zG ("StreamWatchModel", "begin", c_Md_begin, 5) 48 (x_iload 2) 49 := mj_iload_n (j := 2) rfl (by decide +kernel)
theorem i_Md_begin_49 : mj_Snd zG ("StreamWatchModel", "begin", c_Md_begin, 5) 49 (x_const 2) 50 := mj_const (n := 2) (by decide) (by decide +kernel)
theorem i_Md_begin_50 : mj_Snd zG ("StreamWatchModel", "begin", c_Md_begin, 5) 50 (x_iadd) 51 := mj_iadd (by decide +kernel)
theorem d_Md_begin_51 : decode c_Md_begin 51 = .ok (.invokevirtual 113, 3) := by decide +kernel
theorem i_Md_begin_54 : mj_Snd zG ("StreamWatchModel", "begin", c_Md_begin, 5) 54 (x_iast 0) 55 := mj_iast rfl (by decide +kernel)
theorem i_Md_begin_55 : mj_Snd zG ("StreamWatchModel", "begin", c_Md_begin, 5) 55 (x_const 2) 56 := mj_const (n := 2) (by decide) (by decide +kernel)
theorem i_Md_begin_56 : mj_Snd zG ("StreamWatchModel", "begin", c_Md_begin, 5) 56 (x_iload 1) 57 := mj_iload_n (j := 1) rfl (by decide +kernel)
theorem i_Md_begin_57 : mj_Snd zG ("StreamWatchModel", "begin", c_Md_begin, 5) 57 (x_imul) 58 := mj_imul (by decide +kernel)
theorem i_Md_begin_58 : mj_Snd zG ("StreamWatchModel", "begin", c_Md_begin, 5) 58 (x_istore 3) 59 := mj_istore_n (j := 3) rfl (by decide) (by decide +kernel)
theorem i_Md_begin_59 : mj_Snd zG ("StreamWatchModel", "begin", c_Md_begin, 5) 59 (x_iload 3) 60 := mj_iload_n (j := 3) rfl (by decide +kernel)
theorem i_Md_begin_60 : mj_Snd zG ("StreamWatchModel", "begin", c_Md_begin, 5) 60 (x_const 2) 61 := mj_const (n := 2) (by decide) (by decide +kernel)
theorem i_Md_begin_61 : mj_Snd zG ("StreamWatchModel", "begin", c_Md_begin, 5) 61 (x_iload 1) 62 := mj_iload_n (j := 1) rfl (by decide +kernel)
theorem i_Md_begin_62 : mj_Snd zG ("StreamWatchModel", "begin", c_Md_begin, 5) 62 (x_imul) 63 := mj_imul (by decide +kernel)
theorem i_Md_begin_63 : mj_Snd zG ("StreamWatchModel", "begin", c_Md_begin, 5) 63 (x_const 2) 64 := mj_const (n := 2) (by decide) (by decide +kernel)
theorem i_Md_begin_64 : mj_Snd zG ("StreamWatchModel", "begin", c_Md_begin, 5) 64 (x_iadd) 65 := mj_iadd (by decide +kernel)
theorem d_Md_begin_65 : decode c_Md_begin 65 = .ok (.if_icmp .ge 95, 3) := by decide +kernel
theorem i_Md_begin_68 : mj_Snd zG ("StreamWatchModel", "begin", c_Md_begin, 5) 68 (x_aload 0) 69 := mj_aload_n (j := 0) rfl (by decide +kernel)
theorem i_Md_begin_69 : mj_Snd zG ("StreamWatchModel", "begin", c_Md_begin, 5) 69 (x_getf 11 11) 72 := mj_getf (T := T_Md) rfl (by decide) u_Md z4_76 (by decide +kernel)
theorem i_Md_begin_72 : mj_Snd zG ("StreamWatchModel", "begin", c_Md_begin, 5) 72 (x_iload 3) 73 := mj_iload_n (j := 3) rfl (by decide +kernel)
theorem i_Md_begin_73 : mj_Snd zG ("StreamWatchModel", "begin", c_Md_begin, 5) 73 (x_const 0) 74 := mj_const (n := 0) (by decide) (by decide +kernel)
theorem i_Md_begin_74 : mj_Snd zG ("StreamWatchModel", "begin", c_Md_begin, 5) 74 (x_zast 1) 75 := mj_zast rfl (by decide +kernel)
theorem i_Md_begin_75 : mj_Snd zG ("StreamWatchModel", "begin", c_Md_begin, 5) 75 (x_aload 0) 76 := mj_aload_n (j := 0) rfl (by decide +kernel)
theorem i_Md_begin_76 : mj_Snd zG ("StreamWatchModel", "begin", c_Md_begin, 5) 76 (x_getf 11 12) 79 := mj_getf (T := T_Md) rfl (by decide) u_Md z4_77 (by decide +kernel)
theorem i_Md_begin_79 : mj_Snd zG ("StreamWatchModel", "begin", c_Md_begin, 5) 79 (x_iload 3) 80 := mj_iload_n (j := 3) rfl (by decide +kernel)
theorem i_Md_begin_80 : mj_Snd zG ("StreamWatchModel", "begin", c_Md_begin, 5) 80 (x_const 0) 81 := mj_const (n := 0) (by decide) (by decide +kernel)
theorem i_Md_begin_81 : mj_Snd zG ("StreamWatchModel", "begin", c_Md_begin, 5) 81 (x_iast 0) 82 := mj_iast rfl (by decide +kernel)
theorem i_Md_begin_82 : mj_Snd zG ("StreamWatchModel", "begin", c_Md_begin, 5) 82 (x_aload 0) 83 := mj_aload_n (j := 0) rfl (by decide +kernel)
theorem i_Md_begin_83 : mj_Snd zG ("StreamWatchModel", "begin", c_Md_begin, 5) 83 (x_getf 11 13) 86 := mj_getf (T := T_Md) rfl (by decide) u_Md z4_78 (by decide +kernel)
theorem i_Md_begin_86 : mj_Snd zG ("StreamWatchModel", "begin", c_Md_begin, 5) 86 (x_iload 3) 87 := mj_iload_n (j := 3) rfl (by decide +kernel)
theorem i_Md_begin_87 : mj_Snd zG ("StreamWatchModel", "begin", c_Md_begin, 5) 87 (x_const 0) 88 := mj_const (n := 0) (by decide) (by decide +kernel)
theorem i_Md_begin_88 : mj_Snd zG ("StreamWatchModel", "begin", c_Md_begin, 5) 88 (x_zast 1) 89 := mj_zast rfl (by decide +kernel)
theorem i_Md_begin_89 : mj_Snd zG ("StreamWatchModel", "begin", c_Md_begin, 5) 89 (x_aload 0) 90 := mj_aload_n (j := 0) rfl (by decide +kernel)
theorem i_Md_begin_90 : mj_Snd zG ("StreamWatchModel", "begin", c_Md_begin, 5) 90 (x_getf 11 14) 93 := mj_getf (T := T_Md) rfl (by decide) u_Md z4_79 (by decide +kernel)
theorem i_Md_begin_93 : mj_Snd zG ("StreamWatchModel", "begin", c_Md_begin, 5) 93 (x_iload 3) 94 := mj_iload_n (j := 3) rfl (by decide +kernel)
theorem i_Md_begin_94 : mj_Snd zG ("StreamWatchModel", "begin", c_Md_begin, 5) 94 (x_const 0) 95 := mj_const (n := 0) (by decide) (by decide +kernel)
theorem i_Md_begin_95 : mj_Snd zG ("StreamWatchModel", "begin", c_Md_begin, 5) 95 (x_iast 0) 96 := mj_iast rfl (by decide +kernel)
theorem i_Md_begin_96 : mj_Snd zG ("StreamWatchModel", "begin", c_Md_begin, 5) 96 (x_const 0) 97 := mj_const (n := 0) (by decide) (by decide +kernel)
theorem i_Md_begin_97 : mj_Snd zG ("StreamWatchModel", "begin", c_Md_begin, 5) 97 (x_istore 4) 99 := mj_istore (by decide) (by decide +kernel)
theorem i_Md_begin_99 : mj_Snd zG ("StreamWatchModel", "begin", c_Md_begin, 5) 99 (x_iload 4) 101 := mj_iload (by decide +kernel)
theorem i_Md_begin_101 : mj_Snd zG ("StreamWatchModel", "begin", c_Md_begin, 5) 101 (x_const 32) 103 := mj_bipush (n := 32) (by decide) (by decide +kernel)
theorem d_Md_begin_103 : decode c_Md_begin 103 = .ok (.if_icmp .ge 22, 3) := by decide +kernel
theorem i_Md_begin_106 : mj_Snd zG ("StreamWatchModel", "begin", c_Md_begin, 5) 106 (x_aload 0) 107 := mj_aload_n (j := 0) rfl (by decide +kernel)
theorem i_Md_begin_107 : mj_Snd zG ("StreamWatchModel", "begin", c_Md_begin, 5) 107 (x_getf 11 16) 110 := mj_getf (T := T_Md) rfl (by decide) u_Md z4_81 (by decide +kernel)
theorem i_Md_begin_110 : mj_Snd zG ("StreamWatchModel", "begin", c_Md_begin, 5) 110 (x_const 32) 112 := mj_bipush (n := 32) (by decide) (by decide +kernel)
theorem i_Md_begin_112 : mj_Snd zG ("StreamWatchModel", "begin", c_Md_begin, 5) 112 (x_iload 3) 113 := mj_iload_n (j := 3) rfl (by decide +kernel)
theorem i_Md_begin_113 : mj_Snd zG ("StreamWatchModel", "begin", c_Md_begin, 5) 113 (x_imul) 114 := mj_imul (by decide +kernel)
theorem i_Md_begin_114 : mj_Snd zG ("StreamWatchModel", "begin", c_Md_begin, 5) 114 (x_iload 4) 116 := mj_iload (by decide +kernel)
theorem i_Md_begin_116 : mj_Snd zG ("StreamWatchModel", "begin", c_Md_begin, 5) 116 (x_iadd) 117 := mj_iadd (by decide +kernel)
theorem i_Md_begin_117 : mj_Snd zG ("StreamWatchModel", "begin", c_Md_begin, 5) 117 (x_const 0) 118 := mj_const (n := 0) (by decide) (by decide +kernel)
theorem i_Md_begin_118 : mj_Snd zG ("StreamWatchModel", "begin", c_Md_begin, 5) 118 (x_zast 1) 119 := mj_zast rfl (by decide +kernel)
theorem i_Md_begin_119 : mj_Snd zG ("StreamWatchModel", "begin", c_Md_begin, 5) 119 (x_iinc 4 1) 122 := mj_iinc (n := 1) (by decide) (by decide) (by decide +kernel)
theorem i_Md_begin_122 : mj_Snd zG ("StreamWatchModel", "begin", c_Md_begin, 5) 122 (x_skip) 99 := mj_goto (off := (-23)) (by decide) (by decide +kernel)
theorem i_Md_begin_125 : mj_Snd zG ("StreamWatchModel", "begin", c_Md_begin, 5) 125 (x_const 0) 126 := mj_const (n := 0) (by decide) (by decide +kernel)
theorem i_Md_begin_126 : mj_Snd zG ("StreamWatchModel", "begin", c_Md_begin, 5) 126 (x_istore 4) 128 := mj_istore (by decide) (by decide +kernel)
theorem i_Md_begin_128 : mj_Snd zG ("StreamWatchModel", "begin", c_Md_begin, 5) 128 (x_iload 4) 130 := mj_iload (by decide +kernel)
theorem i_Md_begin_130 : mj_Snd zG ("StreamWatchModel", "begin", c_Md_begin, 5) 130 (x_const 6) 132 := mj_bipush (n := 6) (by decide) (by decide +kernel)
theorem d_Md_begin_132 : decode c_Md_begin 132 = .ok (.if_icmp .ge 22, 3) := by decide +kernel
theorem i_Md_begin_135 : mj_Snd zG ("StreamWatchModel", "begin", c_Md_begin, 5) 135 (x_aload 0) 136 := mj_aload_n (j := 0) rfl (by decide +kernel)
theorem i_Md_begin_136 : mj_Snd zG ("StreamWatchModel", "begin", c_Md_begin, 5) 136 (x_getf 11 18) 139 := mj_getf (T := T_Md) rfl (by decide) u_Md z4_83 (by decide +kernel)
theorem i_Md_begin_139 : mj_Snd zG ("StreamWatchModel", "begin", c_Md_begin, 5) 139 (x_const 6) 141 := mj_bipush (n := 6) (by decide) (by decide +kernel)
theorem i_Md_begin_141 : mj_Snd zG ("StreamWatchModel", "begin", c_Md_begin, 5) 141 (x_iload 3) 142 := mj_iload_n (j := 3) rfl (by decide +kernel)
theorem i_Md_begin_142 : mj_Snd zG ("StreamWatchModel", "begin", c_Md_begin, 5) 142 (x_imul) 143 := mj_imul (by decide +kernel)
theorem i_Md_begin_143 : mj_Snd zG ("StreamWatchModel", "begin", c_Md_begin, 5) 143 (x_iload 4) 145 := mj_iload (by decide +kernel)
theorem i_Md_begin_145 : mj_Snd zG ("StreamWatchModel", "begin", c_Md_begin, 5) 145 (x_iadd) 146 := mj_iadd (by decide +kernel)
theorem i_Md_begin_146 : mj_Snd zG ("StreamWatchModel", "begin", c_Md_begin, 5) 146 (x_const 0) 147 := mj_const (n := 0) (by decide) (by decide +kernel)
theorem i_Md_begin_147 : mj_Snd zG ("StreamWatchModel", "begin", c_Md_begin, 5) 147 (x_zast 1) 148 := mj_zast rfl (by decide +kernel)
theorem i_Md_begin_148 : mj_Snd zG ("StreamWatchModel", "begin", c_Md_begin, 5) 148 (x_iinc 4 1) 151 := mj_iinc (n := 1) (by decide) (by decide) (by decide +kernel)
theorem i_Md_begin_151 : mj_Snd zG ("StreamWatchModel", "begin", c_Md_begin, 5) 151 (x_skip) 128 := mj_goto (off := (-23)) (by decide) (by decide +kernel)
theorem i_Md_begin_154 : mj_Snd zG ("StreamWatchModel", "begin", c_Md_begin, 5) 154 (x_iinc 3 1) 157 := mj_iinc (n := 1) (by decide) (by decide) (by decide +kernel)
theorem i_Md_begin_157 : mj_Snd zG ("StreamWatchModel", "begin", c_Md_begin, 5) 157 (x_skip) 59 := mj_goto (off := (-98)) (by decide) (by decide +kernel)
theorem d_Md_begin_160 : decode c_Md_begin 160 = .ok (.return_, 1) := by decide +kernel
theorem b_Md_begin_0 : mj_Ch zG ("StreamWatchModel", "begin", c_Md_begin, 5) 0 [x_aload 0, x_getf 11 4, x_iload 1, x_const 1, x_zast 1, x_aload 0, x_getf 11 5, x_iload 1, x_aload 0, x_const 12] 15 := ⟨_, i_Md_begin_0, _, i_Md_begin_1, _, i_Md_begin_4, _, i_Md_begin_5, _, i_Md_begin_6, _, i_Md_begin_7, _, i_Md_begin_8, _, i_Md_begin_11, _, i_Md_begin_12, _, i_Md_begin_13, rfl⟩
theorem b_Md_begin_18 : mj_Ch zG ("StreamWatchModel", "begin", c_Md_begin, 5) 18 [x_iast 0, x_aload 0, x_getf 11 6, x_iload 1, x_aload 0, x_iload 2] 26 := ⟨_, i_Md_begin_18, _, i_Md_begin_19, _, i_Md_begin_20, _, i_Md_begin_23, _, i_Md_begin_24, _, i_Md_begin_25, rfl⟩
theorem b_Md_begin_29 : mj_Ch zG ("StreamWatchModel", "begin", c_Md_begin, 5) 29 [x_iast 0, x_aload 0, x_getf 11 7, x_iload 1, x_aload 0, x_const 16] 38 := ⟨_, i_Md_begin_29, _, i_Md_begin_30, _, i_Md_begin_31, _, i_Md_begin_34, _, i_Md_begin_35, _, i_Md_begin_36, rfl⟩
theorem b_Md_begin_41 : mj_Ch zG ("StreamWatchModel", "begin", c_Md_begin, 5) 41 [x_iast 0, x_aload 0, x_getf 11 8, x_iload 1, x_aload 0, x_iload 2, x_const 2, x_iadd] 51 := ⟨_, i_Md_begin_41, _, i_Md_begin_42, _, i_Md_begin_43, _, i_Md_begin_46, _, i_Md_begin_47, _, i_Md_begin_48, _, i_Md_begin_49, _, i_Md_begin_50, rfl⟩
theorem b_Md_begin_54 : mj_Ch zG ("StreamWatchModel", "begin", c_Md_begin, 5) 54 [x_iast 0, x_const 2, x_iload 1, x_imul, x_istore 3] 59 := ⟨_, i_Md_begin_54, _, i_Md_begin_55, _, i_Md_begin_56, _, i_Md_begin_57, _, i_Md_begin_58, rfl⟩
theorem b_Md_begin_59 : mj_Ch zG ("StreamWatchModel", "begin", c_Md_begin, 5) 59 [x_iload 3, x_const 2, x_iload 1, x_imul, x_const 2, x_iadd] 65 := ⟨_, i_Md_begin_59, _, i_Md_begin_60, _, i_Md_begin_61, _, i_Md_begin_62, _, i_Md_begin_63, _, i_Md_begin_64, rfl⟩
theorem b_Md_begin_68 : mj_Ch zG ("StreamWatchModel", "begin", c_Md_begin, 5) 68 [x_aload 0, x_getf 11 11, x_iload 3, x_const 0, x_zast 1, x_aload 0, x_getf 11 12, x_iload 3, x_const 0, x_iast 0, x_aload 0, x_getf 11 13, x_iload 3, x_const 0, x_zast 1, x_aload 0, x_getf 11 14, x_iload 3, x_const 0, x_iast 0, x_const 0, x_istore 4] 99 := ⟨_, i_Md_begin_68, _, i_Md_begin_69, _, i_Md_begin_72, _, i_Md_begin_73, _, i_Md_begin_74, _, i_Md_begin_75, _, i_Md_begin_76, _, i_Md_begin_79, _, i_Md_begin_80, _, i_Md_begin_81, _, i_Md_begin_82, _, i_Md_begin_83, _, i_Md_begin_86, _, i_Md_begin_87, _, i_Md_begin_88, _, i_Md_begin_89, _, i_Md_begin_90, _, i_Md_begin_93, _, i_Md_begin_94, _, i_Md_begin_95, _, i_Md_begin_96, _, i_Md_begin_97, rfl⟩
theorem b_Md_begin_99 : mj_Ch zG ("StreamWatchModel", "begin", c_Md_begin, 5) 99 [x_iload 4, x_const 32] 103 := ⟨_, i_Md_begin_99, _, i_Md_begin_101, rfl⟩
theorem b_Md_begin_106 : mj_Ch zG ("StreamWatchModel", "begin", c_Md_begin, 5) 106 [x_aload 0, x_getf 11 16, x_const 32, x_iload 3, x_imul, x_iload 4, x_iadd, x_const 0, x_zast 1, x_iinc 4 1, x_skip] 99 := ⟨_, i_Md_begin_106, _, i_Md_begin_107, _, i_Md_begin_110, _, i_Md_begin_112, _, i_Md_begin_113, _, i_Md_begin_114, _, i_Md_begin_116, _, i_Md_begin_117, _, i_Md_begin_118, _, i_Md_begin_119, _, i_Md_begin_122, rfl⟩
theorem b_Md_begin_125 : mj_Ch zG ("StreamWatchModel", "begin", c_Md_begin, 5) 125 [x_const 0, x_istore 4] 128 := ⟨_, i_Md_begin_125, _, i_Md_begin_126, rfl⟩
theorem b_Md_begin_128 : mj_Ch zG ("StreamWatchModel", "begin", c_Md_begin, 5) 128 [x_iload 4, x_const 6] 132 := ⟨_, i_Md_begin_128, _, i_Md_begin_130, rfl⟩
theorem b_Md_begin_135 : mj_Ch zG ("StreamWatchModel", "begin", c_Md_begin, 5) 135 [x_aload 0, x_getf 11 18, x_const 6, x_iload 3, x_imul, x_iload 4, x_iadd, x_const 0, x_zast 1, x_iinc 4 1, x_skip] 128 := ⟨_, i_Md_begin_135, _, i_Md_begin_136, _, i_Md_begin_139, _, i_Md_begin_141, _, i_Md_begin_142, _, i_Md_begin_143, _, i_Md_begin_145, _, i_Md_begin_146, _, i_Md_begin_147, _, i_Md_begin_148, _, i_Md_begin_151, rfl⟩
theorem b_Md_begin_154 : mj_Ch zG ("StreamWatchModel", "begin", c_Md_begin, 5) 154 [x_iinc 3 1, x_skip] 59 := ⟨_, i_Md_begin_154, _, i_Md_begin_157, rfl⟩
theorem i_Md_room_0 : mj_Snd zG ("StreamWatchModel", "room", c_Md_room, 3) 0 (x_const 0) 1 := mj_const (n := 0) (by decide) (by decide +kernel)
theorem i_Md_room_1 : mj_Snd zG ("StreamWatchModel", "room", c_Md_room, 3) 1 (x_istore 1) 2 := mj_istore_n (j := 1) rfl (by decide) (by decide +kernel)
theorem i_Md_room_2 : mj_Snd zG ("StreamWatchModel", "room", c_Md_room, 3) 2 (x_const 0) 3 := mj_const (n := 0) (by decide) (by decide +kernel)
theorem i_Md_room_3 : mj_Snd zG ("StreamWatchModel", "room", c_Md_room, 3) 3 (x_istore 2) 4 := mj_istore_n (j := 2) rfl (by decide) (by decide +kernel)
theorem i_Md_room_4 : mj_Snd zG ("StreamWatchModel", "room", c_Md_room, 3) 4 (x_iload 2) 5 := mj_iload_n (j := 2) rfl (by decide +kernel)
theorem i_Md_room_5 : mj_Snd zG ("StreamWatchModel", "room", c_Md_room, 3) 5 (x_const 4) 6 := mj_const (n := 4) (by decide) (by decide +kernel)
theorem d_Md_room_6 : decode c_Md_room 6 = .ok (.if_icmp .ge 41, 3) := by decide +kernel
theorem i_Md_room_9 : mj_Snd zG ("StreamWatchModel", "room", c_Md_room, 3) 9 (x_aload 0) 10 := mj_aload_n (j := 0) rfl (by decide +kernel)
theorem i_Md_room_10 : mj_Snd zG ("StreamWatchModel", "room", c_Md_room, 3) 10 (x_getf 11 4) 13 := mj_getf (T := T_Md) rfl (by decide) u_Md z4_69 (by decide +kernel)
theorem i_Md_room_13 : mj_Snd zG ("StreamWatchModel", "room", c_Md_room, 3) 13 (x_iload 2) 14 := mj_iload_n (j := 2) rfl (by decide +kernel)
theorem i_Md_room_14 : mj_Snd zG ("StreamWatchModel", "room", c_Md_room, 3) 14 (x_iald 1) 15 := mj_zald rfl (by decide +kernel)
theorem d_Md_room_15 : decode c_Md_room 15 = .ok (.ifCond .ne 5, 3) := by decide +kernel
theorem i_Md_room_18 : mj_Snd zG ("StreamWatchModel", "room", c_Md_room, 3) 18 (x_iload 2) 19 := mj_iload_n (j := 2) rfl (by decide +kernel)
theorem d_Md_room_19 : decode c_Md_room 19 = .ok (.ireturn, 1) := by decide +kernel
theorem i_Md_room_20 : mj_Snd zG ("StreamWatchModel", "room", c_Md_room, 3) 20 (x_aload 0) 21 := mj_aload_n (j := 0) rfl (by decide +kernel)
theorem i_Md_room_21 : mj_Snd zG ("StreamWatchModel", "room", c_Md_room, 3) 21 (x_getf 11 9) 24 := mj_getf (T := T_Md) rfl (by decide) u_Md z4_74 (by decide +kernel)
theorem i_Md_room_24 : mj_Snd zG ("StreamWatchModel", "room", c_Md_room, 3) 24 (x_iload 2) 25 := mj_iload_n (j := 2) rfl (by decide +kernel)
theorem i_Md_room_25 : mj_Snd zG ("StreamWatchModel", "room", c_Md_room, 3) 25 (x_iald 0) 26 := mj_iald rfl (by decide +kernel)
theorem i_Md_room_26 : mj_Snd zG ("StreamWatchModel", "room", c_Md_room, 3) 26 (x_aload 0) 27 := mj_aload_n (j := 0) rfl (by decide +kernel)
theorem i_Md_room_27 : mj_Snd zG ("StreamWatchModel", "room", c_Md_room, 3) 27 (x_getf 11 9) 30 := mj_getf (T := T_Md) rfl (by decide) u_Md z4_74 (by decide +kernel)
theorem i_Md_room_30 : mj_Snd zG ("StreamWatchModel", "room", c_Md_room, 3) 30 (x_iload 1) 31 := mj_iload_n (j := 1) rfl (by decide +kernel)
theorem i_Md_room_31 : mj_Snd zG ("StreamWatchModel", "room", c_Md_room, 3) 31 (x_iald 0) 32 := mj_iald rfl (by decide +kernel)
theorem d_Md_room_32 : decode c_Md_room 32 = .ok (.if_icmp .ge 7, 3) := by decide +kernel
theorem i_Md_room_35 : mj_Snd zG ("StreamWatchModel", "room", c_Md_room, 3) 35 (x_iload 2) 36 := mj_iload_n (j := 2) rfl (by decide +kernel)
theorem i_Md_room_36 : mj_Snd zG ("StreamWatchModel", "room", c_Md_room, 3) 36 (x_skip) 40 := mj_goto (off := 4) (by decide) (by decide +kernel)
theorem i_Md_room_39 : mj_Snd zG ("StreamWatchModel", "room", c_Md_room, 3) 39 (x_iload 1) 40 := mj_iload_n (j := 1) rfl (by decide +kernel)
theorem i_Md_room_40 : mj_Snd zG ("StreamWatchModel", "room", c_Md_room, 3) 40 (x_istore 1) 41 := mj_istore_n (j := 1) rfl (by decide) (by decide +kernel)
theorem i_Md_room_41 : mj_Snd zG ("StreamWatchModel", "room", c_Md_room, 3) 41 (x_iinc 2 1) 44 := mj_iinc (n := 1) (by decide) (by decide) (by decide +kernel)
theorem i_Md_room_44 : mj_Snd zG ("StreamWatchModel", "room", c_Md_room, 3) 44 (x_skip) 4 := mj_goto (off := (-40)) (by decide) (by decide +kernel)
theorem i_Md_room_47 : mj_Snd zG ("StreamWatchModel", "room", c_Md_room, 3) 47 (x_iload 1) 48 := mj_iload_n (j := 1) rfl (by decide +kernel)
theorem d_Md_room_48 : decode c_Md_room 48 = .ok (.ireturn, 1) := by decide +kernel
theorem b_Md_room_0 : mj_Ch zG ("StreamWatchModel", "room", c_Md_room, 3) 0 [x_const 0, x_istore 1, x_const 0, x_istore 2] 4 := ⟨_, i_Md_room_0, _, i_Md_room_1, _, i_Md_room_2, _, i_Md_room_3, rfl⟩
theorem b_Md_room_4 : mj_Ch zG ("StreamWatchModel", "room", c_Md_room, 3) 4 [x_iload 2, x_const 4] 6 := ⟨_, i_Md_room_4, _, i_Md_room_5, rfl⟩
theorem b_Md_room_9 : mj_Ch zG ("StreamWatchModel", "room", c_Md_room, 3) 9 [x_aload 0, x_getf 11 4, x_iload 2, x_iald 1] 15 := ⟨_, i_Md_room_9, _, i_Md_room_10, _, i_Md_room_13, _, i_Md_room_14, rfl⟩
theorem b_Md_room_18 : mj_Ch zG ("StreamWatchModel", "room", c_Md_room, 3) 18 [x_iload 2] 19 := ⟨_, i_Md_room_18, rfl⟩
theorem b_Md_room_20 : mj_Ch zG ("StreamWatchModel", "room", c_Md_room, 3) 20 [x_aload 0, x_getf 11 9, x_iload 2, x_iald 0, x_aload 0, x_getf 11 9, x_iload 1, x_iald 0] 32 := ⟨_, i_Md_room_20, _, i_Md_room_21, _, i_Md_room_24, _, i_Md_room_25, _, i_Md_room_26, _, i_Md_room_27, _, i_Md_room_30, _, i_Md_room_31, rfl⟩
theorem b_Md_room_35 : mj_Ch zG ("StreamWatchModel", "room", c_Md_room, 3) 35 [x_iload 2, x_skip] 40 := ⟨_, i_Md_room_35, _, i_Md_room_36, rfl⟩
theorem b_Md_room_39 : mj_Ch zG ("StreamWatchModel", "room", c_Md_room, 3) 39 [x_iload 1] 40 := ⟨_, i_Md_room_39, rfl⟩
theorem b_Md_room_40 : mj_Ch zG ("StreamWatchModel", "room", c_Md_room, 3) 40 [x_istore 1, x_iinc 2 1, x_skip] 4 := ⟨_, i_Md_room_40, _, i_Md_room_41, _, i_Md_room_44, rfl⟩
theorem b_Md_room_47 : mj_Ch zG ("StreamWatchModel", "room", c_Md_room, 3) 47 [x_iload 1] 48 := ⟨_, i_Md_room_47, rfl⟩
theorem i_Md_find_0 : mj_Snd zG ("StreamWatchModel", "find", c_Md_find, 7) 0 (x_aload 0) 1 := mj_aload_n (j := 0) rfl (by decide +kernel)
theorem i_Md_find_1 : mj_Snd zG ("StreamWatchModel", "find", c_Md_find, 7) 1 (x_const 12) 3 := mj_bipush (n := 12) (by decide) (by decide +kernel)
theorem d_Md_find_3 : decode c_Md_find 3 = .ok (.invokevirtual 165, 3) := by decide +kernel
theorem i_Md_find_6 : mj_Snd zG ("StreamWatchModel", "find", c_Md_find, 7) 6 (x_istore 2) 7 := mj_istore_n (j := 2) rfl (by decide) (by decide +kernel)
theorem i_Md_find_7 : mj_Snd zG ("StreamWatchModel", "find", c_Md_find, 7) 7 (x_aload 0) 8 := mj_aload_n (j := 0) rfl (by decide +kernel)
theorem i_Md_find_8 : mj_Snd zG ("StreamWatchModel", "find", c_Md_find, 7) 8 (x_const 16) 10 := mj_bipush (n := 16) (by decide) (by decide +kernel)
theorem d_Md_find_10 : decode c_Md_find 10 = .ok (.invokevirtual 165, 3) := by decide +kernel
theorem i_Md_find_13 : mj_Snd zG ("StreamWatchModel", "find", c_Md_find, 7) 13 (x_istore 3) 14 := mj_istore_n (j := 3) rfl (by decide) (by decide +kernel)
theorem i_Md_find_14 : mj_Snd zG ("StreamWatchModel", "find", c_Md_find, 7) 14 (x_aload 0) 15 := mj_aload_n (j := 0) rfl (by decide +kernel)
theorem i_Md_find_15 : mj_Snd zG ("StreamWatchModel", "find", c_Md_find, 7) 15 (x_iload 1) 16 := mj_iload_n (j := 1) rfl (by decide +kernel)
theorem d_Md_find_16 : decode c_Md_find 16 = .ok (.invokevirtual 113, 3) := by decide +kernel
theorem i_Md_find_19 : mj_Snd zG ("StreamWatchModel", "find", c_Md_find, 7) 19 (x_istore 4) 21 := mj_istore (by decide) (by decide +kernel)
theorem i_Md_find_21 : mj_Snd zG ("StreamWatchModel", "find", c_Md_find, 7) 21 (x_aload 0) 22 := mj_aload_n (j := 0) rfl (by decide +kernel)
theorem i_Md_find_22 : mj_Snd zG ("StreamWatchModel", "find", c_Md_find, 7) 22 (x_iload 1) 23 := mj_iload_n (j := 1) rfl (by decide +kernel)
theorem i_Md_find_23 : mj_Snd zG ("StreamWatchModel", "find", c_Md_find, 7) 23 (x_const 2) 24 := mj_const (n := 2) (by decide) (by decide +kernel)
theorem i_Md_find_24 : mj_Snd zG ("StreamWatchModel", "find", c_Md_find, 7) 24 (x_iadd) 25 := mj_iadd (by decide +kernel)
theorem d_Md_find_25 : decode c_Md_find 25 = .ok (.invokevirtual 113, 3) := by decide +kernel
theorem i_Md_find_28 : mj_Snd zG ("StreamWatchModel", "find", c_Md_find, 7) 28 (x_istore 5) 30 := mj_istore (by decide) (by decide +kernel)
theorem i_Md_find_30 : mj_Snd zG ("StreamWatchModel", "find", c_Md_find, 7) 30 (x_const 0) 31 := mj_const (n := 0) (by decide) (by decide +kernel)
theorem i_Md_find_31 : mj_Snd zG ("StreamWatchModel", "find", c_Md_find, 7) 31 (x_istore 6) 33 := mj_istore (by decide) (by decide +kernel)
theorem i_Md_find_33 : mj_Snd zG ("StreamWatchModel", "find", c_Md_find, 7) 33 (x_iload 6) 35 := mj_iload (by decide +kernel)
theorem i_Md_find_35 : mj_Snd zG ("StreamWatchModel", "find", c_Md_find, 7) 35 (x_const 4) 36 := mj_const (n := 4) (by decide) (by decide +kernel)
theorem d_Md_find_36 : decode c_Md_find 36 = .ok (.if_icmp .ge 133, 3) := by decide +kernel
theorem i_Md_find_39 : mj_Snd zG ("StreamWatchModel", "find", c_Md_find, 7) 39 (x_aload 0) 40 := mj_aload_n (j := 0) rfl (by decide +kernel)
theorem i_Md_find_40 : mj_Snd zG ("StreamWatchModel", "find", c_Md_find, 7) 40 (x_getf 11 4) 43 := mj_getf (T := T_Md) rfl (by decide) u_Md z4_69 (by decide +kernel)
theorem i_Md_find_43 : mj_Snd zG ("StreamWatchModel", "find", c_Md_find, 7) 43 (x_iload 6) 45 := mj_iload (by decide +kernel)
theorem i_Md_find_45 : mj_Snd zG ("StreamWatchModel", "find", c_Md_find, 7) 45 (x_iald 1) 46 := mj_zald rfl (by decide +kernel)
theorem d_Md_find_46 : decode c_Md_find 46 = .ok (.ifCond .eq 54, 3) := by decide +kernel
theorem i_Md_find_49 : mj_Snd zG ("StreamWatchModel", "find", c_Md_find, 7) 49 (x_aload 0) 50 := mj_aload_n (j := 0) rfl (by decide +kernel)
theorem i_Md_find_50 : mj_Snd zG ("StreamWatchModel", "find", c_Md_find, 7) 50 (x_getf 11 5) 53 := mj_getf (T := T_Md) rfl (by decide) u_Md z4_70 (by decide +kernel)
theorem i_Md_find_53 : mj_Snd zG ("StreamWatchModel", "find", c_Md_find, 7) 53 (x_iload 6) 55 := mj_iload (by decide +kernel)
theorem i_Md_find_55 : mj_Snd zG ("StreamWatchModel", "find", c_Md_find, 7) 55 (x_iald 0) 56 := mj_iald rfl (by decide +kernel)
theorem i_Md_find_56 : mj_Snd zG ("StreamWatchModel", "find", c_Md_find, 7) 56 (x_iload 2) 57 := mj_iload_n (j := 2) rfl (by decide +kernel)
theorem d_Md_find_57 : decode c_Md_find 57 = .ok (.if_icmp .ne 43, 3) := by decide +kernel
theorem i_Md_find_60 : mj_Snd zG ("StreamWatchModel", "find", c_Md_find, 7) 60 (x_aload 0) 61 := mj_aload_n (j := 0) rfl (by decide +kernel)
theorem i_Md_find_61 : mj_Snd zG ("StreamWatchModel", "find", c_Md_find, 7) 61 (x_getf 11 6) 64 := mj_getf (T := T_Md) rfl (by decide) u_Md z4_71 (by decide +kernel)
theorem i_Md_find_64 : mj_Snd zG ("StreamWatchModel", "find", c_Md_find, 7) 64 (x_iload 6) 66 := mj_iload (by decide +kernel)
theorem i_Md_find_66 : mj_Snd zG ("StreamWatchModel", "find", c_Md_find, 7) 66 (x_iald 0) 67 := mj_iald rfl (by decide +kernel)
theorem i_Md_find_67 : mj_Snd zG ("StreamWatchModel", "find", c_Md_find, 7) 67 (x_iload 4) 69 := mj_iload (by decide +kernel)
theorem d_Md_find_69 : decode c_Md_find 69 = .ok (.if_icmp .ne 31, 3) := by decide +kernel
theorem i_Md_find_72 : mj_Snd zG ("StreamWatchModel", "find", c_Md_find, 7) 72 (x_aload 0) 73 := mj_aload_n (j := 0) rfl (by decide +kernel)
theorem i_Md_find_73 : mj_Snd zG ("StreamWatchModel", "find", c_Md_find, 7) 73 (x_getf 11 7) 76 := mj_getf (T := T_Md) rfl (by decide) u_Md z4_72 (by decide +kernel)
theorem i_Md_find_76 : mj_Snd zG ("StreamWatchModel", "find", c_Md_find, 7) 76 (x_iload 6) 78 := mj_iload (by decide +kernel)
theorem i_Md_find_78 : mj_Snd zG ("StreamWatchModel", "find", c_Md_find, 7) 78 (x_iald 0) 79 := mj_iald rfl (by decide +kernel)
theorem i_Md_find_79 : mj_Snd zG ("StreamWatchModel", "find", c_Md_find, 7) 79 (x_iload 3) 80 := mj_iload_n (j := 3) rfl (by decide +kernel)
theorem d_Md_find_80 : decode c_Md_find 80 = .ok (.if_icmp .ne 20, 3) := by decide +kernel
theorem i_Md_find_83 : mj_Snd zG ("StreamWatchModel", "find", c_Md_find, 7) 83 (x_aload 0) 84 := mj_aload_n (j := 0) rfl (by decide +kernel)
theorem i_Md_find_84 : mj_Snd zG ("StreamWatchModel", "find", c_Md_find, 7) 84 (x_getf 11 8) 87 := mj_getf (T := T_Md) rfl (by decide) u_Md z4_73 (by decide +kernel)
theorem i_Md_find_87 : mj_Snd zG ("StreamWatchModel", "find", c_Md_find, 7) 87 (x_iload 6) 89 := mj_iload (by decide +kernel)
theorem i_Md_find_89 : mj_Snd zG ("StreamWatchModel", "find", c_Md_find, 7) 89 (x_iald 0) 90 := mj_iald rfl (by decide +kernel)
theorem i_Md_find_90 : mj_Snd zG ("StreamWatchModel", "find", c_Md_find, 7) 90 (x_iload 5) 92 := mj_iload (by decide +kernel)
theorem d_Md_find_92 : decode c_Md_find 92 = .ok (.if_icmp .ne 8, 3) := by decide +kernel
theorem i_Md_find_95 : mj_Snd zG ("StreamWatchModel", "find", c_Md_find, 7) 95 (x_const 2) 96 := mj_const (n := 2) (by decide) (by decide +kernel)
theorem i_Md_find_96 : mj_Snd zG ("StreamWatchModel", "find", c_Md_find, 7) 96 (x_iload 6) 98 := mj_iload (by decide +kernel)
theorem i_Md_find_98 : mj_Snd zG ("StreamWatchModel", "find", c_Md_find, 7) 98 (x_imul) 99 := mj_imul (by decide +kernel)
theorem d_Md_find_99 : decode c_Md_find 99 = .ok (.ireturn, 1) := by decide +kernel
theorem i_Md_find_100 : mj_Snd zG ("StreamWatchModel", "find", c_Md_find, 7) 100 (x_aload 0) 101 := mj_aload_n (j := 0) rfl (by decide +kernel)
theorem i_Md_find_101 : mj_Snd zG ("StreamWatchModel", "find", c_Md_find, 7) 101 (x_getf 11 4) 104 := mj_getf (T := T_Md) rfl (by decide) u_Md z4_69 (by decide +kernel)
theorem i_Md_find_104 : mj_Snd zG ("StreamWatchModel", "find", c_Md_find, 7) 104 (x_iload 6) 106 := mj_iload (by decide +kernel)
theorem i_Md_find_106 : mj_Snd zG ("StreamWatchModel", "find", c_Md_find, 7) 106 (x_iald 1) 107 := mj_zald rfl (by decide +kernel)
theorem d_Md_find_107 : decode c_Md_find 107 = .ok (.ifCond .eq 56, 3) := by decide +kernel
theorem i_Md_find_110 : mj_Snd zG ("StreamWatchModel", "find", c_Md_find, 7) 110 (x_aload 0) 111 := mj_aload_n (j := 0) rfl (by decide +kernel)
theorem i_Md_find_111 : mj_Snd zG ("StreamWatchModel", "find", c_Md_find, 7) 111 (x_getf 11 5) 114 := mj_getf (T := T_Md) rfl (by decide) u_Md z4_70 (by decide +kernel)
theorem i_Md_find_114 : mj_Snd zG ("StreamWatchModel", "find", c_Md_find, 7) 114 (x_iload 6) 116 := mj_iload (by decide +kernel)
theorem i_Md_find_116 : mj_Snd zG ("StreamWatchModel", "find", c_Md_find, 7) 116 (x_iald 0) 117 := mj_iald rfl (by decide +kernel)
theorem i_Md_find_117 : mj_Snd zG ("StreamWatchModel", "find", c_Md_find, 7) 117 (x_iload 3) 118 := mj_iload_n (j := 3) rfl (by decide +kernel)
theorem d_Md_find_118 : decode c_Md_find 118 = .ok (.if_icmp .ne 45, 3) := by decide +kernel
theorem i_Md_find_121 : mj_Snd zG ("StreamWatchModel", "find", c_Md_find, 7) 121 (x_aload 0) 122 := mj_aload_n (j := 0) rfl (by decide +kernel)
theorem i_Md_find_122 : mj_Snd zG ("StreamWatchModel", "find", c_Md_find, 7) 122 (x_getf 11 6) 125 := mj_getf (T := T_Md) rfl (by decide) u_Md z4_71 (by decide +kernel)
theorem i_Md_find_125 : mj_Snd zG ("StreamWatchModel", "find", c_Md_find, 7) 125 (x_iload 6) 127 := mj_iload (by decide +kernel)
theorem i_Md_find_127 : mj_Snd zG ("StreamWatchModel", "find", c_Md_find, 7) 127 (x_iald 0) 128 := mj_iald rfl (by decide +kernel)
theorem i_Md_find_128 : mj_Snd zG ("StreamWatchModel", "find", c_Md_find, 7) 128 (x_iload 5) 130 := mj_iload (by decide +kernel)
theorem d_Md_find_130 : decode c_Md_find 130 = .ok (.if_icmp .ne 33, 3) := by decide +kernel
theorem i_Md_find_133 : mj_Snd zG ("StreamWatchModel", "find", c_Md_find, 7) 133 (x_aload 0) 134 := mj_aload_n (j := 0) rfl (by decide +kernel)
theorem i_Md_find_134 : mj_Snd zG ("StreamWatchModel", "find", c_Md_find, 7) 134 (x_getf 11 7) 137 := mj_getf (T := T_Md) rfl (by decide) u_Md z4_72 (by decide +kernel)
theorem i_Md_find_137 : mj_Snd zG ("StreamWatchModel", "find", c_Md_find, 7) 137 (x_iload 6) 139 := mj_iload (by decide +kernel)
theorem i_Md_find_139 : mj_Snd zG ("StreamWatchModel", "find", c_Md_find, 7) 139 (x_iald 0) 140 := mj_iald rfl (by decide +kernel)
theorem i_Md_find_140 : mj_Snd zG ("StreamWatchModel", "find", c_Md_find, 7) 140 (x_iload 2) 141 := mj_iload_n (j := 2) rfl (by decide +kernel)
theorem d_Md_find_141 : decode c_Md_find 141 = .ok (.if_icmp .ne 22, 3) := by decide +kernel
theorem i_Md_find_144 : mj_Snd zG ("StreamWatchModel", "find", c_Md_find, 7) 144 (x_aload 0) 145 := mj_aload_n (j := 0) rfl (by decide +kernel)
theorem i_Md_find_145 : mj_Snd zG ("StreamWatchModel", "find", c_Md_find, 7) 145 (x_getf 11 8) 148 := mj_getf (T := T_Md) rfl (by decide) u_Md z4_73 (by decide +kernel)
theorem i_Md_find_148 : mj_Snd zG ("StreamWatchModel", "find", c_Md_find, 7) 148 (x_iload 6) 150 := mj_iload (by decide +kernel)
theorem i_Md_find_150 : mj_Snd zG ("StreamWatchModel", "find", c_Md_find, 7) 150 (x_iald 0) 151 := mj_iald rfl (by decide +kernel)
theorem i_Md_find_151 : mj_Snd zG ("StreamWatchModel", "find", c_Md_find, 7) 151 (x_iload 4) 153 := mj_iload (by decide +kernel)
theorem d_Md_find_153 : decode c_Md_find 153 = .ok (.if_icmp .ne 10, 3) := by decide +kernel
theorem i_Md_find_156 : mj_Snd zG ("StreamWatchModel", "find", c_Md_find, 7) 156 (x_const 2) 157 := mj_const (n := 2) (by decide) (by decide +kernel)
theorem i_Md_find_157 : mj_Snd zG ("StreamWatchModel", "find", c_Md_find, 7) 157 (x_iload 6) 159 := mj_iload (by decide +kernel)
theorem i_Md_find_159 : mj_Snd zG ("StreamWatchModel", "find", c_Md_find, 7) 159 (x_imul) 160 := mj_imul (by decide +kernel)
theorem i_Md_find_160 : mj_Snd zG ("StreamWatchModel", "find", c_Md_find, 7) 160 (x_const 1) 161 := mj_const (n := 1) (by decide) (by decide +kernel)
theorem i_Md_find_161 : mj_Snd zG ("StreamWatchModel", "find", c_Md_find, 7) 161 (x_iadd) 162 := mj_iadd (by decide +kernel)
theorem d_Md_find_162 : decode c_Md_find 162 = .ok (.ireturn, 1) := by decide +kernel
theorem i_Md_find_163 : mj_Snd zG ("StreamWatchModel", "find", c_Md_find, 7) 163 (x_iinc 6 1) 166 := mj_iinc (n := 1) (by decide) (by decide) (by decide +kernel)
theorem i_Md_find_166 : mj_Snd zG ("StreamWatchModel", "find", c_Md_find, 7) 166 (x_skip) 33 := mj_goto (off := (-133)) (by decide) (by decide +kernel)
theorem i_Md_find_169 : mj_Snd zG ("StreamWatchModel", "find", c_Md_find, 7) 169 (x_const (-1)) 170 := mj_const (n := (-1)) (by decide) (by decide +kernel)
theorem d_Md_find_170 : decode c_Md_find 170 = .ok (.ireturn, 1) := by decide +kernel
theorem b_Md_find_0 : mj_Ch zG ("StreamWatchModel", "find", c_Md_find, 7) 0 [x_aload 0, x_const 12] 3 := ⟨_, i_Md_find_0, _, i_Md_find_1, rfl⟩
theorem b_Md_find_6 : mj_Ch zG ("StreamWatchModel", "find", c_Md_find, 7) 6 [x_istore 2, x_aload 0, x_const 16] 10 := ⟨_, i_Md_find_6, _, i_Md_find_7, _, i_Md_find_8, rfl⟩
theorem b_Md_find_13 : mj_Ch zG ("StreamWatchModel", "find", c_Md_find, 7) 13 [x_istore 3, x_aload 0, x_iload 1] 16 := ⟨_, i_Md_find_13, _, i_Md_find_14, _, i_Md_find_15, rfl⟩
theorem b_Md_find_19 : mj_Ch zG ("StreamWatchModel", "find", c_Md_find, 7) 19 [x_istore 4, x_aload 0, x_iload 1, x_const 2, x_iadd] 25 := ⟨_, i_Md_find_19, _, i_Md_find_21, _, i_Md_find_22, _, i_Md_find_23, _, i_Md_find_24, rfl⟩
theorem b_Md_find_28 : mj_Ch zG ("StreamWatchModel", "find", c_Md_find, 7) 28 [x_istore 5, x_const 0, x_istore 6] 33 := ⟨_, i_Md_find_28, _, i_Md_find_30, _, i_Md_find_31, rfl⟩
theorem b_Md_find_33 : mj_Ch zG ("StreamWatchModel", "find", c_Md_find, 7) 33 [x_iload 6, x_const 4] 36 := ⟨_, i_Md_find_33, _, i_Md_find_35, rfl⟩
theorem b_Md_find_39 : mj_Ch zG ("StreamWatchModel", "find", c_Md_find, 7) 39 [x_aload 0, x_getf 11 4, x_iload 6, x_iald 1] 46 := ⟨_, i_Md_find_39, _, i_Md_find_40, _, i_Md_find_43, _, i_Md_find_45, rfl⟩
theorem b_Md_find_49 : mj_Ch zG ("StreamWatchModel", "find", c_Md_find, 7) 49 [x_aload 0, x_getf 11 5, x_iload 6, x_iald 0, x_iload 2] 57 := ⟨_, i_Md_find_49, _, i_Md_find_50, _, i_Md_find_53, _, i_Md_find_55, _, i_Md_find_56, rfl⟩
theorem b_Md_find_60 : mj_Ch zG ("StreamWatchModel", "find", c_Md_find, 7) 60 [x_aload 0, x_getf 11 6, x_iload 6, x_iald 0, x_iload 4] 69 := ⟨_, i_Md_find_60, _, i_Md_find_61, _, i_Md_find_64, _, i_Md_find_66, _, i_Md_find_67, rfl⟩
theorem b_Md_find_72 : mj_Ch zG ("StreamWatchModel", "find", c_Md_find, 7) 72 [x_aload 0, x_getf 11 7, x_iload 6, x_iald 0, x_iload 3] 80 := ⟨_, i_Md_find_72, _, i_Md_find_73, _, i_Md_find_76, _, i_Md_find_78, _, i_Md_find_79, rfl⟩
theorem b_Md_find_83 : mj_Ch zG ("StreamWatchModel", "find", c_Md_find, 7) 83 [x_aload 0, x_getf 11 8, x_iload 6, x_iald 0, x_iload 5] 92 := ⟨_, i_Md_find_83, _, i_Md_find_84, _, i_Md_find_87, _, i_Md_find_89, _, i_Md_find_90, rfl⟩
theorem b_Md_find_95 : mj_Ch zG ("StreamWatchModel", "find", c_Md_find, 7) 95 [x_const 2, x_iload 6, x_imul] 99 := ⟨_, i_Md_find_95, _, i_Md_find_96, _, i_Md_find_98, rfl⟩
theorem b_Md_find_100 : mj_Ch zG ("StreamWatchModel", "find", c_Md_find, 7) 100 [x_aload 0, x_getf 11 4, x_iload 6, x_iald 1] 107 := ⟨_, i_Md_find_100, _, i_Md_find_101, _, i_Md_find_104, _, i_Md_find_106, rfl⟩
theorem b_Md_find_110 : mj_Ch zG ("StreamWatchModel", "find", c_Md_find, 7) 110 [x_aload 0, x_getf 11 5, x_iload 6, x_iald 0, x_iload 3] 118 := ⟨_, i_Md_find_110, _, i_Md_find_111, _, i_Md_find_114, _, i_Md_find_116, _, i_Md_find_117, rfl⟩
theorem b_Md_find_121 : mj_Ch zG ("StreamWatchModel", "find", c_Md_find, 7) 121 [x_aload 0, x_getf 11 6, x_iload 6, x_iald 0, x_iload 5] 130 := ⟨_, i_Md_find_121, _, i_Md_find_122, _, i_Md_find_125, _, i_Md_find_127, _, i_Md_find_128, rfl⟩
theorem b_Md_find_133 : mj_Ch zG ("StreamWatchModel", "find", c_Md_find, 7) 133 [x_aload 0, x_getf 11 7, x_iload 6, x_iald 0, x_iload 2] 141 := ⟨_, i_Md_find_133, _, i_Md_find_134, _, i_Md_find_137, _, i_Md_find_139, _, i_Md_find_140, rfl⟩
theorem b_Md_find_144 : mj_Ch zG ("StreamWatchModel", "find", c_Md_find, 7) 144 [x_aload 0, x_getf 11 8, x_iload 6, x_iald 0, x_iload 4] 153 := ⟨_, i_Md_find_144, _, i_Md_find_145, _, i_Md_find_148, _, i_Md_find_150, _, i_Md_find_151, rfl⟩
theorem b_Md_find_156 : mj_Ch zG ("StreamWatchModel", "find", c_Md_find, 7) 156 [x_const 2, x_iload 6, x_imul, x_const 1, x_iadd] 162 := ⟨_, i_Md_find_156, _, i_Md_find_157, _, i_Md_find_159, _, i_Md_find_160, _, i_Md_find_161, rfl⟩
theorem b_Md_find_163 : mj_Ch zG ("StreamWatchModel", "find", c_Md_find, 7) 163 [x_iinc 6 1, x_skip] 33 := ⟨_, i_Md_find_163, _, i_Md_find_166, rfl⟩
theorem b_Md_find_169 : mj_Ch zG ("StreamWatchModel", "find", c_Md_find, 7) 169 [x_const (-1)] 170 := ⟨_, i_Md_find_169, rfl⟩
theorem i_Md_hold_0 : mj_Snd zG ("StreamWatchModel", "hold", c_Md_hold, 6) 0 (x_iload 2) 1 := mj_iload_n (j := 2) rfl (by decide +kernel)
theorem i_Md_hold_1 : mj_Snd zG ("StreamWatchModel", "hold", c_Md_hold, 6) 1 (x_aload 0) 2 := mj_aload_n (j := 0) rfl (by decide +kernel)
theorem i_Md_hold_2 : mj_Snd zG ("StreamWatchModel", "hold", c_Md_hold, 6) 2 (x_getf 11 12) 5 := mj_getf (T := T_Md) rfl (by decide) u_Md z4_77 (by decide +kernel)
theorem i_Md_hold_5 : mj_Snd zG ("StreamWatchModel", "hold", c_Md_hold, 6) 5 (x_iload 1) 6 := mj_iload_n (j := 1) rfl (by decide +kernel)
theorem i_Md_hold_6 : mj_Snd zG ("StreamWatchModel", "hold", c_Md_hold, 6) 6 (x_iald 0) 7 := mj_iald rfl (by decide +kernel)
theorem i_Md_hold_7 : mj_Snd zG ("StreamWatchModel", "hold", c_Md_hold, 6) 7 (x_isub) 8 := mj_isub (by decide +kernel)
theorem i_Md_hold_8 : mj_Snd zG ("StreamWatchModel", "hold", c_Md_hold, 6) 8 (x_istore 4) 10 := mj_istore (by decide) (by decide +kernel)
theorem i_Md_hold_10 : mj_Snd zG ("StreamWatchModel", "hold", c_Md_hold, 6) 10 (x_iload 4) 12 := mj_iload (by decide +kernel)
theorem d_Md_hold_12 : decode c_Md_hold 12 = .ok (.ifCond .lt 10, 3) := by decide +kernel
theorem i_Md_hold_15 : mj_Snd zG ("StreamWatchModel", "hold", c_Md_hold, 6) 15 (x_iload 4) 17 := mj_iload (by decide +kernel)
theorem i_Md_hold_17 : mj_Snd zG ("StreamWatchModel", "hold", c_Md_hold, 6) 17 (x_const 31) 19 := mj_bipush (n := 31) (by decide) (by decide +kernel)
theorem d_Md_hold_19 : decode c_Md_hold 19 = .ok (.if_icmp .le 4, 3) := by decide +kernel
theorem d_Md_hold_22 : decode c_Md_hold 22 = .ok (.return_, 1) := by decide +kernel
theorem i_Md_hold_23 : mj_Snd zG ("StreamWatchModel", "hold", c_Md_hold, 6) 23 (x_const 32) 25 := mj_bipush (n := 32) (by decide) (by decide +kernel)
theorem i_Md_hold_25 : mj_Snd zG ("StreamWatchModel", "hold", c_Md_hold, 6) 25 (x_iload 1) 26 := mj_iload_n (j := 1) rfl (by decide +kernel)
theorem i_Md_hold_26 : mj_Snd zG ("StreamWatchModel", "hold", c_Md_hold, 6) 26 (x_imul) 27 := mj_imul (by decide +kernel)
theorem i_Md_hold_27 : mj_Snd zG ("StreamWatchModel", "hold", c_Md_hold, 6) 27 (x_iload 4) 29 := mj_iload (by decide +kernel)
theorem i_Md_hold_29 : mj_Snd zG ("StreamWatchModel", "hold", c_Md_hold, 6) 29 (x_iadd) 30 := mj_iadd (by decide +kernel)
theorem i_Md_hold_30 : mj_Snd zG ("StreamWatchModel", "hold", c_Md_hold, 6) 30 (x_istore 5) 32 := mj_istore (by decide) (by decide +kernel)
theorem i_Md_hold_32 : mj_Snd zG ("StreamWatchModel", "hold", c_Md_hold, 6) 32 (x_aload 0) 33 := mj_aload_n (j := 0) rfl (by decide +kernel)
theorem i_Md_hold_33 : mj_Snd zG ("StreamWatchModel", "hold", c_Md_hold, 6) 33 (x_getf 11 16) 36 := mj_getf (T := T_Md) rfl (by decide) u_Md z4_81 (by decide +kernel)
theorem i_Md_hold_36 : mj_Snd zG ("StreamWatchModel", "hold", c_Md_hold, 6) 36 (x_iload 5) 38 := mj_iload (by decide +kernel)
theorem i_Md_hold_38 : mj_Snd zG ("StreamWatchModel", "hold", c_Md_hold, 6) 38 (x_iald 1) 39 := mj_zald rfl (by decide +kernel)
theorem d_Md_hold_39 : decode c_Md_hold 39 = .ok (.ifCond .eq 10, 3) := by decide +kernel
theorem i_Md_hold_42 : mj_Snd zG ("StreamWatchModel", "hold", c_Md_hold, 6) 42 (x_aload 0) 43 := mj_aload_n (j := 0) rfl (by decide +kernel)
theorem i_Md_hold_43 : mj_Snd zG ("StreamWatchModel", "hold", c_Md_hold, 6) 43 (x_getf 11 1) 46 := mj_getf (T := T_Md) rfl (by decide) u_Md z4_66 (by decide +kernel)
theorem d_Md_hold_46 : decode c_Md_hold 46 = .ok (.ifCond .eq 11, 3) := by decide +kernel
theorem i_Md_hold_49 : mj_Snd zG ("StreamWatchModel", "hold", c_Md_hold, 6) 49 (x_aload 0) 50 := mj_aload_n (j := 0) rfl (by decide +kernel)
theorem i_Md_hold_50 : mj_Snd zG ("StreamWatchModel", "hold", c_Md_hold, 6) 50 (x_getf 11 17) 53 := mj_getf (T := T_Md) rfl (by decide) u_Md z4_82 (by decide +kernel)
theorem i_Md_hold_53 : mj_Snd zG ("StreamWatchModel", "hold", c_Md_hold, 6) 53 (x_iload 5) 55 := mj_iload (by decide +kernel)
theorem i_Md_hold_55 : mj_Snd zG ("StreamWatchModel", "hold", c_Md_hold, 6) 55 (x_iload 3) 56 := mj_iload_n (j := 3) rfl (by decide +kernel)
theorem i_Md_hold_56 : mj_Snd zG ("StreamWatchModel", "hold", c_Md_hold, 6) 56 (x_iast 0) 57 := mj_iast rfl (by decide +kernel)
theorem i_Md_hold_57 : mj_Snd zG ("StreamWatchModel", "hold", c_Md_hold, 6) 57 (x_aload 0) 58 := mj_aload_n (j := 0) rfl (by decide +kernel)
theorem i_Md_hold_58 : mj_Snd zG ("StreamWatchModel", "hold", c_Md_hold, 6) 58 (x_getf 11 16) 61 := mj_getf (T := T_Md) rfl (by decide) u_Md z4_81 (by decide +kernel)
theorem i_Md_hold_61 : mj_Snd zG ("StreamWatchModel", "hold", c_Md_hold, 6) 61 (x_iload 5) 63 := mj_iload (by decide +kernel)
theorem i_Md_hold_63 : mj_Snd zG ("StreamWatchModel", "hold", c_Md_hold, 6) 63 (x_const 1) 64 := mj_const (n := 1) (by decide) (by decide +kernel)
theorem i_Md_hold_64 : mj_Snd zG ("StreamWatchModel", "hold", c_Md_hold, 6) 64 (x_zast 1) 65 := mj_zast rfl (by decide +kernel)
theorem d_Md_hold_65 : decode c_Md_hold 65 = .ok (.return_, 1) := by decide +kernel
theorem b_Md_hold_0 : mj_Ch zG ("StreamWatchModel", "hold", c_Md_hold, 6) 0 [x_iload 2, x_aload 0, x_getf 11 12, x_iload 1, x_iald 0, x_isub, x_istore 4, x_iload 4] 12 := ⟨_, i_Md_hold_0, _, i_Md_hold_1, _, i_Md_hold_2, _, i_Md_hold_5, _, i_Md_hold_6, _, i_Md_hold_7, _, i_Md_hold_8, _, i_Md_hold_10, rfl⟩
theorem b_Md_hold_15 : mj_Ch zG ("StreamWatchModel", "hold", c_Md_hold, 6) 15 [x_iload 4, x_const 31] 19 := ⟨_, i_Md_hold_15, _, i_Md_hold_17, rfl⟩
theorem b_Md_hold_23 : mj_Ch zG ("StreamWatchModel", "hold", c_Md_hold, 6) 23 [x_const 32, x_iload 1, x_imul, x_iload 4, x_iadd, x_istore 5, x_aload 0, x_getf 11 16, x_iload 5, x_iald 1] 39 := ⟨_, i_Md_hold_23, _, i_Md_hold_25, _, i_Md_hold_26, _, i_Md_hold_27, _, i_Md_hold_29, _, i_Md_hold_30, _, i_Md_hold_32, _, i_Md_hold_33, _, i_Md_hold_36, _, i_Md_hold_38, rfl⟩
theorem b_Md_hold_42 : mj_Ch zG ("StreamWatchModel", "hold", c_Md_hold, 6) 42 [x_aload 0, x_getf 11 1] 46 := ⟨_, i_Md_hold_42, _, i_Md_hold_43, rfl⟩
theorem b_Md_hold_49 : mj_Ch zG ("StreamWatchModel", "hold", c_Md_hold, 6) 49 [x_aload 0, x_getf 11 17, x_iload 5, x_iload 3, x_iast 0] 57 := ⟨_, i_Md_hold_49, _, i_Md_hold_50, _, i_Md_hold_53, _, i_Md_hold_55, _, i_Md_hold_56, rfl⟩
theorem b_Md_hold_57 : mj_Ch zG ("StreamWatchModel", "hold", c_Md_hold, 6) 57 [x_aload 0, x_getf 11 16, x_iload 5, x_const 1, x_zast 1] 65 := ⟨_, i_Md_hold_57, _, i_Md_hold_58, _, i_Md_hold_61, _, i_Md_hold_63, _, i_Md_hold_64, rfl⟩
theorem i_Md_grow_0 : mj_Snd zG ("StreamWatchModel", "grow", c_Md_grow, 6) 0 (x_const 0) 1 := mj_const (n := 0) (by decide) (by decide +kernel)
theorem i_Md_grow_1 : mj_Snd zG ("StreamWatchModel", "grow", c_Md_grow, 6) 1 (x_istore 2) 2 := mj_istore_n (j := 2) rfl (by decide) (by decide +kernel)
theorem i_Md_grow_2 : mj_Snd zG ("StreamWatchModel", "grow", c_Md_grow, 6) 2 (x_aload 0) 3 := mj_aload_n (j := 0) rfl (by decide +kernel)
theorem i_Md_grow_3 : mj_Snd zG ("StreamWatchModel", "grow", c_Md_grow, 6) 3 (x_getf 11 16) 6 := mj_getf (T := T_Md) rfl (by decide) u_Md z4_81 (by decide +kernel)
theorem i_Md_grow_6 : mj_Snd zG ("StreamWatchModel", "grow", c_Md_grow, 6) 6 (x_const 32) 8 := mj_bipush (n := 32) (by decide) (by decide +kernel)
theorem i_Md_grow_8 : mj_Snd zG ("StreamWatchModel", "grow", c_Md_grow, 6) 8 (x_iload 1) 9 := mj_iload_n (j := 1) rfl (by decide +kernel)
theorem i_Md_grow_9 : mj_Snd zG ("StreamWatchModel", "grow", c_Md_grow, 6) 9 (x_imul) 10 := mj_imul (by decide +kernel)
theorem i_Md_grow_10 : mj_Snd zG ("StreamWatchModel", "grow", c_Md_grow, 6) 10 (x_iald 1) 11 := mj_zald rfl (by decide +kernel)
theorem d_Md_grow_11 : decode c_Md_grow 11 = .ok (.ifCond .eq 183, 3) := by decide +kernel
theorem i_Md_grow_14 : mj_Snd zG ("StreamWatchModel", "grow", c_Md_grow, 6) 14 (x_aload 0) 15 := mj_aload_n (j := 0) rfl (by decide +kernel)
theorem i_Md_grow_15 : mj_Snd zG ("StreamWatchModel", "grow", c_Md_grow, 6) 15 (x_getf 11 14) 18 := mj_getf (T := T_Md) rfl (by decide) u_Md z4_79 (by decide +kernel)
theorem i_Md_grow_18 : mj_Snd zG ("StreamWatchModel", "grow", c_Md_grow, 6) 18 (x_iload 1) 19 := mj_iload_n (j := 1) rfl (by decide +kernel)
theorem i_Md_grow_19 : mj_Snd zG ("StreamWatchModel", "grow", c_Md_grow, 6) 19 (x_iald 0) 20 := mj_iald rfl (by decide +kernel)
theorem i_Md_grow_20 : mj_Snd zG ("StreamWatchModel", "grow", c_Md_grow, 6) 20 (x_const 80) 22 := mj_bipush (n := 80) (by decide) (by decide +kernel)
theorem d_Md_grow_22 : decode c_Md_grow 22 = .ok (.if_icmp .ge 7, 3) := by decide +kernel
theorem i_Md_grow_25 : mj_Snd zG ("StreamWatchModel", "grow", c_Md_grow, 6) 25 (x_const 1) 26 := mj_const (n := 1) (by decide) (by decide +kernel)
theorem i_Md_grow_26 : mj_Snd zG ("StreamWatchModel", "grow", c_Md_grow, 6) 26 (x_skip) 30 := mj_goto (off := 4) (by decide) (by decide +kernel)
theorem i_Md_grow_29 : mj_Snd zG ("StreamWatchModel", "grow", c_Md_grow, 6) 29 (x_const 0) 30 := mj_const (n := 0) (by decide) (by decide +kernel)
theorem i_Md_grow_30 : mj_Snd zG ("StreamWatchModel", "grow", c_Md_grow, 6) 30 (x_istore 3) 31 := mj_istore_n (j := 3) rfl (by decide) (by decide +kernel)
theorem i_Md_grow_31 : mj_Snd zG ("StreamWatchModel", "grow", c_Md_grow, 6) 31 (x_iload 3) 32 := mj_iload_n (j := 3) rfl (by decide +kernel)
theorem d_Md_grow_32 : decode c_Md_grow 32 = .ok (.ifCond .eq 38, 3) := by decide +kernel
theorem i_Md_grow_35 : mj_Snd zG ("StreamWatchModel", "grow", c_Md_grow, 6) 35 (x_aload 0) 36 := mj_aload_n (j := 0) rfl (by decide +kernel)
theorem i_Md_grow_36 : mj_Snd zG ("StreamWatchModel", "grow", c_Md_grow, 6) 36 (x_getf 11 15) 39 := mj_getf (T := T_Md) rfl (by decide) u_Md z4_80 (by decide +kernel)
theorem i_Md_grow_39 : mj_Snd zG ("StreamWatchModel", "grow", c_Md_grow, 6) 39 (x_const 80) 41 := mj_bipush (n := 80) (by decide) (by decide +kernel)
theorem i_Md_grow_41 : mj_Snd zG ("StreamWatchModel", "grow", c_Md_grow, 6) 41 (x_iload 1) 42 := mj_iload_n (j := 1) rfl (by decide +kernel)
theorem i_Md_grow_42 : mj_Snd zG ("StreamWatchModel", "grow", c_Md_grow, 6) 42 (x_imul) 43 := mj_imul (by decide +kernel)
theorem i_Md_grow_43 : mj_Snd zG ("StreamWatchModel", "grow", c_Md_grow, 6) 43 (x_aload 0) 44 := mj_aload_n (j := 0) rfl (by decide +kernel)
theorem i_Md_grow_44 : mj_Snd zG ("StreamWatchModel", "grow", c_Md_grow, 6) 44 (x_getf 11 14) 47 := mj_getf (T := T_Md) rfl (by decide) u_Md z4_79 (by decide +kernel)
theorem i_Md_grow_47 : mj_Snd zG ("StreamWatchModel", "grow", c_Md_grow, 6) 47 (x_iload 1) 48 := mj_iload_n (j := 1) rfl (by decide +kernel)
theorem i_Md_grow_48 : mj_Snd zG ("StreamWatchModel", "grow", c_Md_grow, 6) 48 (x_iald 0) 49 := mj_iald rfl (by decide +kernel)
theorem i_Md_grow_49 : mj_Snd zG ("StreamWatchModel", "grow", c_Md_grow, 6) 49 (x_iadd) 50 := mj_iadd (by decide +kernel)
theorem i_Md_grow_50 : mj_Snd zG ("StreamWatchModel", "grow", c_Md_grow, 6) 50 (x_aload 0) 51 := mj_aload_n (j := 0) rfl (by decide +kernel)
theorem i_Md_grow_51 : mj_Snd zG ("StreamWatchModel", "grow", c_Md_grow, 6) 51 (x_getf 11 17) 54 := mj_getf (T := T_Md) rfl (by decide) u_Md z4_82 (by decide +kernel)
theorem i_Md_grow_54 : mj_Snd zG ("StreamWatchModel", "grow", c_Md_grow, 6) 54 (x_const 32) 56 := mj_bipush (n := 32) (by decide) (by decide +kernel)
theorem i_Md_grow_56 : mj_Snd zG ("StreamWatchModel", "grow", c_Md_grow, 6) 56 (x_iload 1) 57 := mj_iload_n (j := 1) rfl (by decide +kernel)
theorem i_Md_grow_57 : mj_Snd zG ("StreamWatchModel", "grow", c_Md_grow, 6) 57 (x_imul) 58 := mj_imul (by decide +kernel)
theorem i_Md_grow_58 : mj_Snd zG ("StreamWatchModel", "grow", c_Md_grow, 6) 58 (x_iald 0) 59 := mj_iald rfl (by decide +kernel)
theorem i_Md_grow_59 : mj_Snd zG ("StreamWatchModel", "grow", c_Md_grow, 6) 59 (x_iast 0) 60 := mj_iast rfl (by decide +kernel)
theorem i_Md_grow_60 : mj_Snd zG ("StreamWatchModel", "grow", c_Md_grow, 6) 60 (x_aload 0) 61 := mj_aload_n (j := 0) rfl (by decide +kernel)
theorem i_Md_grow_61 : mj_Snd zG ("StreamWatchModel", "grow", c_Md_grow, 6) 61 (x_getf 11 14) 64 := mj_getf (T := T_Md) rfl (by decide) u_Md z4_79 (by decide +kernel)
theorem i_Md_grow_64 : mj_Snd zG ("StreamWatchModel", "grow", c_Md_grow, 6) 64 (x_iload 1) 65 := mj_iload_n (j := 1) rfl (by decide +kernel)
theorem i_Md_grow_65 : mj_Snd zG ("StreamWatchModel", "grow", c_Md_grow, 6) 65 (x_dup2) 66 := mj_dup2 (by decide +kernel)
theorem i_Md_grow_66 : mj_Snd zG ("StreamWatchModel", "grow", c_Md_grow, 6) 66 (x_iald 0) 67 := mj_iald rfl (by decide +kernel)
theorem i_Md_grow_67 : mj_Snd zG ("StreamWatchModel", "grow", c_Md_grow, 6) 67 (x_const 1) 68 := mj_const (n := 1) (by decide) (by decide +kernel)
theorem i_Md_grow_68 : mj_Snd zG ("StreamWatchModel", "grow", c_Md_grow, 6) 68 (x_iadd) 69 := mj_iadd (by decide +kernel)
theorem i_Md_grow_69 : mj_Snd zG ("StreamWatchModel", "grow", c_Md_grow, 6) 69 (x_iast 0) 70 := mj_iast rfl (by decide +kernel)
theorem i_Md_grow_70 : mj_Snd zG ("StreamWatchModel", "grow", c_Md_grow, 6) 70 (x_const 0) 71 := mj_const (n := 0) (by decide) (by decide +kernel)
theorem i_Md_grow_71 : mj_Snd zG ("StreamWatchModel", "grow", c_Md_grow, 6) 71 (x_istore 4) 73 := mj_istore (by decide) (by decide +kernel)
theorem i_Md_grow_73 : mj_Snd zG ("StreamWatchModel", "grow", c_Md_grow, 6) 73 (x_iload 4) 75 := mj_iload (by decide +kernel)
theorem i_Md_grow_75 : mj_Snd zG ("StreamWatchModel", "grow", c_Md_grow, 6) 75 (x_const 32) 77 := mj_bipush (n := 32) (by decide) (by decide +kernel)
theorem d_Md_grow_77 : decode c_Md_grow 77 = .ok (.if_icmp .ge 88, 3) := by decide +kernel
theorem i_Md_grow_80 : mj_Snd zG ("StreamWatchModel", "grow", c_Md_grow, 6) 80 (x_const 32) 82 := mj_bipush (n := 32) (by decide) (by decide +kernel)
theorem i_Md_grow_82 : mj_Snd zG ("StreamWatchModel", "grow", c_Md_grow, 6) 82 (x_iload 1) 83 := mj_iload_n (j := 1) rfl (by decide +kernel)
theorem i_Md_grow_83 : mj_Snd zG ("StreamWatchModel", "grow", c_Md_grow, 6) 83 (x_imul) 84 := mj_imul (by decide +kernel)
theorem i_Md_grow_84 : mj_Snd zG ("StreamWatchModel", "grow", c_Md_grow, 6) 84 (x_iload 4) 86 := mj_iload (by decide +kernel)
theorem i_Md_grow_86 : mj_Snd zG ("StreamWatchModel", "grow", c_Md_grow, 6) 86 (x_iadd) 87 := mj_iadd (by decide +kernel)
theorem i_Md_grow_87 : mj_Snd zG ("StreamWatchModel", "grow", c_Md_grow, 6) 87 (x_istore 5) 89 := mj_istore (by decide) (by decide +kernel)
theorem i_Md_grow_89 : mj_Snd zG ("StreamWatchModel", "grow", c_Md_grow, 6) 89 (x_aload 0) 90 := mj_aload_n (j := 0) rfl (by decide +kernel)
theorem i_Md_grow_90 : mj_Snd zG ("StreamWatchModel", "grow", c_Md_grow, 6) 90 (x_getf 11 16) 93 := mj_getf (T := T_Md) rfl (by decide) u_Md z4_81 (by decide +kernel)
theorem i_Md_grow_93 : mj_Snd zG ("StreamWatchModel", "grow", c_Md_grow, 6) 93 (x_iload 5) 95 := mj_iload (by decide +kernel)
theorem i_Md_grow_95 : mj_Snd zG ("StreamWatchModel", "grow", c_Md_grow, 6) 95 (x_iload 4) 97 := mj_iload (by decide +kernel)
theorem i_Md_grow_97 : mj_Snd zG ("StreamWatchModel", "grow", c_Md_grow, 6) 97 (x_const 31) 99 := mj_bipush (n := 31) (by decide) (by decide +kernel)
theorem d_Md_grow_99 : decode c_Md_grow 99 = .ok (.if_icmp .ge 31, 3) := by decide +kernel
theorem i_Md_grow_102 : mj_Snd zG ("StreamWatchModel", "grow", c_Md_grow, 6) 102 (x_aload 0) 103 := mj_aload_n (j := 0) rfl (by decide +kernel)
theorem i_Md_grow_103 : mj_Snd zG ("StreamWatchModel", "grow", c_Md_grow, 6) 103 (x_getf 11 16) 106 := mj_getf (T := T_Md) rfl (by decide) u_Md z4_81 (by decide +kernel)
theorem i_Md_grow_106 : mj_Snd zG ("StreamWatchModel", "grow", c_Md_grow, 6) 106 (x_iload 4) 108 := mj_iload (by decide +kernel)
theorem i_Md_grow_108 : mj_Snd zG ("StreamWatchModel", "grow", c_Md_grow, 6) 108 (x_const 31) 110 := mj_bipush (n := 31) (by decide) (by decide +kernel)
theorem d_Md_grow_110 : decode c_Md_grow 110 = .ok (.if_icmp .ge 10, 3) := by decide +kernel
theorem i_Md_grow_113 : mj_Snd zG ("StreamWatchModel", "grow", c_Md_grow, 6) 113 (x_iload 5) 115 := mj_iload (by decide +kernel)
theorem i_Md_grow_115 : mj_Snd zG ("StreamWatchModel", "grow", c_Md_grow, 6) 115 (x_const 1) 116 := mj_const (n := 1) (by decide) (by decide +kernel)
theorem i_Md_grow_116 : mj_Snd zG ("StreamWatchModel", "grow", c_Md_grow, 6) 116 (x_iadd) 117 := mj_iadd (by decide +kernel)
theorem i_Md_grow_117 : mj_Snd zG ("StreamWatchModel", "grow", c_Md_grow, 6) 117 (x_skip) 122 := mj_goto (off := 5) (by decide) (by decide +kernel)
theorem i_Md_grow_120 : mj_Snd zG ("StreamWatchModel", "grow", c_Md_grow, 6) 120 (x_iload 5) 122 := mj_iload (by decide +kernel)
theorem i_Md_grow_122 : mj_Snd zG ("StreamWatchModel", "grow", c_Md_grow, 6) 122 (x_iald 1) 123 := mj_zald rfl (by decide +kernel)
theorem d_Md_grow_123 : decode c_Md_grow 123 = .ok (.ifCond .eq 7, 3) := by decide +kernel
theorem i_Md_grow_126 : mj_Snd zG ("StreamWatchModel", "grow", c_Md_grow, 6) 126 (x_const 1) 127 := mj_const (n := 1) (by decide) (by decide +kernel)
theorem i_Md_grow_127 : mj_Snd zG ("StreamWatchModel", "grow", c_Md_grow, 6) 127 (x_skip) 131 := mj_goto (off := 4) (by decide) (by decide +kernel)
theorem i_Md_grow_130 : mj_Snd zG ("StreamWatchModel", "grow", c_Md_grow, 6) 130 (x_const 0) 131 := mj_const (n := 0) (by decide) (by decide +kernel)
theorem i_Md_grow_131 : mj_Snd zG ("StreamWatchModel", "grow", c_Md_grow, 6) 131 (x_zast 1) 132 := mj_zast rfl (by decide +kernel)
theorem i_Md_grow_132 : mj_Snd zG ("StreamWatchModel", "grow", c_Md_grow, 6) 132 (x_aload 0) 133 := mj_aload_n (j := 0) rfl (by decide +kernel)
theorem i_Md_grow_133 : mj_Snd zG ("StreamWatchModel", "grow", c_Md_grow, 6) 133 (x_getf 11 17) 136 := mj_getf (T := T_Md) rfl (by decide) u_Md z4_82 (by decide +kernel)
theorem i_Md_grow_136 : mj_Snd zG ("StreamWatchModel", "grow", c_Md_grow, 6) 136 (x_iload 5) 138 := mj_iload (by decide +kernel)
theorem i_Md_grow_138 : mj_Snd zG ("StreamWatchModel", "grow", c_Md_grow, 6) 138 (x_iload 4) 140 := mj_iload (by decide +kernel)
theorem i_Md_grow_140 : mj_Snd zG ("StreamWatchModel", "grow", c_Md_grow, 6) 140 (x_const 31) 142 := mj_bipush (n := 31) (by decide) (by decide +kernel)
theorem d_Md_grow_142 : decode c_Md_grow 142 = .ok (.if_icmp .ge 15, 3) := by decide +kernel
theorem i_Md_grow_145 : mj_Snd zG ("StreamWatchModel", "grow", c_Md_grow, 6) 145 (x_aload 0) 146 := mj_aload_n (j := 0) rfl (by decide +kernel)
theorem i_Md_grow_146 : mj_Snd zG ("StreamWatchModel", "grow", c_Md_grow, 6) 146 (x_getf 11 17) 149 := mj_getf (T := T_Md) rfl (by decide) u_Md z4_82 (by decide +kernel)
theorem i_Md_grow_149 : mj_Snd zG ("StreamWatchModel", "grow", c_Md_grow, 6) 149 (x_iload 5) 151 := mj_iload (by decide +kernel)
theorem i_Md_grow_151 : mj_Snd zG ("StreamWatchModel", "grow", c_Md_grow, 6) 151 (x_const 1) 152 := mj_const (n := 1) (by decide) (by decide +kernel)
theorem i_Md_grow_152 : mj_Snd zG ("StreamWatchModel", "grow", c_Md_grow, 6) 152 (x_iadd) 153 := mj_iadd (by decide +kernel)
theorem i_Md_grow_153 : mj_Snd zG ("StreamWatchModel", "grow", c_Md_grow, 6) 153 (x_iald 0) 154 := mj_iald rfl (by decide +kernel)
theorem i_Md_grow_154 : mj_Snd zG ("StreamWatchModel", "grow", c_Md_grow, 6) 154 (x_skip) 158 := mj_goto (off := 4) (by decide) (by decide +kernel)
theorem i_Md_grow_157 : mj_Snd zG ("StreamWatchModel", "grow", c_Md_grow, 6) 157 (x_const 0) 158 := mj_const (n := 0) (by decide) (by decide +kernel)
theorem i_Md_grow_158 : mj_Snd zG ("StreamWatchModel", "grow", c_Md_grow, 6) 158 (x_iast 0) 159 := mj_iast rfl (by decide +kernel)
theorem i_Md_grow_159 : mj_Snd zG ("StreamWatchModel", "grow", c_Md_grow, 6) 159 (x_iinc 4 1) 162 := mj_iinc (n := 1) (by decide) (by decide) (by decide +kernel)
theorem i_Md_grow_162 : mj_Snd zG ("StreamWatchModel", "grow", c_Md_grow, 6) 162 (x_skip) 73 := mj_goto (off := (-89)) (by decide) (by decide +kernel)
theorem i_Md_grow_165 : mj_Snd zG ("StreamWatchModel", "grow", c_Md_grow, 6) 165 (x_aload 0) 166 := mj_aload_n (j := 0) rfl (by decide +kernel)
theorem i_Md_grow_166 : mj_Snd zG ("StreamWatchModel", "grow", c_Md_grow, 6) 166 (x_getf 11 12) 169 := mj_getf (T := T_Md) rfl (by decide) u_Md z4_77 (by decide +kernel)
theorem i_Md_grow_169 : mj_Snd zG ("StreamWatchModel", "grow", c_Md_grow, 6) 169 (x_iload 1) 170 := mj_iload_n (j := 1) rfl (by decide +kernel)
theorem i_Md_grow_170 : mj_Snd zG ("StreamWatchModel", "grow", c_Md_grow, 6) 170 (x_dup2) 171 := mj_dup2 (by decide +kernel)
theorem i_Md_grow_171 : mj_Snd zG ("StreamWatchModel", "grow", c_Md_grow, 6) 171 (x_iald 0) 172 := mj_iald rfl (by decide +kernel)
theorem i_Md_grow_172 : mj_Snd zG ("StreamWatchModel", "grow", c_Md_grow, 6) 172 (x_const 1) 173 := mj_const (n := 1) (by decide) (by decide +kernel)
theorem i_Md_grow_173 : mj_Snd zG ("StreamWatchModel", "grow", c_Md_grow, 6) 173 (x_iadd) 174 := mj_iadd (by decide +kernel)
theorem i_Md_grow_174 : mj_Snd zG ("StreamWatchModel", "grow", c_Md_grow, 6) 174 (x_iast 0) 175 := mj_iast rfl (by decide +kernel)
theorem i_Md_grow_175 : mj_Snd zG ("StreamWatchModel", "grow", c_Md_grow, 6) 175 (x_iload 2) 176 := mj_iload_n (j := 2) rfl (by decide +kernel)
theorem i_Md_grow_176 : mj_Snd zG ("StreamWatchModel", "grow", c_Md_grow, 6) 176 (x_iload 3) 177 := mj_iload_n (j := 3) rfl (by decide +kernel)
theorem d_Md_grow_177 : decode c_Md_grow 177 = .ok (.ifCond .eq 11, 3) := by decide +kernel
theorem i_Md_grow_180 : mj_Snd zG ("StreamWatchModel", "grow", c_Md_grow, 6) 180 (x_aload 0) 181 := mj_aload_n (j := 0) rfl (by decide +kernel)
theorem i_Md_grow_181 : mj_Snd zG ("StreamWatchModel", "grow", c_Md_grow, 6) 181 (x_iload 1) 182 := mj_iload_n (j := 1) rfl (by decide +kernel)
theorem d_Md_grow_182 : decode c_Md_grow 182 = .ok (.invokevirtual 168, 3) := by decide +kernel
theorem i_Md_grow_185 : mj_Snd zG ("StreamWatchModel", "grow", c_Md_grow, 6) 185 (x_skip) 189 := mj_goto (off := 4) (by decide) (by decide +kernel)
theorem i_Md_grow_188 : mj_Snd zG ("StreamWatchModel", "grow", c_Md_grow, 6) 188 (x_const 0) 189 := mj_const (n := 0) (by decide) (by decide +kernel)
theorem i_Md_grow_189 : mj_Snd zG ("StreamWatchModel", "grow", c_Md_grow, 6) 189 (x_iadd) 190 := mj_iadd (by decide +kernel)
theorem i_Md_grow_190 : mj_Snd zG ("StreamWatchModel", "grow", c_Md_grow, 6) 190 (x_istore 2) 191 := mj_istore_n (j := 2) rfl (by decide) (by decide +kernel)
theorem i_Md_grow_191 : mj_Snd zG ("StreamWatchModel", "grow", c_Md_grow, 6) 191 (x_skip) 2 := mj_goto (off := (-189)) (by decide) (by decide +kernel)
theorem i_Md_grow_194 : mj_Snd zG ("StreamWatchModel", "grow", c_Md_grow, 6) 194 (x_iload 2) 195 := mj_iload_n (j := 2) rfl (by decide +kernel)
theorem d_Md_grow_195 : decode c_Md_grow 195 = .ok (.ireturn, 1) := by decide +kernel
theorem b_Md_grow_0 : mj_Ch zG ("StreamWatchModel", "grow", c_Md_grow, 6) 0 [x_const 0, x_istore 2] 2 := ⟨_, i_Md_grow_0, _, i_Md_grow_1, rfl⟩
theorem b_Md_grow_2 : mj_Ch zG ("StreamWatchModel", "grow", c_Md_grow, 6) 2 [x_aload 0, x_getf 11 16, x_const 32, x_iload 1, x_imul, x_iald 1] 11 := ⟨_, i_Md_grow_2, _, i_Md_grow_3, _, i_Md_grow_6, _, i_Md_grow_8, _, i_Md_grow_9, _, i_Md_grow_10, rfl⟩
theorem b_Md_grow_14 : mj_Ch zG ("StreamWatchModel", "grow", c_Md_grow, 6) 14 [x_aload 0, x_getf 11 14, x_iload 1, x_iald 0, x_const 80] 22 := ⟨_, i_Md_grow_14, _, i_Md_grow_15, _, i_Md_grow_18, _, i_Md_grow_19, _, i_Md_grow_20, rfl⟩
theorem b_Md_grow_25 : mj_Ch zG ("StreamWatchModel", "grow", c_Md_grow, 6) 25 [x_const 1, x_skip] 30 := ⟨_, i_Md_grow_25, _, i_Md_grow_26, rfl⟩
theorem b_Md_grow_29 : mj_Ch zG ("StreamWatchModel", "grow", c_Md_grow, 6) 29 [x_const 0] 30 := ⟨_, i_Md_grow_29, rfl⟩
theorem b_Md_grow_30 : mj_Ch zG ("StreamWatchModel", "grow", c_Md_grow, 6) 30 [x_istore 3, x_iload 3] 32 := ⟨_, i_Md_grow_30, _, i_Md_grow_31, rfl⟩
theorem b_Md_grow_35 : mj_Ch zG ("StreamWatchModel", "grow", c_Md_grow, 6) 35 [x_aload 0, x_getf 11 15, x_const 80, x_iload 1, x_imul, x_aload 0, x_getf 11 14, x_iload 1, x_iald 0, x_iadd, x_aload 0, x_getf 11 17, x_const 32, x_iload 1, x_imul, x_iald 0, x_iast 0, x_aload 0, x_getf 11 14, x_iload 1, x_dup2, x_iald 0, x_const 1, x_iadd, x_iast 0] 70 := ⟨_, i_Md_grow_35, _, i_Md_grow_36, _, i_Md_grow_39, _, i_Md_grow_41, _, i_Md_grow_42, _, i_Md_grow_43, _, i_Md_grow_44, _, i_Md_grow_47, _, i_Md_grow_48, _, i_Md_grow_49, _, i_Md_grow_50, _, i_Md_grow_51, _, i_Md_grow_54, _, i_Md_grow_56, _, i_Md_grow_57, _, i_Md_grow_58, _, i_Md_grow_59, _, i_Md_grow_60, _, i_Md_grow_61, _, i_Md_grow_64, _, i_Md_grow_65, _, i_Md_grow_66, _, i_Md_grow_67, _, i_Md_grow_68, _, i_Md_grow_69, rfl⟩
theorem b_Md_grow_70 : mj_Ch zG ("StreamWatchModel", "grow", c_Md_grow, 6) 70 [x_const 0, x_istore 4] 73 := ⟨_, i_Md_grow_70, _, i_Md_grow_71, rfl⟩
theorem b_Md_grow_73 : mj_Ch zG ("StreamWatchModel", "grow", c_Md_grow, 6) 73 [x_iload 4, x_const 32] 77 := ⟨_, i_Md_grow_73, _, i_Md_grow_75, rfl⟩
theorem b_Md_grow_80 : mj_Ch zG ("StreamWatchModel", "grow", c_Md_grow, 6) 80 [x_const 32, x_iload 1, x_imul, x_iload 4, x_iadd, x_istore 5, x_aload 0, x_getf 11 16, x_iload 5, x_iload 4, x_const 31] 99 := ⟨_, i_Md_grow_80, _, i_Md_grow_82, _, i_Md_grow_83, _, i_Md_grow_84, _, i_Md_grow_86, _, i_Md_grow_87, _, i_Md_grow_89, _, i_Md_grow_90, _, i_Md_grow_93, _, i_Md_grow_95, _, i_Md_grow_97, rfl⟩
theorem b_Md_grow_102 : mj_Ch zG ("StreamWatchModel", "grow", c_Md_grow, 6) 102 [x_aload 0, x_getf 11 16, x_iload 4, x_const 31] 110 := ⟨_, i_Md_grow_102, _, i_Md_grow_103, _, i_Md_grow_106, _, i_Md_grow_108, rfl⟩
theorem b_Md_grow_113 : mj_Ch zG ("StreamWatchModel", "grow", c_Md_grow, 6) 113 [x_iload 5, x_const 1, x_iadd, x_skip] 122 := ⟨_, i_Md_grow_113, _, i_Md_grow_115, _, i_Md_grow_116, _, i_Md_grow_117, rfl⟩
theorem b_Md_grow_120 : mj_Ch zG ("StreamWatchModel", "grow", c_Md_grow, 6) 120 [x_iload 5] 122 := ⟨_, i_Md_grow_120, rfl⟩
theorem b_Md_grow_122 : mj_Ch zG ("StreamWatchModel", "grow", c_Md_grow, 6) 122 [x_iald 1] 123 := ⟨_, i_Md_grow_122, rfl⟩
theorem b_Md_grow_126 : mj_Ch zG ("StreamWatchModel", "grow", c_Md_grow, 6) 126 [x_const 1, x_skip] 131 := ⟨_, i_Md_grow_126, _, i_Md_grow_127, rfl⟩
theorem b_Md_grow_130 : mj_Ch zG ("StreamWatchModel", "grow", c_Md_grow, 6) 130 [x_const 0] 131 := ⟨_, i_Md_grow_130, rfl⟩
theorem b_Md_grow_131 : mj_Ch zG ("StreamWatchModel", "grow", c_Md_grow, 6) 131 [x_zast 1, x_aload 0, x_getf 11 17, x_iload 5, x_iload 4, x_const 31] 142 := ⟨_, i_Md_grow_131, _, i_Md_grow_132, _, i_Md_grow_133, _, i_Md_grow_136, _, i_Md_grow_138, _, i_Md_grow_140, rfl⟩
theorem b_Md_grow_145 : mj_Ch zG ("StreamWatchModel", "grow", c_Md_grow, 6) 145 [x_aload 0, x_getf 11 17, x_iload 5, x_const 1, x_iadd, x_iald 0, x_skip] 158 := ⟨_, i_Md_grow_145, _, i_Md_grow_146, _, i_Md_grow_149, _, i_Md_grow_151, _, i_Md_grow_152, _, i_Md_grow_153, _, i_Md_grow_154, rfl⟩
theorem b_Md_grow_157 : mj_Ch zG ("StreamWatchModel", "grow", c_Md_grow, 6) 157 [x_const 0] 158 := ⟨_, i_Md_grow_157, rfl⟩
theorem b_Md_grow_158 : mj_Ch zG ("StreamWatchModel", "grow", c_Md_grow, 6) 158 [x_iast 0, x_iinc 4 1, x_skip] 73 := ⟨_, i_Md_grow_158, _, i_Md_grow_159, _, i_Md_grow_162, rfl⟩
theorem b_Md_grow_165 : mj_Ch zG ("StreamWatchModel", "grow", c_Md_grow, 6) 165 [x_aload 0, x_getf 11 12, x_iload 1, x_dup2, x_iald 0, x_const 1, x_iadd, x_iast 0, x_iload 2, x_iload 3] 177 := ⟨_, i_Md_grow_165, _, i_Md_grow_166, _, i_Md_grow_169, _, i_Md_grow_170, _, i_Md_grow_171, _, i_Md_grow_172, _, i_Md_grow_173, _, i_Md_grow_174, _, i_Md_grow_175, _, i_Md_grow_176, rfl⟩
theorem b_Md_grow_180 : mj_Ch zG ("StreamWatchModel", "grow", c_Md_grow, 6) 180 [x_aload 0, x_iload 1] 182 := ⟨_, i_Md_grow_180, _, i_Md_grow_181, rfl⟩
theorem b_Md_grow_185 : mj_Ch zG ("StreamWatchModel", "grow", c_Md_grow, 6) 185 [x_skip] 189 := ⟨_, i_Md_grow_185, rfl⟩
theorem b_Md_grow_188 : mj_Ch zG ("StreamWatchModel", "grow", c_Md_grow, 6) 188 [x_const 0] 189 := ⟨_, i_Md_grow_188, rfl⟩
theorem b_Md_grow_189 : mj_Ch zG ("StreamWatchModel", "grow", c_Md_grow, 6) 189 [x_iadd, x_istore 2, x_skip] 2 := ⟨_, i_Md_grow_189, _, i_Md_grow_190, _, i_Md_grow_191, rfl⟩
theorem b_Md_grow_194 : mj_Ch zG ("StreamWatchModel", "grow", c_Md_grow, 6) 194 [x_iload 2] 195 := ⟨_, i_Md_grow_194, rfl⟩
theorem i_Md_watch_0 : mj_Snd zG ("StreamWatchModel", "watch", c_Md_watch, 11) 0 (x_aload 0) 1 := mj_aload_n (j := 0) rfl (by decide +kernel)
theorem i_Md_watch_1 : mj_Snd zG ("StreamWatchModel", "watch", c_Md_watch, 11) 1 (x_const 0) 2 := mj_const (n := 0) (by decide) (by decide +kernel)
theorem i_Md_watch_2 : mj_Snd zG ("StreamWatchModel", "watch", c_Md_watch, 11) 2 (x_putf 11 0 0) 5 := mj_putG (T := T_Md) (ty0 := t_Md) rfl (by decide) u_Md t_Md_ok n_Md z4_65 (Or.inl rfl) (by decide +kernel)
theorem i_Md_watch_5 : mj_Snd zG ("StreamWatchModel", "watch", c_Md_watch, 11) 5 (x_aload 0) 6 := mj_aload_n (j := 0) rfl (by decide +kernel)
theorem i_Md_watch_6 : mj_Snd zG ("StreamWatchModel", "watch", c_Md_watch, 11) 6 (x_const 1) 7 := mj_const (n := 1) (by decide) (by decide +kernel)
theorem d_Md_watch_7 : decode c_Md_watch 7 = .ok (.invokevirtual 135, 3) := by decide +kernel
theorem i_Md_watch_10 : mj_Snd zG ("StreamWatchModel", "watch", c_Md_watch, 11) 10 (x_istore 1) 11 := mj_istore_n (j := 1) rfl (by decide) (by decide +kernel)
theorem i_Md_watch_11 : mj_Snd zG ("StreamWatchModel", "watch", c_Md_watch, 11) 11 (x_iload 1) 12 := mj_iload_n (j := 1) rfl (by decide +kernel)
theorem d_Md_watch_12 : decode c_Md_watch 12 = .ok (.ifCond .le 7, 3) := by decide +kernel
theorem i_Md_watch_15 : mj_Snd zG ("StreamWatchModel", "watch", c_Md_watch, 11) 15 (x_const (-1)) 16 := mj_const (n := (-1)) (by decide) (by decide +kernel)
theorem i_Md_watch_16 : mj_Snd zG ("StreamWatchModel", "watch", c_Md_watch, 11) 16 (x_iload 1) 17 := mj_iload_n (j := 1) rfl (by decide +kernel)
theorem i_Md_watch_17 : mj_Snd zG ("StreamWatchModel", "watch", c_Md_watch, 11) 17 (x_isub) 18 := mj_isub (by decide +kernel)
theorem d_Md_watch_18 : decode c_Md_watch 18 = .ok (.ireturn, 1) := by decide +kernel
theorem i_Md_watch_19 : mj_Snd zG ("StreamWatchModel", "watch", c_Md_watch, 11) 19 (x_aload 0) 20 := mj_aload_n (j := 0) rfl (by decide +kernel)
theorem d_Md_watch_20 : decode c_Md_watch 20 = .ok (.invokevirtual 118, 3) := by decide +kernel
theorem i_Md_watch_23 : mj_Snd zG ("StreamWatchModel", "watch", c_Md_watch, 11) 23 (x_istore 2) 24 := mj_istore_n (j := 2) rfl (by decide) (by decide +kernel)
theorem i_Md_watch_24 : mj_Snd zG ("StreamWatchModel", "watch", c_Md_watch, 11) 24 (x_aload 0) 25 := mj_aload_n (j := 0) rfl (by decide +kernel)
theorem i_Md_watch_25 : mj_Snd zG ("StreamWatchModel", "watch", c_Md_watch, 11) 25 (x_getf 11 3) 28 := mj_getf (T := T_Md) rfl (by decide) u_Md z4_68 (by decide +kernel)
theorem i_Md_watch_28 : mj_Snd zG ("StreamWatchModel", "watch", c_Md_watch, 11) 28 (x_iload 2) 29 := mj_iload_n (j := 2) rfl (by decide +kernel)
theorem i_Md_watch_29 : mj_Snd zG ("StreamWatchModel", "watch", c_Md_watch, 11) 29 (x_const 13) 31 := mj_bipush (n := 13) (by decide) (by decide +kernel)
theorem i_Md_watch_31 : mj_Snd zG ("StreamWatchModel", "watch", c_Md_watch, 11) 31 (x_iadd) 32 := mj_iadd (by decide +kernel)
theorem i_Md_watch_32 : mj_Snd zG ("StreamWatchModel", "watch", c_Md_watch, 11) 32 (x_iald 0) 33 := mj_iald rfl (by decide +kernel)
theorem i_Md_watch_33 : mj_Snd zG ("StreamWatchModel", "watch", c_Md_watch, 11) 33 (x_istore 3) 34 := mj_istore_n (j := 3) rfl (by decide) (by decide +kernel)
theorem i_Md_watch_34 : mj_Snd zG ("StreamWatchModel", "watch", c_Md_watch, 11) 34 (x_aload 0) 35 := mj_aload_n (j := 0) rfl (by decide +kernel)
theorem i_Md_watch_35 : mj_Snd zG ("StreamWatchModel", "watch", c_Md_watch, 11) 35 (x_iload 2) 36 := mj_iload_n (j := 2) rfl (by decide +kernel)
theorem d_Md_watch_36 : decode c_Md_watch 36 = .ok (.invokevirtual 171, 3) := by decide +kernel
theorem i_Md_watch_39 : mj_Snd zG ("StreamWatchModel", "watch", c_Md_watch, 11) 39 (x_istore 4) 41 := mj_istore (by decide) (by decide +kernel)
theorem i_Md_watch_41 : mj_Snd zG ("StreamWatchModel", "watch", c_Md_watch, 11) 41 (x_iload 4) 43 := mj_iload (by decide +kernel)
theorem d_Md_watch_43 : decode c_Md_watch 43 = .ok (.ifCond .ge 38, 3) := by decide +kernel
theorem i_Md_watch_46 : mj_Snd zG ("StreamWatchModel", "watch", c_Md_watch, 11) 46 (x_iload 3) 47 := mj_iload_n (j := 3) rfl (by decide +kernel)
theorem i_Md_watch_47 : mj_Snd zG ("StreamWatchModel", "watch", c_Md_watch, 11) 47 (x_const 2) 48 := mj_const (n := 2) (by decide) (by decide +kernel)
theorem i_Md_watch_48 : mj_Snd zG ("StreamWatchModel", "watch", c_Md_watch, 11) 48 (x_iand) 49 := mj_iand (by decide +kernel)
theorem d_Md_watch_49 : decode c_Md_watch 49 = .ok (.ifCond .eq 10, 3) := by decide +kernel
theorem i_Md_watch_52 : mj_Snd zG ("StreamWatchModel", "watch", c_Md_watch, 11) 52 (x_iload 3) 53 := mj_iload_n (j := 3) rfl (by decide +kernel)
theorem i_Md_watch_53 : mj_Snd zG ("StreamWatchModel", "watch", c_Md_watch, 11) 53 (x_const 16) 55 := mj_bipush (n := 16) (by decide) (by decide +kernel)
theorem i_Md_watch_55 : mj_Snd zG ("StreamWatchModel", "watch", c_Md_watch, 11) 55 (x_iand) 56 := mj_iand (by decide +kernel)
theorem d_Md_watch_56 : decode c_Md_watch 56 = .ok (.ifCond .eq 6, 3) := by decide +kernel
theorem i_Md_watch_59 : mj_Snd zG ("StreamWatchModel", "watch", c_Md_watch, 11) 59 (x_const (-10)) 61 := mj_bipush (n := (-10)) (by decide) (by decide +kernel)
theorem d_Md_watch_61 : decode c_Md_watch 61 = .ok (.ireturn, 1) := by decide +kernel
theorem i_Md_watch_62 : mj_Snd zG ("StreamWatchModel", "watch", c_Md_watch, 11) 62 (x_aload 0) 63 := mj_aload_n (j := 0) rfl (by decide +kernel)
theorem d_Md_watch_63 : decode c_Md_watch 63 = .ok (.invokevirtual 174, 3) := by decide +kernel
theorem i_Md_watch_66 : mj_Snd zG ("StreamWatchModel", "watch", c_Md_watch, 11) 66 (x_istore 5) 68 := mj_istore (by decide) (by decide +kernel)
theorem i_Md_watch_68 : mj_Snd zG ("StreamWatchModel", "watch", c_Md_watch, 11) 68 (x_aload 0) 69 := mj_aload_n (j := 0) rfl (by decide +kernel)
theorem i_Md_watch_69 : mj_Snd zG ("StreamWatchModel", "watch", c_Md_watch, 11) 69 (x_iload 5) 71 := mj_iload (by decide +kernel)
theorem i_Md_watch_71 : mj_Snd zG ("StreamWatchModel", "watch", c_Md_watch, 11) 71 (x_iload 2) 72 := mj_iload_n (j := 2) rfl (by decide +kernel)
theorem d_Md_watch_72 : decode c_Md_watch 72 = .ok (.invokevirtual 177, 3) := by decide +kernel
theorem i_Md_watch_75 : mj_Snd zG ("StreamWatchModel", "watch", c_Md_watch, 11) 75 (x_const 2) 76 := mj_const (n := 2) (by decide) (by decide +kernel)
theorem i_Md_watch_76 : mj_Snd zG ("StreamWatchModel", "watch", c_Md_watch, 11) 76 (x_iload 5) 78 := mj_iload (by decide +kernel)
theorem i_Md_watch_78 : mj_Snd zG ("StreamWatchModel", "watch", c_Md_watch, 11) 78 (x_imul) 79 := mj_imul (by decide +kernel)
theorem i_Md_watch_79 : mj_Snd zG ("StreamWatchModel", "watch", c_Md_watch, 11) 79 (x_istore 4) 81 := mj_istore (by decide) (by decide +kernel)
theorem i_Md_watch_81 : mj_Snd zG ("StreamWatchModel", "watch", c_Md_watch, 11) 81 (x_aload 0) 82 := mj_aload_n (j := 0) rfl (by decide +kernel)
theorem i_Md_watch_82 : mj_Snd zG ("StreamWatchModel", "watch", c_Md_watch, 11) 82 (x_dup) 83 := mj_dup (by decide +kernel)
theorem i_Md_watch_83 : mj_Snd zG ("StreamWatchModel", "watch", c_Md_watch, 11) 83 (x_getf 11 10) 86 := mj_getf (T := T_Md) rfl (by decide) u_Md z4_75 (by decide +kernel)
theorem i_Md_watch_86 : mj_Snd zG ("StreamWatchModel", "watch", c_Md_watch, 11) 86 (x_const 1) 87 := mj_const (n := 1) (by decide) (by decide +kernel)
theorem i_Md_watch_87 : mj_Snd zG ("StreamWatchModel", "watch", c_Md_watch, 11) 87 (x_iadd) 88 := mj_iadd (by decide +kernel)
theorem i_Md_watch_88 : mj_Snd zG ("StreamWatchModel", "watch", c_Md_watch, 11) 88 (x_putf 11 10 0) 91 := mj_putG (T := T_Md) (ty0 := t_Md) rfl (by decide) u_Md t_Md_ok n_Md z4_75 (Or.inl rfl) (by decide +kernel)
theorem i_Md_watch_91 : mj_Snd zG ("StreamWatchModel", "watch", c_Md_watch, 11) 91 (x_aload 0) 92 := mj_aload_n (j := 0) rfl (by decide +kernel)
theorem i_Md_watch_92 : mj_Snd zG ("StreamWatchModel", "watch", c_Md_watch, 11) 92 (x_getf 11 9) 95 := mj_getf (T := T_Md) rfl (by decide) u_Md z4_74 (by decide +kernel)
theorem i_Md_watch_95 : mj_Snd zG ("StreamWatchModel", "watch", c_Md_watch, 11) 95 (x_iload 4) 97 := mj_iload (by decide +kernel)
theorem i_Md_watch_97 : mj_Snd zG ("StreamWatchModel", "watch", c_Md_watch, 11) 97 (x_const 2) 98 := mj_const (n := 2) (by decide) (by decide +kernel)
theorem i_Md_watch_98 : mj_Snd zG ("StreamWatchModel", "watch", c_Md_watch, 11) 98 (x_idiv) 99 := mj_idiv (by decide +kernel)
theorem i_Md_watch_99 : mj_Snd zG ("StreamWatchModel", "watch", c_Md_watch, 11) 99 (x_aload 0) 100 := mj_aload_n (j := 0) rfl (by decide +kernel)
theorem i_Md_watch_100 : mj_Snd zG ("StreamWatchModel", "watch", c_Md_watch, 11) 100 (x_getf 11 10) 103 := mj_getf (T := T_Md) rfl (by decide) u_Md z4_75 (by decide +kernel)
theorem i_Md_watch_103 : mj_Snd zG ("StreamWatchModel", "watch", c_Md_watch, 11) 103 (x_iast 0) 104 := mj_iast rfl (by decide +kernel)
theorem i_Md_watch_104 : mj_Snd zG ("StreamWatchModel", "watch", c_Md_watch, 11) 104 (x_iload 3) 105 := mj_iload_n (j := 3) rfl (by decide +kernel)
theorem i_Md_watch_105 : mj_Snd zG ("StreamWatchModel", "watch", c_Md_watch, 11) 105 (x_const 4) 106 := mj_const (n := 4) (by decide) (by decide +kernel)
theorem i_Md_watch_106 : mj_Snd zG ("StreamWatchModel", "watch", c_Md_watch, 11) 106 (x_iand) 107 := mj_iand (by decide +kernel)
theorem d_Md_watch_107 : decode c_Md_watch 107 = .ok (.ifCond .eq 15, 3) := by decide +kernel
theorem i_Md_watch_110 : mj_Snd zG ("StreamWatchModel", "watch", c_Md_watch, 11) 110 (x_aload 0) 111 := mj_aload_n (j := 0) rfl (by decide +kernel)
theorem i_Md_watch_111 : mj_Snd zG ("StreamWatchModel", "watch", c_Md_watch, 11) 111 (x_getf 11 4) 114 := mj_getf (T := T_Md) rfl (by decide) u_Md z4_69 (by decide +kernel)
theorem i_Md_watch_114 : mj_Snd zG ("StreamWatchModel", "watch", c_Md_watch, 11) 114 (x_iload 4) 116 := mj_iload (by decide +kernel)
theorem i_Md_watch_116 : mj_Snd zG ("StreamWatchModel", "watch", c_Md_watch, 11) 116 (x_const 2) 117 := mj_const (n := 2) (by decide) (by decide +kernel)
theorem i_Md_watch_117 : mj_Snd zG ("StreamWatchModel", "watch", c_Md_watch, 11) 117 (x_idiv) 118 := mj_idiv (by decide +kernel)
theorem i_Md_watch_118 : mj_Snd zG ("StreamWatchModel", "watch", c_Md_watch, 11) 118 (x_const 0) 119 := mj_const (n := 0) (by decide) (by decide +kernel)
theorem i_Md_watch_119 : mj_Snd zG ("StreamWatchModel", "watch", c_Md_watch, 11) 119 (x_zast 1) 120 := mj_zast rfl (by decide +kernel)
theorem i_Md_watch_120 : mj_Snd zG ("StreamWatchModel", "watch", c_Md_watch, 11) 120 (x_const 0) 121 := mj_const (n := 0) (by decide) (by decide +kernel)
theorem d_Md_watch_121 : decode c_Md_watch 121 = .ok (.ireturn, 1) := by decide +kernel
theorem i_Md_watch_122 : mj_Snd zG ("StreamWatchModel", "watch", c_Md_watch, 11) 122 (x_iload 3) 123 := mj_iload_n (j := 3) rfl (by decide +kernel)
theorem i_Md_watch_123 : mj_Snd zG ("StreamWatchModel", "watch", c_Md_watch, 11) 123 (x_const 2) 124 := mj_const (n := 2) (by decide) (by decide +kernel)
theorem i_Md_watch_124 : mj_Snd zG ("StreamWatchModel", "watch", c_Md_watch, 11) 124 (x_iand) 125 := mj_iand (by decide +kernel)
theorem d_Md_watch_125 : decode c_Md_watch 125 = .ok (.ifCond .eq 7, 3) := by decide +kernel
theorem i_Md_watch_128 : mj_Snd zG ("StreamWatchModel", "watch", c_Md_watch, 11) 128 (x_const 1) 129 := mj_const (n := 1) (by decide) (by decide +kernel)
theorem i_Md_watch_129 : mj_Snd zG ("StreamWatchModel", "watch", c_Md_watch, 11) 129 (x_skip) 133 := mj_goto (off := 4) (by decide) (by decide +kernel)
theorem i_Md_watch_132 : mj_Snd zG ("StreamWatchModel", "watch", c_Md_watch, 11) 132 (x_const 0) 133 := mj_const (n := 0) (by decide) (by decide +kernel)
theorem i_Md_watch_133 : mj_Snd zG ("StreamWatchModel", "watch", c_Md_watch, 11) 133 (x_istore 5) 135 := mj_istore (by decide) (by decide +kernel)
theorem i_Md_watch_135 : mj_Snd zG ("StreamWatchModel", "watch", c_Md_watch, 11) 135 (x_aload 0) 136 := mj_aload_n (j := 0) rfl (by decide +kernel)
theorem i_Md_watch_136 : mj_Snd zG ("StreamWatchModel", "watch", c_Md_watch, 11) 136 (x_iload 2) 137 := mj_iload_n (j := 2) rfl (by decide +kernel)
theorem i_Md_watch_137 : mj_Snd zG ("StreamWatchModel", "watch", c_Md_watch, 11) 137 (x_const 4) 138 := mj_const (n := 4) (by decide) (by decide +kernel)
theorem i_Md_watch_138 : mj_Snd zG ("StreamWatchModel", "watch", c_Md_watch, 11) 138 (x_iadd) 139 := mj_iadd (by decide +kernel)
theorem d_Md_watch_139 : decode c_Md_watch 139 = .ok (.invokevirtual 165, 3) := by decide +kernel
theorem i_Md_watch_142 : mj_Snd zG ("StreamWatchModel", "watch", c_Md_watch, 11) 142 (x_iload 5) 144 := mj_iload (by decide +kernel)
theorem d_Md_watch_144 : decode c_Md_watch 144 = .ok (.ifCond .eq 7, 3) := by decide +kernel
theorem i_Md_watch_147 : mj_Snd zG ("StreamWatchModel", "watch", c_Md_watch, 11) 147 (x_const 1) 148 := mj_const (n := 1) (by decide) (by decide +kernel)
theorem i_Md_watch_148 : mj_Snd zG ("StreamWatchModel", "watch", c_Md_watch, 11) 148 (x_skip) 152 := mj_goto (off := 4) (by decide) (by decide +kernel)
theorem i_Md_watch_151 : mj_Snd zG ("StreamWatchModel", "watch", c_Md_watch, 11) 151 (x_const 0) 152 := mj_const (n := 0) (by decide) (by decide +kernel)
theorem i_Md_watch_152 : mj_Snd zG ("StreamWatchModel", "watch", c_Md_watch, 11) 152 (x_iadd) 153 := mj_iadd (by decide +kernel)
theorem i_Md_watch_153 : mj_Snd zG ("StreamWatchModel", "watch", c_Md_watch, 11) 153 (x_istore 6) 155 := mj_istore (by decide) (by decide +kernel)
theorem i_Md_watch_155 : mj_Snd zG ("StreamWatchModel", "watch", c_Md_watch, 11) 155 (x_aload 0) 156 := mj_aload_n (j := 0) rfl (by decide +kernel)
theorem i_Md_watch_156 : mj_Snd zG ("StreamWatchModel", "watch", c_Md_watch, 11) 156 (x_getf 11 12) 159 := mj_getf (T := T_Md) rfl (by decide) u_Md z4_77 (by decide +kernel)
theorem i_Md_watch_159 : mj_Snd zG ("StreamWatchModel", "watch", c_Md_watch, 11) 159 (x_iload 4) 161 := mj_iload (by decide +kernel)
theorem i_Md_watch_161 : mj_Snd zG ("StreamWatchModel", "watch", c_Md_watch, 11) 161 (x_aload 0) 162 := mj_aload_n (j := 0) rfl (by decide +kernel)
theorem i_Md_watch_162 : mj_Snd zG ("StreamWatchModel", "watch", c_Md_watch, 11) 162 (x_getf 11 11) 165 := mj_getf (T := T_Md) rfl (by decide) u_Md z4_76 (by decide +kernel)
theorem i_Md_watch_165 : mj_Snd zG ("StreamWatchModel", "watch", c_Md_watch, 11) 165 (x_iload 4) 167 := mj_iload (by decide +kernel)
theorem i_Md_watch_167 : mj_Snd zG ("StreamWatchModel", "watch", c_Md_watch, 11) 167 (x_iald 1) 168 := mj_zald rfl (by decide +kernel)
theorem d_Md_watch_168 : decode c_Md_watch 168 = .ok (.ifCond .eq 13, 3) := by decide +kernel
theorem i_Md_watch_171 : mj_Snd zG ("StreamWatchModel", "watch", c_Md_watch, 11) 171 (x_aload 0) 172 := mj_aload_n (j := 0) rfl (by decide +kernel)
theorem i_Md_watch_172 : mj_Snd zG ("StreamWatchModel", "watch", c_Md_watch, 11) 172 (x_getf 11 12) 175 := mj_getf (T := T_Md) rfl (by decide) u_Md z4_77 (by decide +kernel)
theorem i_Md_watch_175 : mj_Snd zG ("StreamWatchModel", "watch", c_Md_watch, 11) 175 (x_iload 4) 177 := mj_iload (by decide +kernel)
theorem i_Md_watch_177 : mj_Snd zG ("StreamWatchModel", "watch", c_Md_watch, 11) 177 (x_iald 0) 178 := mj_iald rfl (by decide +kernel)
theorem i_Md_watch_178 : mj_Snd zG ("StreamWatchModel", "watch", c_Md_watch, 11) 178 (x_skip) 183 := mj_goto (off := 5) (by decide) (by decide +kernel)
theorem i_Md_watch_181 : mj_Snd zG ("StreamWatchModel", "watch", c_Md_watch, 11) 181 (x_iload 6) 183 := mj_iload (by decide +kernel)
theorem i_Md_watch_183 : mj_Snd zG ("StreamWatchModel", "watch", c_Md_watch, 11) 183 (x_iast 0) 184 := mj_iast rfl (by decide +kernel)
theorem i_Md_watch_184 : mj_Snd zG ("StreamWatchModel", "watch", c_Md_watch, 11) 184 (x_aload 0) 185 := mj_aload_n (j := 0) rfl (by decide +kernel)
theorem i_Md_watch_185 : mj_Snd zG ("StreamWatchModel", "watch", c_Md_watch, 11) 185 (x_getf 11 11) 188 := mj_getf (T := T_Md) rfl (by decide) u_Md z4_76 (by decide +kernel)
theorem i_Md_watch_188 : mj_Snd zG ("StreamWatchModel", "watch", c_Md_watch, 11) 188 (x_iload 4) 190 := mj_iload (by decide +kernel)
theorem i_Md_watch_190 : mj_Snd zG ("StreamWatchModel", "watch", c_Md_watch, 11) 190 (x_const 1) 191 := mj_const (n := 1) (by decide) (by decide +kernel)
theorem i_Md_watch_191 : mj_Snd zG ("StreamWatchModel", "watch", c_Md_watch, 11) 191 (x_zast 1) 192 := mj_zast rfl (by decide +kernel)
theorem i_Md_watch_192 : mj_Snd zG ("StreamWatchModel", "watch", c_Md_watch, 11) 192 (x_iload 2) 193 := mj_iload_n (j := 2) rfl (by decide +kernel)
theorem i_Md_watch_193 : mj_Snd zG ("StreamWatchModel", "watch", c_Md_watch, 11) 193 (x_const 4) 194 := mj_const (n := 4) (by decide) (by decide +kernel)
theorem i_Md_watch_194 : mj_Snd zG ("StreamWatchModel", "watch", c_Md_watch, 11) 194 (x_aload 0) 195 := mj_aload_n (j := 0) rfl (by decide +kernel)
theorem i_Md_watch_195 : mj_Snd zG ("StreamWatchModel", "watch", c_Md_watch, 11) 195 (x_getf 11 3) 198 := mj_getf (T := T_Md) rfl (by decide) u_Md z4_68 (by decide +kernel)
theorem i_Md_watch_198 : mj_Snd zG ("StreamWatchModel", "watch", c_Md_watch, 11) 198 (x_iload 2) 199 := mj_iload_n (j := 2) rfl (by decide +kernel)
theorem i_Md_watch_199 : mj_Snd zG ("StreamWatchModel", "watch", c_Md_watch, 11) 199 (x_const 12) 201 := mj_bipush (n := 12) (by decide) (by decide +kernel)
theorem i_Md_watch_201 : mj_Snd zG ("StreamWatchModel", "watch", c_Md_watch, 11) 201 (x_iadd) 202 := mj_iadd (by decide +kernel)
theorem i_Md_watch_202 : mj_Snd zG ("StreamWatchModel", "watch", c_Md_watch, 11) 202 (x_iald 0) 203 := mj_iald rfl (by decide +kernel)
theorem i_Md_watch_203 : mj_Snd zG ("StreamWatchModel", "watch", c_Md_watch, 11) 203 (x_const 4) 204 := mj_const (n := 4) (by decide) (by decide +kernel)
theorem i_Md_watch_204 : mj_Snd zG ("StreamWatchModel", "watch", c_Md_watch, 11) 204 (x_ishr) 205 := mj_ishr (by decide +kernel)
theorem i_Md_watch_205 : mj_Snd zG ("StreamWatchModel", "watch", c_Md_watch, 11) 205 (x_imul) 206 := mj_imul (by decide +kernel)
theorem i_Md_watch_206 : mj_Snd zG ("StreamWatchModel", "watch", c_Md_watch, 11) 206 (x_iadd) 207 := mj_iadd (by decide +kernel)
theorem i_Md_watch_207 : mj_Snd zG ("StreamWatchModel", "watch", c_Md_watch, 11) 207 (x_istore 7) 209 := mj_istore (by decide) (by decide +kernel)
theorem i_Md_watch_209 : mj_Snd zG ("StreamWatchModel", "watch", c_Md_watch, 11) 209 (x_aload 0) 210 := mj_aload_n (j := 0) rfl (by decide +kernel)
theorem i_Md_watch_210 : mj_Snd zG ("StreamWatchModel", "watch", c_Md_watch, 11) 210 (x_const 2) 211 := mj_const (n := 2) (by decide) (by decide +kernel)
theorem d_Md_watch_211 : decode c_Md_watch 211 = .ok (.invokevirtual 113, 3) := by decide +kernel
theorem i_Md_watch_214 : mj_Snd zG ("StreamWatchModel", "watch", c_Md_watch, 11) 214 (x_istore 8) 216 := mj_istore (by decide) (by decide +kernel)
theorem i_Md_watch_216 : mj_Snd zG ("StreamWatchModel", "watch", c_Md_watch, 11) 216 (x_iload 7) 218 := mj_iload (by decide +kernel)
theorem i_Md_watch_218 : mj_Snd zG ("StreamWatchModel", "watch", c_Md_watch, 11) 218 (x_istore 9) 220 := mj_istore (by decide) (by decide +kernel)
theorem i_Md_watch_220 : mj_Snd zG ("StreamWatchModel", "watch", c_Md_watch, 11) 220 (x_iload 9) 222 := mj_iload (by decide +kernel)
theorem i_Md_watch_222 : mj_Snd zG ("StreamWatchModel", "watch", c_Md_watch, 11) 222 (x_iload 8) 224 := mj_iload (by decide +kernel)
theorem d_Md_watch_224 : decode c_Md_watch 224 = .ok (.if_icmp .ge 30, 3) := by decide +kernel
theorem i_Md_watch_227 : mj_Snd zG ("StreamWatchModel", "watch", c_Md_watch, 11) 227 (x_aload 0) 228 := mj_aload_n (j := 0) rfl (by decide +kernel)
theorem i_Md_watch_228 : mj_Snd zG ("StreamWatchModel", "watch", c_Md_watch, 11) 228 (x_iload 4) 230 := mj_iload (by decide +kernel)
theorem i_Md_watch_230 : mj_Snd zG ("StreamWatchModel", "watch", c_Md_watch, 11) 230 (x_iload 6) 232 := mj_iload (by decide +kernel)
theorem i_Md_watch_232 : mj_Snd zG ("StreamWatchModel", "watch", c_Md_watch, 11) 232 (x_iload 9) 234 := mj_iload (by decide +kernel)
theorem i_Md_watch_234 : mj_Snd zG ("StreamWatchModel", "watch", c_Md_watch, 11) 234 (x_iadd) 235 := mj_iadd (by decide +kernel)
theorem i_Md_watch_235 : mj_Snd zG ("StreamWatchModel", "watch", c_Md_watch, 11) 235 (x_iload 7) 237 := mj_iload (by decide +kernel)
theorem i_Md_watch_237 : mj_Snd zG ("StreamWatchModel", "watch", c_Md_watch, 11) 237 (x_isub) 238 := mj_isub (by decide +kernel)
theorem i_Md_watch_238 : mj_Snd zG ("StreamWatchModel", "watch", c_Md_watch, 11) 238 (x_aload 0) 239 := mj_aload_n (j := 0) rfl (by decide +kernel)
theorem i_Md_watch_239 : mj_Snd zG ("StreamWatchModel", "watch", c_Md_watch, 11) 239 (x_getf 11 3) 242 := mj_getf (T := T_Md) rfl (by decide) u_Md z4_68 (by decide +kernel)
theorem i_Md_watch_242 : mj_Snd zG ("StreamWatchModel", "watch", c_Md_watch, 11) 242 (x_iload 9) 244 := mj_iload (by decide +kernel)
theorem i_Md_watch_244 : mj_Snd zG ("StreamWatchModel", "watch", c_Md_watch, 11) 244 (x_iald 0) 245 := mj_iald rfl (by decide +kernel)
theorem d_Md_watch_245 : decode c_Md_watch 245 = .ok (.invokevirtual 183, 3) := by decide +kernel
theorem i_Md_watch_248 : mj_Snd zG ("StreamWatchModel", "watch", c_Md_watch, 11) 248 (x_iinc 9 1) 251 := mj_iinc (n := 1) (by decide) (by decide) (by decide +kernel)
theorem i_Md_watch_251 : mj_Snd zG ("StreamWatchModel", "watch", c_Md_watch, 11) 251 (x_skip) 220 := mj_goto (off := (-31)) (by decide) (by decide +kernel)
theorem i_Md_watch_254 : mj_Snd zG ("StreamWatchModel", "watch", c_Md_watch, 11) 254 (x_aload 0) 255 := mj_aload_n (j := 0) rfl (by decide +kernel)
theorem i_Md_watch_255 : mj_Snd zG ("StreamWatchModel", "watch", c_Md_watch, 11) 255 (x_iload 4) 257 := mj_iload (by decide +kernel)
theorem d_Md_watch_257 : decode c_Md_watch 257 = .ok (.invokevirtual 187, 3) := by decide +kernel
theorem i_Md_watch_260 : mj_Snd zG ("StreamWatchModel", "watch", c_Md_watch, 11) 260 (x_istore 9) 262 := mj_istore (by decide) (by decide +kernel)
theorem i_Md_watch_262 : mj_Snd zG ("StreamWatchModel", "watch", c_Md_watch, 11) 262 (x_iload 3) 263 := mj_iload_n (j := 3) rfl (by decide +kernel)
theorem i_Md_watch_263 : mj_Snd zG ("StreamWatchModel", "watch", c_Md_watch, 11) 263 (x_const 1) 264 := mj_const (n := 1) (by decide) (by decide +kernel)
theorem i_Md_watch_264 : mj_Snd zG ("StreamWatchModel", "watch", c_Md_watch, 11) 264 (x_iand) 265 := mj_iand (by decide +kernel)
theorem d_Md_watch_265 : decode c_Md_watch 265 = .ok (.ifCond .eq 29, 3) := by decide +kernel
theorem i_Md_watch_268 : mj_Snd zG ("StreamWatchModel", "watch", c_Md_watch, 11) 268 (x_aload 0) 269 := mj_aload_n (j := 0) rfl (by decide +kernel)
theorem i_Md_watch_269 : mj_Snd zG ("StreamWatchModel", "watch", c_Md_watch, 11) 269 (x_getf 11 12) 272 := mj_getf (T := T_Md) rfl (by decide) u_Md z4_77 (by decide +kernel)
theorem i_Md_watch_272 : mj_Snd zG ("StreamWatchModel", "watch", c_Md_watch, 11) 272 (x_iload 4) 274 := mj_iload (by decide +kernel)
theorem i_Md_watch_274 : mj_Snd zG ("StreamWatchModel", "watch", c_Md_watch, 11) 274 (x_iald 0) 275 := mj_iald rfl (by decide +kernel)
theorem i_Md_watch_275 : mj_Snd zG ("StreamWatchModel", "watch", c_Md_watch, 11) 275 (x_iload 6) 277 := mj_iload (by decide +kernel)
theorem i_Md_watch_277 : mj_Snd zG ("StreamWatchModel", "watch", c_Md_watch, 11) 277 (x_iload 8) 279 := mj_iload (by decide +kernel)
theorem i_Md_watch_279 : mj_Snd zG ("StreamWatchModel", "watch", c_Md_watch, 11) 279 (x_iadd) 280 := mj_iadd (by decide +kernel)
theorem i_Md_watch_280 : mj_Snd zG ("StreamWatchModel", "watch", c_Md_watch, 11) 280 (x_iload 7) 282 := mj_iload (by decide +kernel)
theorem i_Md_watch_282 : mj_Snd zG ("StreamWatchModel", "watch", c_Md_watch, 11) 282 (x_isub) 283 := mj_isub (by decide +kernel)
theorem d_Md_watch_283 : decode c_Md_watch 283 = .ok (.if_icmp .ne 11, 3) := by decide +kernel
theorem i_Md_watch_286 : mj_Snd zG ("StreamWatchModel", "watch", c_Md_watch, 11) 286 (x_aload 0) 287 := mj_aload_n (j := 0) rfl (by decide +kernel)
theorem i_Md_watch_287 : mj_Snd zG ("StreamWatchModel", "watch", c_Md_watch, 11) 287 (x_getf 11 13) 290 := mj_getf (T := T_Md) rfl (by decide) u_Md z4_78 (by decide +kernel)
theorem i_Md_watch_290 : mj_Snd zG ("StreamWatchModel", "watch", c_Md_watch, 11) 290 (x_iload 4) 292 := mj_iload (by decide +kernel)
theorem i_Md_watch_292 : mj_Snd zG ("StreamWatchModel", "watch", c_Md_watch, 11) 292 (x_const 1) 293 := mj_const (n := 1) (by decide) (by decide +kernel)
theorem i_Md_watch_293 : mj_Snd zG ("StreamWatchModel", "watch", c_Md_watch, 11) 293 (x_zast 1) 294 := mj_zast rfl (by decide +kernel)
theorem i_Md_watch_294 : mj_Snd zG ("StreamWatchModel", "watch", c_Md_watch, 11) 294 (x_iload 4) 296 := mj_iload (by decide +kernel)
theorem i_Md_watch_296 : mj_Snd zG ("StreamWatchModel", "watch", c_Md_watch, 11) 296 (x_const 2) 297 := mj_const (n := 2) (by decide) (by decide +kernel)
theorem i_Md_watch_297 : mj_Snd zG ("StreamWatchModel", "watch", c_Md_watch, 11) 297 (x_idiv) 298 := mj_idiv (by decide +kernel)
theorem i_Md_watch_298 : mj_Snd zG ("StreamWatchModel", "watch", c_Md_watch, 11) 298 (x_istore 10) 300 := mj_istore (by decide) (by decide +kernel)
theorem i_Md_watch_300 : mj_Snd zG ("StreamWatchModel", "watch", c_Md_watch, 11) 300 (x_aload 0) 301 := mj_aload_n (j := 0) rfl (by decide +kernel)
theorem i_Md_watch_301 : mj_Snd zG ("StreamWatchModel", "watch", c_Md_watch, 11) 301 (x_getf 11 4) 304 := mj_getf (T := T_Md) rfl (by decide) u_Md z4_69 (by decide +kernel)
theorem i_Md_watch_304 : mj_Snd zG ("StreamWatchModel", "watch", c_Md_watch, 11) 304 (x_iload 10) 306 := mj_iload (by decide +kernel)
theorem i_Md_watch_306 : mj_Snd zG ("StreamWatchModel", "watch", c_Md_watch, 11) 306 (x_aload 0) 307 := mj_aload_n (j := 0) rfl (by decide +kernel)
theorem i_Md_watch_307 : mj_Snd zG ("StreamWatchModel", "watch", c_Md_watch, 11) 307 (x_getf 11 13) 310 := mj_getf (T := T_Md) rfl (by decide) u_Md z4_78 (by decide +kernel)
theorem i_Md_watch_310 : mj_Snd zG ("StreamWatchModel", "watch", c_Md_watch, 11) 310 (x_const 2) 311 := mj_const (n := 2) (by decide) (by decide +kernel)
theorem i_Md_watch_311 : mj_Snd zG ("StreamWatchModel", "watch", c_Md_watch, 11) 311 (x_iload 10) 313 := mj_iload (by decide +kernel)
theorem i_Md_watch_313 : mj_Snd zG ("StreamWatchModel", "watch", c_Md_watch, 11) 313 (x_imul) 314 := mj_imul (by decide +kernel)
theorem i_Md_watch_314 : mj_Snd zG ("StreamWatchModel", "watch", c_Md_watch, 11) 314 (x_iald 1) 315 := mj_zald rfl (by decide +kernel)
theorem d_Md_watch_315 : decode c_Md_watch 315 = .ok (.ifCond .eq 17, 3) := by decide +kernel
theorem i_Md_watch_318 : mj_Snd zG ("StreamWatchModel", "watch", c_Md_watch, 11) 318 (x_aload 0) 319 := mj_aload_n (j := 0) rfl (by decide +kernel)
theorem i_Md_watch_319 : mj_Snd zG ("StreamWatchModel", "watch", c_Md_watch, 11) 319 (x_getf 11 13) 322 := mj_getf (T := T_Md) rfl (by decide) u_Md z4_78 (by decide +kernel)
theorem i_Md_watch_322 : mj_Snd zG ("StreamWatchModel", "watch", c_Md_watch, 11) 322 (x_const 2) 323 := mj_const (n := 2) (by decide) (by decide +kernel)
theorem i_Md_watch_323 : mj_Snd zG ("StreamWatchModel", "watch", c_Md_watch, 11) 323 (x_iload 10) 325 := mj_iload (by decide +kernel)
theorem i_Md_watch_325 : mj_Snd zG ("StreamWatchModel", "watch", c_Md_watch, 11) 325 (x_imul) 326 := mj_imul (by decide +kernel)
theorem i_Md_watch_326 : mj_Snd zG ("StreamWatchModel", "watch", c_Md_watch, 11) 326 (x_const 1) 327 := mj_const (n := 1) (by decide) (by decide +kernel)
theorem i_Md_watch_327 : mj_Snd zG ("StreamWatchModel", "watch", c_Md_watch, 11) 327 (x_iadd) 328 := mj_iadd (by decide +kernel)
theorem i_Md_watch_328 : mj_Snd zG ("StreamWatchModel", "watch", c_Md_watch, 11) 328 (x_iald 1) 329 := mj_zald rfl (by decide +kernel)
theorem d_Md_watch_329 : decode c_Md_watch 329 = .ok (.ifCond .ne 7, 3) := by decide +kernel
theorem i_Md_watch_332 : mj_Snd zG ("StreamWatchModel", "watch", c_Md_watch, 11) 332 (x_const 1) 333 := mj_const (n := 1) (by decide) (by decide +kernel)
theorem i_Md_watch_333 : mj_Snd zG ("StreamWatchModel", "watch", c_Md_watch, 11) 333 (x_skip) 337 := mj_goto (off := 4) (by decide) (by decide +kernel)
theorem i_Md_watch_336 : mj_Snd zG ("StreamWatchModel", "watch", c_Md_watch, 11) 336 (x_const 0) 337 := mj_const (n := 0) (by decide) (by decide +kernel)
theorem i_Md_watch_337 : mj_Snd zG ("StreamWatchModel", "watch", c_Md_watch, 11) 337 (x_zast 1) 338 := mj_zast rfl (by decide +kernel)
theorem i_Md_watch_338 : mj_Snd zG ("StreamWatchModel", "watch", c_Md_watch, 11) 338 (x_iload 9) 340 := mj_iload (by decide +kernel)
theorem d_Md_watch_340 : decode c_Md_watch 340 = .ok (.ireturn, 1) := by decide +kernel
theorem b_Md_watch_0 : mj_Ch zG ("StreamWatchModel", "watch", c_Md_watch, 11) 0 [x_aload 0, x_const 0, x_putf 11 0 0, x_aload 0, x_const 1] 7 := ⟨_, i_Md_watch_0, _, i_Md_watch_1, _, i_Md_watch_2, _, i_Md_watch_5, _, i_Md_watch_6, rfl⟩
theorem b_Md_watch_10 : mj_Ch zG ("StreamWatchModel", "watch", c_Md_watch, 11) 10 [x_istore 1, x_iload 1] 12 := ⟨_, i_Md_watch_10, _, i_Md_watch_11, rfl⟩
theorem b_Md_watch_15 : mj_Ch zG ("StreamWatchModel", "watch", c_Md_watch, 11) 15 [x_const (-1), x_iload 1, x_isub] 18 := ⟨_, i_Md_watch_15, _, i_Md_watch_16, _, i_Md_watch_17, rfl⟩
theorem b_Md_watch_19 : mj_Ch zG ("StreamWatchModel", "watch", c_Md_watch, 11) 19 [x_aload 0] 20 := ⟨_, i_Md_watch_19, rfl⟩
theorem b_Md_watch_23 : mj_Ch zG ("StreamWatchModel", "watch", c_Md_watch, 11) 23 [x_istore 2, x_aload 0, x_getf 11 3, x_iload 2, x_const 13, x_iadd, x_iald 0, x_istore 3, x_aload 0, x_iload 2] 36 := ⟨_, i_Md_watch_23, _, i_Md_watch_24, _, i_Md_watch_25, _, i_Md_watch_28, _, i_Md_watch_29, _, i_Md_watch_31, _, i_Md_watch_32, _, i_Md_watch_33, _, i_Md_watch_34, _, i_Md_watch_35, rfl⟩
theorem b_Md_watch_39 : mj_Ch zG ("StreamWatchModel", "watch", c_Md_watch, 11) 39 [x_istore 4, x_iload 4] 43 := ⟨_, i_Md_watch_39, _, i_Md_watch_41, rfl⟩
theorem b_Md_watch_46 : mj_Ch zG ("StreamWatchModel", "watch", c_Md_watch, 11) 46 [x_iload 3, x_const 2, x_iand] 49 := ⟨_, i_Md_watch_46, _, i_Md_watch_47, _, i_Md_watch_48, rfl⟩
theorem b_Md_watch_52 : mj_Ch zG ("StreamWatchModel", "watch", c_Md_watch, 11) 52 [x_iload 3, x_const 16, x_iand] 56 := ⟨_, i_Md_watch_52, _, i_Md_watch_53, _, i_Md_watch_55, rfl⟩
theorem b_Md_watch_59 : mj_Ch zG ("StreamWatchModel", "watch", c_Md_watch, 11) 59 [x_const (-10)] 61 := ⟨_, i_Md_watch_59, rfl⟩
theorem b_Md_watch_62 : mj_Ch zG ("StreamWatchModel", "watch", c_Md_watch, 11) 62 [x_aload 0] 63 := ⟨_, i_Md_watch_62, rfl⟩
theorem b_Md_watch_66 : mj_Ch zG ("StreamWatchModel", "watch", c_Md_watch, 11) 66 [x_istore 5, x_aload 0, x_iload 5, x_iload 2] 72 := ⟨_, i_Md_watch_66, _, i_Md_watch_68, _, i_Md_watch_69, _, i_Md_watch_71, rfl⟩
theorem b_Md_watch_75 : mj_Ch zG ("StreamWatchModel", "watch", c_Md_watch, 11) 75 [x_const 2, x_iload 5, x_imul, x_istore 4] 81 := ⟨_, i_Md_watch_75, _, i_Md_watch_76, _, i_Md_watch_78, _, i_Md_watch_79, rfl⟩
theorem b_Md_watch_81 : mj_Ch zG ("StreamWatchModel", "watch", c_Md_watch, 11) 81 [x_aload 0, x_dup, x_getf 11 10, x_const 1, x_iadd, x_putf 11 10 0, x_aload 0, x_getf 11 9, x_iload 4, x_const 2, x_idiv, x_aload 0, x_getf 11 10, x_iast 0, x_iload 3, x_const 4, x_iand] 107 := ⟨_, i_Md_watch_81, _, i_Md_watch_82, _, i_Md_watch_83, _, i_Md_watch_86, _, i_Md_watch_87, _, i_Md_watch_88, _, i_Md_watch_91, _, i_Md_watch_92, _, i_Md_watch_95, _, i_Md_watch_97, _, i_Md_watch_98, _, i_Md_watch_99, _, i_Md_watch_100, _, i_Md_watch_103, _, i_Md_watch_104, _, i_Md_watch_105, _, i_Md_watch_106, rfl⟩
theorem b_Md_watch_110 : mj_Ch zG ("StreamWatchModel", "watch", c_Md_watch, 11) 110 [x_aload 0, x_getf 11 4, x_iload 4, x_const 2, x_idiv, x_const 0, x_zast 1, x_const 0] 121 := ⟨_, i_Md_watch_110, _, i_Md_watch_111, _, i_Md_watch_114, _, i_Md_watch_116, _, i_Md_watch_117, _, i_Md_watch_118, _, i_Md_watch_119, _, i_Md_watch_120, rfl⟩
theorem b_Md_watch_122 : mj_Ch zG ("StreamWatchModel", "watch", c_Md_watch, 11) 122 [x_iload 3, x_const 2, x_iand] 125 := ⟨_, i_Md_watch_122, _, i_Md_watch_123, _, i_Md_watch_124, rfl⟩
theorem b_Md_watch_128 : mj_Ch zG ("StreamWatchModel", "watch", c_Md_watch, 11) 128 [x_const 1, x_skip] 133 := ⟨_, i_Md_watch_128, _, i_Md_watch_129, rfl⟩
theorem b_Md_watch_132 : mj_Ch zG ("StreamWatchModel", "watch", c_Md_watch, 11) 132 [x_const 0] 133 := ⟨_, i_Md_watch_132, rfl⟩
theorem b_Md_watch_133 : mj_Ch zG ("StreamWatchModel", "watch", c_Md_watch, 11) 133 [x_istore 5, x_aload 0, x_iload 2, x_const 4, x_iadd] 139 := ⟨_, i_Md_watch_133, _, i_Md_watch_135, _, i_Md_watch_136, _, i_Md_watch_137, _, i_Md_watch_138, rfl⟩
theorem b_Md_watch_142 : mj_Ch zG ("StreamWatchModel", "watch", c_Md_watch, 11) 142 [x_iload 5] 144 := ⟨_, i_Md_watch_142, rfl⟩
theorem b_Md_watch_147 : mj_Ch zG ("StreamWatchModel", "watch", c_Md_watch, 11) 147 [x_const 1, x_skip] 152 := ⟨_, i_Md_watch_147, _, i_Md_watch_148, rfl⟩
theorem b_Md_watch_151 : mj_Ch zG ("StreamWatchModel", "watch", c_Md_watch, 11) 151 [x_const 0] 152 := ⟨_, i_Md_watch_151, rfl⟩
theorem b_Md_watch_152 : mj_Ch zG ("StreamWatchModel", "watch", c_Md_watch, 11) 152 [x_iadd, x_istore 6, x_aload 0, x_getf 11 12, x_iload 4, x_aload 0, x_getf 11 11, x_iload 4, x_iald 1] 168 := ⟨_, i_Md_watch_152, _, i_Md_watch_153, _, i_Md_watch_155, _, i_Md_watch_156, _, i_Md_watch_159, _, i_Md_watch_161, _, i_Md_watch_162, _, i_Md_watch_165, _, i_Md_watch_167, rfl⟩
theorem b_Md_watch_171 : mj_Ch zG ("StreamWatchModel", "watch", c_Md_watch, 11) 171 [x_aload 0, x_getf 11 12, x_iload 4, x_iald 0, x_skip] 183 := ⟨_, i_Md_watch_171, _, i_Md_watch_172, _, i_Md_watch_175, _, i_Md_watch_177, _, i_Md_watch_178, rfl⟩
theorem b_Md_watch_181 : mj_Ch zG ("StreamWatchModel", "watch", c_Md_watch, 11) 181 [x_iload 6] 183 := ⟨_, i_Md_watch_181, rfl⟩
theorem b_Md_watch_183 : mj_Ch zG ("StreamWatchModel", "watch", c_Md_watch, 11) 183 [x_iast 0, x_aload 0, x_getf 11 11, x_iload 4, x_const 1, x_zast 1, x_iload 2, x_const 4, x_aload 0, x_getf 11 3, x_iload 2, x_const 12, x_iadd, x_iald 0, x_const 4, x_ishr, x_imul, x_iadd, x_istore 7, x_aload 0, x_const 2] 211 := ⟨_, i_Md_watch_183, _, i_Md_watch_184, _, i_Md_watch_185, _, i_Md_watch_188, _, i_Md_watch_190, _, i_Md_watch_191, _, i_Md_watch_192, _, i_Md_watch_193, _, i_Md_watch_194, _, i_Md_watch_195, _, i_Md_watch_198, _, i_Md_watch_199, _, i_Md_watch_201, _, i_Md_watch_202, _, i_Md_watch_203, _, i_Md_watch_204, _, i_Md_watch_205, _, i_Md_watch_206, _, i_Md_watch_207, _, i_Md_watch_209, _, i_Md_watch_210, rfl⟩
theorem b_Md_watch_214 : mj_Ch zG ("StreamWatchModel", "watch", c_Md_watch, 11) 214 [x_istore 8, x_iload 7, x_istore 9] 220 := ⟨_, i_Md_watch_214, _, i_Md_watch_216, _, i_Md_watch_218, rfl⟩
theorem b_Md_watch_220 : mj_Ch zG ("StreamWatchModel", "watch", c_Md_watch, 11) 220 [x_iload 9, x_iload 8] 224 := ⟨_, i_Md_watch_220, _, i_Md_watch_222, rfl⟩
theorem b_Md_watch_227 : mj_Ch zG ("StreamWatchModel", "watch", c_Md_watch, 11) 227 [x_aload 0, x_iload 4, x_iload 6, x_iload 9, x_iadd, x_iload 7, x_isub, x_aload 0, x_getf 11 3, x_iload 9, x_iald 0] 245 := ⟨_, i_Md_watch_227, _, i_Md_watch_228, _, i_Md_watch_230, _, i_Md_watch_232, _, i_Md_watch_234, _, i_Md_watch_235, _, i_Md_watch_237, _, i_Md_watch_238, _, i_Md_watch_239, _, i_Md_watch_242, _, i_Md_watch_244, rfl⟩
theorem b_Md_watch_248 : mj_Ch zG ("StreamWatchModel", "watch", c_Md_watch, 11) 248 [x_iinc 9 1, x_skip] 220 := ⟨_, i_Md_watch_248, _, i_Md_watch_251, rfl⟩
theorem b_Md_watch_254 : mj_Ch zG ("StreamWatchModel", "watch", c_Md_watch, 11) 254 [x_aload 0, x_iload 4] 257 := ⟨_, i_Md_watch_254, _, i_Md_watch_255, rfl⟩
theorem b_Md_watch_260 : mj_Ch zG ("StreamWatchModel", "watch", c_Md_watch, 11) 260 [x_istore 9, x_iload 3, x_const 1, x_iand] 265 := ⟨_, i_Md_watch_260, _, i_Md_watch_262, _, i_Md_watch_263, _, i_Md_watch_264, rfl⟩
theorem b_Md_watch_268 : mj_Ch zG ("StreamWatchModel", "watch", c_Md_watch, 11) 268 [x_aload 0, x_getf 11 12, x_iload 4, x_iald 0, x_iload 6, x_iload 8, x_iadd, x_iload 7, x_isub] 283 := ⟨_, i_Md_watch_268, _, i_Md_watch_269, _, i_Md_watch_272, _, i_Md_watch_274, _, i_Md_watch_275, _, i_Md_watch_277, _, i_Md_watch_279, _, i_Md_watch_280, _, i_Md_watch_282, rfl⟩
theorem b_Md_watch_286 : mj_Ch zG ("StreamWatchModel", "watch", c_Md_watch, 11) 286 [x_aload 0, x_getf 11 13, x_iload 4, x_const 1, x_zast 1] 294 := ⟨_, i_Md_watch_286, _, i_Md_watch_287, _, i_Md_watch_290, _, i_Md_watch_292, _, i_Md_watch_293, rfl⟩
theorem b_Md_watch_294 : mj_Ch zG ("StreamWatchModel", "watch", c_Md_watch, 11) 294 [x_iload 4, x_const 2, x_idiv, x_istore 10, x_aload 0, x_getf 11 4, x_iload 10, x_aload 0, x_getf 11 13, x_const 2, x_iload 10, x_imul, x_iald 1] 315 := ⟨_, i_Md_watch_294, _, i_Md_watch_296, _, i_Md_watch_297, _, i_Md_watch_298, _, i_Md_watch_300, _, i_Md_watch_301, _, i_Md_watch_304, _, i_Md_watch_306, _, i_Md_watch_307, _, i_Md_watch_310, _, i_Md_watch_311, _, i_Md_watch_313, _, i_Md_watch_314, rfl⟩
theorem b_Md_watch_318 : mj_Ch zG ("StreamWatchModel", "watch", c_Md_watch, 11) 318 [x_aload 0, x_getf 11 13, x_const 2, x_iload 10, x_imul, x_const 1, x_iadd, x_iald 1] 329 := ⟨_, i_Md_watch_318, _, i_Md_watch_319, _, i_Md_watch_322, _, i_Md_watch_323, _, i_Md_watch_325, _, i_Md_watch_326, _, i_Md_watch_327, _, i_Md_watch_328, rfl⟩
theorem b_Md_watch_332 : mj_Ch zG ("StreamWatchModel", "watch", c_Md_watch, 11) 332 [x_const 1, x_skip] 337 := ⟨_, i_Md_watch_332, _, i_Md_watch_333, rfl⟩
theorem b_Md_watch_336 : mj_Ch zG ("StreamWatchModel", "watch", c_Md_watch, 11) 336 [x_const 0] 337 := ⟨_, i_Md_watch_336, rfl⟩
theorem b_Md_watch_337 : mj_Ch zG ("StreamWatchModel", "watch", c_Md_watch, 11) 337 [x_zast 1, x_iload 9] 340 := ⟨_, i_Md_watch_337, _, i_Md_watch_338, rfl⟩
theorem i_Md_isFlow_0 : mj_Snd zG ("StreamWatchModel", "isFlow", c_Md_isFlow, 2) 0 (x_iload 1) 1 := mj_iload_n (j := 1) rfl (by decide +kernel)
theorem d_Md_isFlow_1 : decode c_Md_isFlow 1 = .ok (.ifCond .lt 34, 3) := by decide +kernel
theorem i_Md_isFlow_4 : mj_Snd zG ("StreamWatchModel", "isFlow", c_Md_isFlow, 2) 4 (x_iload 1) 5 := mj_iload_n (j := 1) rfl (by decide +kernel)
theorem i_Md_isFlow_5 : mj_Snd zG ("StreamWatchModel", "isFlow", c_Md_isFlow, 2) 5 (x_const 4) 6 := mj_const (n := 4) (by decide) (by decide +kernel)
theorem d_Md_isFlow_6 : decode c_Md_isFlow 6 = .ok (.if_icmp .ge 29, 3) := by decide +kernel
theorem i_Md_isFlow_9 : mj_Snd zG ("StreamWatchModel", "isFlow", c_Md_isFlow, 2) 9 (x_aload 0) 10 := mj_aload_n (j := 0) rfl (by decide +kernel)
theorem i_Md_isFlow_10 : mj_Snd zG ("StreamWatchModel", "isFlow", c_Md_isFlow, 2) 10 (x_getf 11 4) 13 := mj_getf (T := T_Md) rfl (by decide) u_Md z4_69 (by decide +kernel)
theorem i_Md_isFlow_13 : mj_Snd zG ("StreamWatchModel", "isFlow", c_Md_isFlow, 2) 13 (x_iload 1) 14 := mj_iload_n (j := 1) rfl (by decide +kernel)
theorem d_Md_isFlow_14 : decode c_Md_isFlow 14 = .ok (.ifCond .lt 12, 3) := by decide +kernel
theorem i_Md_isFlow_17 : mj_Snd zG ("StreamWatchModel", "isFlow", c_Md_isFlow, 2) 17 (x_iload 1) 18 := mj_iload_n (j := 1) rfl (by decide +kernel)
theorem i_Md_isFlow_18 : mj_Snd zG ("StreamWatchModel", "isFlow", c_Md_isFlow, 2) 18 (x_const 4) 19 := mj_const (n := 4) (by decide) (by decide +kernel)
theorem d_Md_isFlow_19 : decode c_Md_isFlow 19 = .ok (.if_icmp .ge 7, 3) := by decide +kernel
theorem i_Md_isFlow_22 : mj_Snd zG ("StreamWatchModel", "isFlow", c_Md_isFlow, 2) 22 (x_iload 1) 23 := mj_iload_n (j := 1) rfl (by decide +kernel)
theorem i_Md_isFlow_23 : mj_Snd zG ("StreamWatchModel", "isFlow", c_Md_isFlow, 2) 23 (x_skip) 27 := mj_goto (off := 4) (by decide) (by decide +kernel)
theorem i_Md_isFlow_26 : mj_Snd zG ("StreamWatchModel", "isFlow", c_Md_isFlow, 2) 26 (x_const 0) 27 := mj_const (n := 0) (by decide) (by decide +kernel)
theorem i_Md_isFlow_27 : mj_Snd zG ("StreamWatchModel", "isFlow", c_Md_isFlow, 2) 27 (x_iald 1) 28 := mj_zald rfl (by decide +kernel)
theorem d_Md_isFlow_28 : decode c_Md_isFlow 28 = .ok (.ifCond .eq 7, 3) := by decide +kernel
theorem i_Md_isFlow_31 : mj_Snd zG ("StreamWatchModel", "isFlow", c_Md_isFlow, 2) 31 (x_const 1) 32 := mj_const (n := 1) (by decide) (by decide +kernel)
theorem i_Md_isFlow_32 : mj_Snd zG ("StreamWatchModel", "isFlow", c_Md_isFlow, 2) 32 (x_skip) 36 := mj_goto (off := 4) (by decide) (by decide +kernel)
theorem i_Md_isFlow_35 : mj_Snd zG ("StreamWatchModel", "isFlow", c_Md_isFlow, 2) 35 (x_const 0) 36 := mj_const (n := 0) (by decide) (by decide +kernel)
theorem d_Md_isFlow_36 : decode c_Md_isFlow 36 = .ok (.ireturn, 1) := by decide +kernel
theorem b_Md_isFlow_0 : mj_Ch zG ("StreamWatchModel", "isFlow", c_Md_isFlow, 2) 0 [x_iload 1] 1 := ⟨_, i_Md_isFlow_0, rfl⟩
theorem b_Md_isFlow_4 : mj_Ch zG ("StreamWatchModel", "isFlow", c_Md_isFlow, 2) 4 [x_iload 1, x_const 4] 6 := ⟨_, i_Md_isFlow_4, _, i_Md_isFlow_5, rfl⟩
theorem b_Md_isFlow_9 : mj_Ch zG ("StreamWatchModel", "isFlow", c_Md_isFlow, 2) 9 [x_aload 0, x_getf 11 4, x_iload 1] 14 := ⟨_, i_Md_isFlow_9, _, i_Md_isFlow_10, _, i_Md_isFlow_13, rfl⟩
theorem b_Md_isFlow_17 : mj_Ch zG ("StreamWatchModel", "isFlow", c_Md_isFlow, 2) 17 [x_iload 1, x_const 4] 19 := ⟨_, i_Md_isFlow_17, _, i_Md_isFlow_18, rfl⟩
theorem b_Md_isFlow_22 : mj_Ch zG ("StreamWatchModel", "isFlow", c_Md_isFlow, 2) 22 [x_iload 1, x_skip] 27 := ⟨_, i_Md_isFlow_22, _, i_Md_isFlow_23, rfl⟩
theorem b_Md_isFlow_26 : mj_Ch zG ("StreamWatchModel", "isFlow", c_Md_isFlow, 2) 26 [x_const 0] 27 := ⟨_, i_Md_isFlow_26, rfl⟩
theorem b_Md_isFlow_27 : mj_Ch zG ("StreamWatchModel", "isFlow", c_Md_isFlow, 2) 27 [x_iald 1] 28 := ⟨_, i_Md_isFlow_27, rfl⟩
theorem b_Md_isFlow_31 : mj_Ch zG ("StreamWatchModel", "isFlow", c_Md_isFlow, 2) 31 [x_const 1, x_skip] 36 := ⟨_, i_Md_isFlow_31, _, i_Md_isFlow_32, rfl⟩
theorem b_Md_isFlow_35 : mj_Ch zG ("StreamWatchModel", "isFlow", c_Md_isFlow, 2) 35 [x_const 0] 36 := ⟨_, i_Md_isFlow_35, rfl⟩
theorem i_Md_flow_0 : mj_Snd zG ("StreamWatchModel", "flow", c_Md_flow, 5) 0 (x_aload 0) 1 := mj_aload_n (j := 0) rfl (by decide +kernel)
theorem i_Md_flow_1 : mj_Snd zG ("StreamWatchModel", "flow", c_Md_flow, 5) 1 (x_const 0) 2 := mj_const (n := 0) (by decide) (by decide +kernel)
theorem i_Md_flow_2 : mj_Snd zG ("StreamWatchModel", "flow", c_Md_flow, 5) 2 (x_putf 11 0 0) 5 := mj_putG (T := T_Md) (ty0 := t_Md) rfl (by decide) u_Md t_Md_ok n_Md z4_65 (Or.inl rfl) (by decide +kernel)
theorem i_Md_flow_5 : mj_Snd zG ("StreamWatchModel", "flow", c_Md_flow, 5) 5 (x_aload 0) 6 := mj_aload_n (j := 0) rfl (by decide +kernel)
theorem i_Md_flow_6 : mj_Snd zG ("StreamWatchModel", "flow", c_Md_flow, 5) 6 (x_iload 1) 7 := mj_iload_n (j := 1) rfl (by decide +kernel)
theorem d_Md_flow_7 : decode c_Md_flow 7 = .ok (.invokevirtual 190, 3) := by decide +kernel
theorem d_Md_flow_10 : decode c_Md_flow 10 = .ok (.ifCond .eq 12, 3) := by decide +kernel
theorem i_Md_flow_13 : mj_Snd zG ("StreamWatchModel", "flow", c_Md_flow, 5) 13 (x_iload 2) 14 := mj_iload_n (j := 2) rfl (by decide +kernel)
theorem d_Md_flow_14 : decode c_Md_flow 14 = .ok (.ifCond .lt 8, 3) := by decide +kernel
theorem i_Md_flow_17 : mj_Snd zG ("StreamWatchModel", "flow", c_Md_flow, 5) 17 (x_iload 2) 18 := mj_iload_n (j := 2) rfl (by decide +kernel)
theorem i_Md_flow_18 : mj_Snd zG ("StreamWatchModel", "flow", c_Md_flow, 5) 18 (x_const 4) 19 := mj_const (n := 4) (by decide) (by decide +kernel)
theorem d_Md_flow_19 : decode c_Md_flow 19 = .ok (.if_icmp .le 5, 3) := by decide +kernel
theorem i_Md_flow_22 : mj_Snd zG ("StreamWatchModel", "flow", c_Md_flow, 5) 22 (x_const (-1)) 23 := mj_const (n := (-1)) (by decide) (by decide +kernel)
theorem d_Md_flow_23 : decode c_Md_flow 23 = .ok (.ireturn, 1) := by decide +kernel
theorem i_Md_flow_24 : mj_Snd zG ("StreamWatchModel", "flow", c_Md_flow, 5) 24 (x_iload 2) 25 := mj_iload_n (j := 2) rfl (by decide +kernel)
theorem i_Md_flow_25 : mj_Snd zG ("StreamWatchModel", "flow", c_Md_flow, 5) 25 (x_const 4) 26 := mj_const (n := 4) (by decide) (by decide +kernel)
theorem d_Md_flow_26 : decode c_Md_flow 26 = .ok (.if_icmp .ne 56, 3) := by decide +kernel
theorem i_Md_flow_29 : mj_Snd zG ("StreamWatchModel", "flow", c_Md_flow, 5) 29 (x_const 0) 30 := mj_const (n := 0) (by decide) (by decide +kernel)
theorem i_Md_flow_30 : mj_Snd zG ("StreamWatchModel", "flow", c_Md_flow, 5) 30 (x_istore 3) 31 := mj_istore_n (j := 3) rfl (by decide) (by decide +kernel)
theorem i_Md_flow_31 : mj_Snd zG ("StreamWatchModel", "flow", c_Md_flow, 5) 31 (x_const 0) 32 := mj_const (n := 0) (by decide) (by decide +kernel)
theorem i_Md_flow_32 : mj_Snd zG ("StreamWatchModel", "flow", c_Md_flow, 5) 32 (x_istore 4) 34 := mj_istore (by decide) (by decide +kernel)
theorem i_Md_flow_34 : mj_Snd zG ("StreamWatchModel", "flow", c_Md_flow, 5) 34 (x_iload 4) 36 := mj_iload (by decide +kernel)
theorem i_Md_flow_36 : mj_Snd zG ("StreamWatchModel", "flow", c_Md_flow, 5) 36 (x_const 4) 37 := mj_const (n := 4) (by decide) (by decide +kernel)
theorem d_Md_flow_37 : decode c_Md_flow 37 = .ok (.if_icmp .ge 43, 3) := by decide +kernel
theorem i_Md_flow_40 : mj_Snd zG ("StreamWatchModel", "flow", c_Md_flow, 5) 40 (x_iload 3) 41 := mj_iload_n (j := 3) rfl (by decide +kernel)
theorem i_Md_flow_41 : mj_Snd zG ("StreamWatchModel", "flow", c_Md_flow, 5) 41 (x_aload 0) 42 := mj_aload_n (j := 0) rfl (by decide +kernel)
theorem i_Md_flow_42 : mj_Snd zG ("StreamWatchModel", "flow", c_Md_flow, 5) 42 (x_getf 11 4) 45 := mj_getf (T := T_Md) rfl (by decide) u_Md z4_69 (by decide +kernel)
theorem i_Md_flow_45 : mj_Snd zG ("StreamWatchModel", "flow", c_Md_flow, 5) 45 (x_iload 4) 47 := mj_iload (by decide +kernel)
theorem i_Md_flow_47 : mj_Snd zG ("StreamWatchModel", "flow", c_Md_flow, 5) 47 (x_iald 1) 48 := mj_zald rfl (by decide +kernel)
theorem d_Md_flow_48 : decode c_Md_flow 48 = .ok (.ifCond .eq 23, 3) := by decide +kernel
theorem i_Md_flow_51 : mj_Snd zG ("StreamWatchModel", "flow", c_Md_flow, 5) 51 (x_aload 0) 52 := mj_aload_n (j := 0) rfl (by decide +kernel)
theorem i_Md_flow_52 : mj_Snd zG ("StreamWatchModel", "flow", c_Md_flow, 5) 52 (x_getf 11 9) 55 := mj_getf (T := T_Md) rfl (by decide) u_Md z4_74 (by decide +kernel)
theorem i_Md_flow_55 : mj_Snd zG ("StreamWatchModel", "flow", c_Md_flow, 5) 55 (x_iload 4) 57 := mj_iload (by decide +kernel)
theorem i_Md_flow_57 : mj_Snd zG ("StreamWatchModel", "flow", c_Md_flow, 5) 57 (x_iald 0) 58 := mj_iald rfl (by decide +kernel)
theorem i_Md_flow_58 : mj_Snd zG ("StreamWatchModel", "flow", c_Md_flow, 5) 58 (x_aload 0) 59 := mj_aload_n (j := 0) rfl (by decide +kernel)
theorem i_Md_flow_59 : mj_Snd zG ("StreamWatchModel", "flow", c_Md_flow, 5) 59 (x_getf 11 9) 62 := mj_getf (T := T_Md) rfl (by decide) u_Md z4_74 (by decide +kernel)
theorem i_Md_flow_62 : mj_Snd zG ("StreamWatchModel", "flow", c_Md_flow, 5) 62 (x_iload 1) 63 := mj_iload_n (j := 1) rfl (by decide +kernel)
theorem i_Md_flow_63 : mj_Snd zG ("StreamWatchModel", "flow", c_Md_flow, 5) 63 (x_iald 0) 64 := mj_iald rfl (by decide +kernel)
theorem d_Md_flow_64 : decode c_Md_flow 64 = .ok (.if_icmp .le 7, 3) := by decide +kernel
theorem i_Md_flow_67 : mj_Snd zG ("StreamWatchModel", "flow", c_Md_flow, 5) 67 (x_const 1) 68 := mj_const (n := 1) (by decide) (by decide +kernel)
theorem i_Md_flow_68 : mj_Snd zG ("StreamWatchModel", "flow", c_Md_flow, 5) 68 (x_skip) 72 := mj_goto (off := 4) (by decide) (by decide +kernel)
theorem i_Md_flow_71 : mj_Snd zG ("StreamWatchModel", "flow", c_Md_flow, 5) 71 (x_const 0) 72 := mj_const (n := 0) (by decide) (by decide +kernel)
theorem i_Md_flow_72 : mj_Snd zG ("StreamWatchModel", "flow", c_Md_flow, 5) 72 (x_iadd) 73 := mj_iadd (by decide +kernel)
theorem i_Md_flow_73 : mj_Snd zG ("StreamWatchModel", "flow", c_Md_flow, 5) 73 (x_istore 3) 74 := mj_istore_n (j := 3) rfl (by decide) (by decide +kernel)
theorem i_Md_flow_74 : mj_Snd zG ("StreamWatchModel", "flow", c_Md_flow, 5) 74 (x_iinc 4 1) 77 := mj_iinc (n := 1) (by decide) (by decide) (by decide +kernel)
theorem i_Md_flow_77 : mj_Snd zG ("StreamWatchModel", "flow", c_Md_flow, 5) 77 (x_skip) 34 := mj_goto (off := (-43)) (by decide) (by decide +kernel)
theorem i_Md_flow_80 : mj_Snd zG ("StreamWatchModel", "flow", c_Md_flow, 5) 80 (x_iload 3) 81 := mj_iload_n (j := 3) rfl (by decide +kernel)
theorem d_Md_flow_81 : decode c_Md_flow 81 = .ok (.ireturn, 1) := by decide +kernel
theorem i_Md_flow_82 : mj_Snd zG ("StreamWatchModel", "flow", c_Md_flow, 5) 82 (x_iload 2) 83 := mj_iload_n (j := 2) rfl (by decide +kernel)
theorem d_Md_flow_83 : decode c_Md_flow 83 = .ok (.ifCond .ne 12, 3) := by decide +kernel
theorem i_Md_flow_86 : mj_Snd zG ("StreamWatchModel", "flow", c_Md_flow, 5) 86 (x_aload 0) 87 := mj_aload_n (j := 0) rfl (by decide +kernel)
theorem i_Md_flow_87 : mj_Snd zG ("StreamWatchModel", "flow", c_Md_flow, 5) 87 (x_getf 11 5) 90 := mj_getf (T := T_Md) rfl (by decide) u_Md z4_70 (by decide +kernel)
theorem i_Md_flow_90 : mj_Snd zG ("StreamWatchModel", "flow", c_Md_flow, 5) 90 (x_iload 1) 91 := mj_iload_n (j := 1) rfl (by decide +kernel)
theorem i_Md_flow_91 : mj_Snd zG ("StreamWatchModel", "flow", c_Md_flow, 5) 91 (x_iald 0) 92 := mj_iald rfl (by decide +kernel)
theorem i_Md_flow_92 : mj_Snd zG ("StreamWatchModel", "flow", c_Md_flow, 5) 92 (x_skip) 129 := mj_goto (off := 37) (by decide) (by decide +kernel)
theorem i_Md_flow_95 : mj_Snd zG ("StreamWatchModel", "flow", c_Md_flow, 5) 95 (x_iload 2) 96 := mj_iload_n (j := 2) rfl (by decide +kernel)
theorem i_Md_flow_96 : mj_Snd zG ("StreamWatchModel", "flow", c_Md_flow, 5) 96 (x_const 1) 97 := mj_const (n := 1) (by decide) (by decide +kernel)
theorem d_Md_flow_97 : decode c_Md_flow 97 = .ok (.if_icmp .ne 12, 3) := by decide +kernel
theorem i_Md_flow_100 : mj_Snd zG ("StreamWatchModel", "flow", c_Md_flow, 5) 100 (x_aload 0) 101 := mj_aload_n (j := 0) rfl (by decide +kernel)
theorem i_Md_flow_101 : mj_Snd zG ("StreamWatchModel", "flow", c_Md_flow, 5) 101 (x_getf 11 6) 104 := mj_getf (T := T_Md) rfl (by decide) u_Md z4_71 (by decide +kernel)
theorem i_Md_flow_104 : mj_Snd zG ("StreamWatchModel", "flow", c_Md_flow, 5) 104 (x_iload 1) 105 := mj_iload_n (j := 1) rfl (by decide +kernel)
theorem i_Md_flow_105 : mj_Snd zG ("StreamWatchModel", "flow", c_Md_flow, 5) 105 (x_iald 0) 106 := mj_iald rfl (by decide +kernel)
theorem i_Md_flow_106 : mj_Snd zG ("StreamWatchModel", "flow", c_Md_flow, 5) 106 (x_skip) 129 := mj_goto (off := 23) (by decide) (by decide +kernel)
theorem i_Md_flow_109 : mj_Snd zG ("StreamWatchModel", "flow", c_Md_flow, 5) 109 (x_iload 2) 110 := mj_iload_n (j := 2) rfl (by decide +kernel)
theorem i_Md_flow_110 : mj_Snd zG ("StreamWatchModel", "flow", c_Md_flow, 5) 110 (x_const 2) 111 := mj_const (n := 2) (by decide) (by decide +kernel)
theorem d_Md_flow_111 : decode c_Md_flow 111 = .ok (.if_icmp .ne 12, 3) := by decide +kernel
theorem i_Md_flow_114 : mj_Snd zG ("StreamWatchModel", "flow", c_Md_flow, 5) 114 (x_aload 0) 115 := mj_aload_n (j := 0) rfl (by decide +kernel)
theorem i_Md_flow_115 : mj_Snd zG ("StreamWatchModel", "flow", c_Md_flow, 5) 115 (x_getf 11 7) 118 := mj_getf (T := T_Md) rfl (by decide) u_Md z4_72 (by decide +kernel)
theorem i_Md_flow_118 : mj_Snd zG ("StreamWatchModel", "flow", c_Md_flow, 5) 118 (x_iload 1) 119 := mj_iload_n (j := 1) rfl (by decide +kernel)
theorem i_Md_flow_119 : mj_Snd zG ("StreamWatchModel", "flow", c_Md_flow, 5) 119 (x_iald 0) 120 := mj_iald rfl (by decide +kernel)
theorem i_Md_flow_120 : mj_Snd zG ("StreamWatchModel", "flow", c_Md_flow, 5) 120 (x_skip) 129 := mj_goto (off := 9) (by decide) (by decide +kernel)
theorem i_Md_flow_123 : mj_Snd zG ("StreamWatchModel", "flow", c_Md_flow, 5) 123 (x_aload 0) 124 := mj_aload_n (j := 0) rfl (by decide +kernel)
theorem i_Md_flow_124 : mj_Snd zG ("StreamWatchModel", "flow", c_Md_flow, 5) 124 (x_getf 11 8) 127 := mj_getf (T := T_Md) rfl (by decide) u_Md z4_73 (by decide +kernel)
theorem i_Md_flow_127 : mj_Snd zG ("StreamWatchModel", "flow", c_Md_flow, 5) 127 (x_iload 1) 128 := mj_iload_n (j := 1) rfl (by decide +kernel)
theorem i_Md_flow_128 : mj_Snd zG ("StreamWatchModel", "flow", c_Md_flow, 5) 128 (x_iald 0) 129 := mj_iald rfl (by decide +kernel)
theorem d_Md_flow_129 : decode c_Md_flow 129 = .ok (.ireturn, 1) := by decide +kernel
theorem b_Md_flow_0 : mj_Ch zG ("StreamWatchModel", "flow", c_Md_flow, 5) 0 [x_aload 0, x_const 0, x_putf 11 0 0, x_aload 0, x_iload 1] 7 := ⟨_, i_Md_flow_0, _, i_Md_flow_1, _, i_Md_flow_2, _, i_Md_flow_5, _, i_Md_flow_6, rfl⟩
theorem b_Md_flow_13 : mj_Ch zG ("StreamWatchModel", "flow", c_Md_flow, 5) 13 [x_iload 2] 14 := ⟨_, i_Md_flow_13, rfl⟩
theorem b_Md_flow_17 : mj_Ch zG ("StreamWatchModel", "flow", c_Md_flow, 5) 17 [x_iload 2, x_const 4] 19 := ⟨_, i_Md_flow_17, _, i_Md_flow_18, rfl⟩
theorem b_Md_flow_22 : mj_Ch zG ("StreamWatchModel", "flow", c_Md_flow, 5) 22 [x_const (-1)] 23 := ⟨_, i_Md_flow_22, rfl⟩
theorem b_Md_flow_24 : mj_Ch zG ("StreamWatchModel", "flow", c_Md_flow, 5) 24 [x_iload 2, x_const 4] 26 := ⟨_, i_Md_flow_24, _, i_Md_flow_25, rfl⟩
theorem b_Md_flow_29 : mj_Ch zG ("StreamWatchModel", "flow", c_Md_flow, 5) 29 [x_const 0, x_istore 3, x_const 0, x_istore 4] 34 := ⟨_, i_Md_flow_29, _, i_Md_flow_30, _, i_Md_flow_31, _, i_Md_flow_32, rfl⟩
theorem b_Md_flow_34 : mj_Ch zG ("StreamWatchModel", "flow", c_Md_flow, 5) 34 [x_iload 4, x_const 4] 37 := ⟨_, i_Md_flow_34, _, i_Md_flow_36, rfl⟩
theorem b_Md_flow_40 : mj_Ch zG ("StreamWatchModel", "flow", c_Md_flow, 5) 40 [x_iload 3, x_aload 0, x_getf 11 4, x_iload 4, x_iald 1] 48 := ⟨_, i_Md_flow_40, _, i_Md_flow_41, _, i_Md_flow_42, _, i_Md_flow_45, _, i_Md_flow_47, rfl⟩
theorem b_Md_flow_51 : mj_Ch zG ("StreamWatchModel", "flow", c_Md_flow, 5) 51 [x_aload 0, x_getf 11 9, x_iload 4, x_iald 0, x_aload 0, x_getf 11 9, x_iload 1, x_iald 0] 64 := ⟨_, i_Md_flow_51, _, i_Md_flow_52, _, i_Md_flow_55, _, i_Md_flow_57, _, i_Md_flow_58, _, i_Md_flow_59, _, i_Md_flow_62, _, i_Md_flow_63, rfl⟩
theorem b_Md_flow_67 : mj_Ch zG ("StreamWatchModel", "flow", c_Md_flow, 5) 67 [x_const 1, x_skip] 72 := ⟨_, i_Md_flow_67, _, i_Md_flow_68, rfl⟩
theorem b_Md_flow_71 : mj_Ch zG ("StreamWatchModel", "flow", c_Md_flow, 5) 71 [x_const 0] 72 := ⟨_, i_Md_flow_71, rfl⟩
theorem b_Md_flow_72 : mj_Ch zG ("StreamWatchModel", "flow", c_Md_flow, 5) 72 [x_iadd, x_istore 3, x_iinc 4 1, x_skip] 34 := ⟨_, i_Md_flow_72, _, i_Md_flow_73, _, i_Md_flow_74, _, i_Md_flow_77, rfl⟩
theorem b_Md_flow_80 : mj_Ch zG ("StreamWatchModel", "flow", c_Md_flow, 5) 80 [x_iload 3] 81 := ⟨_, i_Md_flow_80, rfl⟩
theorem b_Md_flow_82 : mj_Ch zG ("StreamWatchModel", "flow", c_Md_flow, 5) 82 [x_iload 2] 83 := ⟨_, i_Md_flow_82, rfl⟩
theorem b_Md_flow_86 : mj_Ch zG ("StreamWatchModel", "flow", c_Md_flow, 5) 86 [x_aload 0, x_getf 11 5, x_iload 1, x_iald 0, x_skip] 129 := ⟨_, i_Md_flow_86, _, i_Md_flow_87, _, i_Md_flow_90, _, i_Md_flow_91, _, i_Md_flow_92, rfl⟩
theorem b_Md_flow_95 : mj_Ch zG ("StreamWatchModel", "flow", c_Md_flow, 5) 95 [x_iload 2, x_const 1] 97 := ⟨_, i_Md_flow_95, _, i_Md_flow_96, rfl⟩
theorem b_Md_flow_100 : mj_Ch zG ("StreamWatchModel", "flow", c_Md_flow, 5) 100 [x_aload 0, x_getf 11 6, x_iload 1, x_iald 0, x_skip] 129 := ⟨_, i_Md_flow_100, _, i_Md_flow_101, _, i_Md_flow_104, _, i_Md_flow_105, _, i_Md_flow_106, rfl⟩
theorem b_Md_flow_109 : mj_Ch zG ("StreamWatchModel", "flow", c_Md_flow, 5) 109 [x_iload 2, x_const 2] 111 := ⟨_, i_Md_flow_109, _, i_Md_flow_110, rfl⟩
theorem b_Md_flow_114 : mj_Ch zG ("StreamWatchModel", "flow", c_Md_flow, 5) 114 [x_aload 0, x_getf 11 7, x_iload 1, x_iald 0, x_skip] 129 := ⟨_, i_Md_flow_114, _, i_Md_flow_115, _, i_Md_flow_118, _, i_Md_flow_119, _, i_Md_flow_120, rfl⟩
theorem b_Md_flow_123 : mj_Ch zG ("StreamWatchModel", "flow", c_Md_flow, 5) 123 [x_aload 0, x_getf 11 8, x_iload 1, x_iald 0] 129 := ⟨_, i_Md_flow_123, _, i_Md_flow_124, _, i_Md_flow_127, _, i_Md_flow_128, rfl⟩
theorem i_Md_stream_0 : mj_Snd zG ("StreamWatchModel", "stream", c_Md_stream, 7) 0 (x_aload 0) 1 := mj_aload_n (j := 0) rfl (by decide +kernel)
theorem i_Md_stream_1 : mj_Snd zG ("StreamWatchModel", "stream", c_Md_stream, 7) 1 (x_const 0) 2 := mj_const (n := 0) (by decide) (by decide +kernel)
theorem i_Md_stream_2 : mj_Snd zG ("StreamWatchModel", "stream", c_Md_stream, 7) 2 (x_putf 11 0 0) 5 := mj_putG (T := T_Md) (ty0 := t_Md) rfl (by decide) u_Md t_Md_ok n_Md z4_65 (Or.inl rfl) (by decide +kernel)
theorem i_Md_stream_5 : mj_Snd zG ("StreamWatchModel", "stream", c_Md_stream, 7) 5 (x_aload 0) 6 := mj_aload_n (j := 0) rfl (by decide +kernel)
theorem i_Md_stream_6 : mj_Snd zG ("StreamWatchModel", "stream", c_Md_stream, 7) 6 (x_iload 1) 7 := mj_iload_n (j := 1) rfl (by decide +kernel)
theorem d_Md_stream_7 : decode c_Md_stream 7 = .ok (.invokevirtual 190, 3) := by decide +kernel
theorem d_Md_stream_10 : decode c_Md_stream 10 = .ok (.ifCond .eq 21, 3) := by decide +kernel
theorem i_Md_stream_13 : mj_Snd zG ("StreamWatchModel", "stream", c_Md_stream, 7) 13 (x_iload 2) 14 := mj_iload_n (j := 2) rfl (by decide +kernel)
theorem d_Md_stream_14 : decode c_Md_stream 14 = .ok (.ifCond .lt 17, 3) := by decide +kernel
theorem i_Md_stream_17 : mj_Snd zG ("StreamWatchModel", "stream", c_Md_stream, 7) 17 (x_iload 2) 18 := mj_iload_n (j := 2) rfl (by decide +kernel)
theorem i_Md_stream_18 : mj_Snd zG ("StreamWatchModel", "stream", c_Md_stream, 7) 18 (x_const 1) 19 := mj_const (n := 1) (by decide) (by decide +kernel)
theorem d_Md_stream_19 : decode c_Md_stream 19 = .ok (.if_icmp .gt 12, 3) := by decide +kernel
theorem i_Md_stream_22 : mj_Snd zG ("StreamWatchModel", "stream", c_Md_stream, 7) 22 (x_iload 3) 23 := mj_iload_n (j := 3) rfl (by decide +kernel)
theorem d_Md_stream_23 : decode c_Md_stream 23 = .ok (.ifCond .lt 8, 3) := by decide +kernel
theorem i_Md_stream_26 : mj_Snd zG ("StreamWatchModel", "stream", c_Md_stream, 7) 26 (x_iload 3) 27 := mj_iload_n (j := 3) rfl (by decide +kernel)
theorem i_Md_stream_27 : mj_Snd zG ("StreamWatchModel", "stream", c_Md_stream, 7) 27 (x_const 3) 28 := mj_const (n := 3) (by decide) (by decide +kernel)
theorem d_Md_stream_28 : decode c_Md_stream 28 = .ok (.if_icmp .le 5, 3) := by decide +kernel
theorem i_Md_stream_31 : mj_Snd zG ("StreamWatchModel", "stream", c_Md_stream, 7) 31 (x_const (-1)) 32 := mj_const (n := (-1)) (by decide) (by decide +kernel)
theorem d_Md_stream_32 : decode c_Md_stream 32 = .ok (.ireturn, 1) := by decide +kernel
theorem i_Md_stream_33 : mj_Snd zG ("StreamWatchModel", "stream", c_Md_stream, 7) 33 (x_const 2) 34 := mj_const (n := 2) (by decide) (by decide +kernel)
theorem i_Md_stream_34 : mj_Snd zG ("StreamWatchModel", "stream", c_Md_stream, 7) 34 (x_iload 1) 35 := mj_iload_n (j := 1) rfl (by decide +kernel)
theorem i_Md_stream_35 : mj_Snd zG ("StreamWatchModel", "stream", c_Md_stream, 7) 35 (x_imul) 36 := mj_imul (by decide +kernel)
theorem i_Md_stream_36 : mj_Snd zG ("StreamWatchModel", "stream", c_Md_stream, 7) 36 (x_iload 2) 37 := mj_iload_n (j := 2) rfl (by decide +kernel)
theorem i_Md_stream_37 : mj_Snd zG ("StreamWatchModel", "stream", c_Md_stream, 7) 37 (x_iadd) 38 := mj_iadd (by decide +kernel)
theorem i_Md_stream_38 : mj_Snd zG ("StreamWatchModel", "stream", c_Md_stream, 7) 38 (x_istore 4) 40 := mj_istore (by decide) (by decide +kernel)
theorem i_Md_stream_40 : mj_Snd zG ("StreamWatchModel", "stream", c_Md_stream, 7) 40 (x_iload 3) 41 := mj_iload_n (j := 3) rfl (by decide +kernel)
theorem i_Md_stream_41 : mj_Snd zG ("StreamWatchModel", "stream", c_Md_stream, 7) 41 (x_const 2) 42 := mj_const (n := 2) (by decide) (by decide +kernel)
theorem d_Md_stream_42 : decode c_Md_stream 42 = .ok (.if_icmp .ne 51, 3) := by decide +kernel
theorem i_Md_stream_45 : mj_Snd zG ("StreamWatchModel", "stream", c_Md_stream, 7) 45 (x_const 0) 46 := mj_const (n := 0) (by decide) (by decide +kernel)
theorem i_Md_stream_46 : mj_Snd zG ("StreamWatchModel", "stream", c_Md_stream, 7) 46 (x_istore 5) 48 := mj_istore (by decide) (by decide +kernel)
theorem i_Md_stream_48 : mj_Snd zG ("StreamWatchModel", "stream", c_Md_stream, 7) 48 (x_const 0) 49 := mj_const (n := 0) (by decide) (by decide +kernel)
theorem i_Md_stream_49 : mj_Snd zG ("StreamWatchModel", "stream", c_Md_stream, 7) 49 (x_istore 6) 51 := mj_istore (by decide) (by decide +kernel)
theorem i_Md_stream_51 : mj_Snd zG ("StreamWatchModel", "stream", c_Md_stream, 7) 51 (x_iload 6) 53 := mj_iload (by decide +kernel)
theorem i_Md_stream_53 : mj_Snd zG ("StreamWatchModel", "stream", c_Md_stream, 7) 53 (x_const 32) 55 := mj_bipush (n := 32) (by decide) (by decide +kernel)
theorem d_Md_stream_55 : decode c_Md_stream 55 = .ok (.if_icmp .ge 35, 3) := by decide +kernel
theorem i_Md_stream_58 : mj_Snd zG ("StreamWatchModel", "stream", c_Md_stream, 7) 58 (x_iload 5) 60 := mj_iload (by decide +kernel)
theorem i_Md_stream_60 : mj_Snd zG ("StreamWatchModel", "stream", c_Md_stream, 7) 60 (x_aload 0) 61 := mj_aload_n (j := 0) rfl (by decide +kernel)
theorem i_Md_stream_61 : mj_Snd zG ("StreamWatchModel", "stream", c_Md_stream, 7) 61 (x_getf 11 16) 64 := mj_getf (T := T_Md) rfl (by decide) u_Md z4_81 (by decide +kernel)
theorem i_Md_stream_64 : mj_Snd zG ("StreamWatchModel", "stream", c_Md_stream, 7) 64 (x_const 32) 66 := mj_bipush (n := 32) (by decide) (by decide +kernel)
theorem i_Md_stream_66 : mj_Snd zG ("StreamWatchModel", "stream", c_Md_stream, 7) 66 (x_iload 4) 68 := mj_iload (by decide +kernel)
theorem i_Md_stream_68 : mj_Snd zG ("StreamWatchModel", "stream", c_Md_stream, 7) 68 (x_imul) 69 := mj_imul (by decide +kernel)
theorem i_Md_stream_69 : mj_Snd zG ("StreamWatchModel", "stream", c_Md_stream, 7) 69 (x_iload 6) 71 := mj_iload (by decide +kernel)
theorem i_Md_stream_71 : mj_Snd zG ("StreamWatchModel", "stream", c_Md_stream, 7) 71 (x_iadd) 72 := mj_iadd (by decide +kernel)
theorem i_Md_stream_72 : mj_Snd zG ("StreamWatchModel", "stream", c_Md_stream, 7) 72 (x_iald 1) 73 := mj_zald rfl (by decide +kernel)
theorem d_Md_stream_73 : decode c_Md_stream 73 = .ok (.ifCond .eq 7, 3) := by decide +kernel
theorem i_Md_stream_76 : mj_Snd zG ("StreamWatchModel", "stream", c_Md_stream, 7) 76 (x_const 1) 77 := mj_const (n := 1) (by decide) (by decide +kernel)
theorem i_Md_stream_77 : mj_Snd zG ("StreamWatchModel", "stream", c_Md_stream, 7) 77 (x_skip) 81 := mj_goto (off := 4) (by decide) (by decide +kernel)
theorem i_Md_stream_80 : mj_Snd zG ("StreamWatchModel", "stream", c_Md_stream, 7) 80 (x_const 0) 81 := mj_const (n := 0) (by decide) (by decide +kernel)
theorem i_Md_stream_81 : mj_Snd zG ("StreamWatchModel", "stream", c_Md_stream, 7) 81 (x_iadd) 82 := mj_iadd (by decide +kernel)
theorem i_Md_stream_82 : mj_Snd zG ("StreamWatchModel", "stream", c_Md_stream, 7) 82 (x_istore 5) 84 := mj_istore (by decide) (by decide +kernel)
theorem i_Md_stream_84 : mj_Snd zG ("StreamWatchModel", "stream", c_Md_stream, 7) 84 (x_iinc 6 1) 87 := mj_iinc (n := 1) (by decide) (by decide) (by decide +kernel)
theorem i_Md_stream_87 : mj_Snd zG ("StreamWatchModel", "stream", c_Md_stream, 7) 87 (x_skip) 51 := mj_goto (off := (-36)) (by decide) (by decide +kernel)
theorem i_Md_stream_90 : mj_Snd zG ("StreamWatchModel", "stream", c_Md_stream, 7) 90 (x_iload 5) 92 := mj_iload (by decide +kernel)
theorem d_Md_stream_92 : decode c_Md_stream 92 = .ok (.ireturn, 1) := by decide +kernel
theorem i_Md_stream_93 : mj_Snd zG ("StreamWatchModel", "stream", c_Md_stream, 7) 93 (x_iload 3) 94 := mj_iload_n (j := 3) rfl (by decide +kernel)
theorem d_Md_stream_94 : decode c_Md_stream 94 = .ok (.ifCond .ne 13, 3) := by decide +kernel
theorem i_Md_stream_97 : mj_Snd zG ("StreamWatchModel", "stream", c_Md_stream, 7) 97 (x_aload 0) 98 := mj_aload_n (j := 0) rfl (by decide +kernel)
theorem i_Md_stream_98 : mj_Snd zG ("StreamWatchModel", "stream", c_Md_stream, 7) 98 (x_getf 11 14) 101 := mj_getf (T := T_Md) rfl (by decide) u_Md z4_79 (by decide +kernel)
theorem i_Md_stream_101 : mj_Snd zG ("StreamWatchModel", "stream", c_Md_stream, 7) 101 (x_iload 4) 103 := mj_iload (by decide +kernel)
theorem i_Md_stream_103 : mj_Snd zG ("StreamWatchModel", "stream", c_Md_stream, 7) 103 (x_iald 0) 104 := mj_iald rfl (by decide +kernel)
theorem i_Md_stream_104 : mj_Snd zG ("StreamWatchModel", "stream", c_Md_stream, 7) 104 (x_skip) 137 := mj_goto (off := 33) (by decide) (by decide +kernel)
theorem i_Md_stream_107 : mj_Snd zG ("StreamWatchModel", "stream", c_Md_stream, 7) 107 (x_iload 3) 108 := mj_iload_n (j := 3) rfl (by decide +kernel)
theorem i_Md_stream_108 : mj_Snd zG ("StreamWatchModel", "stream", c_Md_stream, 7) 108 (x_const 1) 109 := mj_const (n := 1) (by decide) (by decide +kernel)
theorem d_Md_stream_109 : decode c_Md_stream 109 = .ok (.if_icmp .ne 13, 3) := by decide +kernel
theorem i_Md_stream_112 : mj_Snd zG ("StreamWatchModel", "stream", c_Md_stream, 7) 112 (x_aload 0) 113 := mj_aload_n (j := 0) rfl (by decide +kernel)
theorem i_Md_stream_113 : mj_Snd zG ("StreamWatchModel", "stream", c_Md_stream, 7) 113 (x_getf 11 12) 116 := mj_getf (T := T_Md) rfl (by decide) u_Md z4_77 (by decide +kernel)
theorem i_Md_stream_116 : mj_Snd zG ("StreamWatchModel", "stream", c_Md_stream, 7) 116 (x_iload 4) 118 := mj_iload (by decide +kernel)
theorem i_Md_stream_118 : mj_Snd zG ("StreamWatchModel", "stream", c_Md_stream, 7) 118 (x_iald 0) 119 := mj_iald rfl (by decide +kernel)
theorem i_Md_stream_119 : mj_Snd zG ("StreamWatchModel", "stream", c_Md_stream, 7) 119 (x_skip) 137 := mj_goto (off := 18) (by decide) (by decide +kernel)
theorem i_Md_stream_122 : mj_Snd zG ("StreamWatchModel", "stream", c_Md_stream, 7) 122 (x_aload 0) 123 := mj_aload_n (j := 0) rfl (by decide +kernel)
theorem i_Md_stream_123 : mj_Snd zG ("StreamWatchModel", "stream", c_Md_stream, 7) 123 (x_getf 11 13) 126 := mj_getf (T := T_Md) rfl (by decide) u_Md z4_78 (by decide +kernel)
theorem i_Md_stream_126 : mj_Snd zG ("StreamWatchModel", "stream", c_Md_stream, 7) 126 (x_iload 4) 128 := mj_iload (by decide +kernel)
theorem i_Md_stream_128 : mj_Snd zG ("StreamWatchModel", "stream", c_Md_stream, 7) 128 (x_iald 1) 129 := mj_zald rfl (by decide +kernel)
theorem d_Md_stream_129 : decode c_Md_stream 129 = .ok (.ifCond .eq 7, 3) := by decide +kernel
theorem i_Md_stream_132 : mj_Snd zG ("StreamWatchModel", "stream", c_Md_stream, 7) 132 (x_const 1) 133 := mj_const (n := 1) (by decide) (by decide +kernel)
theorem i_Md_stream_133 : mj_Snd zG ("StreamWatchModel", "stream", c_Md_stream, 7) 133 (x_skip) 137 := mj_goto (off := 4) (by decide) (by decide +kernel)
theorem i_Md_stream_136 : mj_Snd zG ("StreamWatchModel", "stream", c_Md_stream, 7) 136 (x_const 0) 137 := mj_const (n := 0) (by decide) (by decide +kernel)
theorem d_Md_stream_137 : decode c_Md_stream 137 = .ok (.ireturn, 1) := by decide +kernel
theorem b_Md_stream_0 : mj_Ch zG ("StreamWatchModel", "stream", c_Md_stream, 7) 0 [x_aload 0, x_const 0, x_putf 11 0 0, x_aload 0, x_iload 1] 7 := ⟨_, i_Md_stream_0, _, i_Md_stream_1, _, i_Md_stream_2, _, i_Md_stream_5, _, i_Md_stream_6, rfl⟩
theorem b_Md_stream_13 : mj_Ch zG ("StreamWatchModel", "stream", c_Md_stream, 7) 13 [x_iload 2] 14 := ⟨_, i_Md_stream_13, rfl⟩
theorem b_Md_stream_17 : mj_Ch zG ("StreamWatchModel", "stream", c_Md_stream, 7) 17 [x_iload 2, x_const 1] 19 := ⟨_, i_Md_stream_17, _, i_Md_stream_18, rfl⟩
theorem b_Md_stream_22 : mj_Ch zG ("StreamWatchModel", "stream", c_Md_stream, 7) 22 [x_iload 3] 23 := ⟨_, i_Md_stream_22, rfl⟩
theorem b_Md_stream_26 : mj_Ch zG ("StreamWatchModel", "stream", c_Md_stream, 7) 26 [x_iload 3, x_const 3] 28 := ⟨_, i_Md_stream_26, _, i_Md_stream_27, rfl⟩
theorem b_Md_stream_31 : mj_Ch zG ("StreamWatchModel", "stream", c_Md_stream, 7) 31 [x_const (-1)] 32 := ⟨_, i_Md_stream_31, rfl⟩
theorem b_Md_stream_33 : mj_Ch zG ("StreamWatchModel", "stream", c_Md_stream, 7) 33 [x_const 2, x_iload 1, x_imul, x_iload 2, x_iadd, x_istore 4, x_iload 3, x_const 2] 42 := ⟨_, i_Md_stream_33, _, i_Md_stream_34, _, i_Md_stream_35, _, i_Md_stream_36, _, i_Md_stream_37, _, i_Md_stream_38, _, i_Md_stream_40, _, i_Md_stream_41, rfl⟩
theorem b_Md_stream_45 : mj_Ch zG ("StreamWatchModel", "stream", c_Md_stream, 7) 45 [x_const 0, x_istore 5, x_const 0, x_istore 6] 51 := ⟨_, i_Md_stream_45, _, i_Md_stream_46, _, i_Md_stream_48, _, i_Md_stream_49, rfl⟩
theorem b_Md_stream_51 : mj_Ch zG ("StreamWatchModel", "stream", c_Md_stream, 7) 51 [x_iload 6, x_const 32] 55 := ⟨_, i_Md_stream_51, _, i_Md_stream_53, rfl⟩
theorem b_Md_stream_58 : mj_Ch zG ("StreamWatchModel", "stream", c_Md_stream, 7) 58 [x_iload 5, x_aload 0, x_getf 11 16, x_const 32, x_iload 4, x_imul, x_iload 6, x_iadd, x_iald 1] 73 := ⟨_, i_Md_stream_58, _, i_Md_stream_60, _, i_Md_stream_61, _, i_Md_stream_64, _, i_Md_stream_66, _, i_Md_stream_68, _, i_Md_stream_69, _, i_Md_stream_71, _, i_Md_stream_72, rfl⟩
theorem b_Md_stream_76 : mj_Ch zG ("StreamWatchModel", "stream", c_Md_stream, 7) 76 [x_const 1, x_skip] 81 := ⟨_, i_Md_stream_76, _, i_Md_stream_77, rfl⟩
theorem b_Md_stream_80 : mj_Ch zG ("StreamWatchModel", "stream", c_Md_stream, 7) 80 [x_const 0] 81 := ⟨_, i_Md_stream_80, rfl⟩
theorem b_Md_stream_81 : mj_Ch zG ("StreamWatchModel", "stream", c_Md_stream, 7) 81 [x_iadd, x_istore 5, x_iinc 6 1, x_skip] 51 := ⟨_, i_Md_stream_81, _, i_Md_stream_82, _, i_Md_stream_84, _, i_Md_stream_87, rfl⟩
theorem b_Md_stream_90 : mj_Ch zG ("StreamWatchModel", "stream", c_Md_stream, 7) 90 [x_iload 5] 92 := ⟨_, i_Md_stream_90, rfl⟩
theorem b_Md_stream_93 : mj_Ch zG ("StreamWatchModel", "stream", c_Md_stream, 7) 93 [x_iload 3] 94 := ⟨_, i_Md_stream_93, rfl⟩
theorem b_Md_stream_97 : mj_Ch zG ("StreamWatchModel", "stream", c_Md_stream, 7) 97 [x_aload 0, x_getf 11 14, x_iload 4, x_iald 0, x_skip] 137 := ⟨_, i_Md_stream_97, _, i_Md_stream_98, _, i_Md_stream_101, _, i_Md_stream_103, _, i_Md_stream_104, rfl⟩
theorem b_Md_stream_107 : mj_Ch zG ("StreamWatchModel", "stream", c_Md_stream, 7) 107 [x_iload 3, x_const 1] 109 := ⟨_, i_Md_stream_107, _, i_Md_stream_108, rfl⟩
theorem b_Md_stream_112 : mj_Ch zG ("StreamWatchModel", "stream", c_Md_stream, 7) 112 [x_aload 0, x_getf 11 12, x_iload 4, x_iald 0, x_skip] 137 := ⟨_, i_Md_stream_112, _, i_Md_stream_113, _, i_Md_stream_116, _, i_Md_stream_118, _, i_Md_stream_119, rfl⟩
theorem b_Md_stream_122 : mj_Ch zG ("StreamWatchModel", "stream", c_Md_stream, 7) 122 [x_aload 0, x_getf 11 13, x_iload 4, x_iald 1] 129 := ⟨_, i_Md_stream_122, _, i_Md_stream_123, _, i_Md_stream_126, _, i_Md_stream_128, rfl⟩
theorem b_Md_stream_132 : mj_Ch zG ("StreamWatchModel", "stream", c_Md_stream, 7) 132 [x_const 1, x_skip] 137 := ⟨_, i_Md_stream_132, _, i_Md_stream_133, rfl⟩
theorem b_Md_stream_136 : mj_Ch zG ("StreamWatchModel", "stream", c_Md_stream, 7) 136 [x_const 0] 137 := ⟨_, i_Md_stream_136, rfl⟩
theorem i_Md_text_0 : mj_Snd zG ("StreamWatchModel", "text", c_Md_text, 4) 0 (x_aload 0) 1 := mj_aload_n (j := 0) rfl (by decide +kernel)
theorem i_Md_text_1 : mj_Snd zG ("StreamWatchModel", "text", c_Md_text, 4) 1 (x_const 0) 2 := mj_const (n := 0) (by decide) (by decide +kernel)
theorem i_Md_text_2 : mj_Snd zG ("StreamWatchModel", "text", c_Md_text, 4) 2 (x_putf 11 0 0) 5 := mj_putG (T := T_Md) (ty0 := t_Md) rfl (by decide) u_Md t_Md_ok n_Md z4_65 (Or.inl rfl) (by decide +kernel)
theorem i_Md_text_5 : mj_Snd zG ("StreamWatchModel", "text", c_Md_text, 4) 5 (x_aload 0) 6 := mj_aload_n (j := 0) rfl (by decide +kernel)
theorem i_Md_text_6 : mj_Snd zG ("StreamWatchModel", "text", c_Md_text, 4) 6 (x_iload 1) 7 := mj_iload_n (j := 1) rfl (by decide +kernel)
theorem d_Md_text_7 : decode c_Md_text 7 = .ok (.invokevirtual 190, 3) := by decide +kernel
theorem d_Md_text_10 : decode c_Md_text 10 = .ok (.ifCond .eq 16, 3) := by decide +kernel
theorem i_Md_text_13 : mj_Snd zG ("StreamWatchModel", "text", c_Md_text, 4) 13 (x_iload 2) 14 := mj_iload_n (j := 2) rfl (by decide +kernel)
theorem d_Md_text_14 : decode c_Md_text 14 = .ok (.ifCond .lt 12, 3) := by decide +kernel
theorem i_Md_text_17 : mj_Snd zG ("StreamWatchModel", "text", c_Md_text, 4) 17 (x_iload 2) 18 := mj_iload_n (j := 2) rfl (by decide +kernel)
theorem i_Md_text_18 : mj_Snd zG ("StreamWatchModel", "text", c_Md_text, 4) 18 (x_const 1) 19 := mj_const (n := 1) (by decide) (by decide +kernel)
theorem d_Md_text_19 : decode c_Md_text 19 = .ok (.if_icmp .gt 7, 3) := by decide +kernel
theorem i_Md_text_22 : mj_Snd zG ("StreamWatchModel", "text", c_Md_text, 4) 22 (x_iload 3) 23 := mj_iload_n (j := 3) rfl (by decide +kernel)
theorem d_Md_text_23 : decode c_Md_text 23 = .ok (.ifCond .ge 5, 3) := by decide +kernel
theorem i_Md_text_26 : mj_Snd zG ("StreamWatchModel", "text", c_Md_text, 4) 26 (x_const (-1)) 27 := mj_const (n := (-1)) (by decide) (by decide +kernel)
theorem d_Md_text_27 : decode c_Md_text 27 = .ok (.ireturn, 1) := by decide +kernel
theorem i_Md_text_28 : mj_Snd zG ("StreamWatchModel", "text", c_Md_text, 4) 28 (x_iload 3) 29 := mj_iload_n (j := 3) rfl (by decide +kernel)
theorem i_Md_text_29 : mj_Snd zG ("StreamWatchModel", "text", c_Md_text, 4) 29 (x_aload 0) 30 := mj_aload_n (j := 0) rfl (by decide +kernel)
theorem i_Md_text_30 : mj_Snd zG ("StreamWatchModel", "text", c_Md_text, 4) 30 (x_getf 11 14) 33 := mj_getf (T := T_Md) rfl (by decide) u_Md z4_79 (by decide +kernel)
theorem i_Md_text_33 : mj_Snd zG ("StreamWatchModel", "text", c_Md_text, 4) 33 (x_const 2) 34 := mj_const (n := 2) (by decide) (by decide +kernel)
theorem i_Md_text_34 : mj_Snd zG ("StreamWatchModel", "text", c_Md_text, 4) 34 (x_iload 1) 35 := mj_iload_n (j := 1) rfl (by decide +kernel)
theorem i_Md_text_35 : mj_Snd zG ("StreamWatchModel", "text", c_Md_text, 4) 35 (x_imul) 36 := mj_imul (by decide +kernel)
theorem i_Md_text_36 : mj_Snd zG ("StreamWatchModel", "text", c_Md_text, 4) 36 (x_iload 2) 37 := mj_iload_n (j := 2) rfl (by decide +kernel)
theorem i_Md_text_37 : mj_Snd zG ("StreamWatchModel", "text", c_Md_text, 4) 37 (x_iadd) 38 := mj_iadd (by decide +kernel)
theorem i_Md_text_38 : mj_Snd zG ("StreamWatchModel", "text", c_Md_text, 4) 38 (x_iald 0) 39 := mj_iald rfl (by decide +kernel)
theorem d_Md_text_39 : decode c_Md_text 39 = .ok (.if_icmp .ge 21, 3) := by decide +kernel
theorem i_Md_text_42 : mj_Snd zG ("StreamWatchModel", "text", c_Md_text, 4) 42 (x_aload 0) 43 := mj_aload_n (j := 0) rfl (by decide +kernel)
theorem i_Md_text_43 : mj_Snd zG ("StreamWatchModel", "text", c_Md_text, 4) 43 (x_getf 11 15) 46 := mj_getf (T := T_Md) rfl (by decide) u_Md z4_80 (by decide +kernel)
theorem i_Md_text_46 : mj_Snd zG ("StreamWatchModel", "text", c_Md_text, 4) 46 (x_const 80) 48 := mj_bipush (n := 80) (by decide) (by decide +kernel)
theorem i_Md_text_48 : mj_Snd zG ("StreamWatchModel", "text", c_Md_text, 4) 48 (x_const 2) 49 := mj_const (n := 2) (by decide) (by decide +kernel)
theorem i_Md_text_49 : mj_Snd zG ("StreamWatchModel", "text", c_Md_text, 4) 49 (x_iload 1) 50 := mj_iload_n (j := 1) rfl (by decide +kernel)
theorem i_Md_text_50 : mj_Snd zG ("StreamWatchModel", "text", c_Md_text, 4) 50 (x_imul) 51 := mj_imul (by decide +kernel)
theorem i_Md_text_51 : mj_Snd zG ("StreamWatchModel", "text", c_Md_text, 4) 51 (x_iload 2) 52 := mj_iload_n (j := 2) rfl (by decide +kernel)
theorem i_Md_text_52 : mj_Snd zG ("StreamWatchModel", "text", c_Md_text, 4) 52 (x_iadd) 53 := mj_iadd (by decide +kernel)
theorem i_Md_text_53 : mj_Snd zG ("StreamWatchModel", "text", c_Md_text, 4) 53 (x_imul) 54 := mj_imul (by decide +kernel)
theorem i_Md_text_54 : mj_Snd zG ("StreamWatchModel", "text", c_Md_text, 4) 54 (x_iload 3) 55 := mj_iload_n (j := 3) rfl (by decide +kernel)
theorem i_Md_text_55 : mj_Snd zG ("StreamWatchModel", "text", c_Md_text, 4) 55 (x_iadd) 56 := mj_iadd (by decide +kernel)
theorem i_Md_text_56 : mj_Snd zG ("StreamWatchModel", "text", c_Md_text, 4) 56 (x_iald 0) 57 := mj_iald rfl (by decide +kernel)
theorem i_Md_text_57 : mj_Snd zG ("StreamWatchModel", "text", c_Md_text, 4) 57 (x_skip) 61 := mj_goto (off := 4) (by decide) (by decide +kernel)
theorem i_Md_text_60 : mj_Snd zG ("StreamWatchModel", "text", c_Md_text, 4) 60 (x_const (-1)) 61 := mj_const (n := (-1)) (by decide) (by decide +kernel)
theorem d_Md_text_61 : decode c_Md_text 61 = .ok (.ireturn, 1) := by decide +kernel
theorem b_Md_text_0 : mj_Ch zG ("StreamWatchModel", "text", c_Md_text, 4) 0 [x_aload 0, x_const 0, x_putf 11 0 0, x_aload 0, x_iload 1] 7 := ⟨_, i_Md_text_0, _, i_Md_text_1, _, i_Md_text_2, _, i_Md_text_5, _, i_Md_text_6, rfl⟩
theorem b_Md_text_13 : mj_Ch zG ("StreamWatchModel", "text", c_Md_text, 4) 13 [x_iload 2] 14 := ⟨_, i_Md_text_13, rfl⟩
theorem b_Md_text_17 : mj_Ch zG ("StreamWatchModel", "text", c_Md_text, 4) 17 [x_iload 2, x_const 1] 19 := ⟨_, i_Md_text_17, _, i_Md_text_18, rfl⟩
theorem b_Md_text_22 : mj_Ch zG ("StreamWatchModel", "text", c_Md_text, 4) 22 [x_iload 3] 23 := ⟨_, i_Md_text_22, rfl⟩
theorem b_Md_text_26 : mj_Ch zG ("StreamWatchModel", "text", c_Md_text, 4) 26 [x_const (-1)] 27 := ⟨_, i_Md_text_26, rfl⟩
theorem b_Md_text_28 : mj_Ch zG ("StreamWatchModel", "text", c_Md_text, 4) 28 [x_iload 3, x_aload 0, x_getf 11 14, x_const 2, x_iload 1, x_imul, x_iload 2, x_iadd, x_iald 0] 39 := ⟨_, i_Md_text_28, _, i_Md_text_29, _, i_Md_text_30, _, i_Md_text_33, _, i_Md_text_34, _, i_Md_text_35, _, i_Md_text_36, _, i_Md_text_37, _, i_Md_text_38, rfl⟩
theorem b_Md_text_42 : mj_Ch zG ("StreamWatchModel", "text", c_Md_text, 4) 42 [x_aload 0, x_getf 11 15, x_const 80, x_const 2, x_iload 1, x_imul, x_iload 2, x_iadd, x_imul, x_iload 3, x_iadd, x_iald 0, x_skip] 61 := ⟨_, i_Md_text_42, _, i_Md_text_43, _, i_Md_text_46, _, i_Md_text_48, _, i_Md_text_49, _, i_Md_text_50, _, i_Md_text_51, _, i_Md_text_52, _, i_Md_text_53, _, i_Md_text_54, _, i_Md_text_55, _, i_Md_text_56, _, i_Md_text_57, rfl⟩
theorem b_Md_text_60 : mj_Ch zG ("StreamWatchModel", "text", c_Md_text, 4) 60 [x_const (-1)] 61 := ⟨_, i_Md_text_60, rfl⟩
theorem i_Md_alerts_0 : mj_Snd zG ("StreamWatchModel", "alerts", c_Md_alerts, 1) 0 (x_aload 0) 1 := mj_aload_n (j := 0) rfl (by decide +kernel)
theorem i_Md_alerts_1 : mj_Snd zG ("StreamWatchModel", "alerts", c_Md_alerts, 1) 1 (x_const 0) 2 := mj_const (n := 0) (by decide) (by decide +kernel)
theorem i_Md_alerts_2 : mj_Snd zG ("StreamWatchModel", "alerts", c_Md_alerts, 1) 2 (x_putf 11 0 0) 5 := mj_putG (T := T_Md) (ty0 := t_Md) rfl (by decide) u_Md t_Md_ok n_Md z4_65 (Or.inl rfl) (by decide +kernel)
theorem i_Md_alerts_5 : mj_Snd zG ("StreamWatchModel", "alerts", c_Md_alerts, 1) 5 (x_aload 0) 6 := mj_aload_n (j := 0) rfl (by decide +kernel)
theorem i_Md_alerts_6 : mj_Snd zG ("StreamWatchModel", "alerts", c_Md_alerts, 1) 6 (x_getf 11 31) 9 := mj_getf (T := T_Md) rfl (by decide) u_Md z4_96 (by decide +kernel)
theorem d_Md_alerts_9 : decode c_Md_alerts 9 = .ok (.ireturn, 1) := by decide +kernel
theorem b_Md_alerts_0 : mj_Ch zG ("StreamWatchModel", "alerts", c_Md_alerts, 1) 0 [x_aload 0, x_const 0, x_putf 11 0 0, x_aload 0, x_getf 11 31] 9 := ⟨_, i_Md_alerts_0, _, i_Md_alerts_1, _, i_Md_alerts_2, _, i_Md_alerts_5, _, i_Md_alerts_6, rfl⟩
theorem i_Md_alert_0 : mj_Snd zG ("StreamWatchModel", "alert", c_Md_alert, 3) 0 (x_aload 0) 1 := mj_aload_n (j := 0) rfl (by decide +kernel)
theorem i_Md_alert_1 : mj_Snd zG ("StreamWatchModel", "alert", c_Md_alert, 3) 1 (x_const 0) 2 := mj_const (n := 0) (by decide) (by decide +kernel)
theorem i_Md_alert_2 : mj_Snd zG ("StreamWatchModel", "alert", c_Md_alert, 3) 2 (x_putf 11 0 0) 5 := mj_putG (T := T_Md) (ty0 := t_Md) rfl (by decide) u_Md t_Md_ok n_Md z4_65 (Or.inl rfl) (by decide +kernel)
theorem i_Md_alert_5 : mj_Snd zG ("StreamWatchModel", "alert", c_Md_alert, 3) 5 (x_iload 1) 6 := mj_iload_n (j := 1) rfl (by decide +kernel)
theorem d_Md_alert_6 : decode c_Md_alert 6 = .ok (.ifCond .lt 26, 3) := by decide +kernel
theorem i_Md_alert_9 : mj_Snd zG ("StreamWatchModel", "alert", c_Md_alert, 3) 9 (x_iload 1) 10 := mj_iload_n (j := 1) rfl (by decide +kernel)
theorem i_Md_alert_10 : mj_Snd zG ("StreamWatchModel", "alert", c_Md_alert, 3) 10 (x_const 24) 12 := mj_bipush (n := 24) (by decide) (by decide +kernel)
theorem d_Md_alert_12 : decode c_Md_alert 12 = .ok (.if_icmp .ge 20, 3) := by decide +kernel
theorem i_Md_alert_15 : mj_Snd zG ("StreamWatchModel", "alert", c_Md_alert, 3) 15 (x_iload 1) 16 := mj_iload_n (j := 1) rfl (by decide +kernel)
theorem i_Md_alert_16 : mj_Snd zG ("StreamWatchModel", "alert", c_Md_alert, 3) 16 (x_aload 0) 17 := mj_aload_n (j := 0) rfl (by decide +kernel)
theorem i_Md_alert_17 : mj_Snd zG ("StreamWatchModel", "alert", c_Md_alert, 3) 17 (x_getf 11 31) 20 := mj_getf (T := T_Md) rfl (by decide) u_Md z4_96 (by decide +kernel)
theorem d_Md_alert_20 : decode c_Md_alert 20 = .ok (.if_icmp .ge 12, 3) := by decide +kernel
theorem i_Md_alert_23 : mj_Snd zG ("StreamWatchModel", "alert", c_Md_alert, 3) 23 (x_iload 2) 24 := mj_iload_n (j := 2) rfl (by decide +kernel)
theorem d_Md_alert_24 : decode c_Md_alert 24 = .ok (.ifCond .lt 8, 3) := by decide +kernel
theorem i_Md_alert_27 : mj_Snd zG ("StreamWatchModel", "alert", c_Md_alert, 3) 27 (x_iload 2) 28 := mj_iload_n (j := 2) rfl (by decide +kernel)
theorem i_Md_alert_28 : mj_Snd zG ("StreamWatchModel", "alert", c_Md_alert, 3) 28 (x_const 3) 29 := mj_const (n := 3) (by decide) (by decide +kernel)
theorem d_Md_alert_29 : decode c_Md_alert 29 = .ok (.if_icmp .le 5, 3) := by decide +kernel
theorem i_Md_alert_32 : mj_Snd zG ("StreamWatchModel", "alert", c_Md_alert, 3) 32 (x_const (-1)) 33 := mj_const (n := (-1)) (by decide) (by decide +kernel)
theorem d_Md_alert_33 : decode c_Md_alert 33 = .ok (.ireturn, 1) := by decide +kernel
theorem i_Md_alert_34 : mj_Snd zG ("StreamWatchModel", "alert", c_Md_alert, 3) 34 (x_aload 0) 35 := mj_aload_n (j := 0) rfl (by decide +kernel)
theorem i_Md_alert_35 : mj_Snd zG ("StreamWatchModel", "alert", c_Md_alert, 3) 35 (x_getf 11 32) 38 := mj_getf (T := T_Md) rfl (by decide) u_Md z4_97 (by decide +kernel)
theorem i_Md_alert_38 : mj_Snd zG ("StreamWatchModel", "alert", c_Md_alert, 3) 38 (x_const 4) 39 := mj_const (n := 4) (by decide) (by decide +kernel)
theorem i_Md_alert_39 : mj_Snd zG ("StreamWatchModel", "alert", c_Md_alert, 3) 39 (x_iload 1) 40 := mj_iload_n (j := 1) rfl (by decide +kernel)
theorem i_Md_alert_40 : mj_Snd zG ("StreamWatchModel", "alert", c_Md_alert, 3) 40 (x_imul) 41 := mj_imul (by decide +kernel)
theorem i_Md_alert_41 : mj_Snd zG ("StreamWatchModel", "alert", c_Md_alert, 3) 41 (x_iload 2) 42 := mj_iload_n (j := 2) rfl (by decide +kernel)
theorem i_Md_alert_42 : mj_Snd zG ("StreamWatchModel", "alert", c_Md_alert, 3) 42 (x_iadd) 43 := mj_iadd (by decide +kernel)
theorem i_Md_alert_43 : mj_Snd zG ("StreamWatchModel", "alert", c_Md_alert, 3) 43 (x_iald 0) 44 := mj_iald rfl (by decide +kernel)
theorem d_Md_alert_44 : decode c_Md_alert 44 = .ok (.ireturn, 1) := by decide +kernel
theorem b_Md_alert_0 : mj_Ch zG ("StreamWatchModel", "alert", c_Md_alert, 3) 0 [x_aload 0, x_const 0, x_putf 11 0 0, x_iload 1] 6 := ⟨_, i_Md_alert_0, _, i_Md_alert_1, _, i_Md_alert_2, _, i_Md_alert_5, rfl⟩
theorem b_Md_alert_9 : mj_Ch zG ("StreamWatchModel", "alert", c_Md_alert, 3) 9 [x_iload 1, x_const 24] 12 := ⟨_, i_Md_alert_9, _, i_Md_alert_10, rfl⟩
theorem b_Md_alert_15 : mj_Ch zG ("StreamWatchModel", "alert", c_Md_alert, 3) 15 [x_iload 1, x_aload 0, x_getf 11 31] 20 := ⟨_, i_Md_alert_15, _, i_Md_alert_16, _, i_Md_alert_17, rfl⟩
theorem b_Md_alert_23 : mj_Ch zG ("StreamWatchModel", "alert", c_Md_alert, 3) 23 [x_iload 2] 24 := ⟨_, i_Md_alert_23, rfl⟩
theorem b_Md_alert_27 : mj_Ch zG ("StreamWatchModel", "alert", c_Md_alert, 3) 27 [x_iload 2, x_const 3] 29 := ⟨_, i_Md_alert_27, _, i_Md_alert_28, rfl⟩
theorem b_Md_alert_32 : mj_Ch zG ("StreamWatchModel", "alert", c_Md_alert, 3) 32 [x_const (-1)] 33 := ⟨_, i_Md_alert_32, rfl⟩
theorem b_Md_alert_34 : mj_Ch zG ("StreamWatchModel", "alert", c_Md_alert, 3) 34 [x_aload 0, x_getf 11 32, x_const 4, x_iload 1, x_imul, x_iload 2, x_iadd, x_iald 0] 44 := ⟨_, i_Md_alert_34, _, i_Md_alert_35, _, i_Md_alert_38, _, i_Md_alert_39, _, i_Md_alert_40, _, i_Md_alert_41, _, i_Md_alert_42, _, i_Md_alert_43, rfl⟩
